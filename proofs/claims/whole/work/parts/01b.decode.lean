theorem dX0_init_0 : decode cX0_init 0 = .ok (.aload_n 0, 1) := by decide +kernel
theorem dX0_init_1 : decode cX0_init 1 = .ok (.invokespecial 3, 3) := by decide +kernel
theorem dX0_init_4 : decode cX0_init 4 = .ok (.aload_n 0, 1) := by decide +kernel
theorem dX0_init_5 : decode cX0_init 5 = .ok (.bipush 20, 2) := by decide +kernel
theorem dX0_init_7 : decode cX0_init 7 = .ok (.newarray .int, 2) := by decide +kernel
theorem dX0_init_9 : decode cX0_init 9 = .ok (.putfield 9, 3) := by decide +kernel
theorem dX0_init_12 : decode cX0_init 12 = .ok (.return_, 1) := by decide +kernel
theorem dX0_begin_0 : decode cX0_begin 0 = .ok (.aload_n 0, 1) := by decide +kernel
theorem dX0_begin_1 : decode cX0_begin 1 = .ok (.iload_n 1, 1) := by decide +kernel
theorem dX0_begin_2 : decode cX0_begin 2 = .ok (.putfield 15, 3) := by decide +kernel
theorem dX0_begin_5 : decode cX0_begin 5 = .ok (.aload_n 0, 1) := by decide +kernel
theorem dX0_begin_6 : decode cX0_begin 6 = .ok (.aload_n 2, 1) := by decide +kernel
theorem dX0_begin_7 : decode cX0_begin 7 = .ok (.getfield 19, 3) := by decide +kernel
theorem dX0_begin_10 : decode cX0_begin 10 = .ok (.putfield 24, 3) := by decide +kernel
theorem dX0_begin_13 : decode cX0_begin 13 = .ok (.aload_n 0, 1) := by decide +kernel
theorem dX0_begin_14 : decode cX0_begin 14 = .ok (.aload_n 2, 1) := by decide +kernel
theorem dX0_begin_15 : decode cX0_begin 15 = .ok (.getfield 25, 3) := by decide +kernel
theorem dX0_begin_18 : decode cX0_begin 18 = .ok (.putfield 28, 3) := by decide +kernel
theorem dX0_begin_21 : decode cX0_begin 21 = .ok (.aload_n 0, 1) := by decide +kernel
theorem dX0_begin_22 : decode cX0_begin 22 = .ok (.aload_n 0, 1) := by decide +kernel
theorem dX0_begin_23 : decode cX0_begin 23 = .ok (.getfield 24, 3) := by decide +kernel
theorem dX0_begin_26 : decode cX0_begin 26 = .ok (.iload_n 3, 1) := by decide +kernel
theorem dX0_begin_27 : decode cX0_begin 27 = .ok (.iload 4, 2) := by decide +kernel
theorem dX0_begin_29 : decode cX0_begin 29 = .ok (.iconst 0, 1) := by decide +kernel
theorem dX0_begin_30 : decode cX0_begin 30 = .ok (.invokevirtual 29, 3) := by decide +kernel
theorem dX0_begin_33 : decode cX0_begin 33 = .ok (.ireturn, 1) := by decide +kernel
theorem dX0_run_0 : decode cX0_run 0 = .ok (.iload 4, 2) := by decide +kernel
theorem dX0_run_2 : decode cX0_run 2 = .ok (.bipush 40, 2) := by decide +kernel
theorem dX0_run_4 : decode cX0_run 4 = .ok (.if_icmp .le 5, 3) := by decide +kernel
theorem dX0_run_7 : decode cX0_run 7 = .ok (.iconst 0, 1) := by decide +kernel
theorem dX0_run_8 : decode cX0_run 8 = .ok (.ireturn, 1) := by decide +kernel
theorem dX0_run_9 : decode cX0_run 9 = .ok (.iload_n 1, 1) := by decide +kernel
theorem dX0_run_10 : decode cX0_run 10 = .ok (.iload_n 2, 1) := by decide +kernel
theorem dX0_run_11 : decode cX0_run 11 = .ok (.invokestatic 33, 3) := by decide +kernel
theorem dX0_run_14 : decode cX0_run 14 = .ok (.istore 5, 2) := by decide +kernel
theorem dX0_run_16 : decode cX0_run 16 = .ok (.aload_n 0, 1) := by decide +kernel
theorem dX0_run_17 : decode cX0_run 17 = .ok (.iload 5, 2) := by decide +kernel
theorem dX0_run_19 : decode cX0_run 19 = .ok (.invokevirtual 37, 3) := by decide +kernel
theorem dX0_run_22 : decode cX0_run 22 = .ok (.aload_n 0, 1) := by decide +kernel
theorem dX0_run_23 : decode cX0_run 23 = .ok (.iload 5, 2) := by decide +kernel
theorem dX0_run_25 : decode cX0_run 25 = .ok (.iload_n 3, 1) := by decide +kernel
theorem dX0_run_26 : decode cX0_run 26 = .ok (.iload 4, 2) := by decide +kernel
theorem dX0_run_28 : decode cX0_run 28 = .ok (.iconst 1, 1) := by decide +kernel
theorem dX0_run_29 : decode cX0_run 29 = .ok (.iadd, 1) := by decide +kernel
theorem dX0_run_30 : decode cX0_run 30 = .ok (.invokevirtual 41, 3) := by decide +kernel
theorem dX0_run_33 : decode cX0_run 33 = .ok (.ireturn, 1) := by decide +kernel
theorem dX0_answerOf_0 : decode cX0_answerOf 0 = .ok (.iload_n 1, 1) := by decide +kernel
theorem dX0_answerOf_1 : decode cX0_answerOf 1 = .ok (.lookupswitch 260 #[(10, 91), (11, 98), (12, 115), (20, 129), (30, 145), (40, 160), (50, 185), (51, 199), (60, 214), (70, 232)], 91) := by decide +kernel
theorem dX0_answerOf_92 : decode cX0_answerOf 92 = .ok (.iload_n 2, 1) := by decide +kernel
theorem dX0_answerOf_93 : decode cX0_answerOf 93 = .ok (.aload_n 0, 1) := by decide +kernel
theorem dX0_answerOf_94 : decode cX0_answerOf 94 = .ok (.getfield 15, 3) := by decide +kernel
theorem dX0_answerOf_97 : decode cX0_answerOf 97 = .ok (.iadd, 1) := by decide +kernel
theorem dX0_answerOf_98 : decode cX0_answerOf 98 = .ok (.ireturn, 1) := by decide +kernel
theorem dX0_answerOf_99 : decode cX0_answerOf 99 = .ok (.aload_n 0, 1) := by decide +kernel
theorem dX0_answerOf_100 : decode cX0_answerOf 100 = .ok (.aload_n 0, 1) := by decide +kernel
theorem dX0_answerOf_101 : decode cX0_answerOf 101 = .ok (.getfield 24, 3) := by decide +kernel
theorem dX0_answerOf_104 : decode cX0_answerOf 104 = .ok (.iconst 0, 1) := by decide +kernel
theorem dX0_answerOf_105 : decode cX0_answerOf 105 = .ok (.iload_n 2, 1) := by decide +kernel
theorem dX0_answerOf_106 : decode cX0_answerOf 106 = .ok (.iload_n 3, 1) := by decide +kernel
theorem dX0_answerOf_107 : decode cX0_answerOf 107 = .ok (.invokevirtual 29, 3) := by decide +kernel
theorem dX0_answerOf_110 : decode cX0_answerOf 110 = .ok (.aload_n 0, 1) := by decide +kernel
theorem dX0_answerOf_111 : decode cX0_answerOf 111 = .ok (.getfield 28, 3) := by decide +kernel
theorem dX0_answerOf_114 : decode cX0_answerOf 114 = .ok (.isub, 1) := by decide +kernel
theorem dX0_answerOf_115 : decode cX0_answerOf 115 = .ok (.ireturn, 1) := by decide +kernel
theorem dX0_answerOf_116 : decode cX0_answerOf 116 = .ok (.aload_n 0, 1) := by decide +kernel
theorem dX0_answerOf_117 : decode cX0_answerOf 117 = .ok (.aload_n 0, 1) := by decide +kernel
theorem dX0_answerOf_118 : decode cX0_answerOf 118 = .ok (.getfield 24, 3) := by decide +kernel
theorem dX0_answerOf_121 : decode cX0_answerOf 121 = .ok (.iconst 1, 1) := by decide +kernel
theorem dX0_answerOf_122 : decode cX0_answerOf 122 = .ok (.iload_n 2, 1) := by decide +kernel
theorem dX0_answerOf_123 : decode cX0_answerOf 123 = .ok (.iload_n 3, 1) := by decide +kernel
theorem dX0_answerOf_124 : decode cX0_answerOf 124 = .ok (.invokevirtual 29, 3) := by decide +kernel
theorem dX0_answerOf_127 : decode cX0_answerOf 127 = .ok (.iconst 2, 1) := by decide +kernel
theorem dX0_answerOf_128 : decode cX0_answerOf 128 = .ok (.imul, 1) := by decide +kernel
theorem dX0_answerOf_129 : decode cX0_answerOf 129 = .ok (.ireturn, 1) := by decide +kernel
theorem dX0_answerOf_130 : decode cX0_answerOf 130 = .ok (.aload_n 0, 1) := by decide +kernel
theorem dX0_answerOf_131 : decode cX0_answerOf 131 = .ok (.getstatic 45, 3) := by decide +kernel
theorem dX0_answerOf_134 : decode cX0_answerOf 134 = .ok (.iconst 1, 1) := by decide +kernel
theorem dX0_answerOf_135 : decode cX0_answerOf 135 = .ok (.iaload, 1) := by decide +kernel
theorem dX0_answerOf_136 : decode cX0_answerOf 136 = .ok (.iconst 1, 1) := by decide +kernel
theorem dX0_answerOf_137 : decode cX0_answerOf 137 = .ok (.iload_n 2, 1) := by decide +kernel
theorem dX0_answerOf_138 : decode cX0_answerOf 138 = .ok (.iload_n 3, 1) := by decide +kernel
theorem dX0_answerOf_139 : decode cX0_answerOf 139 = .ok (.invokevirtual 29, 3) := by decide +kernel
theorem dX0_answerOf_142 : decode cX0_answerOf 142 = .ok (.bipush 6, 2) := by decide +kernel
theorem dX0_answerOf_144 : decode cX0_answerOf 144 = .ok (.ixor, 1) := by decide +kernel
theorem dX0_answerOf_145 : decode cX0_answerOf 145 = .ok (.ireturn, 1) := by decide +kernel
theorem dX0_answerOf_146 : decode cX0_answerOf 146 = .ok (.aload_n 0, 1) := by decide +kernel
theorem dX0_answerOf_147 : decode cX0_answerOf 147 = .ok (.getstatic 45, 3) := by decide +kernel
theorem dX0_answerOf_150 : decode cX0_answerOf 150 = .ok (.iconst 2, 1) := by decide +kernel
theorem dX0_answerOf_151 : decode cX0_answerOf 151 = .ok (.iaload, 1) := by decide +kernel
theorem dX0_answerOf_152 : decode cX0_answerOf 152 = .ok (.iconst 0, 1) := by decide +kernel
theorem dX0_answerOf_153 : decode cX0_answerOf 153 = .ok (.iload_n 2, 1) := by decide +kernel
theorem dX0_answerOf_154 : decode cX0_answerOf 154 = .ok (.iconst 3, 1) := by decide +kernel
theorem dX0_answerOf_155 : decode cX0_answerOf 155 = .ok (.imul, 1) := by decide +kernel
theorem dX0_answerOf_156 : decode cX0_answerOf 156 = .ok (.iload_n 3, 1) := by decide +kernel
theorem dX0_answerOf_157 : decode cX0_answerOf 157 = .ok (.invokevirtual 29, 3) := by decide +kernel
theorem dX0_answerOf_160 : decode cX0_answerOf 160 = .ok (.ireturn, 1) := by decide +kernel
theorem dX0_answerOf_161 : decode cX0_answerOf 161 = .ok (.aload_n 0, 1) := by decide +kernel
theorem dX0_answerOf_162 : decode cX0_answerOf 162 = .ok (.getstatic 45, 3) := by decide +kernel
theorem dX0_answerOf_165 : decode cX0_answerOf 165 = .ok (.iconst 3, 1) := by decide +kernel
theorem dX0_answerOf_166 : decode cX0_answerOf 166 = .ok (.iaload, 1) := by decide +kernel
theorem dX0_answerOf_167 : decode cX0_answerOf 167 = .ok (.iconst 2, 1) := by decide +kernel
theorem dX0_answerOf_168 : decode cX0_answerOf 168 = .ok (.iload_n 2, 1) := by decide +kernel
theorem dX0_answerOf_169 : decode cX0_answerOf 169 = .ok (.iload_n 3, 1) := by decide +kernel
theorem dX0_answerOf_170 : decode cX0_answerOf 170 = .ok (.invokevirtual 29, 3) := by decide +kernel
theorem dX0_answerOf_173 : decode cX0_answerOf 173 = .ok (.aload_n 0, 1) := by decide +kernel
theorem dX0_answerOf_174 : decode cX0_answerOf 174 = .ok (.aload_n 0, 1) := by decide +kernel
theorem dX0_answerOf_175 : decode cX0_answerOf 175 = .ok (.getfield 24, 3) := by decide +kernel
theorem dX0_answerOf_178 : decode cX0_answerOf 178 = .ok (.iconst 1, 1) := by decide +kernel
theorem dX0_answerOf_179 : decode cX0_answerOf 179 = .ok (.iconst 1, 1) := by decide +kernel
theorem dX0_answerOf_180 : decode cX0_answerOf 180 = .ok (.iload_n 3, 1) := by decide +kernel
theorem dX0_answerOf_181 : decode cX0_answerOf 181 = .ok (.invokevirtual 29, 3) := by decide +kernel
theorem dX0_answerOf_184 : decode cX0_answerOf 184 = .ok (.iadd, 1) := by decide +kernel
theorem dX0_answerOf_185 : decode cX0_answerOf 185 = .ok (.ireturn, 1) := by decide +kernel
theorem dX0_answerOf_186 : decode cX0_answerOf 186 = .ok (.aload_n 0, 1) := by decide +kernel
theorem dX0_answerOf_187 : decode cX0_answerOf 187 = .ok (.getstatic 45, 3) := by decide +kernel
theorem dX0_answerOf_190 : decode cX0_answerOf 190 = .ok (.iconst 4, 1) := by decide +kernel
theorem dX0_answerOf_191 : decode cX0_answerOf 191 = .ok (.iaload, 1) := by decide +kernel
theorem dX0_answerOf_192 : decode cX0_answerOf 192 = .ok (.iconst 0, 1) := by decide +kernel
theorem dX0_answerOf_193 : decode cX0_answerOf 193 = .ok (.iload_n 2, 1) := by decide +kernel
theorem dX0_answerOf_194 : decode cX0_answerOf 194 = .ok (.iload_n 3, 1) := by decide +kernel
theorem dX0_answerOf_195 : decode cX0_answerOf 195 = .ok (.invokevirtual 29, 3) := by decide +kernel
theorem dX0_answerOf_198 : decode cX0_answerOf 198 = .ok (.ineg, 1) := by decide +kernel
theorem dX0_answerOf_199 : decode cX0_answerOf 199 = .ok (.ireturn, 1) := by decide +kernel
theorem dX0_answerOf_200 : decode cX0_answerOf 200 = .ok (.aload_n 0, 1) := by decide +kernel
theorem dX0_answerOf_201 : decode cX0_answerOf 201 = .ok (.getstatic 45, 3) := by decide +kernel
theorem dX0_answerOf_204 : decode cX0_answerOf 204 = .ok (.iconst 4, 1) := by decide +kernel
theorem dX0_answerOf_205 : decode cX0_answerOf 205 = .ok (.iaload, 1) := by decide +kernel
theorem dX0_answerOf_206 : decode cX0_answerOf 206 = .ok (.iconst 1, 1) := by decide +kernel
theorem dX0_answerOf_207 : decode cX0_answerOf 207 = .ok (.iload_n 2, 1) := by decide +kernel
theorem dX0_answerOf_208 : decode cX0_answerOf 208 = .ok (.iconst 1, 1) := by decide +kernel
theorem dX0_answerOf_209 : decode cX0_answerOf 209 = .ok (.iadd, 1) := by decide +kernel
theorem dX0_answerOf_210 : decode cX0_answerOf 210 = .ok (.iload_n 3, 1) := by decide +kernel
theorem dX0_answerOf_211 : decode cX0_answerOf 211 = .ok (.invokevirtual 29, 3) := by decide +kernel
theorem dX0_answerOf_214 : decode cX0_answerOf 214 = .ok (.ireturn, 1) := by decide +kernel
theorem dX0_answerOf_215 : decode cX0_answerOf 215 = .ok (.aload_n 0, 1) := by decide +kernel
theorem dX0_answerOf_216 : decode cX0_answerOf 216 = .ok (.getstatic 45, 3) := by decide +kernel
theorem dX0_answerOf_219 : decode cX0_answerOf 219 = .ok (.iconst 5, 1) := by decide +kernel
theorem dX0_answerOf_220 : decode cX0_answerOf 220 = .ok (.iaload, 1) := by decide +kernel
theorem dX0_answerOf_221 : decode cX0_answerOf 221 = .ok (.iconst 2, 1) := by decide +kernel
theorem dX0_answerOf_222 : decode cX0_answerOf 222 = .ok (.iload_n 2, 1) := by decide +kernel
theorem dX0_answerOf_223 : decode cX0_answerOf 223 = .ok (.aload_n 0, 1) := by decide +kernel
theorem dX0_answerOf_224 : decode cX0_answerOf 224 = .ok (.getfield 15, 3) := by decide +kernel
theorem dX0_answerOf_227 : decode cX0_answerOf 227 = .ok (.isub, 1) := by decide +kernel
theorem dX0_answerOf_228 : decode cX0_answerOf 228 = .ok (.iload_n 3, 1) := by decide +kernel
theorem dX0_answerOf_229 : decode cX0_answerOf 229 = .ok (.invokevirtual 29, 3) := by decide +kernel
theorem dX0_answerOf_232 : decode cX0_answerOf 232 = .ok (.ireturn, 1) := by decide +kernel
theorem dX0_answerOf_233 : decode cX0_answerOf 233 = .ok (.aload_n 0, 1) := by decide +kernel
theorem dX0_answerOf_234 : decode cX0_answerOf 234 = .ok (.getstatic 45, 3) := by decide +kernel
theorem dX0_answerOf_237 : decode cX0_answerOf 237 = .ok (.bipush 6, 2) := by decide +kernel
theorem dX0_answerOf_239 : decode cX0_answerOf 239 = .ok (.iaload, 1) := by decide +kernel
theorem dX0_answerOf_240 : decode cX0_answerOf 240 = .ok (.iconst 1, 1) := by decide +kernel
theorem dX0_answerOf_241 : decode cX0_answerOf 241 = .ok (.iload_n 2, 1) := by decide +kernel
theorem dX0_answerOf_242 : decode cX0_answerOf 242 = .ok (.iload_n 3, 1) := by decide +kernel
theorem dX0_answerOf_243 : decode cX0_answerOf 243 = .ok (.invokevirtual 29, 3) := by decide +kernel
theorem dX0_answerOf_246 : decode cX0_answerOf 246 = .ok (.aload_n 0, 1) := by decide +kernel
theorem dX0_answerOf_247 : decode cX0_answerOf 247 = .ok (.getstatic 45, 3) := by decide +kernel
theorem dX0_answerOf_250 : decode cX0_answerOf 250 = .ok (.bipush 6, 2) := by decide +kernel
theorem dX0_answerOf_252 : decode cX0_answerOf 252 = .ok (.iaload, 1) := by decide +kernel
theorem dX0_answerOf_253 : decode cX0_answerOf 253 = .ok (.iconst 0, 1) := by decide +kernel
theorem dX0_answerOf_254 : decode cX0_answerOf 254 = .ok (.iconst 2, 1) := by decide +kernel
theorem dX0_answerOf_255 : decode cX0_answerOf 255 = .ok (.iload_n 3, 1) := by decide +kernel
theorem dX0_answerOf_256 : decode cX0_answerOf 256 = .ok (.invokevirtual 29, 3) := by decide +kernel
theorem dX0_answerOf_259 : decode cX0_answerOf 259 = .ok (.iadd, 1) := by decide +kernel
theorem dX0_answerOf_260 : decode cX0_answerOf 260 = .ok (.ireturn, 1) := by decide +kernel
theorem dX0_answerOf_261 : decode cX0_answerOf 261 = .ok (.aload_n 0, 1) := by decide +kernel
theorem dX0_answerOf_262 : decode cX0_answerOf 262 = .ok (.getstatic 45, 3) := by decide +kernel
theorem dX0_answerOf_265 : decode cX0_answerOf 265 = .ok (.bipush 6, 2) := by decide +kernel
theorem dX0_answerOf_267 : decode cX0_answerOf 267 = .ok (.iaload, 1) := by decide +kernel
theorem dX0_answerOf_268 : decode cX0_answerOf 268 = .ok (.iconst 0, 1) := by decide +kernel
theorem dX0_answerOf_269 : decode cX0_answerOf 269 = .ok (.iload_n 2, 1) := by decide +kernel
theorem dX0_answerOf_270 : decode cX0_answerOf 270 = .ok (.iload_n 3, 1) := by decide +kernel
theorem dX0_answerOf_271 : decode cX0_answerOf 271 = .ok (.invokevirtual 29, 3) := by decide +kernel
theorem dX0_answerOf_274 : decode cX0_answerOf 274 = .ok (.aload_n 0, 1) := by decide +kernel
theorem dX0_answerOf_275 : decode cX0_answerOf 275 = .ok (.getfield 28, 3) := by decide +kernel
theorem dX0_answerOf_278 : decode cX0_answerOf 278 = .ok (.ixor, 1) := by decide +kernel
theorem dX0_answerOf_279 : decode cX0_answerOf 279 = .ok (.ireturn, 1) := by decide +kernel
theorem dX0_bodyOf_0 : decode cX0_bodyOf 0 = .ok (.iload_n 0, 1) := by decide +kernel
theorem dX0_bodyOf_1 : decode cX0_bodyOf 1 = .ok (.istore_n 2, 1) := by decide +kernel
theorem dX0_bodyOf_2 : decode cX0_bodyOf 2 = .ok (.iconst 0, 1) := by decide +kernel
theorem dX0_bodyOf_3 : decode cX0_bodyOf 3 = .ok (.istore_n 3, 1) := by decide +kernel
theorem dX0_bodyOf_4 : decode cX0_bodyOf 4 = .ok (.iload_n 3, 1) := by decide +kernel
theorem dX0_bodyOf_5 : decode cX0_bodyOf 5 = .ok (.bipush 7, 2) := by decide +kernel
theorem dX0_bodyOf_7 : decode cX0_bodyOf 7 = .ok (.if_icmp .ge 31, 3) := by decide +kernel
theorem dX0_bodyOf_10 : decode cX0_bodyOf 10 = .ok (.iload_n 2, 1) := by decide +kernel
theorem dX0_bodyOf_11 : decode cX0_bodyOf 11 = .ok (.ifCond .le 27, 3) := by decide +kernel
theorem dX0_bodyOf_14 : decode cX0_bodyOf 14 = .ok (.getstatic 48, 3) := by decide +kernel
theorem dX0_bodyOf_17 : decode cX0_bodyOf 17 = .ok (.iload_n 2, 1) := by decide +kernel
theorem dX0_bodyOf_18 : decode cX0_bodyOf 18 = .ok (.iconst 3, 1) := by decide +kernel
theorem dX0_bodyOf_19 : decode cX0_bodyOf 19 = .ok (.imul, 1) := by decide +kernel
theorem dX0_bodyOf_20 : decode cX0_bodyOf 20 = .ok (.iload_n 1, 1) := by decide +kernel
theorem dX0_bodyOf_21 : decode cX0_bodyOf 21 = .ok (.iadd, 1) := by decide +kernel
theorem dX0_bodyOf_22 : decode cX0_bodyOf 22 = .ok (.iaload, 1) := by decide +kernel
theorem dX0_bodyOf_23 : decode cX0_bodyOf 23 = .ok (.ifCond .ne 15, 3) := by decide +kernel
theorem dX0_bodyOf_26 : decode cX0_bodyOf 26 = .ok (.getstatic 45, 3) := by decide +kernel
theorem dX0_bodyOf_29 : decode cX0_bodyOf 29 = .ok (.iload_n 2, 1) := by decide +kernel
theorem dX0_bodyOf_30 : decode cX0_bodyOf 30 = .ok (.iaload, 1) := by decide +kernel
theorem dX0_bodyOf_31 : decode cX0_bodyOf 31 = .ok (.istore_n 2, 1) := by decide +kernel
theorem dX0_bodyOf_32 : decode cX0_bodyOf 32 = .ok (.iinc 3 1, 3) := by decide +kernel
theorem dX0_bodyOf_35 : decode cX0_bodyOf 35 = .ok (.goto (-31), 3) := by decide +kernel
theorem dX0_bodyOf_38 : decode cX0_bodyOf 38 = .ok (.getstatic 48, 3) := by decide +kernel
theorem dX0_bodyOf_41 : decode cX0_bodyOf 41 = .ok (.iload_n 2, 1) := by decide +kernel
theorem dX0_bodyOf_42 : decode cX0_bodyOf 42 = .ok (.iconst 3, 1) := by decide +kernel
theorem dX0_bodyOf_43 : decode cX0_bodyOf 43 = .ok (.imul, 1) := by decide +kernel
theorem dX0_bodyOf_44 : decode cX0_bodyOf 44 = .ok (.iload_n 1, 1) := by decide +kernel
theorem dX0_bodyOf_45 : decode cX0_bodyOf 45 = .ok (.iadd, 1) := by decide +kernel
theorem dX0_bodyOf_46 : decode cX0_bodyOf 46 = .ok (.iaload, 1) := by decide +kernel
theorem dX0_bodyOf_47 : decode cX0_bodyOf 47 = .ok (.ireturn, 1) := by decide +kernel
theorem dX0_keep_0 : decode cX0_keep 0 = .ok (.aload_n 0, 1) := by decide +kernel
theorem dX0_keep_1 : decode cX0_keep 1 = .ok (.getfield 51, 3) := by decide +kernel
theorem dX0_keep_4 : decode cX0_keep 4 = .ok (.bipush 20, 2) := by decide +kernel
theorem dX0_keep_6 : decode cX0_keep 6 = .ok (.if_icmp .ge 13, 3) := by decide +kernel
theorem dX0_keep_9 : decode cX0_keep 9 = .ok (.aload_n 0, 1) := by decide +kernel
theorem dX0_keep_10 : decode cX0_keep 10 = .ok (.getfield 9, 3) := by decide +kernel
theorem dX0_keep_13 : decode cX0_keep 13 = .ok (.aload_n 0, 1) := by decide +kernel
theorem dX0_keep_14 : decode cX0_keep 14 = .ok (.getfield 51, 3) := by decide +kernel
theorem dX0_keep_17 : decode cX0_keep 17 = .ok (.iload_n 1, 1) := by decide +kernel
theorem dX0_keep_18 : decode cX0_keep 18 = .ok (.iastore, 1) := by decide +kernel
theorem dX0_keep_19 : decode cX0_keep 19 = .ok (.aload_n 0, 1) := by decide +kernel
theorem dX0_keep_20 : decode cX0_keep 20 = .ok (.dup, 1) := by decide +kernel
theorem dX0_keep_21 : decode cX0_keep 21 = .ok (.getfield 51, 3) := by decide +kernel
theorem dX0_keep_24 : decode cX0_keep 24 = .ok (.iconst 1, 1) := by decide +kernel
theorem dX0_keep_25 : decode cX0_keep 25 = .ok (.iadd, 1) := by decide +kernel
theorem dX0_keep_26 : decode cX0_keep 26 = .ok (.putfield 51, 3) := by decide +kernel
theorem dX0_keep_29 : decode cX0_keep 29 = .ok (.return_, 1) := by decide +kernel
theorem dX1_init_0 : decode cX1_init 0 = .ok (.aload_n 0, 1) := by decide +kernel
theorem dX1_init_1 : decode cX1_init 1 = .ok (.invokespecial 3, 3) := by decide +kernel
theorem dX1_init_4 : decode cX1_init 4 = .ok (.aload_n 0, 1) := by decide +kernel
theorem dX1_init_5 : decode cX1_init 5 = .ok (.bipush 100, 2) := by decide +kernel
theorem dX1_init_7 : decode cX1_init 7 = .ok (.newarray .int, 2) := by decide +kernel
theorem dX1_init_9 : decode cX1_init 9 = .ok (.putfield 9, 3) := by decide +kernel
theorem dX1_init_12 : decode cX1_init 12 = .ok (.aload_n 0, 1) := by decide +kernel
theorem dX1_init_13 : decode cX1_init 13 = .ok (.bipush 8, 2) := by decide +kernel
theorem dX1_init_15 : decode cX1_init 15 = .ok (.putfield 15, 3) := by decide +kernel
theorem dX1_init_18 : decode cX1_init 18 = .ok (.aload_n 0, 1) := by decide +kernel
theorem dX1_init_19 : decode cX1_init 19 = .ok (.iconst 3, 1) := by decide +kernel
theorem dX1_init_20 : decode cX1_init 20 = .ok (.putfield 19, 3) := by decide +kernel
theorem dX1_init_23 : decode cX1_init 23 = .ok (.return_, 1) := by decide +kernel
theorem dX1_empty_0 : decode cX1_empty 0 = .ok (.aload_n 0, 1) := by decide +kernel
theorem dX1_empty_1 : decode cX1_empty 1 = .ok (.iconst 0, 1) := by decide +kernel
theorem dX1_empty_2 : decode cX1_empty 2 = .ok (.putfield 22, 3) := by decide +kernel
theorem dX1_empty_5 : decode cX1_empty 5 = .ok (.aload_n 0, 1) := by decide +kernel
theorem dX1_empty_6 : decode cX1_empty 6 = .ok (.bipush 8, 2) := by decide +kernel
theorem dX1_empty_8 : decode cX1_empty 8 = .ok (.putfield 15, 3) := by decide +kernel
theorem dX1_empty_11 : decode cX1_empty 11 = .ok (.aload_n 0, 1) := by decide +kernel
theorem dX1_empty_12 : decode cX1_empty 12 = .ok (.iconst 3, 1) := by decide +kernel
theorem dX1_empty_13 : decode cX1_empty 13 = .ok (.putfield 19, 3) := by decide +kernel
theorem dX1_empty_16 : decode cX1_empty 16 = .ok (.return_, 1) := by decide +kernel
theorem dX1_addCode_0 : decode cX1_addCode 0 = .ok (.aload_n 0, 1) := by decide +kernel
theorem dX1_addCode_1 : decode cX1_addCode 1 = .ok (.getfield 22, 3) := by decide +kernel
theorem dX1_addCode_4 : decode cX1_addCode 4 = .ok (.aload_n 0, 1) := by decide +kernel
theorem dX1_addCode_5 : decode cX1_addCode 5 = .ok (.getfield 9, 3) := by decide +kernel
theorem dX1_addCode_8 : decode cX1_addCode 8 = .ok (.arraylength, 1) := by decide +kernel
theorem dX1_addCode_9 : decode cX1_addCode 9 = .ok (.if_icmp .ge 23, 3) := by decide +kernel
theorem dX1_addCode_12 : decode cX1_addCode 12 = .ok (.aload_n 0, 1) := by decide +kernel
theorem dX1_addCode_13 : decode cX1_addCode 13 = .ok (.getfield 9, 3) := by decide +kernel
theorem dX1_addCode_16 : decode cX1_addCode 16 = .ok (.aload_n 0, 1) := by decide +kernel
theorem dX1_addCode_17 : decode cX1_addCode 17 = .ok (.getfield 22, 3) := by decide +kernel
theorem dX1_addCode_20 : decode cX1_addCode 20 = .ok (.iload_n 1, 1) := by decide +kernel
theorem dX1_addCode_21 : decode cX1_addCode 21 = .ok (.iastore, 1) := by decide +kernel
theorem dX1_addCode_22 : decode cX1_addCode 22 = .ok (.aload_n 0, 1) := by decide +kernel
theorem dX1_addCode_23 : decode cX1_addCode 23 = .ok (.dup, 1) := by decide +kernel
theorem dX1_addCode_24 : decode cX1_addCode 24 = .ok (.getfield 22, 3) := by decide +kernel
theorem dX1_addCode_27 : decode cX1_addCode 27 = .ok (.iconst 1, 1) := by decide +kernel
theorem dX1_addCode_28 : decode cX1_addCode 28 = .ok (.iadd, 1) := by decide +kernel
theorem dX1_addCode_29 : decode cX1_addCode 29 = .ok (.putfield 22, 3) := by decide +kernel
theorem dX1_addCode_32 : decode cX1_addCode 32 = .ok (.return_, 1) := by decide +kernel
theorem dX1_earsBy_0 : decode cX1_earsBy 0 = .ok (.iconst 0, 1) := by decide +kernel
theorem dX1_earsBy_1 : decode cX1_earsBy 1 = .ok (.istore_n 2, 1) := by decide +kernel
theorem dX1_earsBy_2 : decode cX1_earsBy 2 = .ok (.iconst 0, 1) := by decide +kernel
theorem dX1_earsBy_3 : decode cX1_earsBy 3 = .ok (.istore_n 3, 1) := by decide +kernel
theorem dX1_earsBy_4 : decode cX1_earsBy 4 = .ok (.iconst 0, 1) := by decide +kernel
theorem dX1_earsBy_5 : decode cX1_earsBy 5 = .ok (.istore 4, 2) := by decide +kernel
theorem dX1_earsBy_7 : decode cX1_earsBy 7 = .ok (.iload 4, 2) := by decide +kernel
theorem dX1_earsBy_9 : decode cX1_earsBy 9 = .ok (.aload_n 0, 1) := by decide +kernel
theorem dX1_earsBy_10 : decode cX1_earsBy 10 = .ok (.getfield 22, 3) := by decide +kernel
theorem dX1_earsBy_13 : decode cX1_earsBy 13 = .ok (.if_icmp .ge 141, 3) := by decide +kernel
theorem dX1_earsBy_16 : decode cX1_earsBy 16 = .ok (.aload_n 0, 1) := by decide +kernel
theorem dX1_earsBy_17 : decode cX1_earsBy 17 = .ok (.getfield 9, 3) := by decide +kernel
theorem dX1_earsBy_20 : decode cX1_earsBy 20 = .ok (.iload 4, 2) := by decide +kernel
theorem dX1_earsBy_22 : decode cX1_earsBy 22 = .ok (.iaload, 1) := by decide +kernel
theorem dX1_earsBy_23 : decode cX1_earsBy 23 = .ok (.istore 5, 2) := by decide +kernel
theorem dX1_earsBy_25 : decode cX1_earsBy 25 = .ok (.iload_n 3, 1) := by decide +kernel
theorem dX1_earsBy_26 : decode cX1_earsBy 26 = .ok (.iconst 1, 1) := by decide +kernel
theorem dX1_earsBy_27 : decode cX1_earsBy 27 = .ok (.iand, 1) := by decide +kernel
theorem dX1_earsBy_28 : decode cX1_earsBy 28 = .ok (.istore 6, 2) := by decide +kernel
theorem dX1_earsBy_30 : decode cX1_earsBy 30 = .ok (.iload 5, 2) := by decide +kernel
theorem dX1_earsBy_32 : decode cX1_earsBy 32 = .ok (.sipush 3000, 3) := by decide +kernel
theorem dX1_earsBy_35 : decode cX1_earsBy 35 = .ok (.if_icmp .lt 22, 3) := by decide +kernel
theorem dX1_earsBy_38 : decode cX1_earsBy 38 = .ok (.iload_n 2, 1) := by decide +kernel
theorem dX1_earsBy_39 : decode cX1_earsBy 39 = .ok (.iload 6, 2) := by decide +kernel
theorem dX1_earsBy_41 : decode cX1_earsBy 41 = .ok (.iload 5, 2) := by decide +kernel
theorem dX1_earsBy_43 : decode cX1_earsBy 43 = .ok (.sipush 3000, 3) := by decide +kernel
theorem dX1_earsBy_46 : decode cX1_earsBy 46 = .ok (.isub, 1) := by decide +kernel
theorem dX1_earsBy_47 : decode cX1_earsBy 47 = .ok (.imul, 1) := by decide +kernel
theorem dX1_earsBy_48 : decode cX1_earsBy 48 = .ok (.isub, 1) := by decide +kernel
theorem dX1_earsBy_49 : decode cX1_earsBy 49 = .ok (.istore_n 2, 1) := by decide +kernel
theorem dX1_earsBy_50 : decode cX1_earsBy 50 = .ok (.iload_n 3, 1) := by decide +kernel
theorem dX1_earsBy_51 : decode cX1_earsBy 51 = .ok (.iconst 1, 1) := by decide +kernel
theorem dX1_earsBy_52 : decode cX1_earsBy 52 = .ok (.ishr, 1) := by decide +kernel
theorem dX1_earsBy_53 : decode cX1_earsBy 53 = .ok (.istore_n 3, 1) := by decide +kernel
theorem dX1_earsBy_54 : decode cX1_earsBy 54 = .ok (.goto 94, 3) := by decide +kernel
theorem dX1_earsBy_57 : decode cX1_earsBy 57 = .ok (.iload 5, 2) := by decide +kernel
theorem dX1_earsBy_59 : decode cX1_earsBy 59 = .ok (.sipush 2000, 3) := by decide +kernel
theorem dX1_earsBy_62 : decode cX1_earsBy 62 = .ok (.if_icmp .lt 22, 3) := by decide +kernel
theorem dX1_earsBy_65 : decode cX1_earsBy 65 = .ok (.iload_n 2, 1) := by decide +kernel
theorem dX1_earsBy_66 : decode cX1_earsBy 66 = .ok (.iload 6, 2) := by decide +kernel
theorem dX1_earsBy_68 : decode cX1_earsBy 68 = .ok (.iload 5, 2) := by decide +kernel
theorem dX1_earsBy_70 : decode cX1_earsBy 70 = .ok (.sipush 2000, 3) := by decide +kernel
theorem dX1_earsBy_73 : decode cX1_earsBy 73 = .ok (.isub, 1) := by decide +kernel
theorem dX1_earsBy_74 : decode cX1_earsBy 74 = .ok (.imul, 1) := by decide +kernel
theorem dX1_earsBy_75 : decode cX1_earsBy 75 = .ok (.iadd, 1) := by decide +kernel
theorem dX1_earsBy_76 : decode cX1_earsBy 76 = .ok (.istore_n 2, 1) := by decide +kernel
theorem dX1_earsBy_77 : decode cX1_earsBy 77 = .ok (.iload_n 3, 1) := by decide +kernel
theorem dX1_earsBy_78 : decode cX1_earsBy 78 = .ok (.iconst 1, 1) := by decide +kernel
theorem dX1_earsBy_79 : decode cX1_earsBy 79 = .ok (.ishr, 1) := by decide +kernel
theorem dX1_earsBy_80 : decode cX1_earsBy 80 = .ok (.istore_n 3, 1) := by decide +kernel
theorem dX1_earsBy_81 : decode cX1_earsBy 81 = .ok (.goto 67, 3) := by decide +kernel
theorem dX1_earsBy_84 : decode cX1_earsBy 84 = .ok (.iload 5, 2) := by decide +kernel
theorem dX1_earsBy_86 : decode cX1_earsBy 86 = .ok (.iconst (-1), 1) := by decide +kernel
theorem dX1_earsBy_87 : decode cX1_earsBy 87 = .ok (.if_icmp .ne 10, 3) := by decide +kernel
theorem dX1_earsBy_90 : decode cX1_earsBy 90 = .ok (.iload_n 3, 1) := by decide +kernel
theorem dX1_earsBy_91 : decode cX1_earsBy 91 = .ok (.iconst 1, 1) := by decide +kernel
theorem dX1_earsBy_92 : decode cX1_earsBy 92 = .ok (.ixor, 1) := by decide +kernel
theorem dX1_earsBy_93 : decode cX1_earsBy 93 = .ok (.istore_n 3, 1) := by decide +kernel
theorem dX1_earsBy_94 : decode cX1_earsBy 94 = .ok (.goto 54, 3) := by decide +kernel
theorem dX1_earsBy_97 : decode cX1_earsBy 97 = .ok (.iload 5, 2) := by decide +kernel
theorem dX1_earsBy_99 : decode cX1_earsBy 99 = .ok (.bipush (-2), 2) := by decide +kernel
theorem dX1_earsBy_101 : decode cX1_earsBy 101 = .ok (.if_icmp .ne 16, 3) := by decide +kernel
theorem dX1_earsBy_104 : decode cX1_earsBy 104 = .ok (.iload_n 3, 1) := by decide +kernel
theorem dX1_earsBy_105 : decode cX1_earsBy 105 = .ok (.iconst 1, 1) := by decide +kernel
theorem dX1_earsBy_106 : decode cX1_earsBy 106 = .ok (.ishr, 1) := by decide +kernel
theorem dX1_earsBy_107 : decode cX1_earsBy 107 = .ok (.iload 6, 2) := by decide +kernel
theorem dX1_earsBy_109 : decode cX1_earsBy 109 = .ok (.bipush (-2), 2) := by decide +kernel
theorem dX1_earsBy_111 : decode cX1_earsBy 111 = .ok (.ior, 1) := by decide +kernel
theorem dX1_earsBy_112 : decode cX1_earsBy 112 = .ok (.iand, 1) := by decide +kernel
theorem dX1_earsBy_113 : decode cX1_earsBy 113 = .ok (.istore_n 3, 1) := by decide +kernel
theorem dX1_earsBy_114 : decode cX1_earsBy 114 = .ok (.goto 34, 3) := by decide +kernel
theorem dX1_earsBy_117 : decode cX1_earsBy 117 = .ok (.iload 5, 2) := by decide +kernel
theorem dX1_earsBy_119 : decode cX1_earsBy 119 = .ok (.bipush (-3), 2) := by decide +kernel
theorem dX1_earsBy_121 : decode cX1_earsBy 121 = .ok (.if_icmp .ne 13, 3) := by decide +kernel
theorem dX1_earsBy_124 : decode cX1_earsBy 124 = .ok (.iload_n 3, 1) := by decide +kernel
theorem dX1_earsBy_125 : decode cX1_earsBy 125 = .ok (.iconst 1, 1) := by decide +kernel
theorem dX1_earsBy_126 : decode cX1_earsBy 126 = .ok (.ishr, 1) := by decide +kernel
theorem dX1_earsBy_127 : decode cX1_earsBy 127 = .ok (.iload 6, 2) := by decide +kernel
theorem dX1_earsBy_129 : decode cX1_earsBy 129 = .ok (.ior, 1) := by decide +kernel
theorem dX1_earsBy_130 : decode cX1_earsBy 130 = .ok (.istore_n 3, 1) := by decide +kernel
theorem dX1_earsBy_131 : decode cX1_earsBy 131 = .ok (.goto 17, 3) := by decide +kernel
theorem dX1_earsBy_134 : decode cX1_earsBy 134 = .ok (.iload_n 3, 1) := by decide +kernel
theorem dX1_earsBy_135 : decode cX1_earsBy 135 = .ok (.iconst 1, 1) := by decide +kernel
theorem dX1_earsBy_136 : decode cX1_earsBy 136 = .ok (.ishl, 1) := by decide +kernel
theorem dX1_earsBy_137 : decode cX1_earsBy 137 = .ok (.iload 5, 2) := by decide +kernel
theorem dX1_earsBy_139 : decode cX1_earsBy 139 = .ok (.aload_n 1, 1) := by decide +kernel
theorem dX1_earsBy_140 : decode cX1_earsBy 140 = .ok (.invokestatic 25, 3) := by decide +kernel
theorem dX1_earsBy_143 : decode cX1_earsBy 143 = .ok (.invokestatic 29, 3) := by decide +kernel
theorem dX1_earsBy_146 : decode cX1_earsBy 146 = .ok (.ior, 1) := by decide +kernel
theorem dX1_earsBy_147 : decode cX1_earsBy 147 = .ok (.istore_n 3, 1) := by decide +kernel
theorem dX1_earsBy_148 : decode cX1_earsBy 148 = .ok (.iinc 4 1, 3) := by decide +kernel
theorem dX1_earsBy_151 : decode cX1_earsBy 151 = .ok (.goto (-144), 3) := by decide +kernel
theorem dX1_earsBy_154 : decode cX1_earsBy 154 = .ok (.iload_n 2, 1) := by decide +kernel
theorem dX1_earsBy_155 : decode cX1_earsBy 155 = .ok (.ireturn, 1) := by decide +kernel
theorem dX1_testHolds_0 : decode cX1_testHolds 0 = .ok (.iload_n 0, 1) := by decide +kernel
theorem dX1_testHolds_1 : decode cX1_testHolds 1 = .ok (.sipush 300, 3) := by decide +kernel
theorem dX1_testHolds_4 : decode cX1_testHolds 4 = .ok (.idiv, 1) := by decide +kernel
theorem dX1_testHolds_5 : decode cX1_testHolds 5 = .ok (.istore_n 2, 1) := by decide +kernel
theorem dX1_testHolds_6 : decode cX1_testHolds 6 = .ok (.iload_n 2, 1) := by decide +kernel
theorem dX1_testHolds_7 : decode cX1_testHolds 7 = .ok (.ifCond .lt 9, 3) := by decide +kernel
theorem dX1_testHolds_10 : decode cX1_testHolds 10 = .ok (.iload_n 2, 1) := by decide +kernel
theorem dX1_testHolds_11 : decode cX1_testHolds 11 = .ok (.aload_n 1, 1) := by decide +kernel
theorem dX1_testHolds_12 : decode cX1_testHolds 12 = .ok (.arraylength, 1) := by decide +kernel
theorem dX1_testHolds_13 : decode cX1_testHolds 13 = .ok (.if_icmp .lt 5, 3) := by decide +kernel
theorem dX1_testHolds_16 : decode cX1_testHolds 16 = .ok (.iconst 0, 1) := by decide +kernel
theorem dX1_testHolds_17 : decode cX1_testHolds 17 = .ok (.ireturn, 1) := by decide +kernel
theorem dX1_testHolds_18 : decode cX1_testHolds 18 = .ok (.iload_n 0, 1) := by decide +kernel
theorem dX1_testHolds_19 : decode cX1_testHolds 19 = .ok (.bipush 100, 2) := by decide +kernel
theorem dX1_testHolds_21 : decode cX1_testHolds 21 = .ok (.irem, 1) := by decide +kernel
theorem dX1_testHolds_22 : decode cX1_testHolds 22 = .ok (.istore_n 3, 1) := by decide +kernel
theorem dX1_testHolds_23 : decode cX1_testHolds 23 = .ok (.iload_n 0, 1) := by decide +kernel
theorem dX1_testHolds_24 : decode cX1_testHolds 24 = .ok (.bipush 100, 2) := by decide +kernel
theorem dX1_testHolds_26 : decode cX1_testHolds 26 = .ok (.idiv, 1) := by decide +kernel
theorem dX1_testHolds_27 : decode cX1_testHolds 27 = .ok (.iconst 3, 1) := by decide +kernel
theorem dX1_testHolds_28 : decode cX1_testHolds 28 = .ok (.irem, 1) := by decide +kernel
theorem dX1_testHolds_29 : decode cX1_testHolds 29 = .ok (.lookupswitch 53 #[(0, 27), (1, 40)], 27) := by decide +kernel
theorem dX1_testHolds_56 : decode cX1_testHolds 56 = .ok (.aload_n 1, 1) := by decide +kernel
theorem dX1_testHolds_57 : decode cX1_testHolds 57 = .ok (.iload_n 2, 1) := by decide +kernel
theorem dX1_testHolds_58 : decode cX1_testHolds 58 = .ok (.iaload, 1) := by decide +kernel
theorem dX1_testHolds_59 : decode cX1_testHolds 59 = .ok (.iload_n 3, 1) := by decide +kernel
theorem dX1_testHolds_60 : decode cX1_testHolds 60 = .ok (.if_icmp .ge 7, 3) := by decide +kernel
theorem dX1_testHolds_63 : decode cX1_testHolds 63 = .ok (.iconst 1, 1) := by decide +kernel
theorem dX1_testHolds_64 : decode cX1_testHolds 64 = .ok (.goto 4, 3) := by decide +kernel
theorem dX1_testHolds_67 : decode cX1_testHolds 67 = .ok (.iconst 0, 1) := by decide +kernel
theorem dX1_testHolds_68 : decode cX1_testHolds 68 = .ok (.ireturn, 1) := by decide +kernel
theorem dX1_testHolds_69 : decode cX1_testHolds 69 = .ok (.aload_n 1, 1) := by decide +kernel
theorem dX1_testHolds_70 : decode cX1_testHolds 70 = .ok (.iload_n 2, 1) := by decide +kernel
theorem dX1_testHolds_71 : decode cX1_testHolds 71 = .ok (.iaload, 1) := by decide +kernel
theorem dX1_testHolds_72 : decode cX1_testHolds 72 = .ok (.iload_n 3, 1) := by decide +kernel
theorem dX1_testHolds_73 : decode cX1_testHolds 73 = .ok (.if_icmp .ne 7, 3) := by decide +kernel
theorem dX1_testHolds_76 : decode cX1_testHolds 76 = .ok (.iconst 1, 1) := by decide +kernel
theorem dX1_testHolds_77 : decode cX1_testHolds 77 = .ok (.goto 4, 3) := by decide +kernel
theorem dX1_testHolds_80 : decode cX1_testHolds 80 = .ok (.iconst 0, 1) := by decide +kernel
theorem dX1_testHolds_81 : decode cX1_testHolds 81 = .ok (.ireturn, 1) := by decide +kernel
theorem dX1_testHolds_82 : decode cX1_testHolds 82 = .ok (.aload_n 1, 1) := by decide +kernel
theorem dX1_testHolds_83 : decode cX1_testHolds 83 = .ok (.iload_n 2, 1) := by decide +kernel
theorem dX1_testHolds_84 : decode cX1_testHolds 84 = .ok (.iaload, 1) := by decide +kernel
theorem dX1_testHolds_85 : decode cX1_testHolds 85 = .ok (.iload_n 3, 1) := by decide +kernel
theorem dX1_testHolds_86 : decode cX1_testHolds 86 = .ok (.if_icmp .le 7, 3) := by decide +kernel
theorem dX1_testHolds_89 : decode cX1_testHolds 89 = .ok (.iconst 1, 1) := by decide +kernel
theorem dX1_testHolds_90 : decode cX1_testHolds 90 = .ok (.goto 4, 3) := by decide +kernel
theorem dX1_testHolds_93 : decode cX1_testHolds 93 = .ok (.iconst 0, 1) := by decide +kernel
theorem dX1_testHolds_94 : decode cX1_testHolds 94 = .ok (.ireturn, 1) := by decide +kernel
theorem dX2_init_0 : decode cX2_init 0 = .ok (.aload_n 0, 1) := by decide +kernel
theorem dX2_init_1 : decode cX2_init 1 = .ok (.invokespecial 3, 3) := by decide +kernel
theorem dX2_init_4 : decode cX2_init 4 = .ok (.aload_n 0, 1) := by decide +kernel
theorem dX2_init_5 : decode cX2_init 5 = .ok (.new 9, 3) := by decide +kernel
theorem dX2_init_8 : decode cX2_init 8 = .ok (.dup, 1) := by decide +kernel
theorem dX2_init_9 : decode cX2_init 9 = .ok (.invokespecial 11, 3) := by decide +kernel
theorem dX2_init_12 : decode cX2_init 12 = .ok (.putfield 12, 3) := by decide +kernel
theorem dX2_init_15 : decode cX2_init 15 = .ok (.aload_n 0, 1) := by decide +kernel
theorem dX2_init_16 : decode cX2_init 16 = .ok (.new 18, 3) := by decide +kernel
theorem dX2_init_19 : decode cX2_init 19 = .ok (.dup, 1) := by decide +kernel
theorem dX2_init_20 : decode cX2_init 20 = .ok (.iconst 5, 1) := by decide +kernel
theorem dX2_init_21 : decode cX2_init 21 = .ok (.invokespecial 20, 3) := by decide +kernel
theorem dX2_init_24 : decode cX2_init 24 = .ok (.putfield 23, 3) := by decide +kernel
theorem dX2_init_27 : decode cX2_init 27 = .ok (.aload_n 0, 1) := by decide +kernel
theorem dX2_init_28 : decode cX2_init 28 = .ok (.new 18, 3) := by decide +kernel
theorem dX2_init_31 : decode cX2_init 31 = .ok (.dup, 1) := by decide +kernel
theorem dX2_init_32 : decode cX2_init 32 = .ok (.bipush 10, 2) := by decide +kernel
theorem dX2_init_34 : decode cX2_init 34 = .ok (.invokespecial 20, 3) := by decide +kernel
theorem dX2_init_37 : decode cX2_init 37 = .ok (.putfield 27, 3) := by decide +kernel
theorem dX2_init_40 : decode cX2_init 40 = .ok (.aload_n 0, 1) := by decide +kernel
theorem dX2_init_41 : decode cX2_init 41 = .ok (.new 18, 3) := by decide +kernel
theorem dX2_init_44 : decode cX2_init 44 = .ok (.dup, 1) := by decide +kernel
theorem dX2_init_45 : decode cX2_init 45 = .ok (.bipush 8, 2) := by decide +kernel
theorem dX2_init_47 : decode cX2_init 47 = .ok (.invokespecial 20, 3) := by decide +kernel
theorem dX2_init_50 : decode cX2_init 50 = .ok (.putfield 30, 3) := by decide +kernel
theorem dX2_init_53 : decode cX2_init 53 = .ok (.return_, 1) := by decide +kernel
theorem dX3_init_0 : decode cX3_init 0 = .ok (.aload_n 0, 1) := by decide +kernel
theorem dX3_init_1 : decode cX3_init 1 = .ok (.invokespecial 3, 3) := by decide +kernel
theorem dX3_init_4 : decode cX3_init 4 = .ok (.aload_n 0, 1) := by decide +kernel
theorem dX3_init_5 : decode cX3_init 5 = .ok (.bipush 6, 2) := by decide +kernel
theorem dX3_init_7 : decode cX3_init 7 = .ok (.newarray .int, 2) := by decide +kernel
theorem dX3_init_9 : decode cX3_init 9 = .ok (.putfield 9, 3) := by decide +kernel
theorem dX3_init_12 : decode cX3_init 12 = .ok (.aload_n 0, 1) := by decide +kernel
theorem dX3_init_13 : decode cX3_init 13 = .ok (.bipush 6, 2) := by decide +kernel
theorem dX3_init_15 : decode cX3_init 15 = .ok (.anewarray 15, 3) := by decide +kernel
theorem dX3_init_18 : decode cX3_init 18 = .ok (.putfield 17, 3) := by decide +kernel
theorem dX3_init_21 : decode cX3_init 21 = .ok (.aload_n 0, 1) := by decide +kernel
theorem dX3_init_22 : decode cX3_init 22 = .ok (.bipush 6, 2) := by decide +kernel
theorem dX3_init_24 : decode cX3_init 24 = .ok (.newarray .int, 2) := by decide +kernel
theorem dX3_init_26 : decode cX3_init 26 = .ok (.putfield 21, 3) := by decide +kernel
theorem dX3_init_29 : decode cX3_init 29 = .ok (.aload_n 0, 1) := by decide +kernel
theorem dX3_init_30 : decode cX3_init 30 = .ok (.bipush 6, 2) := by decide +kernel
theorem dX3_init_32 : decode cX3_init 32 = .ok (.newarray .int, 2) := by decide +kernel
theorem dX3_init_34 : decode cX3_init 34 = .ok (.putfield 26, 3) := by decide +kernel
theorem dX3_init_37 : decode cX3_init 37 = .ok (.aload_n 0, 1) := by decide +kernel
theorem dX3_init_38 : decode cX3_init 38 = .ok (.new 24, 3) := by decide +kernel
theorem dX3_init_41 : decode cX3_init 41 = .ok (.dup, 1) := by decide +kernel
theorem dX3_init_42 : decode cX3_init 42 = .ok (.invokespecial 29, 3) := by decide +kernel
theorem dX3_init_45 : decode cX3_init 45 = .ok (.putfield 30, 3) := by decide +kernel
theorem dX3_init_48 : decode cX3_init 48 = .ok (.aload_n 0, 1) := by decide +kernel
theorem dX3_init_49 : decode cX3_init 49 = .ok (.iconst (-1), 1) := by decide +kernel
theorem dX3_init_50 : decode cX3_init 50 = .ok (.putfield 34, 3) := by decide +kernel
theorem dX3_init_53 : decode cX3_init 53 = .ok (.iconst 0, 1) := by decide +kernel
theorem dX3_init_54 : decode cX3_init 54 = .ok (.istore_n 1, 1) := by decide +kernel
theorem dX3_init_55 : decode cX3_init 55 = .ok (.iload_n 1, 1) := by decide +kernel
theorem dX3_init_56 : decode cX3_init 56 = .ok (.bipush 6, 2) := by decide +kernel
theorem dX3_init_58 : decode cX3_init 58 = .ok (.if_icmp .ge 22, 3) := by decide +kernel
theorem dX3_init_61 : decode cX3_init 61 = .ok (.aload_n 0, 1) := by decide +kernel
theorem dX3_init_62 : decode cX3_init 62 = .ok (.getfield 17, 3) := by decide +kernel
theorem dX3_init_65 : decode cX3_init 65 = .ok (.iload_n 1, 1) := by decide +kernel
theorem dX3_init_66 : decode cX3_init 66 = .ok (.new 15, 3) := by decide +kernel
theorem dX3_init_69 : decode cX3_init 69 = .ok (.dup, 1) := by decide +kernel
theorem dX3_init_70 : decode cX3_init 70 = .ok (.invokespecial 38, 3) := by decide +kernel
theorem dX3_init_73 : decode cX3_init 73 = .ok (.aastore, 1) := by decide +kernel
theorem dX3_init_74 : decode cX3_init 74 = .ok (.iinc 1 1, 3) := by decide +kernel
theorem dX3_init_77 : decode cX3_init 77 = .ok (.goto (-22), 3) := by decide +kernel
theorem dX3_init_80 : decode cX3_init 80 = .ok (.return_, 1) := by decide +kernel
theorem dX3_copyFrom_0 : decode cX3_copyFrom 0 = .ok (.aload_n 1, 1) := by decide +kernel
theorem dX3_copyFrom_1 : decode cX3_copyFrom 1 = .ok (.getfield 9, 3) := by decide +kernel
theorem dX3_copyFrom_4 : decode cX3_copyFrom 4 = .ok (.iconst 0, 1) := by decide +kernel
theorem dX3_copyFrom_5 : decode cX3_copyFrom 5 = .ok (.aload_n 0, 1) := by decide +kernel
theorem dX3_copyFrom_6 : decode cX3_copyFrom 6 = .ok (.getfield 9, 3) := by decide +kernel
theorem dX3_copyFrom_9 : decode cX3_copyFrom 9 = .ok (.iconst 0, 1) := by decide +kernel
theorem dX3_copyFrom_10 : decode cX3_copyFrom 10 = .ok (.bipush 6, 2) := by decide +kernel
theorem dX3_copyFrom_12 : decode cX3_copyFrom 12 = .ok (.invokestatic 39, 3) := by decide +kernel
theorem dX3_copyFrom_15 : decode cX3_copyFrom 15 = .ok (.aload_n 1, 1) := by decide +kernel
theorem dX3_copyFrom_16 : decode cX3_copyFrom 16 = .ok (.getfield 21, 3) := by decide +kernel
theorem dX3_copyFrom_19 : decode cX3_copyFrom 19 = .ok (.iconst 0, 1) := by decide +kernel
theorem dX3_copyFrom_20 : decode cX3_copyFrom 20 = .ok (.aload_n 0, 1) := by decide +kernel
theorem dX3_copyFrom_21 : decode cX3_copyFrom 21 = .ok (.getfield 21, 3) := by decide +kernel
theorem dX3_copyFrom_24 : decode cX3_copyFrom 24 = .ok (.iconst 0, 1) := by decide +kernel
theorem dX3_copyFrom_25 : decode cX3_copyFrom 25 = .ok (.bipush 6, 2) := by decide +kernel
theorem dX3_copyFrom_27 : decode cX3_copyFrom 27 = .ok (.invokestatic 39, 3) := by decide +kernel
theorem dX3_copyFrom_30 : decode cX3_copyFrom 30 = .ok (.iconst 0, 1) := by decide +kernel
theorem dX3_copyFrom_31 : decode cX3_copyFrom 31 = .ok (.istore_n 2, 1) := by decide +kernel
theorem dX3_copyFrom_32 : decode cX3_copyFrom 32 = .ok (.iload_n 2, 1) := by decide +kernel
theorem dX3_copyFrom_33 : decode cX3_copyFrom 33 = .ok (.aload_n 1, 1) := by decide +kernel
theorem dX3_copyFrom_34 : decode cX3_copyFrom 34 = .ok (.getfield 45, 3) := by decide +kernel
theorem dX3_copyFrom_37 : decode cX3_copyFrom 37 = .ok (.if_icmp .ge 24, 3) := by decide +kernel
theorem dX3_copyFrom_40 : decode cX3_copyFrom 40 = .ok (.aload_n 0, 1) := by decide +kernel
theorem dX3_copyFrom_41 : decode cX3_copyFrom 41 = .ok (.getfield 17, 3) := by decide +kernel
theorem dX3_copyFrom_44 : decode cX3_copyFrom 44 = .ok (.iload_n 2, 1) := by decide +kernel
theorem dX3_copyFrom_45 : decode cX3_copyFrom 45 = .ok (.aaload, 1) := by decide +kernel
theorem dX3_copyFrom_46 : decode cX3_copyFrom 46 = .ok (.aload_n 1, 1) := by decide +kernel
theorem dX3_copyFrom_47 : decode cX3_copyFrom 47 = .ok (.getfield 17, 3) := by decide +kernel
theorem dX3_copyFrom_50 : decode cX3_copyFrom 50 = .ok (.iload_n 2, 1) := by decide +kernel
theorem dX3_copyFrom_51 : decode cX3_copyFrom 51 = .ok (.aaload, 1) := by decide +kernel
theorem dX3_copyFrom_52 : decode cX3_copyFrom 52 = .ok (.invokevirtual 48, 3) := by decide +kernel
theorem dX3_copyFrom_55 : decode cX3_copyFrom 55 = .ok (.iinc 2 1, 3) := by decide +kernel
theorem dX3_copyFrom_58 : decode cX3_copyFrom 58 = .ok (.goto (-26), 3) := by decide +kernel
theorem dX3_copyFrom_61 : decode cX3_copyFrom 61 = .ok (.aload_n 0, 1) := by decide +kernel
theorem dX3_copyFrom_62 : decode cX3_copyFrom 62 = .ok (.aload_n 1, 1) := by decide +kernel
theorem dX3_copyFrom_63 : decode cX3_copyFrom 63 = .ok (.getfield 52, 3) := by decide +kernel
theorem dX3_copyFrom_66 : decode cX3_copyFrom 66 = .ok (.putfield 52, 3) := by decide +kernel
theorem dX3_copyFrom_69 : decode cX3_copyFrom 69 = .ok (.aload_n 0, 1) := by decide +kernel
theorem dX3_copyFrom_70 : decode cX3_copyFrom 70 = .ok (.aload_n 1, 1) := by decide +kernel
theorem dX3_copyFrom_71 : decode cX3_copyFrom 71 = .ok (.getfield 55, 3) := by decide +kernel
theorem dX3_copyFrom_74 : decode cX3_copyFrom 74 = .ok (.putfield 55, 3) := by decide +kernel
theorem dX3_copyFrom_77 : decode cX3_copyFrom 77 = .ok (.aload_n 0, 1) := by decide +kernel
theorem dX3_copyFrom_78 : decode cX3_copyFrom 78 = .ok (.aload_n 1, 1) := by decide +kernel
theorem dX3_copyFrom_79 : decode cX3_copyFrom 79 = .ok (.getfield 45, 3) := by decide +kernel
theorem dX3_copyFrom_82 : decode cX3_copyFrom 82 = .ok (.putfield 45, 3) := by decide +kernel
theorem dX3_copyFrom_85 : decode cX3_copyFrom 85 = .ok (.aload_n 0, 1) := by decide +kernel
theorem dX3_copyFrom_86 : decode cX3_copyFrom 86 = .ok (.aload_n 1, 1) := by decide +kernel
theorem dX3_copyFrom_87 : decode cX3_copyFrom 87 = .ok (.getfield 58, 3) := by decide +kernel
theorem dX3_copyFrom_90 : decode cX3_copyFrom 90 = .ok (.putfield 58, 3) := by decide +kernel
theorem dX3_copyFrom_93 : decode cX3_copyFrom 93 = .ok (.aload_n 0, 1) := by decide +kernel
theorem dX3_copyFrom_94 : decode cX3_copyFrom 94 = .ok (.aload_n 1, 1) := by decide +kernel
theorem dX3_copyFrom_95 : decode cX3_copyFrom 95 = .ok (.getfield 61, 3) := by decide +kernel
theorem dX3_copyFrom_98 : decode cX3_copyFrom 98 = .ok (.putfield 61, 3) := by decide +kernel
theorem dX3_copyFrom_101 : decode cX3_copyFrom 101 = .ok (.aload_n 0, 1) := by decide +kernel
theorem dX3_copyFrom_102 : decode cX3_copyFrom 102 = .ok (.aload_n 1, 1) := by decide +kernel
theorem dX3_copyFrom_103 : decode cX3_copyFrom 103 = .ok (.getfield 64, 3) := by decide +kernel
theorem dX3_copyFrom_106 : decode cX3_copyFrom 106 = .ok (.putfield 64, 3) := by decide +kernel
theorem dX3_copyFrom_109 : decode cX3_copyFrom 109 = .ok (.aload_n 0, 1) := by decide +kernel
theorem dX3_copyFrom_110 : decode cX3_copyFrom 110 = .ok (.aload_n 1, 1) := by decide +kernel
theorem dX3_copyFrom_111 : decode cX3_copyFrom 111 = .ok (.getfield 67, 3) := by decide +kernel
theorem dX3_copyFrom_114 : decode cX3_copyFrom 114 = .ok (.putfield 67, 3) := by decide +kernel
theorem dX3_copyFrom_117 : decode cX3_copyFrom 117 = .ok (.aload_n 0, 1) := by decide +kernel
theorem dX3_copyFrom_118 : decode cX3_copyFrom 118 = .ok (.aload_n 1, 1) := by decide +kernel
theorem dX3_copyFrom_119 : decode cX3_copyFrom 119 = .ok (.getfield 30, 3) := by decide +kernel
theorem dX3_copyFrom_122 : decode cX3_copyFrom 122 = .ok (.putfield 30, 3) := by decide +kernel
theorem dX3_copyFrom_125 : decode cX3_copyFrom 125 = .ok (.aload_n 0, 1) := by decide +kernel
theorem dX3_copyFrom_126 : decode cX3_copyFrom 126 = .ok (.iconst 0, 1) := by decide +kernel
theorem dX3_copyFrom_127 : decode cX3_copyFrom 127 = .ok (.putfield 70, 3) := by decide +kernel
theorem dX3_copyFrom_130 : decode cX3_copyFrom 130 = .ok (.aload_n 0, 1) := by decide +kernel
theorem dX3_copyFrom_131 : decode cX3_copyFrom 131 = .ok (.iconst 0, 1) := by decide +kernel
theorem dX3_copyFrom_132 : decode cX3_copyFrom 132 = .ok (.putfield 73, 3) := by decide +kernel
theorem dX3_copyFrom_135 : decode cX3_copyFrom 135 = .ok (.aload_n 0, 1) := by decide +kernel
theorem dX3_copyFrom_136 : decode cX3_copyFrom 136 = .ok (.iconst (-1), 1) := by decide +kernel
theorem dX3_copyFrom_137 : decode cX3_copyFrom 137 = .ok (.putfield 34, 3) := by decide +kernel
theorem dX3_copyFrom_140 : decode cX3_copyFrom 140 = .ok (.return_, 1) := by decide +kernel
theorem dX3_hasGate_0 : decode cX3_hasGate 0 = .ok (.iload_n 1, 1) := by decide +kernel
theorem dX3_hasGate_1 : decode cX3_hasGate 1 = .ok (.ifCond .lt 15, 3) := by decide +kernel
theorem dX3_hasGate_4 : decode cX3_hasGate 4 = .ok (.iload_n 1, 1) := by decide +kernel
theorem dX3_hasGate_5 : decode cX3_hasGate 5 = .ok (.aload_n 0, 1) := by decide +kernel
theorem dX3_hasGate_6 : decode cX3_hasGate 6 = .ok (.getfield 52, 3) := by decide +kernel
theorem dX3_hasGate_9 : decode cX3_hasGate 9 = .ok (.if_icmp .ge 7, 3) := by decide +kernel
theorem dX3_hasGate_12 : decode cX3_hasGate 12 = .ok (.iconst 1, 1) := by decide +kernel
theorem dX3_hasGate_13 : decode cX3_hasGate 13 = .ok (.goto 4, 3) := by decide +kernel
theorem dX3_hasGate_16 : decode cX3_hasGate 16 = .ok (.iconst 0, 1) := by decide +kernel
theorem dX3_hasGate_17 : decode cX3_hasGate 17 = .ok (.ireturn, 1) := by decide +kernel
theorem dX3_hasPerson_0 : decode cX3_hasPerson 0 = .ok (.iload_n 1, 1) := by decide +kernel
theorem dX3_hasPerson_1 : decode cX3_hasPerson 1 = .ok (.ifCond .lt 15, 3) := by decide +kernel
theorem dX3_hasPerson_4 : decode cX3_hasPerson 4 = .ok (.iload_n 1, 1) := by decide +kernel
theorem dX3_hasPerson_5 : decode cX3_hasPerson 5 = .ok (.aload_n 0, 1) := by decide +kernel
theorem dX3_hasPerson_6 : decode cX3_hasPerson 6 = .ok (.getfield 45, 3) := by decide +kernel
theorem dX3_hasPerson_9 : decode cX3_hasPerson 9 = .ok (.if_icmp .ge 7, 3) := by decide +kernel
theorem dX3_hasPerson_12 : decode cX3_hasPerson 12 = .ok (.iconst 1, 1) := by decide +kernel
theorem dX3_hasPerson_13 : decode cX3_hasPerson 13 = .ok (.goto 4, 3) := by decide +kernel
theorem dX3_hasPerson_16 : decode cX3_hasPerson 16 = .ok (.iconst 0, 1) := by decide +kernel
theorem dX3_hasPerson_17 : decode cX3_hasPerson 17 = .ok (.ireturn, 1) := by decide +kernel
theorem dX3_addGate_0 : decode cX3_addGate 0 = .ok (.aload_n 0, 1) := by decide +kernel
theorem dX3_addGate_1 : decode cX3_addGate 1 = .ok (.getfield 9, 3) := by decide +kernel
theorem dX3_addGate_4 : decode cX3_addGate 4 = .ok (.aload_n 0, 1) := by decide +kernel
theorem dX3_addGate_5 : decode cX3_addGate 5 = .ok (.getfield 52, 3) := by decide +kernel
theorem dX3_addGate_8 : decode cX3_addGate 8 = .ok (.iload_n 1, 1) := by decide +kernel
theorem dX3_addGate_9 : decode cX3_addGate 9 = .ok (.iastore, 1) := by decide +kernel
theorem dX3_addGate_10 : decode cX3_addGate 10 = .ok (.aload_n 0, 1) := by decide +kernel
theorem dX3_addGate_11 : decode cX3_addGate 11 = .ok (.dup, 1) := by decide +kernel
theorem dX3_addGate_12 : decode cX3_addGate 12 = .ok (.getfield 52, 3) := by decide +kernel
theorem dX3_addGate_15 : decode cX3_addGate 15 = .ok (.iconst 1, 1) := by decide +kernel
theorem dX3_addGate_16 : decode cX3_addGate 16 = .ok (.iadd, 1) := by decide +kernel
theorem dX3_addGate_17 : decode cX3_addGate 17 = .ok (.putfield 52, 3) := by decide +kernel
theorem dX3_addGate_20 : decode cX3_addGate 20 = .ok (.aload_n 0, 1) := by decide +kernel
theorem dX3_addGate_21 : decode cX3_addGate 21 = .ok (.getfield 52, 3) := by decide +kernel
theorem dX3_addGate_24 : decode cX3_addGate 24 = .ok (.iconst 1, 1) := by decide +kernel
theorem dX3_addGate_25 : decode cX3_addGate 25 = .ok (.isub, 1) := by decide +kernel
theorem dX3_addGate_26 : decode cX3_addGate 26 = .ok (.ireturn, 1) := by decide +kernel
theorem dX3_addPerson_0 : decode cX3_addPerson 0 = .ok (.aload_n 0, 1) := by decide +kernel
theorem dX3_addPerson_1 : decode cX3_addPerson 1 = .ok (.getfield 17, 3) := by decide +kernel
theorem dX3_addPerson_4 : decode cX3_addPerson 4 = .ok (.aload_n 0, 1) := by decide +kernel
theorem dX3_addPerson_5 : decode cX3_addPerson 5 = .ok (.getfield 45, 3) := by decide +kernel
theorem dX3_addPerson_8 : decode cX3_addPerson 8 = .ok (.aaload, 1) := by decide +kernel
theorem dX3_addPerson_9 : decode cX3_addPerson 9 = .ok (.iload_n 1, 1) := by decide +kernel
theorem dX3_addPerson_10 : decode cX3_addPerson 10 = .ok (.iload_n 2, 1) := by decide +kernel
theorem dX3_addPerson_11 : decode cX3_addPerson 11 = .ok (.iload_n 3, 1) := by decide +kernel
theorem dX3_addPerson_12 : decode cX3_addPerson 12 = .ok (.invokevirtual 76, 3) := by decide +kernel
theorem dX3_addPerson_15 : decode cX3_addPerson 15 = .ok (.aload_n 0, 1) := by decide +kernel
theorem dX3_addPerson_16 : decode cX3_addPerson 16 = .ok (.dup, 1) := by decide +kernel
theorem dX3_addPerson_17 : decode cX3_addPerson 17 = .ok (.getfield 45, 3) := by decide +kernel
theorem dX3_addPerson_20 : decode cX3_addPerson 20 = .ok (.iconst 1, 1) := by decide +kernel
theorem dX3_addPerson_21 : decode cX3_addPerson 21 = .ok (.iadd, 1) := by decide +kernel
theorem dX3_addPerson_22 : decode cX3_addPerson 22 = .ok (.putfield 45, 3) := by decide +kernel
theorem dX3_addPerson_25 : decode cX3_addPerson 25 = .ok (.aload_n 0, 1) := by decide +kernel
theorem dX3_addPerson_26 : decode cX3_addPerson 26 = .ok (.getfield 45, 3) := by decide +kernel
theorem dX3_addPerson_29 : decode cX3_addPerson 29 = .ok (.iconst 1, 1) := by decide +kernel
theorem dX3_addPerson_30 : decode cX3_addPerson 30 = .ok (.isub, 1) := by decide +kernel
theorem dX3_addPerson_31 : decode cX3_addPerson 31 = .ok (.ireturn, 1) := by decide +kernel
theorem dX3_isShut_0 : decode cX3_isShut 0 = .ok (.aload_n 0, 1) := by decide +kernel
theorem dX3_isShut_1 : decode cX3_isShut 1 = .ok (.getfield 55, 3) := by decide +kernel
theorem dX3_isShut_4 : decode cX3_isShut 4 = .ok (.iload_n 1, 1) := by decide +kernel
theorem dX3_isShut_5 : decode cX3_isShut 5 = .ok (.ishr, 1) := by decide +kernel
theorem dX3_isShut_6 : decode cX3_isShut 6 = .ok (.iconst 1, 1) := by decide +kernel
theorem dX3_isShut_7 : decode cX3_isShut 7 = .ok (.iand, 1) := by decide +kernel
theorem dX3_isShut_8 : decode cX3_isShut 8 = .ok (.iconst 1, 1) := by decide +kernel
theorem dX3_isShut_9 : decode cX3_isShut 9 = .ok (.if_icmp .ne 7, 3) := by decide +kernel
theorem dX3_isShut_12 : decode cX3_isShut 12 = .ok (.iconst 1, 1) := by decide +kernel
theorem dX3_isShut_13 : decode cX3_isShut 13 = .ok (.goto 4, 3) := by decide +kernel
theorem dX3_isShut_16 : decode cX3_isShut 16 = .ok (.iconst 0, 1) := by decide +kernel
theorem dX3_isShut_17 : decode cX3_isShut 17 = .ok (.ireturn, 1) := by decide +kernel
theorem dX3_setShut_0 : decode cX3_setShut 0 = .ok (.aload_n 0, 1) := by decide +kernel
theorem dX3_setShut_1 : decode cX3_setShut 1 = .ok (.iload_n 2, 1) := by decide +kernel
theorem dX3_setShut_2 : decode cX3_setShut 2 = .ok (.ifCond .eq 14, 3) := by decide +kernel
theorem dX3_setShut_5 : decode cX3_setShut 5 = .ok (.aload_n 0, 1) := by decide +kernel
theorem dX3_setShut_6 : decode cX3_setShut 6 = .ok (.getfield 55, 3) := by decide +kernel
theorem dX3_setShut_9 : decode cX3_setShut 9 = .ok (.iconst 1, 1) := by decide +kernel
theorem dX3_setShut_10 : decode cX3_setShut 10 = .ok (.iload_n 1, 1) := by decide +kernel
theorem dX3_setShut_11 : decode cX3_setShut 11 = .ok (.ishl, 1) := by decide +kernel
theorem dX3_setShut_12 : decode cX3_setShut 12 = .ok (.ior, 1) := by decide +kernel
theorem dX3_setShut_13 : decode cX3_setShut 13 = .ok (.goto 13, 3) := by decide +kernel
theorem dX3_setShut_16 : decode cX3_setShut 16 = .ok (.aload_n 0, 1) := by decide +kernel
theorem dX3_setShut_17 : decode cX3_setShut 17 = .ok (.getfield 55, 3) := by decide +kernel
theorem dX3_setShut_20 : decode cX3_setShut 20 = .ok (.iconst 1, 1) := by decide +kernel
theorem dX3_setShut_21 : decode cX3_setShut 21 = .ok (.iload_n 1, 1) := by decide +kernel
theorem dX3_setShut_22 : decode cX3_setShut 22 = .ok (.ishl, 1) := by decide +kernel
theorem dX3_setShut_23 : decode cX3_setShut 23 = .ok (.iconst (-1), 1) := by decide +kernel
theorem dX3_setShut_24 : decode cX3_setShut 24 = .ok (.ixor, 1) := by decide +kernel
theorem dX3_setShut_25 : decode cX3_setShut 25 = .ok (.iand, 1) := by decide +kernel
theorem dX3_setShut_26 : decode cX3_setShut 26 = .ok (.putfield 55, 3) := by decide +kernel
theorem dX3_setShut_29 : decode cX3_setShut 29 = .ok (.return_, 1) := by decide +kernel
theorem dX3_setDown_0 : decode cX3_setDown 0 = .ok (.aload_n 0, 1) := by decide +kernel
theorem dX3_setDown_1 : decode cX3_setDown 1 = .ok (.getfield 17, 3) := by decide +kernel
theorem dX3_setDown_4 : decode cX3_setDown 4 = .ok (.iload_n 1, 1) := by decide +kernel
theorem dX3_setDown_5 : decode cX3_setDown 5 = .ok (.aaload, 1) := by decide +kernel
theorem dX3_setDown_6 : decode cX3_setDown 6 = .ok (.iload_n 2, 1) := by decide +kernel
theorem dX3_setDown_7 : decode cX3_setDown 7 = .ok (.putfield 80, 3) := by decide +kernel
theorem dX3_setDown_10 : decode cX3_setDown 10 = .ok (.aload_n 0, 1) := by decide +kernel
theorem dX3_setDown_11 : decode cX3_setDown 11 = .ok (.getfield 17, 3) := by decide +kernel
theorem dX3_setDown_14 : decode cX3_setDown 14 = .ok (.iload_n 1, 1) := by decide +kernel
theorem dX3_setDown_15 : decode cX3_setDown 15 = .ok (.aaload, 1) := by decide +kernel
theorem dX3_setDown_16 : decode cX3_setDown 16 = .ok (.iconst 0, 1) := by decide +kernel
theorem dX3_setDown_17 : decode cX3_setDown 17 = .ok (.putfield 83, 3) := by decide +kernel
theorem dX3_setDown_20 : decode cX3_setDown 20 = .ok (.return_, 1) := by decide +kernel
theorem dX3_endRound_0 : decode cX3_endRound 0 = .ok (.aload_n 0, 1) := by decide +kernel
theorem dX3_endRound_1 : decode cX3_endRound 1 = .ok (.iconst 0, 1) := by decide +kernel
theorem dX3_endRound_2 : decode cX3_endRound 2 = .ok (.putfield 61, 3) := by decide +kernel
theorem dX3_endRound_5 : decode cX3_endRound 5 = .ok (.aload_n 0, 1) := by decide +kernel
theorem dX3_endRound_6 : decode cX3_endRound 6 = .ok (.iconst 0, 1) := by decide +kernel
theorem dX3_endRound_7 : decode cX3_endRound 7 = .ok (.putfield 64, 3) := by decide +kernel
theorem dX3_endRound_10 : decode cX3_endRound 10 = .ok (.aload_n 0, 1) := by decide +kernel
theorem dX3_endRound_11 : decode cX3_endRound 11 = .ok (.iconst 0, 1) := by decide +kernel
theorem dX3_endRound_12 : decode cX3_endRound 12 = .ok (.putfield 58, 3) := by decide +kernel
theorem dX3_endRound_15 : decode cX3_endRound 15 = .ok (.return_, 1) := by decide +kernel
theorem dX3_beginRoundWith_0 : decode cX3_beginRoundWith 0 = .ok (.iconst 0, 1) := by decide +kernel
theorem dX3_beginRoundWith_1 : decode cX3_beginRoundWith 1 = .ok (.istore_n 2, 1) := by decide +kernel
theorem dX3_beginRoundWith_2 : decode cX3_beginRoundWith 2 = .ok (.iload_n 2, 1) := by decide +kernel
theorem dX3_beginRoundWith_3 : decode cX3_beginRoundWith 3 = .ok (.iload_n 1, 1) := by decide +kernel
theorem dX3_beginRoundWith_4 : decode cX3_beginRoundWith 4 = .ok (.if_icmp .ge 47, 3) := by decide +kernel
theorem dX3_beginRoundWith_7 : decode cX3_beginRoundWith 7 = .ok (.aload_n 0, 1) := by decide +kernel
theorem dX3_beginRoundWith_8 : decode cX3_beginRoundWith 8 = .ok (.getfield 21, 3) := by decide +kernel
theorem dX3_beginRoundWith_11 : decode cX3_beginRoundWith 11 = .ok (.iconst 0, 1) := by decide +kernel
theorem dX3_beginRoundWith_12 : decode cX3_beginRoundWith 12 = .ok (.iaload, 1) := by decide +kernel
theorem dX3_beginRoundWith_13 : decode cX3_beginRoundWith 13 = .ok (.istore_n 3, 1) := by decide +kernel
theorem dX3_beginRoundWith_14 : decode cX3_beginRoundWith 14 = .ok (.aload_n 0, 1) := by decide +kernel
theorem dX3_beginRoundWith_15 : decode cX3_beginRoundWith 15 = .ok (.getfield 21, 3) := by decide +kernel
theorem dX3_beginRoundWith_18 : decode cX3_beginRoundWith 18 = .ok (.iconst 1, 1) := by decide +kernel
theorem dX3_beginRoundWith_19 : decode cX3_beginRoundWith 19 = .ok (.aload_n 0, 1) := by decide +kernel
theorem dX3_beginRoundWith_20 : decode cX3_beginRoundWith 20 = .ok (.getfield 21, 3) := by decide +kernel
theorem dX3_beginRoundWith_23 : decode cX3_beginRoundWith 23 = .ok (.iconst 0, 1) := by decide +kernel
theorem dX3_beginRoundWith_24 : decode cX3_beginRoundWith 24 = .ok (.aload_n 0, 1) := by decide +kernel
theorem dX3_beginRoundWith_25 : decode cX3_beginRoundWith 25 = .ok (.getfield 61, 3) := by decide +kernel
theorem dX3_beginRoundWith_28 : decode cX3_beginRoundWith 28 = .ok (.iconst 1, 1) := by decide +kernel
theorem dX3_beginRoundWith_29 : decode cX3_beginRoundWith 29 = .ok (.isub, 1) := by decide +kernel
theorem dX3_beginRoundWith_30 : decode cX3_beginRoundWith 30 = .ok (.invokestatic 39, 3) := by decide +kernel
theorem dX3_beginRoundWith_33 : decode cX3_beginRoundWith 33 = .ok (.aload_n 0, 1) := by decide +kernel
theorem dX3_beginRoundWith_34 : decode cX3_beginRoundWith 34 = .ok (.getfield 21, 3) := by decide +kernel
theorem dX3_beginRoundWith_37 : decode cX3_beginRoundWith 37 = .ok (.aload_n 0, 1) := by decide +kernel
theorem dX3_beginRoundWith_38 : decode cX3_beginRoundWith 38 = .ok (.getfield 61, 3) := by decide +kernel
theorem dX3_beginRoundWith_41 : decode cX3_beginRoundWith 41 = .ok (.iconst 1, 1) := by decide +kernel
theorem dX3_beginRoundWith_42 : decode cX3_beginRoundWith 42 = .ok (.isub, 1) := by decide +kernel
theorem dX3_beginRoundWith_43 : decode cX3_beginRoundWith 43 = .ok (.iload_n 3, 1) := by decide +kernel
theorem dX3_beginRoundWith_44 : decode cX3_beginRoundWith 44 = .ok (.iastore, 1) := by decide +kernel
theorem dX3_beginRoundWith_45 : decode cX3_beginRoundWith 45 = .ok (.iinc 2 1, 3) := by decide +kernel
theorem dX3_beginRoundWith_48 : decode cX3_beginRoundWith 48 = .ok (.goto (-46), 3) := by decide +kernel
theorem dX3_beginRoundWith_51 : decode cX3_beginRoundWith 51 = .ok (.aload_n 0, 1) := by decide +kernel
theorem dX3_beginRoundWith_52 : decode cX3_beginRoundWith 52 = .ok (.iconst 0, 1) := by decide +kernel
theorem dX3_beginRoundWith_53 : decode cX3_beginRoundWith 53 = .ok (.putfield 64, 3) := by decide +kernel
theorem dX3_beginRoundWith_56 : decode cX3_beginRoundWith 56 = .ok (.return_, 1) := by decide +kernel
theorem dX3_swapInRound_0 : decode cX3_swapInRound 0 = .ok (.aload_n 0, 1) := by decide +kernel
theorem dX3_swapInRound_1 : decode cX3_swapInRound 1 = .ok (.getfield 21, 3) := by decide +kernel
theorem dX3_swapInRound_4 : decode cX3_swapInRound 4 = .ok (.iload_n 1, 1) := by decide +kernel
theorem dX3_swapInRound_5 : decode cX3_swapInRound 5 = .ok (.iaload, 1) := by decide +kernel
theorem dX3_swapInRound_6 : decode cX3_swapInRound 6 = .ok (.istore_n 3, 1) := by decide +kernel
theorem dX3_swapInRound_7 : decode cX3_swapInRound 7 = .ok (.aload_n 0, 1) := by decide +kernel
theorem dX3_swapInRound_8 : decode cX3_swapInRound 8 = .ok (.getfield 21, 3) := by decide +kernel
theorem dX3_swapInRound_11 : decode cX3_swapInRound 11 = .ok (.iload_n 1, 1) := by decide +kernel
theorem dX3_swapInRound_12 : decode cX3_swapInRound 12 = .ok (.aload_n 0, 1) := by decide +kernel
theorem dX3_swapInRound_13 : decode cX3_swapInRound 13 = .ok (.getfield 21, 3) := by decide +kernel
theorem dX3_swapInRound_16 : decode cX3_swapInRound 16 = .ok (.iload_n 2, 1) := by decide +kernel
theorem dX3_swapInRound_17 : decode cX3_swapInRound 17 = .ok (.iaload, 1) := by decide +kernel
theorem dX3_swapInRound_18 : decode cX3_swapInRound 18 = .ok (.iastore, 1) := by decide +kernel
theorem dX3_swapInRound_19 : decode cX3_swapInRound 19 = .ok (.aload_n 0, 1) := by decide +kernel
theorem dX3_swapInRound_20 : decode cX3_swapInRound 20 = .ok (.getfield 21, 3) := by decide +kernel
theorem dX3_swapInRound_23 : decode cX3_swapInRound 23 = .ok (.iload_n 2, 1) := by decide +kernel
theorem dX3_swapInRound_24 : decode cX3_swapInRound 24 = .ok (.iload_n 3, 1) := by decide +kernel
theorem dX3_swapInRound_25 : decode cX3_swapInRound 25 = .ok (.iastore, 1) := by decide +kernel
theorem dX3_swapInRound_26 : decode cX3_swapInRound 26 = .ok (.return_, 1) := by decide +kernel
theorem dX3_keepOpen_0 : decode cX3_keepOpen 0 = .ok (.aload_n 0, 1) := by decide +kernel
theorem dX3_keepOpen_1 : decode cX3_keepOpen 1 = .ok (.iload_n 1, 1) := by decide +kernel
theorem dX3_keepOpen_2 : decode cX3_keepOpen 2 = .ok (.iconst 0, 1) := by decide +kernel
theorem dX3_keepOpen_3 : decode cX3_keepOpen 3 = .ok (.invokevirtual 87, 3) := by decide +kernel
theorem dX3_keepOpen_6 : decode cX3_keepOpen 6 = .ok (.aload_n 0, 1) := by decide +kernel
theorem dX3_keepOpen_7 : decode cX3_keepOpen 7 = .ok (.iload_n 1, 1) := by decide +kernel
theorem dX3_keepOpen_8 : decode cX3_keepOpen 8 = .ok (.putfield 34, 3) := by decide +kernel
theorem dX3_keepOpen_11 : decode cX3_keepOpen 11 = .ok (.return_, 1) := by decide +kernel
theorem dX3_sendOthersOut_0 : decode cX3_sendOthersOut 0 = .ok (.iconst 0, 1) := by decide +kernel
theorem dX3_sendOthersOut_1 : decode cX3_sendOthersOut 1 = .ok (.istore_n 2, 1) := by decide +kernel
theorem dX3_sendOthersOut_2 : decode cX3_sendOthersOut 2 = .ok (.iload_n 2, 1) := by decide +kernel
theorem dX3_sendOthersOut_3 : decode cX3_sendOthersOut 3 = .ok (.aload_n 0, 1) := by decide +kernel
theorem dX3_sendOthersOut_4 : decode cX3_sendOthersOut 4 = .ok (.getfield 45, 3) := by decide +kernel
theorem dX3_sendOthersOut_7 : decode cX3_sendOthersOut 7 = .ok (.if_icmp .ge 28, 3) := by decide +kernel
theorem dX3_sendOthersOut_10 : decode cX3_sendOthersOut 10 = .ok (.aload_n 0, 1) := by decide +kernel
theorem dX3_sendOthersOut_11 : decode cX3_sendOthersOut 11 = .ok (.getfield 17, 3) := by decide +kernel
theorem dX3_sendOthersOut_14 : decode cX3_sendOthersOut 14 = .ok (.iload_n 2, 1) := by decide +kernel
theorem dX3_sendOthersOut_15 : decode cX3_sendOthersOut 15 = .ok (.aaload, 1) := by decide +kernel
theorem dX3_sendOthersOut_16 : decode cX3_sendOthersOut 16 = .ok (.iload_n 2, 1) := by decide +kernel
theorem dX3_sendOthersOut_17 : decode cX3_sendOthersOut 17 = .ok (.iload_n 1, 1) := by decide +kernel
theorem dX3_sendOthersOut_18 : decode cX3_sendOthersOut 18 = .ok (.if_icmp .eq 7, 3) := by decide +kernel
theorem dX3_sendOthersOut_21 : decode cX3_sendOthersOut 21 = .ok (.iconst 1, 1) := by decide +kernel
theorem dX3_sendOthersOut_22 : decode cX3_sendOthersOut 22 = .ok (.goto 4, 3) := by decide +kernel
theorem dX3_sendOthersOut_25 : decode cX3_sendOthersOut 25 = .ok (.iconst 0, 1) := by decide +kernel
theorem dX3_sendOthersOut_26 : decode cX3_sendOthersOut 26 = .ok (.putfield 83, 3) := by decide +kernel
theorem dX3_sendOthersOut_29 : decode cX3_sendOthersOut 29 = .ok (.iinc 2 1, 3) := by decide +kernel
theorem dX3_sendOthersOut_32 : decode cX3_sendOthersOut 32 = .ok (.goto (-30), 3) := by decide +kernel
theorem dX3_sendOthersOut_35 : decode cX3_sendOthersOut 35 = .ok (.return_, 1) := by decide +kernel
theorem dX3_outBits_0 : decode cX3_outBits 0 = .ok (.iconst 0, 1) := by decide +kernel
theorem dX3_outBits_1 : decode cX3_outBits 1 = .ok (.istore_n 1, 1) := by decide +kernel
theorem dX3_outBits_2 : decode cX3_outBits 2 = .ok (.iconst 0, 1) := by decide +kernel
theorem dX3_outBits_3 : decode cX3_outBits 3 = .ok (.istore_n 2, 1) := by decide +kernel
theorem dX3_outBits_4 : decode cX3_outBits 4 = .ok (.iload_n 2, 1) := by decide +kernel
theorem dX3_outBits_5 : decode cX3_outBits 5 = .ok (.aload_n 0, 1) := by decide +kernel
theorem dX3_outBits_6 : decode cX3_outBits 6 = .ok (.getfield 45, 3) := by decide +kernel
theorem dX3_outBits_9 : decode cX3_outBits 9 = .ok (.if_icmp .ge 27, 3) := by decide +kernel
theorem dX3_outBits_12 : decode cX3_outBits 12 = .ok (.aload_n 0, 1) := by decide +kernel
theorem dX3_outBits_13 : decode cX3_outBits 13 = .ok (.getfield 17, 3) := by decide +kernel
theorem dX3_outBits_16 : decode cX3_outBits 16 = .ok (.iload_n 2, 1) := by decide +kernel
theorem dX3_outBits_17 : decode cX3_outBits 17 = .ok (.aaload, 1) := by decide +kernel
theorem dX3_outBits_18 : decode cX3_outBits 18 = .ok (.getfield 83, 3) := by decide +kernel
theorem dX3_outBits_21 : decode cX3_outBits 21 = .ok (.ifCond .eq 9, 3) := by decide +kernel
theorem dX3_outBits_24 : decode cX3_outBits 24 = .ok (.iload_n 1, 1) := by decide +kernel
theorem dX3_outBits_25 : decode cX3_outBits 25 = .ok (.iconst 1, 1) := by decide +kernel
theorem dX3_outBits_26 : decode cX3_outBits 26 = .ok (.iload_n 2, 1) := by decide +kernel
theorem dX3_outBits_27 : decode cX3_outBits 27 = .ok (.ishl, 1) := by decide +kernel
theorem dX3_outBits_28 : decode cX3_outBits 28 = .ok (.ior, 1) := by decide +kernel
theorem dX3_outBits_29 : decode cX3_outBits 29 = .ok (.istore_n 1, 1) := by decide +kernel
theorem dX3_outBits_30 : decode cX3_outBits 30 = .ok (.iinc 2 1, 3) := by decide +kernel
theorem dX3_outBits_33 : decode cX3_outBits 33 = .ok (.goto (-29), 3) := by decide +kernel
theorem dX3_outBits_36 : decode cX3_outBits 36 = .ok (.iload_n 1, 1) := by decide +kernel
theorem dX3_outBits_37 : decode cX3_outBits 37 = .ok (.ireturn, 1) := by decide +kernel
theorem dX3_inside_0 : decode cX3_inside 0 = .ok (.aload_n 0, 1) := by decide +kernel
theorem dX3_inside_1 : decode cX3_inside 1 = .ok (.getfield 45, 3) := by decide +kernel
theorem dX3_inside_4 : decode cX3_inside 4 = .ok (.aload_n 0, 1) := by decide +kernel
theorem dX3_inside_5 : decode cX3_inside 5 = .ok (.invokevirtual 91, 3) := by decide +kernel
theorem dX3_inside_8 : decode cX3_inside 8 = .ok (.invokestatic 95, 3) := by decide +kernel
theorem dX3_inside_11 : decode cX3_inside 11 = .ok (.isub, 1) := by decide +kernel
theorem dX3_inside_12 : decode cX3_inside 12 = .ok (.ireturn, 1) := by decide +kernel
theorem dX3_leftBehind_0 : decode cX3_leftBehind 0 = .ok (.iconst 0, 1) := by decide +kernel
theorem dX3_leftBehind_1 : decode cX3_leftBehind 1 = .ok (.istore_n 1, 1) := by decide +kernel
theorem dX3_leftBehind_2 : decode cX3_leftBehind 2 = .ok (.iload_n 1, 1) := by decide +kernel
theorem dX3_leftBehind_3 : decode cX3_leftBehind 3 = .ok (.bipush 60, 2) := by decide +kernel
theorem dX3_leftBehind_5 : decode cX3_leftBehind 5 = .ok (.if_icmp .ge 20, 3) := by decide +kernel
theorem dX3_leftBehind_8 : decode cX3_leftBehind 8 = .ok (.aload_n 0, 1) := by decide +kernel
theorem dX3_leftBehind_9 : decode cX3_leftBehind 9 = .ok (.invokevirtual 101, 3) := by decide +kernel
theorem dX3_leftBehind_12 : decode cX3_leftBehind 12 = .ok (.ifCond .le 13, 3) := by decide +kernel
theorem dX3_leftBehind_15 : decode cX3_leftBehind 15 = .ok (.aload_n 0, 1) := by decide +kernel
theorem dX3_leftBehind_16 : decode cX3_leftBehind 16 = .ok (.invokevirtual 104, 3) := by decide +kernel
theorem dX3_leftBehind_19 : decode cX3_leftBehind 19 = .ok (.iinc 1 1, 3) := by decide +kernel
theorem dX3_leftBehind_22 : decode cX3_leftBehind 22 = .ok (.goto (-20), 3) := by decide +kernel
theorem dX3_leftBehind_25 : decode cX3_leftBehind 25 = .ok (.aload_n 0, 1) := by decide +kernel
theorem dX3_leftBehind_26 : decode cX3_leftBehind 26 = .ok (.invokevirtual 101, 3) := by decide +kernel
theorem dX3_leftBehind_29 : decode cX3_leftBehind 29 = .ok (.ireturn, 1) := by decide +kernel
theorem dX3_passMinutes_0 : decode cX3_passMinutes 0 = .ok (.iconst 0, 1) := by decide +kernel
theorem dX3_passMinutes_1 : decode cX3_passMinutes 1 = .ok (.istore_n 2, 1) := by decide +kernel
theorem dX3_passMinutes_2 : decode cX3_passMinutes 2 = .ok (.iload_n 2, 1) := by decide +kernel
theorem dX3_passMinutes_3 : decode cX3_passMinutes 3 = .ok (.iload_n 1, 1) := by decide +kernel
theorem dX3_passMinutes_4 : decode cX3_passMinutes 4 = .ok (.if_icmp .ge 13, 3) := by decide +kernel
theorem dX3_passMinutes_7 : decode cX3_passMinutes 7 = .ok (.aload_n 0, 1) := by decide +kernel
theorem dX3_passMinutes_8 : decode cX3_passMinutes 8 = .ok (.invokevirtual 104, 3) := by decide +kernel
theorem dX3_passMinutes_11 : decode cX3_passMinutes 11 = .ok (.iinc 2 1, 3) := by decide +kernel
theorem dX3_passMinutes_14 : decode cX3_passMinutes 14 = .ok (.goto (-12), 3) := by decide +kernel
theorem dX3_passMinutes_17 : decode cX3_passMinutes 17 = .ok (.return_, 1) := by decide +kernel
theorem dX3_passMinute_0 : decode cX3_passMinute 0 = .ok (.iconst 0, 1) := by decide +kernel
theorem dX3_passMinute_1 : decode cX3_passMinute 1 = .ok (.istore_n 1, 1) := by decide +kernel
theorem dX3_passMinute_2 : decode cX3_passMinute 2 = .ok (.iload_n 1, 1) := by decide +kernel
theorem dX3_passMinute_3 : decode cX3_passMinute 3 = .ok (.aload_n 0, 1) := by decide +kernel
theorem dX3_passMinute_4 : decode cX3_passMinute 4 = .ok (.getfield 45, 3) := by decide +kernel
theorem dX3_passMinute_7 : decode cX3_passMinute 7 = .ok (.if_icmp .ge 43, 3) := by decide +kernel
theorem dX3_passMinute_10 : decode cX3_passMinute 10 = .ok (.aload_n 0, 1) := by decide +kernel
theorem dX3_passMinute_11 : decode cX3_passMinute 11 = .ok (.getfield 17, 3) := by decide +kernel
theorem dX3_passMinute_14 : decode cX3_passMinute 14 = .ok (.iload_n 1, 1) := by decide +kernel
theorem dX3_passMinute_15 : decode cX3_passMinute 15 = .ok (.aaload, 1) := by decide +kernel
theorem dX3_passMinute_16 : decode cX3_passMinute 16 = .ok (.astore_n 2, 1) := by decide +kernel
theorem dX3_passMinute_17 : decode cX3_passMinute 17 = .ok (.aload_n 2, 1) := by decide +kernel
theorem dX3_passMinute_18 : decode cX3_passMinute 18 = .ok (.getfield 83, 3) := by decide +kernel
theorem dX3_passMinute_21 : decode cX3_passMinute 21 = .ok (.ifCond .ne 23, 3) := by decide +kernel
theorem dX3_passMinute_24 : decode cX3_passMinute 24 = .ok (.aload_n 2, 1) := by decide +kernel
theorem dX3_passMinute_25 : decode cX3_passMinute 25 = .ok (.getfield 107, 3) := by decide +kernel
theorem dX3_passMinute_28 : decode cX3_passMinute 28 = .ok (.ifCond .ne 11, 3) := by decide +kernel
theorem dX3_passMinute_31 : decode cX3_passMinute 31 = .ok (.aload_n 0, 1) := by decide +kernel
theorem dX3_passMinute_32 : decode cX3_passMinute 32 = .ok (.iload_n 1, 1) := by decide +kernel
theorem dX3_passMinute_33 : decode cX3_passMinute 33 = .ok (.invokevirtual 110, 3) := by decide +kernel
theorem dX3_passMinute_36 : decode cX3_passMinute 36 = .ok (.ifCond .eq 8, 3) := by decide +kernel
theorem dX3_passMinute_39 : decode cX3_passMinute 39 = .ok (.aload_n 0, 1) := by decide +kernel
theorem dX3_passMinute_40 : decode cX3_passMinute 40 = .ok (.aload_n 2, 1) := by decide +kernel
theorem dX3_passMinute_41 : decode cX3_passMinute 41 = .ok (.invokevirtual 114, 3) := by decide +kernel
theorem dX3_passMinute_44 : decode cX3_passMinute 44 = .ok (.iinc 1 1, 3) := by decide +kernel
theorem dX3_passMinute_47 : decode cX3_passMinute 47 = .ok (.goto (-45), 3) := by decide +kernel
theorem dX3_passMinute_50 : decode cX3_passMinute 50 = .ok (.aload_n 0, 1) := by decide +kernel
theorem dX3_passMinute_51 : decode cX3_passMinute 51 = .ok (.invokevirtual 117, 3) := by decide +kernel
theorem dX3_passMinute_54 : decode cX3_passMinute 54 = .ok (.aload_n 0, 1) := by decide +kernel
theorem dX3_passMinute_55 : decode cX3_passMinute 55 = .ok (.dup, 1) := by decide +kernel
theorem dX3_passMinute_56 : decode cX3_passMinute 56 = .ok (.getfield 67, 3) := by decide +kernel
theorem dX3_passMinute_59 : decode cX3_passMinute 59 = .ok (.iconst 1, 1) := by decide +kernel
theorem dX3_passMinute_60 : decode cX3_passMinute 60 = .ok (.iadd, 1) := by decide +kernel
theorem dX3_passMinute_61 : decode cX3_passMinute 61 = .ok (.putfield 67, 3) := by decide +kernel
theorem dX3_passMinute_64 : decode cX3_passMinute 64 = .ok (.return_, 1) := by decide +kernel
theorem dX3_walk_0 : decode cX3_walk 0 = .ok (.aload_n 1, 1) := by decide +kernel
theorem dX3_walk_1 : decode cX3_walk 1 = .ok (.iconst 1, 1) := by decide +kernel
theorem dX3_walk_2 : decode cX3_walk 2 = .ok (.putfield 107, 3) := by decide +kernel
theorem dX3_walk_5 : decode cX3_walk 5 = .ok (.aload_n 0, 1) := by decide +kernel
theorem dX3_walk_6 : decode cX3_walk 6 = .ok (.aload_n 1, 1) := by decide +kernel
theorem dX3_walk_7 : decode cX3_walk 7 = .ok (.invokevirtual 120, 3) := by decide +kernel
theorem dX3_walk_10 : decode cX3_walk 10 = .ok (.istore_n 2, 1) := by decide +kernel
theorem dX3_walk_11 : decode cX3_walk 11 = .ok (.aload_n 0, 1) := by decide +kernel
theorem dX3_walk_12 : decode cX3_walk 12 = .ok (.iload_n 2, 1) := by decide +kernel
theorem dX3_walk_13 : decode cX3_walk 13 = .ok (.invokevirtual 124, 3) := by decide +kernel
theorem dX3_walk_16 : decode cX3_walk 16 = .ok (.ifCond .ne 4, 3) := by decide +kernel
theorem dX3_walk_19 : decode cX3_walk 19 = .ok (.return_, 1) := by decide +kernel
theorem dX3_walk_20 : decode cX3_walk 20 = .ok (.aload_n 1, 1) := by decide +kernel
theorem dX3_walk_21 : decode cX3_walk 21 = .ok (.aload_n 1, 1) := by decide +kernel
theorem dX3_walk_22 : decode cX3_walk 22 = .ok (.getfield 80, 3) := by decide +kernel
theorem dX3_walk_25 : decode cX3_walk 25 = .ok (.aload_n 0, 1) := by decide +kernel
theorem dX3_walk_26 : decode cX3_walk 26 = .ok (.getfield 9, 3) := by decide +kernel
theorem dX3_walk_29 : decode cX3_walk 29 = .ok (.iload_n 2, 1) := by decide +kernel
theorem dX3_walk_30 : decode cX3_walk 30 = .ok (.iaload, 1) := by decide +kernel
theorem dX3_walk_31 : decode cX3_walk 31 = .ok (.aload_n 0, 1) := by decide +kernel
theorem dX3_walk_32 : decode cX3_walk 32 = .ok (.aload_n 1, 1) := by decide +kernel
theorem dX3_walk_33 : decode cX3_walk 33 = .ok (.invokevirtual 127, 3) := by decide +kernel
theorem dX3_walk_36 : decode cX3_walk 36 = .ok (.invokestatic 130, 3) := by decide +kernel
theorem dX3_walk_39 : decode cX3_walk 39 = .ok (.putfield 80, 3) := by decide +kernel
theorem dX3_walk_42 : decode cX3_walk 42 = .ok (.aload_n 1, 1) := by decide +kernel
theorem dX3_walk_43 : decode cX3_walk 43 = .ok (.getfield 80, 3) := by decide +kernel
theorem dX3_walk_46 : decode cX3_walk 46 = .ok (.aload_n 0, 1) := by decide +kernel
theorem dX3_walk_47 : decode cX3_walk 47 = .ok (.getfield 9, 3) := by decide +kernel
theorem dX3_walk_50 : decode cX3_walk 50 = .ok (.iload_n 2, 1) := by decide +kernel
theorem dX3_walk_51 : decode cX3_walk 51 = .ok (.iaload, 1) := by decide +kernel
theorem dX3_walk_52 : decode cX3_walk 52 = .ok (.if_icmp .eq 4, 3) := by decide +kernel
theorem dX3_walk_55 : decode cX3_walk 55 = .ok (.return_, 1) := by decide +kernel
theorem dX3_walk_56 : decode cX3_walk 56 = .ok (.aload_n 0, 1) := by decide +kernel
theorem dX3_walk_57 : decode cX3_walk 57 = .ok (.iload_n 2, 1) := by decide +kernel
theorem dX3_walk_58 : decode cX3_walk 58 = .ok (.invokevirtual 134, 3) := by decide +kernel
theorem dX3_walk_61 : decode cX3_walk 61 = .ok (.ifCond .eq 18, 3) := by decide +kernel
theorem dX3_walk_64 : decode cX3_walk 64 = .ok (.aload_n 1, 1) := by decide +kernel
theorem dX3_walk_65 : decode cX3_walk 65 = .ok (.dup, 1) := by decide +kernel
theorem dX3_walk_66 : decode cX3_walk 66 = .ok (.getfield 137, 3) := by decide +kernel
theorem dX3_walk_69 : decode cX3_walk 69 = .ok (.iconst 1, 1) := by decide +kernel
theorem dX3_walk_70 : decode cX3_walk 70 = .ok (.iload_n 2, 1) := by decide +kernel
theorem dX3_walk_71 : decode cX3_walk 71 = .ok (.ishl, 1) := by decide +kernel
theorem dX3_walk_72 : decode cX3_walk 72 = .ok (.ior, 1) := by decide +kernel
theorem dX3_walk_73 : decode cX3_walk 73 = .ok (.putfield 137, 3) := by decide +kernel
theorem dX3_walk_76 : decode cX3_walk 76 = .ok (.goto 8, 3) := by decide +kernel
theorem dX3_walk_79 : decode cX3_walk 79 = .ok (.aload_n 1, 1) := by decide +kernel
theorem dX3_walk_80 : decode cX3_walk 80 = .ok (.iconst 1, 1) := by decide +kernel
theorem dX3_walk_81 : decode cX3_walk 81 = .ok (.putfield 83, 3) := by decide +kernel
theorem dX3_walk_84 : decode cX3_walk 84 = .ok (.return_, 1) := by decide +kernel
theorem dX3_goRound_0 : decode cX3_goRound 0 = .ok (.aload_n 0, 1) := by decide +kernel
theorem dX3_goRound_1 : decode cX3_goRound 1 = .ok (.getfield 73, 3) := by decide +kernel
theorem dX3_goRound_4 : decode cX3_goRound 4 = .ok (.ifCond .le 14, 3) := by decide +kernel
theorem dX3_goRound_7 : decode cX3_goRound 7 = .ok (.aload_n 0, 1) := by decide +kernel
theorem dX3_goRound_8 : decode cX3_goRound 8 = .ok (.dup, 1) := by decide +kernel
theorem dX3_goRound_9 : decode cX3_goRound 9 = .ok (.getfield 73, 3) := by decide +kernel
theorem dX3_goRound_12 : decode cX3_goRound 12 = .ok (.iconst 1, 1) := by decide +kernel
theorem dX3_goRound_13 : decode cX3_goRound 13 = .ok (.isub, 1) := by decide +kernel
theorem dX3_goRound_14 : decode cX3_goRound 14 = .ok (.putfield 73, 3) := by decide +kernel
theorem dX3_goRound_17 : decode cX3_goRound 17 = .ok (.return_, 1) := by decide +kernel
theorem dX3_goRound_18 : decode cX3_goRound 18 = .ok (.aload_n 0, 1) := by decide +kernel
theorem dX3_goRound_19 : decode cX3_goRound 19 = .ok (.getfield 64, 3) := by decide +kernel
theorem dX3_goRound_22 : decode cX3_goRound 22 = .ok (.aload_n 0, 1) := by decide +kernel
theorem dX3_goRound_23 : decode cX3_goRound 23 = .ok (.getfield 61, 3) := by decide +kernel
theorem dX3_goRound_26 : decode cX3_goRound 26 = .ok (.if_icmp .lt 4, 3) := by decide +kernel
theorem dX3_goRound_29 : decode cX3_goRound 29 = .ok (.return_, 1) := by decide +kernel
theorem dX3_goRound_30 : decode cX3_goRound 30 = .ok (.aload_n 0, 1) := by decide +kernel
theorem dX3_goRound_31 : decode cX3_goRound 31 = .ok (.getfield 21, 3) := by decide +kernel
theorem dX3_goRound_34 : decode cX3_goRound 34 = .ok (.aload_n 0, 1) := by decide +kernel
theorem dX3_goRound_35 : decode cX3_goRound 35 = .ok (.getfield 64, 3) := by decide +kernel
theorem dX3_goRound_38 : decode cX3_goRound 38 = .ok (.iaload, 1) := by decide +kernel
theorem dX3_goRound_39 : decode cX3_goRound 39 = .ok (.istore_n 1, 1) := by decide +kernel
theorem dX3_goRound_40 : decode cX3_goRound 40 = .ok (.aload_n 0, 1) := by decide +kernel
theorem dX3_goRound_41 : decode cX3_goRound 41 = .ok (.aload_n 0, 1) := by decide +kernel
theorem dX3_goRound_42 : decode cX3_goRound 42 = .ok (.getfield 58, 3) := by decide +kernel
theorem dX3_goRound_45 : decode cX3_goRound 45 = .ok (.aload_n 0, 1) := by decide +kernel
theorem dX3_goRound_46 : decode cX3_goRound 46 = .ok (.getfield 9, 3) := by decide +kernel
theorem dX3_goRound_49 : decode cX3_goRound 49 = .ok (.iload_n 1, 1) := by decide +kernel
theorem dX3_goRound_50 : decode cX3_goRound 50 = .ok (.iaload, 1) := by decide +kernel
theorem dX3_goRound_51 : decode cX3_goRound 51 = .ok (.aload_n 0, 1) := by decide +kernel
theorem dX3_goRound_52 : decode cX3_goRound 52 = .ok (.getfield 70, 3) := by decide +kernel
theorem dX3_goRound_55 : decode cX3_goRound 55 = .ok (.ifCond .le 10, 3) := by decide +kernel
theorem dX3_goRound_58 : decode cX3_goRound 58 = .ok (.aload_n 0, 1) := by decide +kernel
theorem dX3_goRound_59 : decode cX3_goRound 59 = .ok (.getfield 70, 3) := by decide +kernel
theorem dX3_goRound_62 : decode cX3_goRound 62 = .ok (.goto 10, 3) := by decide +kernel
theorem dX3_goRound_65 : decode cX3_goRound 65 = .ok (.aload_n 0, 1) := by decide +kernel
theorem dX3_goRound_66 : decode cX3_goRound 66 = .ok (.getfield 30, 3) := by decide +kernel
theorem dX3_goRound_69 : decode cX3_goRound 69 = .ok (.getfield 140, 3) := by decide +kernel
theorem dX3_goRound_72 : decode cX3_goRound 72 = .ok (.invokestatic 130, 3) := by decide +kernel
theorem dX3_goRound_75 : decode cX3_goRound 75 = .ok (.putfield 58, 3) := by decide +kernel
theorem dX3_goRound_78 : decode cX3_goRound 78 = .ok (.aload_n 0, 1) := by decide +kernel
theorem dX3_goRound_79 : decode cX3_goRound 79 = .ok (.getfield 58, 3) := by decide +kernel
theorem dX3_goRound_82 : decode cX3_goRound 82 = .ok (.aload_n 0, 1) := by decide +kernel
theorem dX3_goRound_83 : decode cX3_goRound 83 = .ok (.getfield 9, 3) := by decide +kernel
theorem dX3_goRound_86 : decode cX3_goRound 86 = .ok (.iload_n 1, 1) := by decide +kernel
theorem dX3_goRound_87 : decode cX3_goRound 87 = .ok (.iaload, 1) := by decide +kernel
theorem dX3_goRound_88 : decode cX3_goRound 88 = .ok (.if_icmp .eq 4, 3) := by decide +kernel
theorem dX3_goRound_91 : decode cX3_goRound 91 = .ok (.return_, 1) := by decide +kernel
theorem dX3_goRound_92 : decode cX3_goRound 92 = .ok (.iload_n 1, 1) := by decide +kernel
theorem dX3_goRound_93 : decode cX3_goRound 93 = .ok (.aload_n 0, 1) := by decide +kernel
theorem dX3_goRound_94 : decode cX3_goRound 94 = .ok (.getfield 34, 3) := by decide +kernel
theorem dX3_goRound_97 : decode cX3_goRound 97 = .ok (.if_icmp .eq 9, 3) := by decide +kernel
theorem dX3_goRound_100 : decode cX3_goRound 100 = .ok (.aload_n 0, 1) := by decide +kernel
theorem dX3_goRound_101 : decode cX3_goRound 101 = .ok (.iload_n 1, 1) := by decide +kernel
theorem dX3_goRound_102 : decode cX3_goRound 102 = .ok (.iconst 1, 1) := by decide +kernel
theorem dX3_goRound_103 : decode cX3_goRound 103 = .ok (.invokevirtual 87, 3) := by decide +kernel
theorem dX3_goRound_106 : decode cX3_goRound 106 = .ok (.aload_n 0, 1) := by decide +kernel
theorem dX3_goRound_107 : decode cX3_goRound 107 = .ok (.dup, 1) := by decide +kernel
theorem dX3_goRound_108 : decode cX3_goRound 108 = .ok (.getfield 64, 3) := by decide +kernel
theorem dX3_goRound_111 : decode cX3_goRound 111 = .ok (.iconst 1, 1) := by decide +kernel
theorem dX3_goRound_112 : decode cX3_goRound 112 = .ok (.iadd, 1) := by decide +kernel
theorem dX3_goRound_113 : decode cX3_goRound 113 = .ok (.putfield 64, 3) := by decide +kernel
theorem dX3_goRound_116 : decode cX3_goRound 116 = .ok (.return_, 1) := by decide +kernel
theorem dX3_ears_0 : decode cX3_ears 0 = .ok (.aload_n 0, 1) := by decide +kernel
theorem dX3_ears_1 : decode cX3_ears 1 = .ok (.getfield 17, 3) := by decide +kernel
theorem dX3_ears_4 : decode cX3_ears 4 = .ok (.iload_n 1, 1) := by decide +kernel
theorem dX3_ears_5 : decode cX3_ears 5 = .ok (.aaload, 1) := by decide +kernel
theorem dX3_ears_6 : decode cX3_ears 6 = .ok (.astore_n 2, 1) := by decide +kernel
theorem dX3_ears_7 : decode cX3_ears 7 = .ok (.aload_n 0, 1) := by decide +kernel
theorem dX3_ears_8 : decode cX3_ears 8 = .ok (.getfield 26, 3) := by decide +kernel
theorem dX3_ears_11 : decode cX3_ears 11 = .ok (.iconst 0, 1) := by decide +kernel
theorem dX3_ears_12 : decode cX3_ears 12 = .ok (.iload_n 1, 1) := by decide +kernel
theorem dX3_ears_13 : decode cX3_ears 13 = .ok (.iastore, 1) := by decide +kernel
theorem dX3_ears_14 : decode cX3_ears 14 = .ok (.aload_n 0, 1) := by decide +kernel
theorem dX3_ears_15 : decode cX3_ears 15 = .ok (.getfield 26, 3) := by decide +kernel
theorem dX3_ears_18 : decode cX3_ears 18 = .ok (.iconst 1, 1) := by decide +kernel
theorem dX3_ears_19 : decode cX3_ears 19 = .ok (.aload_n 2, 1) := by decide +kernel
theorem dX3_ears_20 : decode cX3_ears 20 = .ok (.getfield 143, 3) := by decide +kernel
theorem dX3_ears_23 : decode cX3_ears 23 = .ok (.iastore, 1) := by decide +kernel
theorem dX3_ears_24 : decode cX3_ears 24 = .ok (.aload_n 0, 1) := by decide +kernel
theorem dX3_ears_25 : decode cX3_ears 25 = .ok (.getfield 26, 3) := by decide +kernel
theorem dX3_ears_28 : decode cX3_ears 28 = .ok (.iconst 2, 1) := by decide +kernel
theorem dX3_ears_29 : decode cX3_ears 29 = .ok (.aload_n 2, 1) := by decide +kernel
theorem dX3_ears_30 : decode cX3_ears 30 = .ok (.getfield 146, 3) := by decide +kernel
theorem dX3_ears_33 : decode cX3_ears 33 = .ok (.iastore, 1) := by decide +kernel
theorem dX3_ears_34 : decode cX3_ears 34 = .ok (.aload_n 0, 1) := by decide +kernel
theorem dX3_ears_35 : decode cX3_ears 35 = .ok (.getfield 26, 3) := by decide +kernel
theorem dX3_ears_38 : decode cX3_ears 38 = .ok (.iconst 3, 1) := by decide +kernel
theorem dX3_ears_39 : decode cX3_ears 39 = .ok (.aload_n 2, 1) := by decide +kernel
theorem dX3_ears_40 : decode cX3_ears 40 = .ok (.getfield 80, 3) := by decide +kernel
theorem dX3_ears_43 : decode cX3_ears 43 = .ok (.iastore, 1) := by decide +kernel
theorem dX3_ears_44 : decode cX3_ears 44 = .ok (.aload_n 0, 1) := by decide +kernel
theorem dX3_ears_45 : decode cX3_ears 45 = .ok (.getfield 26, 3) := by decide +kernel
theorem dX3_ears_48 : decode cX3_ears 48 = .ok (.iconst 4, 1) := by decide +kernel
theorem dX3_ears_49 : decode cX3_ears 49 = .ok (.aload_n 2, 1) := by decide +kernel
theorem dX3_ears_50 : decode cX3_ears 50 = .ok (.getfield 137, 3) := by decide +kernel
theorem dX3_ears_53 : decode cX3_ears 53 = .ok (.invokestatic 95, 3) := by decide +kernel
theorem dX3_ears_56 : decode cX3_ears 56 = .ok (.iastore, 1) := by decide +kernel
theorem dX3_ears_57 : decode cX3_ears 57 = .ok (.aload_n 0, 1) := by decide +kernel
theorem dX3_ears_58 : decode cX3_ears 58 = .ok (.getfield 26, 3) := by decide +kernel
theorem dX3_ears_61 : decode cX3_ears 61 = .ok (.iconst 5, 1) := by decide +kernel
theorem dX3_ears_62 : decode cX3_ears 62 = .ok (.aload_n 0, 1) := by decide +kernel
theorem dX3_ears_63 : decode cX3_ears 63 = .ok (.getfield 67, 3) := by decide +kernel
theorem dX3_ears_66 : decode cX3_ears 66 = .ok (.bipush 10, 2) := by decide +kernel
theorem dX3_ears_68 : decode cX3_ears 68 = .ok (.irem, 1) := by decide +kernel
theorem dX3_ears_69 : decode cX3_ears 69 = .ok (.iastore, 1) := by decide +kernel
theorem dX3_ears_70 : decode cX3_ears 70 = .ok (.aload_n 0, 1) := by decide +kernel
theorem dX3_ears_71 : decode cX3_ears 71 = .ok (.getfield 30, 3) := by decide +kernel
theorem dX3_ears_74 : decode cX3_ears 74 = .ok (.aload_n 0, 1) := by decide +kernel
theorem dX3_ears_75 : decode cX3_ears 75 = .ok (.getfield 26, 3) := by decide +kernel
theorem dX3_ears_78 : decode cX3_ears 78 = .ok (.invokevirtual 149, 3) := by decide +kernel
theorem dX3_ears_81 : decode cX3_ears 81 = .ok (.ireturn, 1) := by decide +kernel
theorem dX3_hears_0 : decode cX3_hears 0 = .ok (.aload_n 0, 1) := by decide +kernel
theorem dX3_hears_1 : decode cX3_hears 1 = .ok (.getfield 17, 3) := by decide +kernel
theorem dX3_hears_4 : decode cX3_hears 4 = .ok (.iload_n 1, 1) := by decide +kernel
theorem dX3_hears_5 : decode cX3_hears 5 = .ok (.aaload, 1) := by decide +kernel
theorem dX3_hears_6 : decode cX3_hears 6 = .ok (.getfield 80, 3) := by decide +kernel
theorem dX3_hears_9 : decode cX3_hears 9 = .ok (.aload_n 0, 1) := by decide +kernel
theorem dX3_hears_10 : decode cX3_hears 10 = .ok (.getfield 58, 3) := by decide +kernel
theorem dX3_hears_13 : decode cX3_hears 13 = .ok (.invokestatic 153, 3) := by decide +kernel
theorem dX3_hears_16 : decode cX3_hears 16 = .ok (.aload_n 0, 1) := by decide +kernel
theorem dX3_hears_17 : decode cX3_hears 17 = .ok (.getfield 30, 3) := by decide +kernel
theorem dX3_hears_20 : decode cX3_hears 20 = .ok (.getfield 157, 3) := by decide +kernel
theorem dX3_hears_23 : decode cX3_hears 23 = .ok (.aload_n 0, 1) := by decide +kernel
theorem dX3_hears_24 : decode cX3_hears 24 = .ok (.iload_n 1, 1) := by decide +kernel
theorem dX3_hears_25 : decode cX3_hears 25 = .ok (.invokevirtual 160, 3) := by decide +kernel
theorem dX3_hears_28 : decode cX3_hears 28 = .ok (.iadd, 1) := by decide +kernel
theorem dX3_hears_29 : decode cX3_hears 29 = .ok (.if_icmp .gt 7, 3) := by decide +kernel
theorem dX3_hears_32 : decode cX3_hears 32 = .ok (.iconst 1, 1) := by decide +kernel
theorem dX3_hears_33 : decode cX3_hears 33 = .ok (.goto 4, 3) := by decide +kernel
theorem dX3_hears_36 : decode cX3_hears 36 = .ok (.iconst 0, 1) := by decide +kernel
theorem dX3_hears_37 : decode cX3_hears 37 = .ok (.ireturn, 1) := by decide +kernel
theorem dX3_steps_0 : decode cX3_steps 0 = .ok (.aload_n 1, 1) := by decide +kernel
theorem dX3_steps_1 : decode cX3_steps 1 = .ok (.getfield 143, 3) := by decide +kernel
theorem dX3_steps_4 : decode cX3_steps 4 = .ok (.tableswitch 102 1 6 #[40, 42, 102, 57, 73, 88], 40) := by decide +kernel
theorem dX3_steps_44 : decode cX3_steps 44 = .ok (.iconst 1, 1) := by decide +kernel
theorem dX3_steps_45 : decode cX3_steps 45 = .ok (.ireturn, 1) := by decide +kernel
theorem dX3_steps_46 : decode cX3_steps 46 = .ok (.aload_n 0, 1) := by decide +kernel
theorem dX3_steps_47 : decode cX3_steps 47 = .ok (.getfield 67, 3) := by decide +kernel
theorem dX3_steps_50 : decode cX3_steps 50 = .ok (.iconst 3, 1) := by decide +kernel
theorem dX3_steps_51 : decode cX3_steps 51 = .ok (.irem, 1) := by decide +kernel
theorem dX3_steps_52 : decode cX3_steps 52 = .ok (.ifCond .ne 7, 3) := by decide +kernel
theorem dX3_steps_55 : decode cX3_steps 55 = .ok (.iconst 0, 1) := by decide +kernel
theorem dX3_steps_56 : decode cX3_steps 56 = .ok (.goto 4, 3) := by decide +kernel
theorem dX3_steps_59 : decode cX3_steps 59 = .ok (.iconst 3, 1) := by decide +kernel
theorem dX3_steps_60 : decode cX3_steps 60 = .ok (.ireturn, 1) := by decide +kernel
theorem dX3_steps_61 : decode cX3_steps 61 = .ok (.aload_n 0, 1) := by decide +kernel
theorem dX3_steps_62 : decode cX3_steps 62 = .ok (.getfield 67, 3) := by decide +kernel
theorem dX3_steps_65 : decode cX3_steps 65 = .ok (.iconst 2, 1) := by decide +kernel
theorem dX3_steps_66 : decode cX3_steps 66 = .ok (.irem, 1) := by decide +kernel
theorem dX3_steps_67 : decode cX3_steps 67 = .ok (.iconst 1, 1) := by decide +kernel
theorem dX3_steps_68 : decode cX3_steps 68 = .ok (.if_icmp .ne 7, 3) := by decide +kernel
theorem dX3_steps_71 : decode cX3_steps 71 = .ok (.iconst 0, 1) := by decide +kernel
theorem dX3_steps_72 : decode cX3_steps 72 = .ok (.goto 4, 3) := by decide +kernel
theorem dX3_steps_75 : decode cX3_steps 75 = .ok (.iconst 1, 1) := by decide +kernel
theorem dX3_steps_76 : decode cX3_steps 76 = .ok (.ireturn, 1) := by decide +kernel
theorem dX3_steps_77 : decode cX3_steps 77 = .ok (.aload_n 0, 1) := by decide +kernel
theorem dX3_steps_78 : decode cX3_steps 78 = .ok (.getfield 67, 3) := by decide +kernel
theorem dX3_steps_81 : decode cX3_steps 81 = .ok (.iconst 3, 1) := by decide +kernel
theorem dX3_steps_82 : decode cX3_steps 82 = .ok (.irem, 1) := by decide +kernel
theorem dX3_steps_83 : decode cX3_steps 83 = .ok (.ifCond .ne 7, 3) := by decide +kernel
theorem dX3_steps_86 : decode cX3_steps 86 = .ok (.iconst 1, 1) := by decide +kernel
theorem dX3_steps_87 : decode cX3_steps 87 = .ok (.goto 4, 3) := by decide +kernel
theorem dX3_steps_90 : decode cX3_steps 90 = .ok (.iconst 4, 1) := by decide +kernel
theorem dX3_steps_91 : decode cX3_steps 91 = .ok (.ireturn, 1) := by decide +kernel
theorem dX3_steps_92 : decode cX3_steps 92 = .ok (.iconst 2, 1) := by decide +kernel
theorem dX3_steps_93 : decode cX3_steps 93 = .ok (.aload_n 1, 1) := by decide +kernel
theorem dX3_steps_94 : decode cX3_steps 94 = .ok (.getfield 163, 3) := by decide +kernel
theorem dX3_steps_97 : decode cX3_steps 97 = .ok (.aload_n 0, 1) := by decide +kernel
theorem dX3_steps_98 : decode cX3_steps 98 = .ok (.getfield 67, 3) := by decide +kernel
theorem dX3_steps_101 : decode cX3_steps 101 = .ok (.iconst 4, 1) := by decide +kernel
theorem dX3_steps_102 : decode cX3_steps 102 = .ok (.irem, 1) := by decide +kernel
theorem dX3_steps_103 : decode cX3_steps 103 = .ok (.iaload, 1) := by decide +kernel
theorem dX3_steps_104 : decode cX3_steps 104 = .ok (.iadd, 1) := by decide +kernel
theorem dX3_steps_105 : decode cX3_steps 105 = .ok (.ireturn, 1) := by decide +kernel
theorem dX3_steps_106 : decode cX3_steps 106 = .ok (.iconst 2, 1) := by decide +kernel
theorem dX3_steps_107 : decode cX3_steps 107 = .ok (.ireturn, 1) := by decide +kernel
theorem dX3_goal_0 : decode cX3_goal 0 = .ok (.aload_n 1, 1) := by decide +kernel
theorem dX3_goal_1 : decode cX3_goal 1 = .ok (.getfield 143, 3) := by decide +kernel
theorem dX3_goal_4 : decode cX3_goal 4 = .ok (.iconst 3, 1) := by decide +kernel
theorem dX3_goal_5 : decode cX3_goal 5 = .ok (.if_icmp .eq 12, 3) := by decide +kernel
theorem dX3_goal_8 : decode cX3_goal 8 = .ok (.aload_n 1, 1) := by decide +kernel
theorem dX3_goal_9 : decode cX3_goal 9 = .ok (.getfield 143, 3) := by decide +kernel
theorem dX3_goal_12 : decode cX3_goal 12 = .ok (.bipush 6, 2) := by decide +kernel
theorem dX3_goal_14 : decode cX3_goal 14 = .ok (.if_icmp .ne 7, 3) := by decide +kernel
theorem dX3_goal_17 : decode cX3_goal 17 = .ok (.iconst 1, 1) := by decide +kernel
theorem dX3_goal_18 : decode cX3_goal 18 = .ok (.goto 4, 3) := by decide +kernel
theorem dX3_goal_21 : decode cX3_goal 21 = .ok (.iconst 0, 1) := by decide +kernel
theorem dX3_goal_22 : decode cX3_goal 22 = .ok (.istore_n 2, 1) := by decide +kernel
theorem dX3_goal_23 : decode cX3_goal 23 = .ok (.bipush (-5), 2) := by decide +kernel
theorem dX3_goal_25 : decode cX3_goal 25 = .ok (.istore_n 3, 1) := by decide +kernel
theorem dX3_goal_26 : decode cX3_goal 26 = .ok (.iconst 0, 1) := by decide +kernel
theorem dX3_goal_27 : decode cX3_goal 27 = .ok (.istore 4, 2) := by decide +kernel
theorem dX3_goal_29 : decode cX3_goal 29 = .ok (.iconst 0, 1) := by decide +kernel
theorem dX3_goal_30 : decode cX3_goal 30 = .ok (.istore 5, 2) := by decide +kernel
theorem dX3_goal_32 : decode cX3_goal 32 = .ok (.iload 5, 2) := by decide +kernel
theorem dX3_goal_34 : decode cX3_goal 34 = .ok (.aload_n 0, 1) := by decide +kernel
theorem dX3_goal_35 : decode cX3_goal 35 = .ok (.getfield 52, 3) := by decide +kernel
theorem dX3_goal_38 : decode cX3_goal 38 = .ok (.if_icmp .ge 77, 3) := by decide +kernel
theorem dX3_goal_41 : decode cX3_goal 41 = .ok (.aload_n 1, 1) := by decide +kernel
theorem dX3_goal_42 : decode cX3_goal 42 = .ok (.getfield 137, 3) := by decide +kernel
theorem dX3_goal_45 : decode cX3_goal 45 = .ok (.iload 5, 2) := by decide +kernel
theorem dX3_goal_47 : decode cX3_goal 47 = .ok (.ishr, 1) := by decide +kernel
theorem dX3_goal_48 : decode cX3_goal 48 = .ok (.iconst 1, 1) := by decide +kernel
theorem dX3_goal_49 : decode cX3_goal 49 = .ok (.iand, 1) := by decide +kernel
theorem dX3_goal_50 : decode cX3_goal 50 = .ok (.ifCond .ne 59, 3) := by decide +kernel
theorem dX3_goal_53 : decode cX3_goal 53 = .ok (.iload_n 2, 1) := by decide +kernel
theorem dX3_goal_54 : decode cX3_goal 54 = .ok (.ifCond .eq 21, 3) := by decide +kernel
theorem dX3_goal_57 : decode cX3_goal 57 = .ok (.aload_n 0, 1) := by decide +kernel
theorem dX3_goal_58 : decode cX3_goal 58 = .ok (.getfield 58, 3) := by decide +kernel
theorem dX3_goal_61 : decode cX3_goal 61 = .ok (.aload_n 0, 1) := by decide +kernel
theorem dX3_goal_62 : decode cX3_goal 62 = .ok (.getfield 9, 3) := by decide +kernel
theorem dX3_goal_65 : decode cX3_goal 65 = .ok (.iload 5, 2) := by decide +kernel
theorem dX3_goal_67 : decode cX3_goal 67 = .ok (.iaload, 1) := by decide +kernel
theorem dX3_goal_68 : decode cX3_goal 68 = .ok (.invokestatic 153, 3) := by decide +kernel
theorem dX3_goal_71 : decode cX3_goal 71 = .ok (.ineg, 1) := by decide +kernel
theorem dX3_goal_72 : decode cX3_goal 72 = .ok (.goto 17, 3) := by decide +kernel
theorem dX3_goal_75 : decode cX3_goal 75 = .ok (.aload_n 1, 1) := by decide +kernel
theorem dX3_goal_76 : decode cX3_goal 76 = .ok (.getfield 80, 3) := by decide +kernel
theorem dX3_goal_79 : decode cX3_goal 79 = .ok (.aload_n 0, 1) := by decide +kernel
theorem dX3_goal_80 : decode cX3_goal 80 = .ok (.getfield 9, 3) := by decide +kernel
theorem dX3_goal_83 : decode cX3_goal 83 = .ok (.iload 5, 2) := by decide +kernel
theorem dX3_goal_85 : decode cX3_goal 85 = .ok (.iaload, 1) := by decide +kernel
theorem dX3_goal_86 : decode cX3_goal 86 = .ok (.invokestatic 153, 3) := by decide +kernel
theorem dX3_goal_89 : decode cX3_goal 89 = .ok (.istore 6, 2) := by decide +kernel
theorem dX3_goal_91 : decode cX3_goal 91 = .ok (.iload_n 3, 1) := by decide +kernel
theorem dX3_goal_92 : decode cX3_goal 92 = .ok (.ifCond .lt 10, 3) := by decide +kernel
theorem dX3_goal_95 : decode cX3_goal 95 = .ok (.iload 6, 2) := by decide +kernel
theorem dX3_goal_97 : decode cX3_goal 97 = .ok (.iload 4, 2) := by decide +kernel
theorem dX3_goal_99 : decode cX3_goal 99 = .ok (.if_icmp .ge 10, 3) := by decide +kernel
theorem dX3_goal_102 : decode cX3_goal 102 = .ok (.iload 5, 2) := by decide +kernel
theorem dX3_goal_104 : decode cX3_goal 104 = .ok (.istore_n 3, 1) := by decide +kernel
theorem dX3_goal_105 : decode cX3_goal 105 = .ok (.iload 6, 2) := by decide +kernel
theorem dX3_goal_107 : decode cX3_goal 107 = .ok (.istore 4, 2) := by decide +kernel
theorem dX3_goal_109 : decode cX3_goal 109 = .ok (.iinc 5 1, 3) := by decide +kernel
theorem dX3_goal_112 : decode cX3_goal 112 = .ok (.goto (-80), 3) := by decide +kernel
theorem dX3_goal_115 : decode cX3_goal 115 = .ok (.iload_n 3, 1) := by decide +kernel
theorem dX3_goal_116 : decode cX3_goal 116 = .ok (.ireturn, 1) := by decide +kernel
theorem dX3_way_0 : decode cX3_way 0 = .ok (.iload_n 1, 1) := by decide +kernel
theorem dX3_way_1 : decode cX3_way 1 = .ok (.iload_n 0, 1) := by decide +kernel
theorem dX3_way_2 : decode cX3_way 2 = .ok (.isub, 1) := by decide +kernel
theorem dX3_way_3 : decode cX3_way 3 = .ok (.bipush 30, 2) := by decide +kernel
theorem dX3_way_5 : decode cX3_way 5 = .ok (.invokestatic 166, 3) := by decide +kernel
theorem dX3_way_8 : decode cX3_way 8 = .ok (.istore_n 2, 1) := by decide +kernel
theorem dX3_way_9 : decode cX3_way 9 = .ok (.iload_n 2, 1) := by decide +kernel
theorem dX3_way_10 : decode cX3_way 10 = .ok (.bipush 30, 2) := by decide +kernel
theorem dX3_way_12 : decode cX3_way 12 = .ok (.iload_n 2, 1) := by decide +kernel
theorem dX3_way_13 : decode cX3_way 13 = .ok (.isub, 1) := by decide +kernel
theorem dX3_way_14 : decode cX3_way 14 = .ok (.invokestatic 171, 3) := by decide +kernel
theorem dX3_way_17 : decode cX3_way 17 = .ok (.ireturn, 1) := by decide +kernel
theorem dX3_toward_0 : decode cX3_toward 0 = .ok (.iload_n 1, 1) := by decide +kernel
theorem dX3_toward_1 : decode cX3_toward 1 = .ok (.iload_n 0, 1) := by decide +kernel
theorem dX3_toward_2 : decode cX3_toward 2 = .ok (.isub, 1) := by decide +kernel
theorem dX3_toward_3 : decode cX3_toward 3 = .ok (.bipush 30, 2) := by decide +kernel
theorem dX3_toward_5 : decode cX3_toward 5 = .ok (.invokestatic 166, 3) := by decide +kernel
theorem dX3_toward_8 : decode cX3_toward 8 = .ok (.istore_n 3, 1) := by decide +kernel
theorem dX3_toward_9 : decode cX3_toward 9 = .ok (.iload_n 2, 1) := by decide +kernel
theorem dX3_toward_10 : decode cX3_toward 10 = .ok (.iload_n 3, 1) := by decide +kernel
theorem dX3_toward_11 : decode cX3_toward 11 = .ok (.bipush 30, 2) := by decide +kernel
theorem dX3_toward_13 : decode cX3_toward 13 = .ok (.iload_n 3, 1) := by decide +kernel
theorem dX3_toward_14 : decode cX3_toward 14 = .ok (.isub, 1) := by decide +kernel
theorem dX3_toward_15 : decode cX3_toward 15 = .ok (.invokestatic 171, 3) := by decide +kernel
theorem dX3_toward_18 : decode cX3_toward 18 = .ok (.invokestatic 171, 3) := by decide +kernel
theorem dX3_toward_21 : decode cX3_toward 21 = .ok (.istore 4, 2) := by decide +kernel
theorem dX3_toward_23 : decode cX3_toward 23 = .ok (.iload_n 3, 1) := by decide +kernel
theorem dX3_toward_24 : decode cX3_toward 24 = .ok (.iconst 2, 1) := by decide +kernel
theorem dX3_toward_25 : decode cX3_toward 25 = .ok (.imul, 1) := by decide +kernel
theorem dX3_toward_26 : decode cX3_toward 26 = .ok (.bipush 30, 2) := by decide +kernel
theorem dX3_toward_28 : decode cX3_toward 28 = .ok (.if_icmp .gt 10, 3) := by decide +kernel
theorem dX3_toward_31 : decode cX3_toward 31 = .ok (.iload_n 0, 1) := by decide +kernel
theorem dX3_toward_32 : decode cX3_toward 32 = .ok (.iload 4, 2) := by decide +kernel
theorem dX3_toward_34 : decode cX3_toward 34 = .ok (.iadd, 1) := by decide +kernel
theorem dX3_toward_35 : decode cX3_toward 35 = .ok (.goto 7, 3) := by decide +kernel
theorem dX3_toward_38 : decode cX3_toward 38 = .ok (.iload_n 0, 1) := by decide +kernel
theorem dX3_toward_39 : decode cX3_toward 39 = .ok (.iload 4, 2) := by decide +kernel
theorem dX3_toward_41 : decode cX3_toward 41 = .ok (.isub, 1) := by decide +kernel
theorem dX3_toward_42 : decode cX3_toward 42 = .ok (.bipush 30, 2) := by decide +kernel
theorem dX3_toward_44 : decode cX3_toward 44 = .ok (.invokestatic 166, 3) := by decide +kernel
theorem dX3_toward_47 : decode cX3_toward 47 = .ok (.ireturn, 1) := by decide +kernel
theorem dX4_init_0 : decode cX4_init 0 = .ok (.aload_n 0, 1) := by decide +kernel
theorem dX4_init_1 : decode cX4_init 1 = .ok (.invokespecial 3, 3) := by decide +kernel
theorem dX4_init_4 : decode cX4_init 4 = .ok (.aload_n 0, 1) := by decide +kernel
theorem dX4_init_5 : decode cX4_init 5 = .ok (.iconst 4, 1) := by decide +kernel
theorem dX4_init_6 : decode cX4_init 6 = .ok (.newarray .int, 2) := by decide +kernel
theorem dX4_init_8 : decode cX4_init 8 = .ok (.putfield 9, 3) := by decide +kernel
theorem dX4_init_11 : decode cX4_init 11 = .ok (.return_, 1) := by decide +kernel
theorem dX4_begin_0 : decode cX4_begin 0 = .ok (.aload_n 0, 1) := by decide +kernel
theorem dX4_begin_1 : decode cX4_begin 1 = .ok (.iload_n 1, 1) := by decide +kernel
theorem dX4_begin_2 : decode cX4_begin 2 = .ok (.putfield 15, 3) := by decide +kernel
theorem dX4_begin_5 : decode cX4_begin 5 = .ok (.aload_n 0, 1) := by decide +kernel
theorem dX4_begin_6 : decode cX4_begin 6 = .ok (.iload_n 2, 1) := by decide +kernel
theorem dX4_begin_7 : decode cX4_begin 7 = .ok (.putfield 19, 3) := by decide +kernel
theorem dX4_begin_10 : decode cX4_begin 10 = .ok (.aload_n 0, 1) := by decide +kernel
theorem dX4_begin_11 : decode cX4_begin 11 = .ok (.iload_n 3, 1) := by decide +kernel
theorem dX4_begin_12 : decode cX4_begin 12 = .ok (.putfield 22, 3) := by decide +kernel
theorem dX4_begin_15 : decode cX4_begin 15 = .ok (.aload_n 0, 1) := by decide +kernel
theorem dX4_begin_16 : decode cX4_begin 16 = .ok (.iconst 0, 1) := by decide +kernel
theorem dX4_begin_17 : decode cX4_begin 17 = .ok (.putfield 25, 3) := by decide +kernel
theorem dX4_begin_20 : decode cX4_begin 20 = .ok (.aload_n 0, 1) := by decide +kernel
theorem dX4_begin_21 : decode cX4_begin 21 = .ok (.iconst 0, 1) := by decide +kernel
theorem dX4_begin_22 : decode cX4_begin 22 = .ok (.putfield 28, 3) := by decide +kernel
theorem dX4_begin_25 : decode cX4_begin 25 = .ok (.aload_n 0, 1) := by decide +kernel
theorem dX4_begin_26 : decode cX4_begin 26 = .ok (.iconst 0, 1) := by decide +kernel
theorem dX4_begin_27 : decode cX4_begin 27 = .ok (.putfield 32, 3) := by decide +kernel
theorem dX4_begin_30 : decode cX4_begin 30 = .ok (.iconst 0, 1) := by decide +kernel
theorem dX4_begin_31 : decode cX4_begin 31 = .ok (.istore 4, 2) := by decide +kernel
theorem dX4_begin_33 : decode cX4_begin 33 = .ok (.iload 4, 2) := by decide +kernel
theorem dX4_begin_35 : decode cX4_begin 35 = .ok (.iconst 4, 1) := by decide +kernel
theorem dX4_begin_36 : decode cX4_begin 36 = .ok (.if_icmp .ge 17, 3) := by decide +kernel
theorem dX4_begin_39 : decode cX4_begin 39 = .ok (.aload_n 0, 1) := by decide +kernel
theorem dX4_begin_40 : decode cX4_begin 40 = .ok (.getfield 9, 3) := by decide +kernel
theorem dX4_begin_43 : decode cX4_begin 43 = .ok (.iload 4, 2) := by decide +kernel
theorem dX4_begin_45 : decode cX4_begin 45 = .ok (.iconst 0, 1) := by decide +kernel
theorem dX4_begin_46 : decode cX4_begin 46 = .ok (.iastore, 1) := by decide +kernel
theorem dX4_begin_47 : decode cX4_begin 47 = .ok (.iinc 4 1, 3) := by decide +kernel
theorem dX4_begin_50 : decode cX4_begin 50 = .ok (.goto (-17), 3) := by decide +kernel
theorem dX4_begin_53 : decode cX4_begin 53 = .ok (.return_, 1) := by decide +kernel
theorem dX4_copyFrom_0 : decode cX4_copyFrom 0 = .ok (.aload_n 0, 1) := by decide +kernel
theorem dX4_copyFrom_1 : decode cX4_copyFrom 1 = .ok (.aload_n 1, 1) := by decide +kernel
theorem dX4_copyFrom_2 : decode cX4_copyFrom 2 = .ok (.getfield 15, 3) := by decide +kernel
theorem dX4_copyFrom_5 : decode cX4_copyFrom 5 = .ok (.putfield 15, 3) := by decide +kernel
theorem dX4_copyFrom_8 : decode cX4_copyFrom 8 = .ok (.aload_n 0, 1) := by decide +kernel
theorem dX4_copyFrom_9 : decode cX4_copyFrom 9 = .ok (.aload_n 1, 1) := by decide +kernel
theorem dX4_copyFrom_10 : decode cX4_copyFrom 10 = .ok (.getfield 19, 3) := by decide +kernel
theorem dX4_copyFrom_13 : decode cX4_copyFrom 13 = .ok (.putfield 19, 3) := by decide +kernel
theorem dX4_copyFrom_16 : decode cX4_copyFrom 16 = .ok (.aload_n 0, 1) := by decide +kernel
theorem dX4_copyFrom_17 : decode cX4_copyFrom 17 = .ok (.aload_n 1, 1) := by decide +kernel
theorem dX4_copyFrom_18 : decode cX4_copyFrom 18 = .ok (.getfield 22, 3) := by decide +kernel
theorem dX4_copyFrom_21 : decode cX4_copyFrom 21 = .ok (.putfield 22, 3) := by decide +kernel
theorem dX4_copyFrom_24 : decode cX4_copyFrom 24 = .ok (.aload_n 0, 1) := by decide +kernel
theorem dX4_copyFrom_25 : decode cX4_copyFrom 25 = .ok (.aload_n 1, 1) := by decide +kernel
theorem dX4_copyFrom_26 : decode cX4_copyFrom 26 = .ok (.getfield 25, 3) := by decide +kernel
theorem dX4_copyFrom_29 : decode cX4_copyFrom 29 = .ok (.putfield 25, 3) := by decide +kernel
theorem dX4_copyFrom_32 : decode cX4_copyFrom 32 = .ok (.aload_n 0, 1) := by decide +kernel
theorem dX4_copyFrom_33 : decode cX4_copyFrom 33 = .ok (.aload_n 1, 1) := by decide +kernel
theorem dX4_copyFrom_34 : decode cX4_copyFrom 34 = .ok (.getfield 28, 3) := by decide +kernel
theorem dX4_copyFrom_37 : decode cX4_copyFrom 37 = .ok (.putfield 28, 3) := by decide +kernel
theorem dX4_copyFrom_40 : decode cX4_copyFrom 40 = .ok (.aload_n 0, 1) := by decide +kernel
theorem dX4_copyFrom_41 : decode cX4_copyFrom 41 = .ok (.aload_n 1, 1) := by decide +kernel
theorem dX4_copyFrom_42 : decode cX4_copyFrom 42 = .ok (.getfield 32, 3) := by decide +kernel
theorem dX4_copyFrom_45 : decode cX4_copyFrom 45 = .ok (.putfield 32, 3) := by decide +kernel
theorem dX4_copyFrom_48 : decode cX4_copyFrom 48 = .ok (.aload_n 1, 1) := by decide +kernel
theorem dX4_copyFrom_49 : decode cX4_copyFrom 49 = .ok (.getfield 9, 3) := by decide +kernel
theorem dX4_copyFrom_52 : decode cX4_copyFrom 52 = .ok (.iconst 0, 1) := by decide +kernel
theorem dX4_copyFrom_53 : decode cX4_copyFrom 53 = .ok (.aload_n 0, 1) := by decide +kernel
theorem dX4_copyFrom_54 : decode cX4_copyFrom 54 = .ok (.getfield 9, 3) := by decide +kernel
theorem dX4_copyFrom_57 : decode cX4_copyFrom 57 = .ok (.iconst 0, 1) := by decide +kernel
theorem dX4_copyFrom_58 : decode cX4_copyFrom 58 = .ok (.iconst 4, 1) := by decide +kernel
theorem dX4_copyFrom_59 : decode cX4_copyFrom 59 = .ok (.invokestatic 35, 3) := by decide +kernel
theorem dX4_copyFrom_62 : decode cX4_copyFrom 62 = .ok (.return_, 1) := by decide +kernel
theorem dX5_init_0 : decode cX5_init 0 = .ok (.aload_n 0, 1) := by decide +kernel
theorem dX5_init_1 : decode cX5_init 1 = .ok (.invokespecial 3, 3) := by decide +kernel
theorem dX5_init_4 : decode cX5_init 4 = .ok (.aload_n 0, 1) := by decide +kernel
theorem dX5_init_5 : decode cX5_init 5 = .ok (.bipush 100, 2) := by decide +kernel
theorem dX5_init_7 : decode cX5_init 7 = .ok (.newarray .byte, 2) := by decide +kernel
theorem dX5_init_9 : decode cX5_init 9 = .ok (.putfield 9, 3) := by decide +kernel
theorem dX5_init_12 : decode cX5_init 12 = .ok (.aload_n 0, 1) := by decide +kernel
theorem dX5_init_13 : decode cX5_init 13 = .ok (.new 15, 3) := by decide +kernel
theorem dX5_init_16 : decode cX5_init 16 = .ok (.dup, 1) := by decide +kernel
theorem dX5_init_17 : decode cX5_init 17 = .ok (.invokespecial 17, 3) := by decide +kernel
theorem dX5_init_20 : decode cX5_init 20 = .ok (.putfield 18, 3) := by decide +kernel
theorem dX5_init_23 : decode cX5_init 23 = .ok (.return_, 1) := by decide +kernel
theorem dX5_addSign_0 : decode cX5_addSign 0 = .ok (.aload_n 0, 1) := by decide +kernel
theorem dX5_addSign_1 : decode cX5_addSign 1 = .ok (.getfield 9, 3) := by decide +kernel
theorem dX5_addSign_4 : decode cX5_addSign 4 = .ok (.aload_n 0, 1) := by decide +kernel
theorem dX5_addSign_5 : decode cX5_addSign 5 = .ok (.getfield 22, 3) := by decide +kernel
theorem dX5_addSign_8 : decode cX5_addSign 8 = .ok (.iload_n 1, 1) := by decide +kernel
theorem dX5_addSign_9 : decode cX5_addSign 9 = .ok (.i2b, 1) := by decide +kernel
theorem dX5_addSign_10 : decode cX5_addSign 10 = .ok (.bastore, 1) := by decide +kernel
theorem dX5_addSign_11 : decode cX5_addSign 11 = .ok (.aload_n 0, 1) := by decide +kernel
theorem dX5_addSign_12 : decode cX5_addSign 12 = .ok (.dup, 1) := by decide +kernel
theorem dX5_addSign_13 : decode cX5_addSign 13 = .ok (.getfield 22, 3) := by decide +kernel
theorem dX5_addSign_16 : decode cX5_addSign 16 = .ok (.iconst 1, 1) := by decide +kernel
theorem dX5_addSign_17 : decode cX5_addSign 17 = .ok (.iadd, 1) := by decide +kernel
theorem dX5_addSign_18 : decode cX5_addSign 18 = .ok (.putfield 22, 3) := by decide +kernel
theorem dX5_addSign_21 : decode cX5_addSign 21 = .ok (.aload_n 0, 1) := by decide +kernel
theorem dX5_addSign_22 : decode cX5_addSign 22 = .ok (.getfield 22, 3) := by decide +kernel
theorem dX5_addSign_25 : decode cX5_addSign 25 = .ok (.ireturn, 1) := by decide +kernel
theorem dX5_readInto_0 : decode cX5_readInto 0 = .ok (.aload_n 0, 1) := by decide +kernel
theorem dX5_readInto_1 : decode cX5_readInto 1 = .ok (.aload_n 1, 1) := by decide +kernel
theorem dX5_readInto_2 : decode cX5_readInto 2 = .ok (.putfield 18, 3) := by decide +kernel
theorem dX5_readInto_5 : decode cX5_readInto 5 = .ok (.aload_n 0, 1) := by decide +kernel
theorem dX5_readInto_6 : decode cX5_readInto 6 = .ok (.getfield 18, 3) := by decide +kernel
theorem dX5_readInto_9 : decode cX5_readInto 9 = .ok (.invokevirtual 26, 3) := by decide +kernel
theorem dX5_readInto_12 : decode cX5_readInto 12 = .ok (.aload_n 0, 1) := by decide +kernel
theorem dX5_readInto_13 : decode cX5_readInto 13 = .ok (.iconst 0, 1) := by decide +kernel
theorem dX5_readInto_14 : decode cX5_readInto 14 = .ok (.putfield 29, 3) := by decide +kernel
theorem dX5_readInto_17 : decode cX5_readInto 17 = .ok (.iconst 1, 1) := by decide +kernel
theorem dX5_readInto_18 : decode cX5_readInto 18 = .ok (.istore_n 2, 1) := by decide +kernel
theorem dX5_readInto_19 : decode cX5_readInto 19 = .ok (.iload_n 2, 1) := by decide +kernel
theorem dX5_readInto_20 : decode cX5_readInto 20 = .ok (.bipush 10, 2) := by decide +kernel
theorem dX5_readInto_22 : decode cX5_readInto 22 = .ok (.if_icmp .gt 54, 3) := by decide +kernel
theorem dX5_readInto_25 : decode cX5_readInto 25 = .ok (.aload_n 0, 1) := by decide +kernel
theorem dX5_readInto_26 : decode cX5_readInto 26 = .ok (.invokevirtual 32, 3) := by decide +kernel
theorem dX5_readInto_29 : decode cX5_readInto 29 = .ok (.ifCond .ne 8, 3) := by decide +kernel
theorem dX5_readInto_32 : decode cX5_readInto 32 = .ok (.aload_n 0, 1) := by decide +kernel
theorem dX5_readInto_33 : decode cX5_readInto 33 = .ok (.getfield 29, 3) := by decide +kernel
theorem dX5_readInto_36 : decode cX5_readInto 36 = .ok (.ireturn, 1) := by decide +kernel
theorem dX5_readInto_37 : decode cX5_readInto 37 = .ok (.aload_n 0, 1) := by decide +kernel
theorem dX5_readInto_38 : decode cX5_readInto 38 = .ok (.getfield 29, 3) := by decide +kernel
theorem dX5_readInto_41 : decode cX5_readInto 41 = .ok (.aload_n 0, 1) := by decide +kernel
theorem dX5_readInto_42 : decode cX5_readInto 42 = .ok (.getfield 22, 3) := by decide +kernel
theorem dX5_readInto_45 : decode cX5_readInto 45 = .ok (.if_icmp .ne 5, 3) := by decide +kernel
theorem dX5_readInto_48 : decode cX5_readInto 48 = .ok (.iconst (-1), 1) := by decide +kernel
theorem dX5_readInto_49 : decode cX5_readInto 49 = .ok (.ireturn, 1) := by decide +kernel
theorem dX5_readInto_50 : decode cX5_readInto 50 = .ok (.iload_n 2, 1) := by decide +kernel
theorem dX5_readInto_51 : decode cX5_readInto 51 = .ok (.bipush 10, 2) := by decide +kernel
theorem dX5_readInto_53 : decode cX5_readInto 53 = .ok (.if_icmp .eq 12, 3) := by decide +kernel
theorem dX5_readInto_56 : decode cX5_readInto 56 = .ok (.aload_n 0, 1) := by decide +kernel
theorem dX5_readInto_57 : decode cX5_readInto 57 = .ok (.bipush 59, 2) := by decide +kernel
theorem dX5_readInto_59 : decode cX5_readInto 59 = .ok (.invokevirtual 36, 3) := by decide +kernel
theorem dX5_readInto_62 : decode cX5_readInto 62 = .ok (.ifCond .ne 8, 3) := by decide +kernel
theorem dX5_readInto_65 : decode cX5_readInto 65 = .ok (.aload_n 0, 1) := by decide +kernel
theorem dX5_readInto_66 : decode cX5_readInto 66 = .ok (.getfield 29, 3) := by decide +kernel
theorem dX5_readInto_69 : decode cX5_readInto 69 = .ok (.ireturn, 1) := by decide +kernel
theorem dX5_readInto_70 : decode cX5_readInto 70 = .ok (.iinc 2 1, 3) := by decide +kernel
theorem dX5_readInto_73 : decode cX5_readInto 73 = .ok (.goto (-54), 3) := by decide +kernel
theorem dX5_readInto_76 : decode cX5_readInto 76 = .ok (.aload_n 0, 1) := by decide +kernel
theorem dX5_readInto_77 : decode cX5_readInto 77 = .ok (.getfield 29, 3) := by decide +kernel
theorem dX5_readInto_80 : decode cX5_readInto 80 = .ok (.ireturn, 1) := by decide +kernel
theorem dX5_isNext_0 : decode cX5_isNext 0 = .ok (.aload_n 0, 1) := by decide +kernel
theorem dX5_isNext_1 : decode cX5_isNext 1 = .ok (.getfield 29, 3) := by decide +kernel
theorem dX5_isNext_4 : decode cX5_isNext 4 = .ok (.aload_n 0, 1) := by decide +kernel
theorem dX5_isNext_5 : decode cX5_isNext 5 = .ok (.getfield 22, 3) := by decide +kernel
theorem dX5_isNext_8 : decode cX5_isNext 8 = .ok (.if_icmp .ge 20, 3) := by decide +kernel
theorem dX5_isNext_11 : decode cX5_isNext 11 = .ok (.aload_n 0, 1) := by decide +kernel
theorem dX5_isNext_12 : decode cX5_isNext 12 = .ok (.getfield 9, 3) := by decide +kernel
theorem dX5_isNext_15 : decode cX5_isNext 15 = .ok (.aload_n 0, 1) := by decide +kernel
theorem dX5_isNext_16 : decode cX5_isNext 16 = .ok (.getfield 29, 3) := by decide +kernel
theorem dX5_isNext_19 : decode cX5_isNext 19 = .ok (.baload, 1) := by decide +kernel
theorem dX5_isNext_20 : decode cX5_isNext 20 = .ok (.iload_n 1, 1) := by decide +kernel
theorem dX5_isNext_21 : decode cX5_isNext 21 = .ok (.if_icmp .ne 7, 3) := by decide +kernel
theorem dX5_isNext_24 : decode cX5_isNext 24 = .ok (.iconst 1, 1) := by decide +kernel
theorem dX5_isNext_25 : decode cX5_isNext 25 = .ok (.goto 4, 3) := by decide +kernel
theorem dX5_isNext_28 : decode cX5_isNext 28 = .ok (.iconst 0, 1) := by decide +kernel
theorem dX5_isNext_29 : decode cX5_isNext 29 = .ok (.ireturn, 1) := by decide +kernel
theorem dX5_skip_0 : decode cX5_skip 0 = .ok (.aload_n 0, 1) := by decide +kernel
theorem dX5_skip_1 : decode cX5_skip 1 = .ok (.iload_n 1, 1) := by decide +kernel
theorem dX5_skip_2 : decode cX5_skip 2 = .ok (.invokevirtual 40, 3) := by decide +kernel
theorem dX5_skip_5 : decode cX5_skip 5 = .ok (.ifCond .ne 5, 3) := by decide +kernel
theorem dX5_skip_8 : decode cX5_skip 8 = .ok (.iconst 0, 1) := by decide +kernel
theorem dX5_skip_9 : decode cX5_skip 9 = .ok (.ireturn, 1) := by decide +kernel
theorem dX5_skip_10 : decode cX5_skip 10 = .ok (.aload_n 0, 1) := by decide +kernel
theorem dX5_skip_11 : decode cX5_skip 11 = .ok (.dup, 1) := by decide +kernel
theorem dX5_skip_12 : decode cX5_skip 12 = .ok (.getfield 29, 3) := by decide +kernel
theorem dX5_skip_15 : decode cX5_skip 15 = .ok (.iconst 1, 1) := by decide +kernel
theorem dX5_skip_16 : decode cX5_skip 16 = .ok (.iadd, 1) := by decide +kernel
theorem dX5_skip_17 : decode cX5_skip 17 = .ok (.putfield 29, 3) := by decide +kernel
theorem dX5_skip_20 : decode cX5_skip 20 = .ok (.iconst 1, 1) := by decide +kernel
theorem dX5_skip_21 : decode cX5_skip 21 = .ok (.ireturn, 1) := by decide +kernel
theorem dX5_readClause_0 : decode cX5_readClause 0 = .ok (.aload_n 0, 1) := by decide +kernel
theorem dX5_readClause_1 : decode cX5_readClause 1 = .ok (.bipush 107, 2) := by decide +kernel
theorem dX5_readClause_3 : decode cX5_readClause 3 = .ok (.invokevirtual 40, 3) := by decide +kernel
theorem dX5_readClause_6 : decode cX5_readClause 6 = .ok (.istore_n 1, 1) := by decide +kernel
theorem dX5_readClause_7 : decode cX5_readClause 7 = .ok (.aload_n 0, 1) := by decide +kernel
theorem dX5_readClause_8 : decode cX5_readClause 8 = .ok (.bipush 100, 2) := by decide +kernel
theorem dX5_readClause_10 : decode cX5_readClause 10 = .ok (.invokevirtual 40, 3) := by decide +kernel
theorem dX5_readClause_13 : decode cX5_readClause 13 = .ok (.istore_n 2, 1) := by decide +kernel
theorem dX5_readClause_14 : decode cX5_readClause 14 = .ok (.aload_n 0, 1) := by decide +kernel
theorem dX5_readClause_15 : decode cX5_readClause 15 = .ok (.bipush 98, 2) := by decide +kernel
theorem dX5_readClause_17 : decode cX5_readClause 17 = .ok (.invokevirtual 40, 3) := by decide +kernel
theorem dX5_readClause_20 : decode cX5_readClause 20 = .ok (.istore_n 3, 1) := by decide +kernel
theorem dX5_readClause_21 : decode cX5_readClause 21 = .ok (.aload_n 0, 1) := by decide +kernel
theorem dX5_readClause_22 : decode cX5_readClause 22 = .ok (.iload_n 1, 1) := by decide +kernel
theorem dX5_readClause_23 : decode cX5_readClause 23 = .ok (.ifCond .eq 8, 3) := by decide +kernel
theorem dX5_readClause_26 : decode cX5_readClause 26 = .ok (.ldc 43, 2) := by decide +kernel
theorem dX5_readClause_28 : decode cX5_readClause 28 = .ok (.goto 23, 3) := by decide +kernel
theorem dX5_readClause_31 : decode cX5_readClause 31 = .ok (.iload_n 2, 1) := by decide +kernel
theorem dX5_readClause_32 : decode cX5_readClause 32 = .ok (.ifCond .eq 8, 3) := by decide +kernel
theorem dX5_readClause_35 : decode cX5_readClause 35 = .ok (.ldc 45, 2) := by decide +kernel
theorem dX5_readClause_37 : decode cX5_readClause 37 = .ok (.goto 14, 3) := by decide +kernel
theorem dX5_readClause_40 : decode cX5_readClause 40 = .ok (.iload_n 3, 1) := by decide +kernel
theorem dX5_readClause_41 : decode cX5_readClause 41 = .ok (.ifCond .eq 8, 3) := by decide +kernel
theorem dX5_readClause_44 : decode cX5_readClause 44 = .ok (.ldc 47, 2) := by decide +kernel
theorem dX5_readClause_46 : decode cX5_readClause 46 = .ok (.goto 5, 3) := by decide +kernel
theorem dX5_readClause_49 : decode cX5_readClause 49 = .ok (.ldc 49, 2) := by decide +kernel
theorem dX5_readClause_51 : decode cX5_readClause 51 = .ok (.invokevirtual 51, 3) := by decide +kernel
theorem dX5_readClause_54 : decode cX5_readClause 54 = .ok (.ifCond .ne 5, 3) := by decide +kernel
theorem dX5_readClause_57 : decode cX5_readClause 57 = .ok (.iconst 0, 1) := by decide +kernel
theorem dX5_readClause_58 : decode cX5_readClause 58 = .ok (.ireturn, 1) := by decide +kernel
theorem dX5_readClause_59 : decode cX5_readClause 59 = .ok (.aload_n 0, 1) := by decide +kernel
theorem dX5_readClause_60 : decode cX5_readClause 60 = .ok (.invokevirtual 55, 3) := by decide +kernel
theorem dX5_readClause_63 : decode cX5_readClause 63 = .ok (.istore 4, 2) := by decide +kernel
theorem dX5_readClause_65 : decode cX5_readClause 65 = .ok (.iload 4, 2) := by decide +kernel
theorem dX5_readClause_67 : decode cX5_readClause 67 = .ok (.ifCond .ge 5, 3) := by decide +kernel
theorem dX5_readClause_70 : decode cX5_readClause 70 = .ok (.iconst 0, 1) := by decide +kernel
theorem dX5_readClause_71 : decode cX5_readClause 71 = .ok (.ireturn, 1) := by decide +kernel
theorem dX5_readClause_72 : decode cX5_readClause 72 = .ok (.iload_n 3, 1) := by decide +kernel
theorem dX5_readClause_73 : decode cX5_readClause 73 = .ok (.ifCond .eq 14, 3) := by decide +kernel
theorem dX5_readClause_76 : decode cX5_readClause 76 = .ok (.aload_n 0, 1) := by decide +kernel
theorem dX5_readClause_77 : decode cX5_readClause 77 = .ok (.getfield 18, 3) := by decide +kernel
theorem dX5_readClause_80 : decode cX5_readClause 80 = .ok (.iload 4, 2) := by decide +kernel
theorem dX5_readClause_82 : decode cX5_readClause 82 = .ok (.putfield 59, 3) := by decide +kernel
theorem dX5_readClause_85 : decode cX5_readClause 85 = .ok (.iconst 1, 1) := by decide +kernel
theorem dX5_readClause_86 : decode cX5_readClause 86 = .ok (.ireturn, 1) := by decide +kernel
theorem dX5_readClause_87 : decode cX5_readClause 87 = .ok (.iload_n 1, 1) := by decide +kernel
theorem dX5_readClause_88 : decode cX5_readClause 88 = .ok (.ifCond .ne 27, 3) := by decide +kernel
theorem dX5_readClause_91 : decode cX5_readClause 91 = .ok (.iload_n 2, 1) := by decide +kernel
theorem dX5_readClause_92 : decode cX5_readClause 92 = .ok (.ifCond .ne 23, 3) := by decide +kernel
theorem dX5_readClause_95 : decode cX5_readClause 95 = .ok (.aload_n 0, 1) := by decide +kernel
theorem dX5_readClause_96 : decode cX5_readClause 96 = .ok (.getfield 18, 3) := by decide +kernel
theorem dX5_readClause_99 : decode cX5_readClause 99 = .ok (.iconst 1, 1) := by decide +kernel
theorem dX5_readClause_100 : decode cX5_readClause 100 = .ok (.bipush 9, 2) := by decide +kernel
theorem dX5_readClause_102 : decode cX5_readClause 102 = .ok (.iload 4, 2) := by decide +kernel
theorem dX5_readClause_104 : decode cX5_readClause 104 = .ok (.invokestatic 62, 3) := by decide +kernel
theorem dX5_readClause_107 : decode cX5_readClause 107 = .ok (.invokestatic 68, 3) := by decide +kernel
theorem dX5_readClause_110 : decode cX5_readClause 110 = .ok (.putfield 71, 3) := by decide +kernel
theorem dX5_readClause_113 : decode cX5_readClause 113 = .ok (.iconst 1, 1) := by decide +kernel
theorem dX5_readClause_114 : decode cX5_readClause 114 = .ok (.ireturn, 1) := by decide +kernel
theorem dX5_readClause_115 : decode cX5_readClause 115 = .ok (.aload_n 0, 1) := by decide +kernel
theorem dX5_readClause_116 : decode cX5_readClause 116 = .ok (.bipush 32, 2) := by decide +kernel
theorem dX5_readClause_118 : decode cX5_readClause 118 = .ok (.invokevirtual 36, 3) := by decide +kernel
theorem dX5_readClause_121 : decode cX5_readClause 121 = .ok (.ifCond .eq 11, 3) := by decide +kernel
theorem dX5_readClause_124 : decode cX5_readClause 124 = .ok (.aload_n 0, 1) := by decide +kernel
theorem dX5_readClause_125 : decode cX5_readClause 125 = .ok (.iconst 0, 1) := by decide +kernel
theorem dX5_readClause_126 : decode cX5_readClause 126 = .ok (.invokevirtual 74, 3) := by decide +kernel
theorem dX5_readClause_129 : decode cX5_readClause 129 = .ok (.ifCond .ne 5, 3) := by decide +kernel
theorem dX5_readClause_132 : decode cX5_readClause 132 = .ok (.iconst 0, 1) := by decide +kernel
theorem dX5_readClause_133 : decode cX5_readClause 133 = .ok (.ireturn, 1) := by decide +kernel
theorem dX5_readClause_134 : decode cX5_readClause 134 = .ok (.aload_n 0, 1) := by decide +kernel
theorem dX5_readClause_135 : decode cX5_readClause 135 = .ok (.getfield 18, 3) := by decide +kernel
theorem dX5_readClause_138 : decode cX5_readClause 138 = .ok (.iload_n 1, 1) := by decide +kernel
theorem dX5_readClause_139 : decode cX5_readClause 139 = .ok (.ifCond .eq 9, 3) := by decide +kernel
theorem dX5_readClause_142 : decode cX5_readClause 142 = .ok (.sipush 2000, 3) := by decide +kernel
theorem dX5_readClause_145 : decode cX5_readClause 145 = .ok (.goto 6, 3) := by decide +kernel
theorem dX5_readClause_148 : decode cX5_readClause 148 = .ok (.sipush 3000, 3) := by decide +kernel
theorem dX5_readClause_151 : decode cX5_readClause 151 = .ok (.iload 4, 2) := by decide +kernel
theorem dX5_readClause_153 : decode cX5_readClause 153 = .ok (.iadd, 1) := by decide +kernel
theorem dX5_readClause_154 : decode cX5_readClause 154 = .ok (.invokevirtual 78, 3) := by decide +kernel
theorem dX5_readClause_157 : decode cX5_readClause 157 = .ok (.iconst 1, 1) := by decide +kernel
theorem dX5_readClause_158 : decode cX5_readClause 158 = .ok (.ireturn, 1) := by decide +kernel
theorem dX5_readWord_0 : decode cX5_readWord 0 = .ok (.iconst 0, 1) := by decide +kernel
theorem dX5_readWord_1 : decode cX5_readWord 1 = .ok (.istore_n 2, 1) := by decide +kernel
theorem dX5_readWord_2 : decode cX5_readWord 2 = .ok (.iload_n 2, 1) := by decide +kernel
theorem dX5_readWord_3 : decode cX5_readWord 3 = .ok (.aload_n 1, 1) := by decide +kernel
theorem dX5_readWord_4 : decode cX5_readWord 4 = .ok (.invokevirtual 82, 3) := by decide +kernel
theorem dX5_readWord_7 : decode cX5_readWord 7 = .ok (.if_icmp .ge 23, 3) := by decide +kernel
theorem dX5_readWord_10 : decode cX5_readWord 10 = .ok (.aload_n 0, 1) := by decide +kernel
theorem dX5_readWord_11 : decode cX5_readWord 11 = .ok (.aload_n 1, 1) := by decide +kernel
theorem dX5_readWord_12 : decode cX5_readWord 12 = .ok (.iload_n 2, 1) := by decide +kernel
theorem dX5_readWord_13 : decode cX5_readWord 13 = .ok (.invokevirtual 86, 3) := by decide +kernel
theorem dX5_readWord_16 : decode cX5_readWord 16 = .ok (.invokevirtual 36, 3) := by decide +kernel
theorem dX5_readWord_19 : decode cX5_readWord 19 = .ok (.ifCond .ne 5, 3) := by decide +kernel
theorem dX5_readWord_22 : decode cX5_readWord 22 = .ok (.iconst 0, 1) := by decide +kernel
theorem dX5_readWord_23 : decode cX5_readWord 23 = .ok (.ireturn, 1) := by decide +kernel
theorem dX5_readWord_24 : decode cX5_readWord 24 = .ok (.iinc 2 1, 3) := by decide +kernel
theorem dX5_readWord_27 : decode cX5_readWord 27 = .ok (.goto (-25), 3) := by decide +kernel
theorem dX5_readWord_30 : decode cX5_readWord 30 = .ok (.iconst 1, 1) := by decide +kernel
theorem dX5_readWord_31 : decode cX5_readWord 31 = .ok (.ireturn, 1) := by decide +kernel
theorem dX5_readNumber_0 : decode cX5_readNumber 0 = .ok (.iconst (-1), 1) := by decide +kernel
theorem dX5_readNumber_1 : decode cX5_readNumber 1 = .ok (.istore_n 1, 1) := by decide +kernel
theorem dX5_readNumber_2 : decode cX5_readNumber 2 = .ok (.iconst 0, 1) := by decide +kernel
theorem dX5_readNumber_3 : decode cX5_readNumber 3 = .ok (.istore_n 2, 1) := by decide +kernel
theorem dX5_readNumber_4 : decode cX5_readNumber 4 = .ok (.iload_n 2, 1) := by decide +kernel
theorem dX5_readNumber_5 : decode cX5_readNumber 5 = .ok (.iconst 2, 1) := by decide +kernel
theorem dX5_readNumber_6 : decode cX5_readNumber 6 = .ok (.if_icmp .ge 80, 3) := by decide +kernel
theorem dX5_readNumber_9 : decode cX5_readNumber 9 = .ok (.aload_n 0, 1) := by decide +kernel
theorem dX5_readNumber_10 : decode cX5_readNumber 10 = .ok (.getfield 29, 3) := by decide +kernel
theorem dX5_readNumber_13 : decode cX5_readNumber 13 = .ok (.aload_n 0, 1) := by decide +kernel
theorem dX5_readNumber_14 : decode cX5_readNumber 14 = .ok (.getfield 22, 3) := by decide +kernel
theorem dX5_readNumber_17 : decode cX5_readNumber 17 = .ok (.if_icmp .ge 69, 3) := by decide +kernel
theorem dX5_readNumber_20 : decode cX5_readNumber 20 = .ok (.aload_n 0, 1) := by decide +kernel
theorem dX5_readNumber_21 : decode cX5_readNumber 21 = .ok (.getfield 9, 3) := by decide +kernel
theorem dX5_readNumber_24 : decode cX5_readNumber 24 = .ok (.aload_n 0, 1) := by decide +kernel
theorem dX5_readNumber_25 : decode cX5_readNumber 25 = .ok (.getfield 29, 3) := by decide +kernel
theorem dX5_readNumber_28 : decode cX5_readNumber 28 = .ok (.baload, 1) := by decide +kernel
theorem dX5_readNumber_29 : decode cX5_readNumber 29 = .ok (.bipush 48, 2) := by decide +kernel
theorem dX5_readNumber_31 : decode cX5_readNumber 31 = .ok (.if_icmp .lt 55, 3) := by decide +kernel
theorem dX5_readNumber_34 : decode cX5_readNumber 34 = .ok (.aload_n 0, 1) := by decide +kernel
theorem dX5_readNumber_35 : decode cX5_readNumber 35 = .ok (.getfield 9, 3) := by decide +kernel
theorem dX5_readNumber_38 : decode cX5_readNumber 38 = .ok (.aload_n 0, 1) := by decide +kernel
theorem dX5_readNumber_39 : decode cX5_readNumber 39 = .ok (.getfield 29, 3) := by decide +kernel
theorem dX5_readNumber_42 : decode cX5_readNumber 42 = .ok (.baload, 1) := by decide +kernel
theorem dX5_readNumber_43 : decode cX5_readNumber 43 = .ok (.bipush 57, 2) := by decide +kernel
theorem dX5_readNumber_45 : decode cX5_readNumber 45 = .ok (.if_icmp .gt 41, 3) := by decide +kernel
theorem dX5_readNumber_48 : decode cX5_readNumber 48 = .ok (.iload_n 1, 1) := by decide +kernel
theorem dX5_readNumber_49 : decode cX5_readNumber 49 = .ok (.iconst 0, 1) := by decide +kernel
theorem dX5_readNumber_50 : decode cX5_readNumber 50 = .ok (.invokestatic 68, 3) := by decide +kernel
theorem dX5_readNumber_53 : decode cX5_readNumber 53 = .ok (.bipush 10, 2) := by decide +kernel
theorem dX5_readNumber_55 : decode cX5_readNumber 55 = .ok (.imul, 1) := by decide +kernel
theorem dX5_readNumber_56 : decode cX5_readNumber 56 = .ok (.aload_n 0, 1) := by decide +kernel
theorem dX5_readNumber_57 : decode cX5_readNumber 57 = .ok (.getfield 9, 3) := by decide +kernel
theorem dX5_readNumber_60 : decode cX5_readNumber 60 = .ok (.aload_n 0, 1) := by decide +kernel
theorem dX5_readNumber_61 : decode cX5_readNumber 61 = .ok (.getfield 29, 3) := by decide +kernel
theorem dX5_readNumber_64 : decode cX5_readNumber 64 = .ok (.baload, 1) := by decide +kernel
theorem dX5_readNumber_65 : decode cX5_readNumber 65 = .ok (.iadd, 1) := by decide +kernel
theorem dX5_readNumber_66 : decode cX5_readNumber 66 = .ok (.bipush 48, 2) := by decide +kernel
theorem dX5_readNumber_68 : decode cX5_readNumber 68 = .ok (.isub, 1) := by decide +kernel
theorem dX5_readNumber_69 : decode cX5_readNumber 69 = .ok (.istore_n 1, 1) := by decide +kernel
theorem dX5_readNumber_70 : decode cX5_readNumber 70 = .ok (.aload_n 0, 1) := by decide +kernel
theorem dX5_readNumber_71 : decode cX5_readNumber 71 = .ok (.dup, 1) := by decide +kernel
theorem dX5_readNumber_72 : decode cX5_readNumber 72 = .ok (.getfield 29, 3) := by decide +kernel
theorem dX5_readNumber_75 : decode cX5_readNumber 75 = .ok (.iconst 1, 1) := by decide +kernel
theorem dX5_readNumber_76 : decode cX5_readNumber 76 = .ok (.iadd, 1) := by decide +kernel
theorem dX5_readNumber_77 : decode cX5_readNumber 77 = .ok (.putfield 29, 3) := by decide +kernel
theorem dX5_readNumber_80 : decode cX5_readNumber 80 = .ok (.iinc 2 1, 3) := by decide +kernel
theorem dX5_readNumber_83 : decode cX5_readNumber 83 = .ok (.goto (-79), 3) := by decide +kernel
theorem dX5_readNumber_86 : decode cX5_readNumber 86 = .ok (.iload_n 1, 1) := by decide +kernel
theorem dX5_readNumber_87 : decode cX5_readNumber 87 = .ok (.ireturn, 1) := by decide +kernel
theorem dX5_readEither_0 : decode cX5_readEither 0 = .ok (.aload_n 0, 1) := by decide +kernel
theorem dX5_readEither_1 : decode cX5_readEither 1 = .ok (.iload_n 1, 1) := by decide +kernel
theorem dX5_readEither_2 : decode cX5_readEither 2 = .ok (.invokevirtual 90, 3) := by decide +kernel
theorem dX5_readEither_5 : decode cX5_readEither 5 = .ok (.ifCond .ne 5, 3) := by decide +kernel
theorem dX5_readEither_8 : decode cX5_readEither 8 = .ok (.iconst 0, 1) := by decide +kernel
theorem dX5_readEither_9 : decode cX5_readEither 9 = .ok (.ireturn, 1) := by decide +kernel
theorem dX5_readEither_10 : decode cX5_readEither 10 = .ok (.iconst 0, 1) := by decide +kernel
theorem dX5_readEither_11 : decode cX5_readEither 11 = .ok (.istore_n 2, 1) := by decide +kernel
theorem dX5_readEither_12 : decode cX5_readEither 12 = .ok (.iload_n 2, 1) := by decide +kernel
theorem dX5_readEither_13 : decode cX5_readEither 13 = .ok (.bipush 100, 2) := by decide +kernel
theorem dX5_readEither_15 : decode cX5_readEither 15 = .ok (.if_icmp .ge 37, 3) := by decide +kernel
theorem dX5_readEither_18 : decode cX5_readEither 18 = .ok (.aload_n 0, 1) := by decide +kernel
theorem dX5_readEither_19 : decode cX5_readEither 19 = .ok (.bipush 124, 2) := by decide +kernel
theorem dX5_readEither_21 : decode cX5_readEither 21 = .ok (.invokevirtual 36, 3) := by decide +kernel
theorem dX5_readEither_24 : decode cX5_readEither 24 = .ok (.ifCond .eq 28, 3) := by decide +kernel
theorem dX5_readEither_27 : decode cX5_readEither 27 = .ok (.aload_n 0, 1) := by decide +kernel
theorem dX5_readEither_28 : decode cX5_readEither 28 = .ok (.iload_n 1, 1) := by decide +kernel
theorem dX5_readEither_29 : decode cX5_readEither 29 = .ok (.invokevirtual 90, 3) := by decide +kernel
theorem dX5_readEither_32 : decode cX5_readEither 32 = .ok (.ifCond .ne 5, 3) := by decide +kernel
theorem dX5_readEither_35 : decode cX5_readEither 35 = .ok (.iconst 0, 1) := by decide +kernel
theorem dX5_readEither_36 : decode cX5_readEither 36 = .ok (.ireturn, 1) := by decide +kernel
theorem dX5_readEither_37 : decode cX5_readEither 37 = .ok (.aload_n 0, 1) := by decide +kernel
theorem dX5_readEither_38 : decode cX5_readEither 38 = .ok (.getfield 18, 3) := by decide +kernel
theorem dX5_readEither_41 : decode cX5_readEither 41 = .ok (.bipush (-3), 2) := by decide +kernel
theorem dX5_readEither_43 : decode cX5_readEither 43 = .ok (.invokevirtual 78, 3) := by decide +kernel
theorem dX5_readEither_46 : decode cX5_readEither 46 = .ok (.iinc 2 1, 3) := by decide +kernel
theorem dX5_readEither_49 : decode cX5_readEither 49 = .ok (.goto (-37), 3) := by decide +kernel
theorem dX5_readEither_52 : decode cX5_readEither 52 = .ok (.iconst 1, 1) := by decide +kernel
theorem dX5_readEither_53 : decode cX5_readEither 53 = .ok (.ireturn, 1) := by decide +kernel
theorem dX5_readBoth_0 : decode cX5_readBoth 0 = .ok (.aload_n 0, 1) := by decide +kernel
theorem dX5_readBoth_1 : decode cX5_readBoth 1 = .ok (.iload_n 1, 1) := by decide +kernel
theorem dX5_readBoth_2 : decode cX5_readBoth 2 = .ok (.invokevirtual 93, 3) := by decide +kernel
theorem dX5_readBoth_5 : decode cX5_readBoth 5 = .ok (.ifCond .ne 5, 3) := by decide +kernel
theorem dX5_readBoth_8 : decode cX5_readBoth 8 = .ok (.iconst 0, 1) := by decide +kernel
theorem dX5_readBoth_9 : decode cX5_readBoth 9 = .ok (.ireturn, 1) := by decide +kernel
theorem dX5_readBoth_10 : decode cX5_readBoth 10 = .ok (.iconst 0, 1) := by decide +kernel
theorem dX5_readBoth_11 : decode cX5_readBoth 11 = .ok (.istore_n 2, 1) := by decide +kernel
theorem dX5_readBoth_12 : decode cX5_readBoth 12 = .ok (.iload_n 2, 1) := by decide +kernel
theorem dX5_readBoth_13 : decode cX5_readBoth 13 = .ok (.bipush 100, 2) := by decide +kernel
theorem dX5_readBoth_15 : decode cX5_readBoth 15 = .ok (.if_icmp .ge 37, 3) := by decide +kernel
theorem dX5_readBoth_18 : decode cX5_readBoth 18 = .ok (.aload_n 0, 1) := by decide +kernel
theorem dX5_readBoth_19 : decode cX5_readBoth 19 = .ok (.bipush 38, 2) := by decide +kernel
theorem dX5_readBoth_21 : decode cX5_readBoth 21 = .ok (.invokevirtual 36, 3) := by decide +kernel
theorem dX5_readBoth_24 : decode cX5_readBoth 24 = .ok (.ifCond .eq 28, 3) := by decide +kernel
theorem dX5_readBoth_27 : decode cX5_readBoth 27 = .ok (.aload_n 0, 1) := by decide +kernel
theorem dX5_readBoth_28 : decode cX5_readBoth 28 = .ok (.iload_n 1, 1) := by decide +kernel
theorem dX5_readBoth_29 : decode cX5_readBoth 29 = .ok (.invokevirtual 93, 3) := by decide +kernel
theorem dX5_readBoth_32 : decode cX5_readBoth 32 = .ok (.ifCond .ne 5, 3) := by decide +kernel
theorem dX5_readBoth_35 : decode cX5_readBoth 35 = .ok (.iconst 0, 1) := by decide +kernel
theorem dX5_readBoth_36 : decode cX5_readBoth 36 = .ok (.ireturn, 1) := by decide +kernel
theorem dX5_readBoth_37 : decode cX5_readBoth 37 = .ok (.aload_n 0, 1) := by decide +kernel
theorem dX5_readBoth_38 : decode cX5_readBoth 38 = .ok (.getfield 18, 3) := by decide +kernel
theorem dX5_readBoth_41 : decode cX5_readBoth 41 = .ok (.bipush (-2), 2) := by decide +kernel
theorem dX5_readBoth_43 : decode cX5_readBoth 43 = .ok (.invokevirtual 78, 3) := by decide +kernel
theorem dX5_readBoth_46 : decode cX5_readBoth 46 = .ok (.iinc 2 1, 3) := by decide +kernel
theorem dX5_readBoth_49 : decode cX5_readBoth 49 = .ok (.goto (-37), 3) := by decide +kernel
theorem dX5_readBoth_52 : decode cX5_readBoth 52 = .ok (.iconst 1, 1) := by decide +kernel
theorem dX5_readBoth_53 : decode cX5_readBoth 53 = .ok (.ireturn, 1) := by decide +kernel
theorem dX5_readPart_0 : decode cX5_readPart 0 = .ok (.aload_n 0, 1) := by decide +kernel
theorem dX5_readPart_1 : decode cX5_readPart 1 = .ok (.bipush 33, 2) := by decide +kernel
theorem dX5_readPart_3 : decode cX5_readPart 3 = .ok (.invokevirtual 40, 3) := by decide +kernel
theorem dX5_readPart_6 : decode cX5_readPart 6 = .ok (.istore_n 2, 1) := by decide +kernel
theorem dX5_readPart_7 : decode cX5_readPart 7 = .ok (.iload_n 2, 1) := by decide +kernel
theorem dX5_readPart_8 : decode cX5_readPart 8 = .ok (.ifCond .ne 17, 3) := by decide +kernel
theorem dX5_readPart_11 : decode cX5_readPart 11 = .ok (.aload_n 0, 1) := by decide +kernel
theorem dX5_readPart_12 : decode cX5_readPart 12 = .ok (.bipush 40, 2) := by decide +kernel
theorem dX5_readPart_14 : decode cX5_readPart 14 = .ok (.invokevirtual 40, 3) := by decide +kernel
theorem dX5_readPart_17 : decode cX5_readPart 17 = .ok (.ifCond .ne 8, 3) := by decide +kernel
theorem dX5_readPart_20 : decode cX5_readPart 20 = .ok (.aload_n 0, 1) := by decide +kernel
theorem dX5_readPart_21 : decode cX5_readPart 21 = .ok (.invokevirtual 96, 3) := by decide +kernel
theorem dX5_readPart_24 : decode cX5_readPart 24 = .ok (.ireturn, 1) := by decide +kernel
theorem dX5_readPart_25 : decode cX5_readPart 25 = .ok (.iload_n 1, 1) := by decide +kernel
theorem dX5_readPart_26 : decode cX5_readPart 26 = .ok (.iconst 4, 1) := by decide +kernel
theorem dX5_readPart_27 : decode cX5_readPart 27 = .ok (.if_icmp .lt 5, 3) := by decide +kernel
theorem dX5_readPart_30 : decode cX5_readPart 30 = .ok (.iconst 0, 1) := by decide +kernel
theorem dX5_readPart_31 : decode cX5_readPart 31 = .ok (.ireturn, 1) := by decide +kernel
theorem dX5_readPart_32 : decode cX5_readPart 32 = .ok (.aload_n 0, 1) := by decide +kernel
theorem dX5_readPart_33 : decode cX5_readPart 33 = .ok (.dup, 1) := by decide +kernel
theorem dX5_readPart_34 : decode cX5_readPart 34 = .ok (.getfield 29, 3) := by decide +kernel
theorem dX5_readPart_37 : decode cX5_readPart 37 = .ok (.iconst 1, 1) := by decide +kernel
theorem dX5_readPart_38 : decode cX5_readPart 38 = .ok (.iadd, 1) := by decide +kernel
theorem dX5_readPart_39 : decode cX5_readPart 39 = .ok (.putfield 29, 3) := by decide +kernel
theorem dX5_readPart_42 : decode cX5_readPart 42 = .ok (.iload_n 2, 1) := by decide +kernel
theorem dX5_readPart_43 : decode cX5_readPart 43 = .ok (.ifCond .eq 13, 3) := by decide +kernel
theorem dX5_readPart_46 : decode cX5_readPart 46 = .ok (.aload_n 0, 1) := by decide +kernel
theorem dX5_readPart_47 : decode cX5_readPart 47 = .ok (.iload_n 1, 1) := by decide +kernel
theorem dX5_readPart_48 : decode cX5_readPart 48 = .ok (.iconst 1, 1) := by decide +kernel
theorem dX5_readPart_49 : decode cX5_readPart 49 = .ok (.iadd, 1) := by decide +kernel
theorem dX5_readPart_50 : decode cX5_readPart 50 = .ok (.invokevirtual 99, 3) := by decide +kernel
theorem dX5_readPart_53 : decode cX5_readPart 53 = .ok (.goto 27, 3) := by decide +kernel
theorem dX5_readPart_56 : decode cX5_readPart 56 = .ok (.aload_n 0, 1) := by decide +kernel
theorem dX5_readPart_57 : decode cX5_readPart 57 = .ok (.iload_n 1, 1) := by decide +kernel
theorem dX5_readPart_58 : decode cX5_readPart 58 = .ok (.iconst 1, 1) := by decide +kernel
theorem dX5_readPart_59 : decode cX5_readPart 59 = .ok (.iadd, 1) := by decide +kernel
theorem dX5_readPart_60 : decode cX5_readPart 60 = .ok (.invokevirtual 74, 3) := by decide +kernel
theorem dX5_readPart_63 : decode cX5_readPart 63 = .ok (.ifCond .eq 16, 3) := by decide +kernel
theorem dX5_readPart_66 : decode cX5_readPart 66 = .ok (.aload_n 0, 1) := by decide +kernel
theorem dX5_readPart_67 : decode cX5_readPart 67 = .ok (.bipush 41, 2) := by decide +kernel
theorem dX5_readPart_69 : decode cX5_readPart 69 = .ok (.invokevirtual 36, 3) := by decide +kernel
theorem dX5_readPart_72 : decode cX5_readPart 72 = .ok (.ifCond .eq 7, 3) := by decide +kernel
theorem dX5_readPart_75 : decode cX5_readPart 75 = .ok (.iconst 1, 1) := by decide +kernel
theorem dX5_readPart_76 : decode cX5_readPart 76 = .ok (.goto 4, 3) := by decide +kernel
theorem dX5_readPart_79 : decode cX5_readPart 79 = .ok (.iconst 0, 1) := by decide +kernel
theorem dX5_readPart_80 : decode cX5_readPart 80 = .ok (.ireturn, 1) := by decide +kernel
theorem dX5_readBehindNot_0 : decode cX5_readBehindNot 0 = .ok (.aload_n 0, 1) := by decide +kernel
theorem dX5_readBehindNot_1 : decode cX5_readBehindNot 1 = .ok (.iload_n 1, 1) := by decide +kernel
theorem dX5_readBehindNot_2 : decode cX5_readBehindNot 2 = .ok (.invokevirtual 93, 3) := by decide +kernel
theorem dX5_readBehindNot_5 : decode cX5_readBehindNot 5 = .ok (.ifCond .ne 5, 3) := by decide +kernel
theorem dX5_readBehindNot_8 : decode cX5_readBehindNot 8 = .ok (.iconst 0, 1) := by decide +kernel
theorem dX5_readBehindNot_9 : decode cX5_readBehindNot 9 = .ok (.ireturn, 1) := by decide +kernel
theorem dX5_readBehindNot_10 : decode cX5_readBehindNot 10 = .ok (.aload_n 0, 1) := by decide +kernel
theorem dX5_readBehindNot_11 : decode cX5_readBehindNot 11 = .ok (.getfield 18, 3) := by decide +kernel
theorem dX5_readBehindNot_14 : decode cX5_readBehindNot 14 = .ok (.iconst (-1), 1) := by decide +kernel
theorem dX5_readBehindNot_15 : decode cX5_readBehindNot 15 = .ok (.invokevirtual 78, 3) := by decide +kernel
theorem dX5_readBehindNot_18 : decode cX5_readBehindNot 18 = .ok (.iconst 1, 1) := by decide +kernel
theorem dX5_readBehindNot_19 : decode cX5_readBehindNot 19 = .ok (.ireturn, 1) := by decide +kernel
theorem dX5_readTest_0 : decode cX5_readTest 0 = .ok (.aload_n 0, 1) := by decide +kernel
theorem dX5_readTest_1 : decode cX5_readTest 1 = .ok (.ldc 102, 2) := by decide +kernel
theorem dX5_readTest_3 : decode cX5_readTest 3 = .ok (.invokevirtual 104, 3) := by decide +kernel
theorem dX5_readTest_6 : decode cX5_readTest 6 = .ok (.istore_n 1, 1) := by decide +kernel
theorem dX5_readTest_7 : decode cX5_readTest 7 = .ok (.iload_n 1, 1) := by decide +kernel
theorem dX5_readTest_8 : decode cX5_readTest 8 = .ok (.ifCond .ge 5, 3) := by decide +kernel
theorem dX5_readTest_11 : decode cX5_readTest 11 = .ok (.iconst 0, 1) := by decide +kernel
theorem dX5_readTest_12 : decode cX5_readTest 12 = .ok (.ireturn, 1) := by decide +kernel
theorem dX5_readTest_13 : decode cX5_readTest 13 = .ok (.aload_n 0, 1) := by decide +kernel
theorem dX5_readTest_14 : decode cX5_readTest 14 = .ok (.ldc 108, 2) := by decide +kernel
theorem dX5_readTest_16 : decode cX5_readTest 16 = .ok (.invokevirtual 104, 3) := by decide +kernel
theorem dX5_readTest_19 : decode cX5_readTest 19 = .ok (.istore_n 2, 1) := by decide +kernel
theorem dX5_readTest_20 : decode cX5_readTest 20 = .ok (.iload_n 2, 1) := by decide +kernel
theorem dX5_readTest_21 : decode cX5_readTest 21 = .ok (.ifCond .ge 5, 3) := by decide +kernel
theorem dX5_readTest_24 : decode cX5_readTest 24 = .ok (.iconst 0, 1) := by decide +kernel
theorem dX5_readTest_25 : decode cX5_readTest 25 = .ok (.ireturn, 1) := by decide +kernel
theorem dX5_readTest_26 : decode cX5_readTest 26 = .ok (.aload_n 0, 1) := by decide +kernel
theorem dX5_readTest_27 : decode cX5_readTest 27 = .ok (.invokevirtual 55, 3) := by decide +kernel
theorem dX5_readTest_30 : decode cX5_readTest 30 = .ok (.istore_n 3, 1) := by decide +kernel
theorem dX5_readTest_31 : decode cX5_readTest 31 = .ok (.iload_n 3, 1) := by decide +kernel
theorem dX5_readTest_32 : decode cX5_readTest 32 = .ok (.ifCond .ge 5, 3) := by decide +kernel
theorem dX5_readTest_35 : decode cX5_readTest 35 = .ok (.iconst 0, 1) := by decide +kernel
theorem dX5_readTest_36 : decode cX5_readTest 36 = .ok (.ireturn, 1) := by decide +kernel
theorem dX5_readTest_37 : decode cX5_readTest 37 = .ok (.aload_n 0, 1) := by decide +kernel
theorem dX5_readTest_38 : decode cX5_readTest 38 = .ok (.getfield 18, 3) := by decide +kernel
theorem dX5_readTest_41 : decode cX5_readTest 41 = .ok (.iload_n 1, 1) := by decide +kernel
theorem dX5_readTest_42 : decode cX5_readTest 42 = .ok (.sipush 300, 3) := by decide +kernel
theorem dX5_readTest_45 : decode cX5_readTest 45 = .ok (.imul, 1) := by decide +kernel
theorem dX5_readTest_46 : decode cX5_readTest 46 = .ok (.iload_n 2, 1) := by decide +kernel
theorem dX5_readTest_47 : decode cX5_readTest 47 = .ok (.bipush 100, 2) := by decide +kernel
theorem dX5_readTest_49 : decode cX5_readTest 49 = .ok (.imul, 1) := by decide +kernel
theorem dX5_readTest_50 : decode cX5_readTest 50 = .ok (.iadd, 1) := by decide +kernel
theorem dX5_readTest_51 : decode cX5_readTest 51 = .ok (.iload_n 3, 1) := by decide +kernel
theorem dX5_readTest_52 : decode cX5_readTest 52 = .ok (.iadd, 1) := by decide +kernel
theorem dX5_readTest_53 : decode cX5_readTest 53 = .ok (.invokevirtual 78, 3) := by decide +kernel
theorem dX5_readTest_56 : decode cX5_readTest 56 = .ok (.iconst 1, 1) := by decide +kernel
theorem dX5_readTest_57 : decode cX5_readTest 57 = .ok (.ireturn, 1) := by decide +kernel
theorem dX5_readOneOf_0 : decode cX5_readOneOf 0 = .ok (.aload_n 0, 1) := by decide +kernel
theorem dX5_readOneOf_1 : decode cX5_readOneOf 1 = .ok (.getfield 29, 3) := by decide +kernel
theorem dX5_readOneOf_4 : decode cX5_readOneOf 4 = .ok (.aload_n 0, 1) := by decide +kernel
theorem dX5_readOneOf_5 : decode cX5_readOneOf 5 = .ok (.getfield 22, 3) := by decide +kernel
theorem dX5_readOneOf_8 : decode cX5_readOneOf 8 = .ok (.if_icmp .ge 20, 3) := by decide +kernel
theorem dX5_readOneOf_11 : decode cX5_readOneOf 11 = .ok (.aload_n 1, 1) := by decide +kernel
theorem dX5_readOneOf_12 : decode cX5_readOneOf 12 = .ok (.aload_n 0, 1) := by decide +kernel
theorem dX5_readOneOf_13 : decode cX5_readOneOf 13 = .ok (.getfield 9, 3) := by decide +kernel
theorem dX5_readOneOf_16 : decode cX5_readOneOf 16 = .ok (.aload_n 0, 1) := by decide +kernel
theorem dX5_readOneOf_17 : decode cX5_readOneOf 17 = .ok (.getfield 29, 3) := by decide +kernel
theorem dX5_readOneOf_20 : decode cX5_readOneOf 20 = .ok (.baload, 1) := by decide +kernel
theorem dX5_readOneOf_21 : decode cX5_readOneOf 21 = .ok (.i2c, 1) := by decide +kernel
theorem dX5_readOneOf_22 : decode cX5_readOneOf 22 = .ok (.invokevirtual 110, 3) := by decide +kernel
theorem dX5_readOneOf_25 : decode cX5_readOneOf 25 = .ok (.goto 4, 3) := by decide +kernel
theorem dX5_readOneOf_28 : decode cX5_readOneOf 28 = .ok (.iconst (-1), 1) := by decide +kernel
theorem dX5_readOneOf_29 : decode cX5_readOneOf 29 = .ok (.istore_n 2, 1) := by decide +kernel
theorem dX5_readOneOf_30 : decode cX5_readOneOf 30 = .ok (.iload_n 2, 1) := by decide +kernel
theorem dX5_readOneOf_31 : decode cX5_readOneOf 31 = .ok (.ifCond .lt 13, 3) := by decide +kernel
theorem dX5_readOneOf_34 : decode cX5_readOneOf 34 = .ok (.aload_n 0, 1) := by decide +kernel
theorem dX5_readOneOf_35 : decode cX5_readOneOf 35 = .ok (.dup, 1) := by decide +kernel
theorem dX5_readOneOf_36 : decode cX5_readOneOf 36 = .ok (.getfield 29, 3) := by decide +kernel
theorem dX5_readOneOf_39 : decode cX5_readOneOf 39 = .ok (.iconst 1, 1) := by decide +kernel
theorem dX5_readOneOf_40 : decode cX5_readOneOf 40 = .ok (.iadd, 1) := by decide +kernel
theorem dX5_readOneOf_41 : decode cX5_readOneOf 41 = .ok (.putfield 29, 3) := by decide +kernel
theorem dX5_readOneOf_44 : decode cX5_readOneOf 44 = .ok (.iload_n 2, 1) := by decide +kernel
theorem dX5_readOneOf_45 : decode cX5_readOneOf 45 = .ok (.ireturn, 1) := by decide +kernel
theorem dX6_init_0 : decode cX6_init 0 = .ok (.aload_n 0, 1) := by decide +kernel
theorem dX6_init_1 : decode cX6_init 1 = .ok (.invokespecial 1, 3) := by decide +kernel
theorem dX6_init_4 : decode cX6_init 4 = .ok (.aload_n 0, 1) := by decide +kernel
theorem dX6_init_5 : decode cX6_init 5 = .ok (.iload_n 1, 1) := by decide +kernel
theorem dX6_init_6 : decode cX6_init 6 = .ok (.newarray .int, 2) := by decide +kernel
theorem dX6_init_8 : decode cX6_init 8 = .ok (.putfield 7, 3) := by decide +kernel
theorem dX6_init_11 : decode cX6_init 11 = .ok (.aload_n 0, 1) := by decide +kernel
theorem dX6_init_12 : decode cX6_init 12 = .ok (.iload_n 1, 1) := by decide +kernel
theorem dX6_init_13 : decode cX6_init 13 = .ok (.newarray .int, 2) := by decide +kernel
theorem dX6_init_15 : decode cX6_init 15 = .ok (.putfield 13, 3) := by decide +kernel
theorem dX6_init_18 : decode cX6_init 18 = .ok (.aload_n 0, 1) := by decide +kernel
theorem dX6_init_19 : decode cX6_init 19 = .ok (.iload_n 1, 1) := by decide +kernel
theorem dX6_init_20 : decode cX6_init 20 = .ok (.newarray .int, 2) := by decide +kernel
theorem dX6_init_22 : decode cX6_init 22 = .ok (.putfield 16, 3) := by decide +kernel
theorem dX6_init_25 : decode cX6_init 25 = .ok (.return_, 1) := by decide +kernel
theorem dX6_isFull_0 : decode cX6_isFull 0 = .ok (.aload_n 0, 1) := by decide +kernel
theorem dX6_isFull_1 : decode cX6_isFull 1 = .ok (.getfield 19, 3) := by decide +kernel
theorem dX6_isFull_4 : decode cX6_isFull 4 = .ok (.aload_n 0, 1) := by decide +kernel
theorem dX6_isFull_5 : decode cX6_isFull 5 = .ok (.getfield 7, 3) := by decide +kernel
theorem dX6_isFull_8 : decode cX6_isFull 8 = .ok (.arraylength, 1) := by decide +kernel
theorem dX6_isFull_9 : decode cX6_isFull 9 = .ok (.if_icmp .lt 7, 3) := by decide +kernel
theorem dX6_isFull_12 : decode cX6_isFull 12 = .ok (.iconst 1, 1) := by decide +kernel
theorem dX6_isFull_13 : decode cX6_isFull 13 = .ok (.goto 4, 3) := by decide +kernel
theorem dX6_isFull_16 : decode cX6_isFull 16 = .ok (.iconst 0, 1) := by decide +kernel
theorem dX6_isFull_17 : decode cX6_isFull 17 = .ok (.ireturn, 1) := by decide +kernel
theorem dX6_addRow_0 : decode cX6_addRow 0 = .ok (.aload_n 0, 1) := by decide +kernel
theorem dX6_addRow_1 : decode cX6_addRow 1 = .ok (.getfield 7, 3) := by decide +kernel
theorem dX6_addRow_4 : decode cX6_addRow 4 = .ok (.aload_n 0, 1) := by decide +kernel
theorem dX6_addRow_5 : decode cX6_addRow 5 = .ok (.getfield 19, 3) := by decide +kernel
theorem dX6_addRow_8 : decode cX6_addRow 8 = .ok (.iload_n 1, 1) := by decide +kernel
theorem dX6_addRow_9 : decode cX6_addRow 9 = .ok (.iastore, 1) := by decide +kernel
theorem dX6_addRow_10 : decode cX6_addRow 10 = .ok (.aload_n 0, 1) := by decide +kernel
theorem dX6_addRow_11 : decode cX6_addRow 11 = .ok (.getfield 13, 3) := by decide +kernel
theorem dX6_addRow_14 : decode cX6_addRow 14 = .ok (.aload_n 0, 1) := by decide +kernel
theorem dX6_addRow_15 : decode cX6_addRow 15 = .ok (.getfield 19, 3) := by decide +kernel
theorem dX6_addRow_18 : decode cX6_addRow 18 = .ok (.iload_n 2, 1) := by decide +kernel
theorem dX6_addRow_19 : decode cX6_addRow 19 = .ok (.iastore, 1) := by decide +kernel
theorem dX6_addRow_20 : decode cX6_addRow 20 = .ok (.aload_n 0, 1) := by decide +kernel
theorem dX6_addRow_21 : decode cX6_addRow 21 = .ok (.getfield 16, 3) := by decide +kernel
theorem dX6_addRow_24 : decode cX6_addRow 24 = .ok (.aload_n 0, 1) := by decide +kernel
theorem dX6_addRow_25 : decode cX6_addRow 25 = .ok (.getfield 19, 3) := by decide +kernel
theorem dX6_addRow_28 : decode cX6_addRow 28 = .ok (.iload_n 3, 1) := by decide +kernel
theorem dX6_addRow_29 : decode cX6_addRow 29 = .ok (.iastore, 1) := by decide +kernel
theorem dX6_addRow_30 : decode cX6_addRow 30 = .ok (.aload_n 0, 1) := by decide +kernel
theorem dX6_addRow_31 : decode cX6_addRow 31 = .ok (.dup, 1) := by decide +kernel
theorem dX6_addRow_32 : decode cX6_addRow 32 = .ok (.getfield 19, 3) := by decide +kernel
theorem dX6_addRow_35 : decode cX6_addRow 35 = .ok (.iconst 1, 1) := by decide +kernel
theorem dX6_addRow_36 : decode cX6_addRow 36 = .ok (.iadd, 1) := by decide +kernel
theorem dX6_addRow_37 : decode cX6_addRow 37 = .ok (.putfield 19, 3) := by decide +kernel
theorem dX6_addRow_40 : decode cX6_addRow 40 = .ok (.aload_n 0, 1) := by decide +kernel
theorem dX6_addRow_41 : decode cX6_addRow 41 = .ok (.getfield 19, 3) := by decide +kernel
theorem dX6_addRow_44 : decode cX6_addRow 44 = .ok (.ireturn, 1) := by decide +kernel
theorem dX6_copyFrom_0 : decode cX6_copyFrom 0 = .ok (.aload_n 0, 1) := by decide +kernel
theorem dX6_copyFrom_1 : decode cX6_copyFrom 1 = .ok (.aload_n 1, 1) := by decide +kernel
theorem dX6_copyFrom_2 : decode cX6_copyFrom 2 = .ok (.getfield 19, 3) := by decide +kernel
theorem dX6_copyFrom_5 : decode cX6_copyFrom 5 = .ok (.aload_n 0, 1) := by decide +kernel
theorem dX6_copyFrom_6 : decode cX6_copyFrom 6 = .ok (.getfield 7, 3) := by decide +kernel
theorem dX6_copyFrom_9 : decode cX6_copyFrom 9 = .ok (.arraylength, 1) := by decide +kernel
theorem dX6_copyFrom_10 : decode cX6_copyFrom 10 = .ok (.invokestatic 23, 3) := by decide +kernel
theorem dX6_copyFrom_13 : decode cX6_copyFrom 13 = .ok (.putfield 19, 3) := by decide +kernel
theorem dX6_copyFrom_16 : decode cX6_copyFrom 16 = .ok (.aload_n 1, 1) := by decide +kernel
theorem dX6_copyFrom_17 : decode cX6_copyFrom 17 = .ok (.getfield 7, 3) := by decide +kernel
theorem dX6_copyFrom_20 : decode cX6_copyFrom 20 = .ok (.iconst 0, 1) := by decide +kernel
theorem dX6_copyFrom_21 : decode cX6_copyFrom 21 = .ok (.aload_n 0, 1) := by decide +kernel
theorem dX6_copyFrom_22 : decode cX6_copyFrom 22 = .ok (.getfield 7, 3) := by decide +kernel
theorem dX6_copyFrom_25 : decode cX6_copyFrom 25 = .ok (.iconst 0, 1) := by decide +kernel
theorem dX6_copyFrom_26 : decode cX6_copyFrom 26 = .ok (.aload_n 0, 1) := by decide +kernel
theorem dX6_copyFrom_27 : decode cX6_copyFrom 27 = .ok (.getfield 19, 3) := by decide +kernel
theorem dX6_copyFrom_30 : decode cX6_copyFrom 30 = .ok (.invokestatic 29, 3) := by decide +kernel
theorem dX6_copyFrom_33 : decode cX6_copyFrom 33 = .ok (.aload_n 1, 1) := by decide +kernel
theorem dX6_copyFrom_34 : decode cX6_copyFrom 34 = .ok (.getfield 13, 3) := by decide +kernel
theorem dX6_copyFrom_37 : decode cX6_copyFrom 37 = .ok (.iconst 0, 1) := by decide +kernel
theorem dX6_copyFrom_38 : decode cX6_copyFrom 38 = .ok (.aload_n 0, 1) := by decide +kernel
theorem dX6_copyFrom_39 : decode cX6_copyFrom 39 = .ok (.getfield 13, 3) := by decide +kernel
theorem dX6_copyFrom_42 : decode cX6_copyFrom 42 = .ok (.iconst 0, 1) := by decide +kernel
theorem dX6_copyFrom_43 : decode cX6_copyFrom 43 = .ok (.aload_n 0, 1) := by decide +kernel
theorem dX6_copyFrom_44 : decode cX6_copyFrom 44 = .ok (.getfield 19, 3) := by decide +kernel
theorem dX6_copyFrom_47 : decode cX6_copyFrom 47 = .ok (.invokestatic 29, 3) := by decide +kernel
theorem dX6_copyFrom_50 : decode cX6_copyFrom 50 = .ok (.aload_n 1, 1) := by decide +kernel
theorem dX6_copyFrom_51 : decode cX6_copyFrom 51 = .ok (.getfield 16, 3) := by decide +kernel
theorem dX6_copyFrom_54 : decode cX6_copyFrom 54 = .ok (.iconst 0, 1) := by decide +kernel
theorem dX6_copyFrom_55 : decode cX6_copyFrom 55 = .ok (.aload_n 0, 1) := by decide +kernel
theorem dX6_copyFrom_56 : decode cX6_copyFrom 56 = .ok (.getfield 16, 3) := by decide +kernel
theorem dX6_copyFrom_59 : decode cX6_copyFrom 59 = .ok (.iconst 0, 1) := by decide +kernel
theorem dX6_copyFrom_60 : decode cX6_copyFrom 60 = .ok (.aload_n 0, 1) := by decide +kernel
theorem dX6_copyFrom_61 : decode cX6_copyFrom 61 = .ok (.getfield 19, 3) := by decide +kernel
theorem dX6_copyFrom_64 : decode cX6_copyFrom 64 = .ok (.invokestatic 29, 3) := by decide +kernel
theorem dX6_copyFrom_67 : decode cX6_copyFrom 67 = .ok (.return_, 1) := by decide +kernel
theorem dX7_init_0 : decode cX7_init 0 = .ok (.aload_n 0, 1) := by decide +kernel
theorem dX7_init_1 : decode cX7_init 1 = .ok (.invokespecial 3, 3) := by decide +kernel
theorem dX7_init_4 : decode cX7_init 4 = .ok (.aload_n 0, 1) := by decide +kernel
theorem dX7_init_5 : decode cX7_init 5 = .ok (.bipush 60, 2) := by decide +kernel
theorem dX7_init_7 : decode cX7_init 7 = .ok (.newarray .long, 2) := by decide +kernel
theorem dX7_init_9 : decode cX7_init 9 = .ok (.putfield 9, 3) := by decide +kernel
theorem dX7_init_12 : decode cX7_init 12 = .ok (.aload_n 0, 1) := by decide +kernel
theorem dX7_init_13 : decode cX7_init 13 = .ok (.iconst (-1), 1) := by decide +kernel
theorem dX7_init_14 : decode cX7_init 14 = .ok (.putfield 15, 3) := by decide +kernel
theorem dX7_init_17 : decode cX7_init 17 = .ok (.return_, 1) := by decide +kernel
theorem dX7_become_0 : decode cX7_become 0 = .ok (.aload_n 0, 1) := by decide +kernel
theorem dX7_become_1 : decode cX7_become 1 = .ok (.iload_n 1, 1) := by decide +kernel
theorem dX7_become_2 : decode cX7_become 2 = .ok (.putfield 15, 3) := by decide +kernel
theorem dX7_become_5 : decode cX7_become 5 = .ok (.aload_n 0, 1) := by decide +kernel
theorem dX7_become_6 : decode cX7_become 6 = .ok (.iload_n 2, 1) := by decide +kernel
theorem dX7_become_7 : decode cX7_become 7 = .ok (.putfield 19, 3) := by decide +kernel
theorem dX7_become_10 : decode cX7_become 10 = .ok (.iconst 0, 1) := by decide +kernel
theorem dX7_become_11 : decode cX7_become 11 = .ok (.istore_n 3, 1) := by decide +kernel
theorem dX7_become_12 : decode cX7_become 12 = .ok (.iload_n 3, 1) := by decide +kernel
theorem dX7_become_13 : decode cX7_become 13 = .ok (.bipush 60, 2) := by decide +kernel
theorem dX7_become_15 : decode cX7_become 15 = .ok (.if_icmp .ge 16, 3) := by decide +kernel
theorem dX7_become_18 : decode cX7_become 18 = .ok (.aload_n 0, 1) := by decide +kernel
theorem dX7_become_19 : decode cX7_become 19 = .ok (.getfield 9, 3) := by decide +kernel
theorem dX7_become_22 : decode cX7_become 22 = .ok (.iload_n 3, 1) := by decide +kernel
theorem dX7_become_23 : decode cX7_become 23 = .ok (.lconst 0, 1) := by decide +kernel
theorem dX7_become_24 : decode cX7_become 24 = .ok (.lastore, 1) := by decide +kernel
theorem dX7_become_25 : decode cX7_become 25 = .ok (.iinc 3 1, 3) := by decide +kernel
theorem dX7_become_28 : decode cX7_become 28 = .ok (.goto (-16), 3) := by decide +kernel
theorem dX7_become_31 : decode cX7_become 31 = .ok (.return_, 1) := by decide +kernel
theorem dX7_hasItem_0 : decode cX7_hasItem 0 = .ok (.iload_n 1, 1) := by decide +kernel
theorem dX7_hasItem_1 : decode cX7_hasItem 1 = .ok (.ifCond .lt 15, 3) := by decide +kernel
theorem dX7_hasItem_4 : decode cX7_hasItem 4 = .ok (.iload_n 1, 1) := by decide +kernel
theorem dX7_hasItem_5 : decode cX7_hasItem 5 = .ok (.aload_n 0, 1) := by decide +kernel
theorem dX7_hasItem_6 : decode cX7_hasItem 6 = .ok (.getfield 19, 3) := by decide +kernel
theorem dX7_hasItem_9 : decode cX7_hasItem 9 = .ok (.if_icmp .ge 7, 3) := by decide +kernel
theorem dX7_hasItem_12 : decode cX7_hasItem 12 = .ok (.iconst 1, 1) := by decide +kernel
theorem dX7_hasItem_13 : decode cX7_hasItem 13 = .ok (.goto 4, 3) := by decide +kernel
theorem dX7_hasItem_16 : decode cX7_hasItem 16 = .ok (.iconst 0, 1) := by decide +kernel
theorem dX7_hasItem_17 : decode cX7_hasItem 17 = .ok (.ireturn, 1) := by decide +kernel
theorem dX7_hasItems_0 : decode cX7_hasItems 0 = .ok (.iload_n 1, 1) := by decide +kernel
theorem dX7_hasItems_1 : decode cX7_hasItems 1 = .ok (.ifCond .lt 21, 3) := by decide +kernel
theorem dX7_hasItems_4 : decode cX7_hasItems 4 = .ok (.iload_n 2, 1) := by decide +kernel
theorem dX7_hasItems_5 : decode cX7_hasItems 5 = .ok (.ifCond .lt 17, 3) := by decide +kernel
theorem dX7_hasItems_8 : decode cX7_hasItems 8 = .ok (.iload_n 2, 1) := by decide +kernel
theorem dX7_hasItems_9 : decode cX7_hasItems 9 = .ok (.aload_n 0, 1) := by decide +kernel
theorem dX7_hasItems_10 : decode cX7_hasItems 10 = .ok (.getfield 19, 3) := by decide +kernel
theorem dX7_hasItems_13 : decode cX7_hasItems 13 = .ok (.iload_n 1, 1) := by decide +kernel
theorem dX7_hasItems_14 : decode cX7_hasItems 14 = .ok (.isub, 1) := by decide +kernel
theorem dX7_hasItems_15 : decode cX7_hasItems 15 = .ok (.if_icmp .gt 7, 3) := by decide +kernel
theorem dX7_hasItems_18 : decode cX7_hasItems 18 = .ok (.iconst 1, 1) := by decide +kernel
theorem dX7_hasItems_19 : decode cX7_hasItems 19 = .ok (.goto 4, 3) := by decide +kernel
theorem dX7_hasItems_22 : decode cX7_hasItems 22 = .ok (.iconst 0, 1) := by decide +kernel
theorem dX7_hasItems_23 : decode cX7_hasItems 23 = .ok (.ireturn, 1) := by decide +kernel
theorem dX7_narrowed_0 : decode cX7_narrowed 0 = .ok (.aload_n 0, 1) := by decide +kernel
theorem dX7_narrowed_1 : decode cX7_narrowed 1 = .ok (.getfield 15, 3) := by decide +kernel
theorem dX7_narrowed_4 : decode cX7_narrowed 4 = .ok (.tableswitch 48 0 3 #[32, 37, 42, 46], 32) := by decide +kernel
theorem dX7_narrowed_36 : decode cX7_narrowed 36 = .ok (.lload_n 1, 1) := by decide +kernel
theorem dX7_narrowed_37 : decode cX7_narrowed 37 = .ok (.l2i, 1) := by decide +kernel
theorem dX7_narrowed_38 : decode cX7_narrowed 38 = .ok (.i2b, 1) := by decide +kernel
theorem dX7_narrowed_39 : decode cX7_narrowed 39 = .ok (.i2l, 1) := by decide +kernel
theorem dX7_narrowed_40 : decode cX7_narrowed 40 = .ok (.lreturn, 1) := by decide +kernel
theorem dX7_narrowed_41 : decode cX7_narrowed 41 = .ok (.lload_n 1, 1) := by decide +kernel
theorem dX7_narrowed_42 : decode cX7_narrowed 42 = .ok (.l2i, 1) := by decide +kernel
theorem dX7_narrowed_43 : decode cX7_narrowed 43 = .ok (.i2s, 1) := by decide +kernel
theorem dX7_narrowed_44 : decode cX7_narrowed 44 = .ok (.i2l, 1) := by decide +kernel
theorem dX7_narrowed_45 : decode cX7_narrowed 45 = .ok (.lreturn, 1) := by decide +kernel
theorem dX7_narrowed_46 : decode cX7_narrowed 46 = .ok (.lload_n 1, 1) := by decide +kernel
theorem dX7_narrowed_47 : decode cX7_narrowed 47 = .ok (.l2i, 1) := by decide +kernel
theorem dX7_narrowed_48 : decode cX7_narrowed 48 = .ok (.i2l, 1) := by decide +kernel
theorem dX7_narrowed_49 : decode cX7_narrowed 49 = .ok (.lreturn, 1) := by decide +kernel
theorem dX7_narrowed_50 : decode cX7_narrowed 50 = .ok (.lload_n 1, 1) := by decide +kernel
theorem dX7_narrowed_51 : decode cX7_narrowed 51 = .ok (.lreturn, 1) := by decide +kernel
theorem dX7_narrowed_52 : decode cX7_narrowed 52 = .ok (.lload_n 1, 1) := by decide +kernel
theorem dX7_narrowed_53 : decode cX7_narrowed 53 = .ok (.lconst 0, 1) := by decide +kernel
theorem dX7_narrowed_54 : decode cX7_narrowed 54 = .ok (.lcmp, 1) := by decide +kernel
theorem dX7_narrowed_55 : decode cX7_narrowed 55 = .ok (.ifCond .eq 7, 3) := by decide +kernel
theorem dX7_narrowed_58 : decode cX7_narrowed 58 = .ok (.lconst 1, 1) := by decide +kernel
theorem dX7_narrowed_59 : decode cX7_narrowed 59 = .ok (.goto 4, 3) := by decide +kernel
theorem dX7_narrowed_62 : decode cX7_narrowed 62 = .ok (.lconst 0, 1) := by decide +kernel
theorem dX7_narrowed_63 : decode cX7_narrowed 63 = .ok (.lreturn, 1) := by decide +kernel
theorem dX8_init_0 : decode cX8_init 0 = .ok (.aload_n 0, 1) := by decide +kernel
theorem dX8_init_1 : decode cX8_init 1 = .ok (.invokespecial 3, 3) := by decide +kernel
theorem dX8_init_4 : decode cX8_init 4 = .ok (.aload_n 0, 1) := by decide +kernel
theorem dX8_init_5 : decode cX8_init 5 = .ok (.new 9, 3) := by decide +kernel
theorem dX8_init_8 : decode cX8_init 8 = .ok (.dup, 1) := by decide +kernel
theorem dX8_init_9 : decode cX8_init 9 = .ok (.invokespecial 11, 3) := by decide +kernel
theorem dX8_init_12 : decode cX8_init 12 = .ok (.putfield 12, 3) := by decide +kernel
theorem dX8_init_15 : decode cX8_init 15 = .ok (.aload_n 0, 1) := by decide +kernel
theorem dX8_init_16 : decode cX8_init 16 = .ok (.new 9, 3) := by decide +kernel
theorem dX8_init_19 : decode cX8_init 19 = .ok (.dup, 1) := by decide +kernel
theorem dX8_init_20 : decode cX8_init 20 = .ok (.invokespecial 11, 3) := by decide +kernel
theorem dX8_init_23 : decode cX8_init 23 = .ok (.putfield 18, 3) := by decide +kernel
theorem dX8_init_26 : decode cX8_init 26 = .ok (.aload_n 0, 1) := by decide +kernel
theorem dX8_init_27 : decode cX8_init 27 = .ok (.new 21, 3) := by decide +kernel
theorem dX8_init_30 : decode cX8_init 30 = .ok (.dup, 1) := by decide +kernel
theorem dX8_init_31 : decode cX8_init 31 = .ok (.iconst 5, 1) := by decide +kernel
theorem dX8_init_32 : decode cX8_init 32 = .ok (.invokespecial 23, 3) := by decide +kernel
theorem dX8_init_35 : decode cX8_init 35 = .ok (.putfield 26, 3) := by decide +kernel
theorem dX8_init_38 : decode cX8_init 38 = .ok (.aload_n 0, 1) := by decide +kernel
theorem dX8_init_39 : decode cX8_init 39 = .ok (.new 21, 3) := by decide +kernel
theorem dX8_init_42 : decode cX8_init 42 = .ok (.dup, 1) := by decide +kernel
theorem dX8_init_43 : decode cX8_init 43 = .ok (.bipush 10, 2) := by decide +kernel
theorem dX8_init_45 : decode cX8_init 45 = .ok (.invokespecial 23, 3) := by decide +kernel
theorem dX8_init_48 : decode cX8_init 48 = .ok (.putfield 30, 3) := by decide +kernel
theorem dX8_init_51 : decode cX8_init 51 = .ok (.aload_n 0, 1) := by decide +kernel
theorem dX8_init_52 : decode cX8_init 52 = .ok (.new 21, 3) := by decide +kernel
theorem dX8_init_55 : decode cX8_init 55 = .ok (.dup, 1) := by decide +kernel
theorem dX8_init_56 : decode cX8_init 56 = .ok (.bipush 8, 2) := by decide +kernel
theorem dX8_init_58 : decode cX8_init 58 = .ok (.invokespecial 23, 3) := by decide +kernel
theorem dX8_init_61 : decode cX8_init 61 = .ok (.putfield 33, 3) := by decide +kernel
theorem dX8_init_64 : decode cX8_init 64 = .ok (.aload_n 0, 1) := by decide +kernel
theorem dX8_init_65 : decode cX8_init 65 = .ok (.new 36, 3) := by decide +kernel
theorem dX8_init_68 : decode cX8_init 68 = .ok (.dup, 1) := by decide +kernel
theorem dX8_init_69 : decode cX8_init 69 = .ok (.invokespecial 38, 3) := by decide +kernel
theorem dX8_init_72 : decode cX8_init 72 = .ok (.putfield 39, 3) := by decide +kernel
theorem dX8_init_75 : decode cX8_init 75 = .ok (.aload_n 0, 1) := by decide +kernel
theorem dX8_init_76 : decode cX8_init 76 = .ok (.new 43, 3) := by decide +kernel
theorem dX8_init_79 : decode cX8_init 79 = .ok (.dup, 1) := by decide +kernel
theorem dX8_init_80 : decode cX8_init 80 = .ok (.invokespecial 45, 3) := by decide +kernel
theorem dX8_init_83 : decode cX8_init 83 = .ok (.putfield 46, 3) := by decide +kernel
theorem dX8_init_86 : decode cX8_init 86 = .ok (.aload_n 0, 1) := by decide +kernel
theorem dX8_init_87 : decode cX8_init 87 = .ok (.bipush 6, 2) := by decide +kernel
theorem dX8_init_89 : decode cX8_init 89 = .ok (.anewarray 50, 3) := by decide +kernel
theorem dX8_init_92 : decode cX8_init 92 = .ok (.putfield 52, 3) := by decide +kernel
theorem dX8_init_95 : decode cX8_init 95 = .ok (.aload_n 0, 1) := by decide +kernel
theorem dX8_init_96 : decode cX8_init 96 = .ok (.new 56, 3) := by decide +kernel
theorem dX8_init_99 : decode cX8_init 99 = .ok (.dup, 1) := by decide +kernel
theorem dX8_init_100 : decode cX8_init 100 = .ok (.invokespecial 58, 3) := by decide +kernel
theorem dX8_init_103 : decode cX8_init 103 = .ok (.putfield 59, 3) := by decide +kernel
theorem dX8_init_106 : decode cX8_init 106 = .ok (.aload_n 0, 1) := by decide +kernel
theorem dX8_init_107 : decode cX8_init 107 = .ok (.bipush 6, 2) := by decide +kernel
theorem dX8_init_109 : decode cX8_init 109 = .ok (.anewarray 63, 3) := by decide +kernel
theorem dX8_init_112 : decode cX8_init 112 = .ok (.putfield 65, 3) := by decide +kernel
theorem dX8_init_115 : decode cX8_init 115 = .ok (.iconst 0, 1) := by decide +kernel
theorem dX8_init_116 : decode cX8_init 116 = .ok (.istore_n 1, 1) := by decide +kernel
theorem dX8_init_117 : decode cX8_init 117 = .ok (.iload_n 1, 1) := by decide +kernel
theorem dX8_init_118 : decode cX8_init 118 = .ok (.bipush 6, 2) := by decide +kernel
theorem dX8_init_120 : decode cX8_init 120 = .ok (.if_icmp .ge 22, 3) := by decide +kernel
theorem dX8_init_123 : decode cX8_init 123 = .ok (.aload_n 0, 1) := by decide +kernel
theorem dX8_init_124 : decode cX8_init 124 = .ok (.getfield 52, 3) := by decide +kernel
theorem dX8_init_127 : decode cX8_init 127 = .ok (.iload_n 1, 1) := by decide +kernel
theorem dX8_init_128 : decode cX8_init 128 = .ok (.new 50, 3) := by decide +kernel
theorem dX8_init_131 : decode cX8_init 131 = .ok (.dup, 1) := by decide +kernel
theorem dX8_init_132 : decode cX8_init 132 = .ok (.invokespecial 69, 3) := by decide +kernel
theorem dX8_init_135 : decode cX8_init 135 = .ok (.aastore, 1) := by decide +kernel
theorem dX8_init_136 : decode cX8_init 136 = .ok (.iinc 1 1, 3) := by decide +kernel
theorem dX8_init_139 : decode cX8_init 139 = .ok (.goto (-22), 3) := by decide +kernel
theorem dX8_init_142 : decode cX8_init 142 = .ok (.iconst 0, 1) := by decide +kernel
theorem dX8_init_143 : decode cX8_init 143 = .ok (.istore_n 1, 1) := by decide +kernel
theorem dX8_init_144 : decode cX8_init 144 = .ok (.iload_n 1, 1) := by decide +kernel
theorem dX8_init_145 : decode cX8_init 145 = .ok (.bipush 6, 2) := by decide +kernel
theorem dX8_init_147 : decode cX8_init 147 = .ok (.if_icmp .ge 22, 3) := by decide +kernel
theorem dX8_init_150 : decode cX8_init 150 = .ok (.aload_n 0, 1) := by decide +kernel
theorem dX8_init_151 : decode cX8_init 151 = .ok (.getfield 65, 3) := by decide +kernel
theorem dX8_init_154 : decode cX8_init 154 = .ok (.iload_n 1, 1) := by decide +kernel
theorem dX8_init_155 : decode cX8_init 155 = .ok (.new 63, 3) := by decide +kernel
theorem dX8_init_158 : decode cX8_init 158 = .ok (.dup, 1) := by decide +kernel
theorem dX8_init_159 : decode cX8_init 159 = .ok (.invokespecial 70, 3) := by decide +kernel
theorem dX8_init_162 : decode cX8_init 162 = .ok (.aastore, 1) := by decide +kernel
theorem dX8_init_163 : decode cX8_init 163 = .ok (.iinc 1 1, 3) := by decide +kernel
theorem dX8_init_166 : decode cX8_init 166 = .ok (.goto (-22), 3) := by decide +kernel
theorem dX8_init_169 : decode cX8_init 169 = .ok (.return_, 1) := by decide +kernel
theorem dX8_gate_0 : decode cX8_gate 0 = .ok (.iload_n 1, 1) := by decide +kernel
theorem dX8_gate_1 : decode cX8_gate 1 = .ok (.invokestatic 71, 3) := by decide +kernel
theorem dX8_gate_4 : decode cX8_gate 4 = .ok (.ifCond .ne 6, 3) := by decide +kernel
theorem dX8_gate_7 : decode cX8_gate 7 = .ok (.bipush (-2), 2) := by decide +kernel
theorem dX8_gate_9 : decode cX8_gate 9 = .ok (.ireturn, 1) := by decide +kernel
theorem dX8_gate_10 : decode cX8_gate 10 = .ok (.aload_n 0, 1) := by decide +kernel
theorem dX8_gate_11 : decode cX8_gate 11 = .ok (.getfield 12, 3) := by decide +kernel
theorem dX8_gate_14 : decode cX8_gate 14 = .ok (.getfield 75, 3) := by decide +kernel
theorem dX8_gate_17 : decode cX8_gate 17 = .ok (.bipush 6, 2) := by decide +kernel
theorem dX8_gate_19 : decode cX8_gate 19 = .ok (.if_icmp .ne 6, 3) := by decide +kernel
theorem dX8_gate_22 : decode cX8_gate 22 = .ok (.bipush (-4), 2) := by decide +kernel
theorem dX8_gate_24 : decode cX8_gate 24 = .ok (.ireturn, 1) := by decide +kernel
theorem dX8_gate_25 : decode cX8_gate 25 = .ok (.aload_n 0, 1) := by decide +kernel
theorem dX8_gate_26 : decode cX8_gate 26 = .ok (.getfield 12, 3) := by decide +kernel
theorem dX8_gate_29 : decode cX8_gate 29 = .ok (.iload_n 1, 1) := by decide +kernel
theorem dX8_gate_30 : decode cX8_gate 30 = .ok (.invokevirtual 79, 3) := by decide +kernel
theorem dX8_gate_33 : decode cX8_gate 33 = .ok (.ireturn, 1) := by decide +kernel
theorem dX8_person_0 : decode cX8_person 0 = .ok (.iload_n 1, 1) := by decide +kernel
theorem dX8_person_1 : decode cX8_person 1 = .ok (.ifCond .lt 9, 3) := by decide +kernel
theorem dX8_person_4 : decode cX8_person 4 = .ok (.iload_n 1, 1) := by decide +kernel
theorem dX8_person_5 : decode cX8_person 5 = .ok (.bipush 7, 2) := by decide +kernel
theorem dX8_person_7 : decode cX8_person 7 = .ok (.if_icmp .lt 5, 3) := by decide +kernel
theorem dX8_person_10 : decode cX8_person 10 = .ok (.iconst (-1), 1) := by decide +kernel
theorem dX8_person_11 : decode cX8_person 11 = .ok (.ireturn, 1) := by decide +kernel
theorem dX8_person_12 : decode cX8_person 12 = .ok (.iload_n 2, 1) := by decide +kernel
theorem dX8_person_13 : decode cX8_person 13 = .ok (.invokestatic 83, 3) := by decide +kernel
theorem dX8_person_16 : decode cX8_person 16 = .ok (.ifCond .eq 10, 3) := by decide +kernel
theorem dX8_person_19 : decode cX8_person 19 = .ok (.iload_n 3, 1) := by decide +kernel
theorem dX8_person_20 : decode cX8_person 20 = .ok (.invokestatic 71, 3) := by decide +kernel
theorem dX8_person_23 : decode cX8_person 23 = .ok (.ifCond .ne 6, 3) := by decide +kernel
theorem dX8_person_26 : decode cX8_person 26 = .ok (.bipush (-2), 2) := by decide +kernel
theorem dX8_person_28 : decode cX8_person 28 = .ok (.ireturn, 1) := by decide +kernel
theorem dX8_person_29 : decode cX8_person 29 = .ok (.aload_n 0, 1) := by decide +kernel
theorem dX8_person_30 : decode cX8_person 30 = .ok (.getfield 12, 3) := by decide +kernel
theorem dX8_person_33 : decode cX8_person 33 = .ok (.getfield 86, 3) := by decide +kernel
theorem dX8_person_36 : decode cX8_person 36 = .ok (.bipush 6, 2) := by decide +kernel
theorem dX8_person_38 : decode cX8_person 38 = .ok (.if_icmp .ne 6, 3) := by decide +kernel
theorem dX8_person_41 : decode cX8_person 41 = .ok (.bipush (-4), 2) := by decide +kernel
theorem dX8_person_43 : decode cX8_person 43 = .ok (.ireturn, 1) := by decide +kernel
theorem dX8_person_44 : decode cX8_person 44 = .ok (.aload_n 0, 1) := by decide +kernel
theorem dX8_person_45 : decode cX8_person 45 = .ok (.getfield 12, 3) := by decide +kernel
theorem dX8_person_48 : decode cX8_person 48 = .ok (.iload_n 1, 1) := by decide +kernel
theorem dX8_person_49 : decode cX8_person 49 = .ok (.iload_n 2, 1) := by decide +kernel
theorem dX8_person_50 : decode cX8_person 50 = .ok (.iload_n 3, 1) := by decide +kernel
theorem dX8_person_51 : decode cX8_person 51 = .ok (.invokevirtual 89, 3) := by decide +kernel
theorem dX8_person_54 : decode cX8_person 54 = .ok (.ireturn, 1) := by decide +kernel
theorem dX8_of_0 : decode cX8_of 0 = .ok (.aload_n 0, 1) := by decide +kernel
theorem dX8_of_1 : decode cX8_of 1 = .ok (.getfield 12, 3) := by decide +kernel
theorem dX8_of_4 : decode cX8_of 4 = .ok (.iload_n 1, 1) := by decide +kernel
theorem dX8_of_5 : decode cX8_of 5 = .ok (.invokevirtual 93, 3) := by decide +kernel
theorem dX8_of_8 : decode cX8_of 8 = .ok (.ifCond .ne 7, 3) := by decide +kernel
theorem dX8_of_11 : decode cX8_of 11 = .ok (.sipush (-1001), 3) := by decide +kernel
theorem dX8_of_14 : decode cX8_of 14 = .ok (.ireturn, 1) := by decide +kernel
theorem dX8_of_15 : decode cX8_of 15 = .ok (.aload_n 0, 1) := by decide +kernel
theorem dX8_of_16 : decode cX8_of 16 = .ok (.getfield 12, 3) := by decide +kernel
theorem dX8_of_19 : decode cX8_of 19 = .ok (.getfield 96, 3) := by decide +kernel
theorem dX8_of_22 : decode cX8_of 22 = .ok (.iload_n 1, 1) := by decide +kernel
theorem dX8_of_23 : decode cX8_of 23 = .ok (.aaload, 1) := by decide +kernel
theorem dX8_of_24 : decode cX8_of 24 = .ok (.astore_n 3, 1) := by decide +kernel
theorem dX8_of_25 : decode cX8_of 25 = .ok (.iload_n 2, 1) := by decide +kernel
theorem dX8_of_26 : decode cX8_of 26 = .ok (.tableswitch 129 0 9 #[54, 59, 64, 69, 77, 82, 90, 99, 111, 120], 54) := by decide +kernel
theorem dX8_of_80 : decode cX8_of 80 = .ok (.aload_n 3, 1) := by decide +kernel
theorem dX8_of_81 : decode cX8_of 81 = .ok (.getfield 100, 3) := by decide +kernel
theorem dX8_of_84 : decode cX8_of 84 = .ok (.ireturn, 1) := by decide +kernel
theorem dX8_of_85 : decode cX8_of 85 = .ok (.aload_n 3, 1) := by decide +kernel
theorem dX8_of_86 : decode cX8_of 86 = .ok (.getfield 105, 3) := by decide +kernel
theorem dX8_of_89 : decode cX8_of 89 = .ok (.ireturn, 1) := by decide +kernel
theorem dX8_of_90 : decode cX8_of 90 = .ok (.aload_n 3, 1) := by decide +kernel
theorem dX8_of_91 : decode cX8_of 91 = .ok (.getfield 108, 3) := by decide +kernel
theorem dX8_of_94 : decode cX8_of 94 = .ok (.ireturn, 1) := by decide +kernel
theorem dX8_of_95 : decode cX8_of 95 = .ok (.aload_n 3, 1) := by decide +kernel
theorem dX8_of_96 : decode cX8_of 96 = .ok (.getfield 111, 3) := by decide +kernel
theorem dX8_of_99 : decode cX8_of 99 = .ok (.invokestatic 115, 3) := by decide +kernel
theorem dX8_of_102 : decode cX8_of 102 = .ok (.ireturn, 1) := by decide +kernel
theorem dX8_of_103 : decode cX8_of 103 = .ok (.aload_n 3, 1) := by decide +kernel
theorem dX8_of_104 : decode cX8_of 104 = .ok (.getfield 119, 3) := by decide +kernel
theorem dX8_of_107 : decode cX8_of 107 = .ok (.ireturn, 1) := by decide +kernel
theorem dX8_of_108 : decode cX8_of 108 = .ok (.aload_n 3, 1) := by decide +kernel
theorem dX8_of_109 : decode cX8_of 109 = .ok (.getfield 122, 3) := by decide +kernel
theorem dX8_of_112 : decode cX8_of 112 = .ok (.invokestatic 115, 3) := by decide +kernel
theorem dX8_of_115 : decode cX8_of 115 = .ok (.ireturn, 1) := by decide +kernel
theorem dX8_of_116 : decode cX8_of 116 = .ok (.aload_n 0, 1) := by decide +kernel
theorem dX8_of_117 : decode cX8_of 117 = .ok (.getfield 12, 3) := by decide +kernel
theorem dX8_of_120 : decode cX8_of 120 = .ok (.iload_n 1, 1) := by decide +kernel
theorem dX8_of_121 : decode cX8_of 121 = .ok (.invokevirtual 125, 3) := by decide +kernel
theorem dX8_of_124 : decode cX8_of 124 = .ok (.ireturn, 1) := by decide +kernel
theorem dX8_of_125 : decode cX8_of 125 = .ok (.aload_n 0, 1) := by decide +kernel
theorem dX8_of_126 : decode cX8_of 126 = .ok (.getfield 12, 3) := by decide +kernel
theorem dX8_of_129 : decode cX8_of 129 = .ok (.iload_n 1, 1) := by decide +kernel
theorem dX8_of_130 : decode cX8_of 130 = .ok (.invokevirtual 128, 3) := by decide +kernel
theorem dX8_of_133 : decode cX8_of 133 = .ok (.invokestatic 115, 3) := by decide +kernel
theorem dX8_of_136 : decode cX8_of 136 = .ok (.ireturn, 1) := by decide +kernel
theorem dX8_of_137 : decode cX8_of 137 = .ok (.aload_n 0, 1) := by decide +kernel
theorem dX8_of_138 : decode cX8_of 138 = .ok (.getfield 12, 3) := by decide +kernel
theorem dX8_of_141 : decode cX8_of 141 = .ok (.aload_n 3, 1) := by decide +kernel
theorem dX8_of_142 : decode cX8_of 142 = .ok (.invokevirtual 131, 3) := by decide +kernel
theorem dX8_of_145 : decode cX8_of 145 = .ok (.ireturn, 1) := by decide +kernel
theorem dX8_of_146 : decode cX8_of 146 = .ok (.aload_n 0, 1) := by decide +kernel
theorem dX8_of_147 : decode cX8_of 147 = .ok (.getfield 12, 3) := by decide +kernel
theorem dX8_of_150 : decode cX8_of 150 = .ok (.aload_n 3, 1) := by decide +kernel
theorem dX8_of_151 : decode cX8_of 151 = .ok (.invokevirtual 135, 3) := by decide +kernel
theorem dX8_of_154 : decode cX8_of 154 = .ok (.ireturn, 1) := by decide +kernel
theorem dX8_of_155 : decode cX8_of 155 = .ok (.sipush (-1001), 3) := by decide +kernel
theorem dX8_of_158 : decode cX8_of 158 = .ok (.ireturn, 1) := by decide +kernel
theorem dX8_put_0 : decode cX8_put 0 = .ok (.aload_n 0, 1) := by decide +kernel
theorem dX8_put_1 : decode cX8_put 1 = .ok (.getfield 12, 3) := by decide +kernel
theorem dX8_put_4 : decode cX8_put 4 = .ok (.iload_n 1, 1) := by decide +kernel
theorem dX8_put_5 : decode cX8_put 5 = .ok (.invokevirtual 93, 3) := by decide +kernel
theorem dX8_put_8 : decode cX8_put 8 = .ok (.ifCond .ne 5, 3) := by decide +kernel
theorem dX8_put_11 : decode cX8_put 11 = .ok (.iconst (-1), 1) := by decide +kernel
theorem dX8_put_12 : decode cX8_put 12 = .ok (.ireturn, 1) := by decide +kernel
theorem dX8_put_13 : decode cX8_put 13 = .ok (.iload_n 2, 1) := by decide +kernel
theorem dX8_put_14 : decode cX8_put 14 = .ok (.invokestatic 71, 3) := by decide +kernel
theorem dX8_put_17 : decode cX8_put 17 = .ok (.ifCond .ne 6, 3) := by decide +kernel
theorem dX8_put_20 : decode cX8_put 20 = .ok (.bipush (-2), 2) := by decide +kernel
theorem dX8_put_22 : decode cX8_put 22 = .ok (.ireturn, 1) := by decide +kernel
theorem dX8_put_23 : decode cX8_put 23 = .ok (.aload_n 0, 1) := by decide +kernel
theorem dX8_put_24 : decode cX8_put 24 = .ok (.getfield 12, 3) := by decide +kernel
theorem dX8_put_27 : decode cX8_put 27 = .ok (.getfield 96, 3) := by decide +kernel
theorem dX8_put_30 : decode cX8_put 30 = .ok (.iload_n 1, 1) := by decide +kernel
theorem dX8_put_31 : decode cX8_put 31 = .ok (.aaload, 1) := by decide +kernel
theorem dX8_put_32 : decode cX8_put 32 = .ok (.getfield 108, 3) := by decide +kernel
theorem dX8_put_35 : decode cX8_put 35 = .ok (.istore_n 3, 1) := by decide +kernel
theorem dX8_put_36 : decode cX8_put 36 = .ok (.aload_n 0, 1) := by decide +kernel
theorem dX8_put_37 : decode cX8_put 37 = .ok (.getfield 12, 3) := by decide +kernel
theorem dX8_put_40 : decode cX8_put 40 = .ok (.iload_n 1, 1) := by decide +kernel
theorem dX8_put_41 : decode cX8_put 41 = .ok (.iload_n 2, 1) := by decide +kernel
theorem dX8_put_42 : decode cX8_put 42 = .ok (.invokevirtual 138, 3) := by decide +kernel
theorem dX8_put_45 : decode cX8_put 45 = .ok (.iload_n 3, 1) := by decide +kernel
theorem dX8_put_46 : decode cX8_put 46 = .ok (.ireturn, 1) := by decide +kernel
theorem dX8_call_0 : decode cX8_call 0 = .ok (.aload_n 0, 1) := by decide +kernel
theorem dX8_call_1 : decode cX8_call 1 = .ok (.getfield 12, 3) := by decide +kernel
theorem dX8_call_4 : decode cX8_call 4 = .ok (.iload_n 1, 1) := by decide +kernel
theorem dX8_call_5 : decode cX8_call 5 = .ok (.invokevirtual 93, 3) := by decide +kernel
theorem dX8_call_8 : decode cX8_call 8 = .ok (.ifCond .ne 5, 3) := by decide +kernel
theorem dX8_call_11 : decode cX8_call 11 = .ok (.iconst (-1), 1) := by decide +kernel
theorem dX8_call_12 : decode cX8_call 12 = .ok (.ireturn, 1) := by decide +kernel
theorem dX8_call_13 : decode cX8_call 13 = .ok (.aload_n 0, 1) := by decide +kernel
theorem dX8_call_14 : decode cX8_call 14 = .ok (.getfield 12, 3) := by decide +kernel
theorem dX8_call_17 : decode cX8_call 17 = .ok (.getfield 96, 3) := by decide +kernel
theorem dX8_call_20 : decode cX8_call 20 = .ok (.iload_n 1, 1) := by decide +kernel
theorem dX8_call_21 : decode cX8_call 21 = .ok (.aaload, 1) := by decide +kernel
theorem dX8_call_22 : decode cX8_call 22 = .ok (.astore_n 3, 1) := by decide +kernel
theorem dX8_call_23 : decode cX8_call 23 = .ok (.aload_n 3, 1) := by decide +kernel
theorem dX8_call_24 : decode cX8_call 24 = .ok (.getfield 111, 3) := by decide +kernel
theorem dX8_call_27 : decode cX8_call 27 = .ok (.invokestatic 115, 3) := by decide +kernel
theorem dX8_call_30 : decode cX8_call 30 = .ok (.istore 4, 2) := by decide +kernel
theorem dX8_call_32 : decode cX8_call 32 = .ok (.aload_n 3, 1) := by decide +kernel
theorem dX8_call_33 : decode cX8_call 33 = .ok (.iload_n 2, 1) := by decide +kernel
theorem dX8_call_34 : decode cX8_call 34 = .ok (.putfield 111, 3) := by decide +kernel
theorem dX8_call_37 : decode cX8_call 37 = .ok (.iload_n 2, 1) := by decide +kernel
theorem dX8_call_38 : decode cX8_call 38 = .ok (.ifCond .ne 8, 3) := by decide +kernel
theorem dX8_call_41 : decode cX8_call 41 = .ok (.aload_n 3, 1) := by decide +kernel
theorem dX8_call_42 : decode cX8_call 42 = .ok (.iconst 0, 1) := by decide +kernel
theorem dX8_call_43 : decode cX8_call 43 = .ok (.putfield 119, 3) := by decide +kernel
theorem dX8_call_46 : decode cX8_call 46 = .ok (.iload 4, 2) := by decide +kernel
theorem dX8_call_48 : decode cX8_call 48 = .ok (.ireturn, 1) := by decide +kernel
theorem dX8_shut_0 : decode cX8_shut 0 = .ok (.aload_n 0, 1) := by decide +kernel
theorem dX8_shut_1 : decode cX8_shut 1 = .ok (.getfield 12, 3) := by decide +kernel
theorem dX8_shut_4 : decode cX8_shut 4 = .ok (.iload_n 1, 1) := by decide +kernel
theorem dX8_shut_5 : decode cX8_shut 5 = .ok (.invokevirtual 142, 3) := by decide +kernel
theorem dX8_shut_8 : decode cX8_shut 8 = .ok (.ifCond .ne 5, 3) := by decide +kernel
theorem dX8_shut_11 : decode cX8_shut 11 = .ok (.iconst (-1), 1) := by decide +kernel
theorem dX8_shut_12 : decode cX8_shut 12 = .ok (.ireturn, 1) := by decide +kernel
theorem dX8_shut_13 : decode cX8_shut 13 = .ok (.aload_n 0, 1) := by decide +kernel
theorem dX8_shut_14 : decode cX8_shut 14 = .ok (.getfield 12, 3) := by decide +kernel
theorem dX8_shut_17 : decode cX8_shut 17 = .ok (.iload_n 1, 1) := by decide +kernel
theorem dX8_shut_18 : decode cX8_shut 18 = .ok (.invokevirtual 145, 3) := by decide +kernel
theorem dX8_shut_21 : decode cX8_shut 21 = .ok (.invokestatic 115, 3) := by decide +kernel
theorem dX8_shut_24 : decode cX8_shut 24 = .ok (.istore_n 3, 1) := by decide +kernel
theorem dX8_shut_25 : decode cX8_shut 25 = .ok (.aload_n 0, 1) := by decide +kernel
theorem dX8_shut_26 : decode cX8_shut 26 = .ok (.getfield 12, 3) := by decide +kernel
theorem dX8_shut_29 : decode cX8_shut 29 = .ok (.iload_n 1, 1) := by decide +kernel
theorem dX8_shut_30 : decode cX8_shut 30 = .ok (.iload_n 2, 1) := by decide +kernel
theorem dX8_shut_31 : decode cX8_shut 31 = .ok (.invokevirtual 148, 3) := by decide +kernel
theorem dX8_shut_34 : decode cX8_shut 34 = .ok (.iload_n 3, 1) := by decide +kernel
theorem dX8_shut_35 : decode cX8_shut 35 = .ok (.ireturn, 1) := by decide +kernel
theorem dX8_row_0 : decode cX8_row 0 = .ok (.aload_n 0, 1) := by decide +kernel
theorem dX8_row_1 : decode cX8_row 1 = .ok (.getfield 12, 3) := by decide +kernel
theorem dX8_row_4 : decode cX8_row 4 = .ok (.iload_n 1, 1) := by decide +kernel
theorem dX8_row_5 : decode cX8_row 5 = .ok (.invokevirtual 93, 3) := by decide +kernel
theorem dX8_row_8 : decode cX8_row 8 = .ok (.ifCond .eq 12, 3) := by decide +kernel
theorem dX8_row_11 : decode cX8_row 11 = .ok (.iload_n 2, 1) := by decide +kernel
theorem dX8_row_12 : decode cX8_row 12 = .ok (.ifCond .lt 8, 3) := by decide +kernel
theorem dX8_row_15 : decode cX8_row 15 = .ok (.iload_n 2, 1) := by decide +kernel
theorem dX8_row_16 : decode cX8_row 16 = .ok (.iconst 4, 1) := by decide +kernel
theorem dX8_row_17 : decode cX8_row 17 = .ok (.if_icmp .lt 5, 3) := by decide +kernel
theorem dX8_row_20 : decode cX8_row 20 = .ok (.iconst (-1), 1) := by decide +kernel
theorem dX8_row_21 : decode cX8_row 21 = .ok (.ireturn, 1) := by decide +kernel
theorem dX8_row_22 : decode cX8_row 22 = .ok (.iload_n 3, 1) := by decide +kernel
theorem dX8_row_23 : decode cX8_row 23 = .ok (.invokestatic 83, 3) := by decide +kernel
theorem dX8_row_26 : decode cX8_row 26 = .ok (.ifCond .ne 6, 3) := by decide +kernel
theorem dX8_row_29 : decode cX8_row 29 = .ok (.bipush (-2), 2) := by decide +kernel
theorem dX8_row_31 : decode cX8_row 31 = .ok (.ireturn, 1) := by decide +kernel
theorem dX8_row_32 : decode cX8_row 32 = .ok (.aload_n 0, 1) := by decide +kernel
theorem dX8_row_33 : decode cX8_row 33 = .ok (.getfield 12, 3) := by decide +kernel
theorem dX8_row_36 : decode cX8_row 36 = .ok (.getfield 96, 3) := by decide +kernel
theorem dX8_row_39 : decode cX8_row 39 = .ok (.iload_n 1, 1) := by decide +kernel
theorem dX8_row_40 : decode cX8_row 40 = .ok (.aaload, 1) := by decide +kernel
theorem dX8_row_41 : decode cX8_row 41 = .ok (.astore 4, 2) := by decide +kernel
theorem dX8_row_43 : decode cX8_row 43 = .ok (.aload 4, 2) := by decide +kernel
theorem dX8_row_45 : decode cX8_row 45 = .ok (.getfield 100, 3) := by decide +kernel
theorem dX8_row_48 : decode cX8_row 48 = .ok (.bipush 6, 2) := by decide +kernel
theorem dX8_row_50 : decode cX8_row 50 = .ok (.if_icmp .eq 6, 3) := by decide +kernel
theorem dX8_row_53 : decode cX8_row 53 = .ok (.bipush (-3), 2) := by decide +kernel
theorem dX8_row_55 : decode cX8_row 55 = .ok (.ireturn, 1) := by decide +kernel
theorem dX8_row_56 : decode cX8_row 56 = .ok (.aload 4, 2) := by decide +kernel
theorem dX8_row_58 : decode cX8_row 58 = .ok (.getfield 152, 3) := by decide +kernel
theorem dX8_row_61 : decode cX8_row 61 = .ok (.iload_n 2, 1) := by decide +kernel
theorem dX8_row_62 : decode cX8_row 62 = .ok (.iaload, 1) := by decide +kernel
theorem dX8_row_63 : decode cX8_row 63 = .ok (.istore 5, 2) := by decide +kernel
theorem dX8_row_65 : decode cX8_row 65 = .ok (.aload 4, 2) := by decide +kernel
theorem dX8_row_67 : decode cX8_row 67 = .ok (.getfield 152, 3) := by decide +kernel
theorem dX8_row_70 : decode cX8_row 70 = .ok (.iload_n 2, 1) := by decide +kernel
theorem dX8_row_71 : decode cX8_row 71 = .ok (.iload_n 3, 1) := by decide +kernel
theorem dX8_row_72 : decode cX8_row 72 = .ok (.iastore, 1) := by decide +kernel
theorem dX8_row_73 : decode cX8_row 73 = .ok (.iload 5, 2) := by decide +kernel
theorem dX8_row_75 : decode cX8_row 75 = .ok (.ireturn, 1) := by decide +kernel
theorem dX8_round_0 : decode cX8_round 0 = .ok (.iload_n 1, 1) := by decide +kernel
theorem dX8_round_1 : decode cX8_round 1 = .ok (.iconst (-1), 1) := by decide +kernel
theorem dX8_round_2 : decode cX8_round 2 = .ok (.if_icmp .ne 12, 3) := by decide +kernel
theorem dX8_round_5 : decode cX8_round 5 = .ok (.aload_n 0, 1) := by decide +kernel
theorem dX8_round_6 : decode cX8_round 6 = .ok (.getfield 12, 3) := by decide +kernel
theorem dX8_round_9 : decode cX8_round 9 = .ok (.invokevirtual 156, 3) := by decide +kernel
theorem dX8_round_12 : decode cX8_round 12 = .ok (.iconst 0, 1) := by decide +kernel
theorem dX8_round_13 : decode cX8_round 13 = .ok (.ireturn, 1) := by decide +kernel
theorem dX8_round_14 : decode cX8_round 14 = .ok (.aload_n 0, 1) := by decide +kernel
theorem dX8_round_15 : decode cX8_round 15 = .ok (.getfield 12, 3) := by decide +kernel
theorem dX8_round_18 : decode cX8_round 18 = .ok (.iload_n 1, 1) := by decide +kernel
theorem dX8_round_19 : decode cX8_round 19 = .ok (.invokevirtual 142, 3) := by decide +kernel
theorem dX8_round_22 : decode cX8_round 22 = .ok (.ifCond .ne 5, 3) := by decide +kernel
theorem dX8_round_25 : decode cX8_round 25 = .ok (.iconst (-1), 1) := by decide +kernel
theorem dX8_round_26 : decode cX8_round 26 = .ok (.ireturn, 1) := by decide +kernel
theorem dX8_round_27 : decode cX8_round 27 = .ok (.aload_n 0, 1) := by decide +kernel
theorem dX8_round_28 : decode cX8_round 28 = .ok (.getfield 12, 3) := by decide +kernel
theorem dX8_round_31 : decode cX8_round 31 = .ok (.getfield 159, 3) := by decide +kernel
theorem dX8_round_34 : decode cX8_round 34 = .ok (.bipush 6, 2) := by decide +kernel
theorem dX8_round_36 : decode cX8_round 36 = .ok (.if_icmp .ne 6, 3) := by decide +kernel
theorem dX8_round_39 : decode cX8_round 39 = .ok (.bipush (-4), 2) := by decide +kernel
theorem dX8_round_41 : decode cX8_round 41 = .ok (.ireturn, 1) := by decide +kernel
theorem dX8_round_42 : decode cX8_round 42 = .ok (.aload_n 0, 1) := by decide +kernel
theorem dX8_round_43 : decode cX8_round 43 = .ok (.getfield 12, 3) := by decide +kernel
theorem dX8_round_46 : decode cX8_round 46 = .ok (.getfield 162, 3) := by decide +kernel
theorem dX8_round_49 : decode cX8_round 49 = .ok (.aload_n 0, 1) := by decide +kernel
theorem dX8_round_50 : decode cX8_round 50 = .ok (.getfield 12, 3) := by decide +kernel
theorem dX8_round_53 : decode cX8_round 53 = .ok (.getfield 159, 3) := by decide +kernel
theorem dX8_round_56 : decode cX8_round 56 = .ok (.iload_n 1, 1) := by decide +kernel
theorem dX8_round_57 : decode cX8_round 57 = .ok (.iastore, 1) := by decide +kernel
theorem dX8_round_58 : decode cX8_round 58 = .ok (.aload_n 0, 1) := by decide +kernel
theorem dX8_round_59 : decode cX8_round 59 = .ok (.getfield 12, 3) := by decide +kernel
theorem dX8_round_62 : decode cX8_round 62 = .ok (.dup, 1) := by decide +kernel
theorem dX8_round_63 : decode cX8_round 63 = .ok (.getfield 159, 3) := by decide +kernel
theorem dX8_round_66 : decode cX8_round 66 = .ok (.iconst 1, 1) := by decide +kernel
theorem dX8_round_67 : decode cX8_round 67 = .ok (.iadd, 1) := by decide +kernel
theorem dX8_round_68 : decode cX8_round 68 = .ok (.putfield 159, 3) := by decide +kernel
theorem dX8_round_71 : decode cX8_round 71 = .ok (.aload_n 0, 1) := by decide +kernel
theorem dX8_round_72 : decode cX8_round 72 = .ok (.getfield 12, 3) := by decide +kernel
theorem dX8_round_75 : decode cX8_round 75 = .ok (.getfield 159, 3) := by decide +kernel
theorem dX8_round_78 : decode cX8_round 78 = .ok (.ireturn, 1) := by decide +kernel
theorem dX8_feed_0 : decode cX8_feed 0 = .ok (.iload_n 1, 1) := by decide +kernel
theorem dX8_feed_1 : decode cX8_feed 1 = .ok (.ifCond .lt 9, 3) := by decide +kernel
theorem dX8_feed_4 : decode cX8_feed 4 = .ok (.iload_n 1, 1) := by decide +kernel
theorem dX8_feed_5 : decode cX8_feed 5 = .ok (.bipush 127, 2) := by decide +kernel
theorem dX8_feed_7 : decode cX8_feed 7 = .ok (.if_icmp .le 6, 3) := by decide +kernel
theorem dX8_feed_10 : decode cX8_feed 10 = .ok (.bipush (-2), 2) := by decide +kernel
theorem dX8_feed_12 : decode cX8_feed 12 = .ok (.ireturn, 1) := by decide +kernel
theorem dX8_feed_13 : decode cX8_feed 13 = .ok (.aload_n 0, 1) := by decide +kernel
theorem dX8_feed_14 : decode cX8_feed 14 = .ok (.getfield 46, 3) := by decide +kernel
theorem dX8_feed_17 : decode cX8_feed 17 = .ok (.getfield 165, 3) := by decide +kernel
theorem dX8_feed_20 : decode cX8_feed 20 = .ok (.bipush 100, 2) := by decide +kernel
theorem dX8_feed_22 : decode cX8_feed 22 = .ok (.if_icmp .ne 6, 3) := by decide +kernel
theorem dX8_feed_25 : decode cX8_feed 25 = .ok (.bipush (-4), 2) := by decide +kernel
theorem dX8_feed_27 : decode cX8_feed 27 = .ok (.ireturn, 1) := by decide +kernel
theorem dX8_feed_28 : decode cX8_feed 28 = .ok (.aload_n 0, 1) := by decide +kernel
theorem dX8_feed_29 : decode cX8_feed 29 = .ok (.getfield 46, 3) := by decide +kernel
theorem dX8_feed_32 : decode cX8_feed 32 = .ok (.iload_n 1, 1) := by decide +kernel
theorem dX8_feed_33 : decode cX8_feed 33 = .ok (.invokevirtual 168, 3) := by decide +kernel
theorem dX8_feed_36 : decode cX8_feed 36 = .ok (.ireturn, 1) := by decide +kernel
theorem dX8_dusk_0 : decode cX8_dusk 0 = .ok (.aload_n 0, 1) := by decide +kernel
theorem dX8_dusk_1 : decode cX8_dusk 1 = .ok (.getfield 171, 3) := by decide +kernel
theorem dX8_dusk_4 : decode cX8_dusk 4 = .ok (.bipush 6, 2) := by decide +kernel
theorem dX8_dusk_6 : decode cX8_dusk 6 = .ok (.if_icmp .ne 6, 3) := by decide +kernel
theorem dX8_dusk_9 : decode cX8_dusk 9 = .ok (.bipush (-4), 2) := by decide +kernel
theorem dX8_dusk_11 : decode cX8_dusk 11 = .ok (.ireturn, 1) := by decide +kernel
theorem dX8_dusk_12 : decode cX8_dusk 12 = .ok (.aload_n 0, 1) := by decide +kernel
theorem dX8_dusk_13 : decode cX8_dusk 13 = .ok (.getfield 46, 3) := by decide +kernel
theorem dX8_dusk_16 : decode cX8_dusk 16 = .ok (.aload_n 0, 1) := by decide +kernel
theorem dX8_dusk_17 : decode cX8_dusk 17 = .ok (.getfield 52, 3) := by decide +kernel
theorem dX8_dusk_20 : decode cX8_dusk 20 = .ok (.aload_n 0, 1) := by decide +kernel
theorem dX8_dusk_21 : decode cX8_dusk 21 = .ok (.getfield 171, 3) := by decide +kernel
theorem dX8_dusk_24 : decode cX8_dusk 24 = .ok (.aaload, 1) := by decide +kernel
theorem dX8_dusk_25 : decode cX8_dusk 25 = .ok (.invokevirtual 174, 3) := by decide +kernel
theorem dX8_dusk_28 : decode cX8_dusk 28 = .ok (.istore_n 1, 1) := by decide +kernel
theorem dX8_dusk_29 : decode cX8_dusk 29 = .ok (.aload_n 0, 1) := by decide +kernel
theorem dX8_dusk_30 : decode cX8_dusk 30 = .ok (.getfield 46, 3) := by decide +kernel
theorem dX8_dusk_33 : decode cX8_dusk 33 = .ok (.iconst 0, 1) := by decide +kernel
theorem dX8_dusk_34 : decode cX8_dusk 34 = .ok (.putfield 165, 3) := by decide +kernel
theorem dX8_dusk_37 : decode cX8_dusk 37 = .ok (.iload_n 1, 1) := by decide +kernel
theorem dX8_dusk_38 : decode cX8_dusk 38 = .ok (.ifCond .lt 8, 3) := by decide +kernel
theorem dX8_dusk_41 : decode cX8_dusk 41 = .ok (.bipush (-10), 2) := by decide +kernel
theorem dX8_dusk_43 : decode cX8_dusk 43 = .ok (.iload_n 1, 1) := by decide +kernel
theorem dX8_dusk_44 : decode cX8_dusk 44 = .ok (.isub, 1) := by decide +kernel
theorem dX8_dusk_45 : decode cX8_dusk 45 = .ok (.ireturn, 1) := by decide +kernel
theorem dX8_dusk_46 : decode cX8_dusk 46 = .ok (.aload_n 0, 1) := by decide +kernel
theorem dX8_dusk_47 : decode cX8_dusk 47 = .ok (.getfield 12, 3) := by decide +kernel
theorem dX8_dusk_50 : decode cX8_dusk 50 = .ok (.aload_n 0, 1) := by decide +kernel
theorem dX8_dusk_51 : decode cX8_dusk 51 = .ok (.getfield 52, 3) := by decide +kernel
theorem dX8_dusk_54 : decode cX8_dusk 54 = .ok (.aload_n 0, 1) := by decide +kernel
theorem dX8_dusk_55 : decode cX8_dusk 55 = .ok (.getfield 171, 3) := by decide +kernel
theorem dX8_dusk_58 : decode cX8_dusk 58 = .ok (.aaload, 1) := by decide +kernel
theorem dX8_dusk_59 : decode cX8_dusk 59 = .ok (.putfield 178, 3) := by decide +kernel
theorem dX8_dusk_62 : decode cX8_dusk 62 = .ok (.aload_n 0, 1) := by decide +kernel
theorem dX8_dusk_63 : decode cX8_dusk 63 = .ok (.dup, 1) := by decide +kernel
theorem dX8_dusk_64 : decode cX8_dusk 64 = .ok (.getfield 171, 3) := by decide +kernel
theorem dX8_dusk_67 : decode cX8_dusk 67 = .ok (.iconst 1, 1) := by decide +kernel
theorem dX8_dusk_68 : decode cX8_dusk 68 = .ok (.iadd, 1) := by decide +kernel
theorem dX8_dusk_69 : decode cX8_dusk 69 = .ok (.putfield 171, 3) := by decide +kernel
theorem dX8_dusk_72 : decode cX8_dusk 72 = .ok (.aload_n 0, 1) := by decide +kernel
theorem dX8_dusk_73 : decode cX8_dusk 73 = .ok (.getfield 171, 3) := by decide +kernel
theorem dX8_dusk_76 : decode cX8_dusk 76 = .ok (.iconst 1, 1) := by decide +kernel
theorem dX8_dusk_77 : decode cX8_dusk 77 = .ok (.isub, 1) := by decide +kernel
theorem dX8_dusk_78 : decode cX8_dusk 78 = .ok (.ireturn, 1) := by decide +kernel
theorem dX8_told_0 : decode cX8_told 0 = .ok (.iload_n 1, 1) := by decide +kernel
theorem dX8_told_1 : decode cX8_told 1 = .ok (.bipush 10, 2) := by decide +kernel
theorem dX8_told_3 : decode cX8_told 3 = .ok (.if_icmp .lt 30, 3) := by decide +kernel
theorem dX8_told_6 : decode cX8_told 6 = .ok (.iload_n 1, 1) := by decide +kernel
theorem dX8_told_7 : decode cX8_told 7 = .ok (.bipush 10, 2) := by decide +kernel
theorem dX8_told_9 : decode cX8_told 9 = .ok (.aload_n 0, 1) := by decide +kernel
theorem dX8_told_10 : decode cX8_told 10 = .ok (.getfield 12, 3) := by decide +kernel
theorem dX8_told_13 : decode cX8_told 13 = .ok (.getfield 75, 3) := by decide +kernel
theorem dX8_told_16 : decode cX8_told 16 = .ok (.iadd, 1) := by decide +kernel
theorem dX8_told_17 : decode cX8_told 17 = .ok (.if_icmp .ge 16, 3) := by decide +kernel
theorem dX8_told_20 : decode cX8_told 20 = .ok (.aload_n 0, 1) := by decide +kernel
theorem dX8_told_21 : decode cX8_told 21 = .ok (.getfield 12, 3) := by decide +kernel
theorem dX8_told_24 : decode cX8_told 24 = .ok (.getfield 182, 3) := by decide +kernel
theorem dX8_told_27 : decode cX8_told 27 = .ok (.iload_n 1, 1) := by decide +kernel
theorem dX8_told_28 : decode cX8_told 28 = .ok (.bipush 10, 2) := by decide +kernel
theorem dX8_told_30 : decode cX8_told 30 = .ok (.isub, 1) := by decide +kernel
theorem dX8_told_31 : decode cX8_told 31 = .ok (.iaload, 1) := by decide +kernel
theorem dX8_told_32 : decode cX8_told 32 = .ok (.ireturn, 1) := by decide +kernel
theorem dX8_told_33 : decode cX8_told 33 = .ok (.iload_n 1, 1) := by decide +kernel
theorem dX8_told_34 : decode cX8_told 34 = .ok (.tableswitch 104 0 6 #[42, 50, 61, 72, 80, 88, 96], 42) := by decide +kernel
theorem dX8_told_76 : decode cX8_told 76 = .ok (.aload_n 0, 1) := by decide +kernel
theorem dX8_told_77 : decode cX8_told 77 = .ok (.getfield 12, 3) := by decide +kernel
theorem dX8_told_80 : decode cX8_told 80 = .ok (.getfield 185, 3) := by decide +kernel
theorem dX8_told_83 : decode cX8_told 83 = .ok (.ireturn, 1) := by decide +kernel
theorem dX8_told_84 : decode cX8_told 84 = .ok (.aload_n 0, 1) := by decide +kernel
theorem dX8_told_85 : decode cX8_told 85 = .ok (.getfield 12, 3) := by decide +kernel
theorem dX8_told_88 : decode cX8_told 88 = .ok (.getfield 178, 3) := by decide +kernel
theorem dX8_told_91 : decode cX8_told 91 = .ok (.getfield 188, 3) := by decide +kernel
theorem dX8_told_94 : decode cX8_told 94 = .ok (.ireturn, 1) := by decide +kernel
theorem dX8_told_95 : decode cX8_told 95 = .ok (.aload_n 0, 1) := by decide +kernel
theorem dX8_told_96 : decode cX8_told 96 = .ok (.getfield 12, 3) := by decide +kernel
theorem dX8_told_99 : decode cX8_told 99 = .ok (.getfield 178, 3) := by decide +kernel
theorem dX8_told_102 : decode cX8_told 102 = .ok (.getfield 191, 3) := by decide +kernel
theorem dX8_told_105 : decode cX8_told 105 = .ok (.ireturn, 1) := by decide +kernel
theorem dX8_told_106 : decode cX8_told 106 = .ok (.aload_n 0, 1) := by decide +kernel
theorem dX8_told_107 : decode cX8_told 107 = .ok (.getfield 12, 3) := by decide +kernel
theorem dX8_told_110 : decode cX8_told 110 = .ok (.getfield 194, 3) := by decide +kernel
theorem dX8_told_113 : decode cX8_told 113 = .ok (.ireturn, 1) := by decide +kernel
theorem dX8_told_114 : decode cX8_told 114 = .ok (.aload_n 0, 1) := by decide +kernel
theorem dX8_told_115 : decode cX8_told 115 = .ok (.getfield 12, 3) := by decide +kernel
theorem dX8_told_118 : decode cX8_told 118 = .ok (.getfield 197, 3) := by decide +kernel
theorem dX8_told_121 : decode cX8_told 121 = .ok (.ireturn, 1) := by decide +kernel
theorem dX8_told_122 : decode cX8_told 122 = .ok (.aload_n 0, 1) := by decide +kernel
theorem dX8_told_123 : decode cX8_told 123 = .ok (.getfield 12, 3) := by decide +kernel
theorem dX8_told_126 : decode cX8_told 126 = .ok (.getfield 200, 3) := by decide +kernel
theorem dX8_told_129 : decode cX8_told 129 = .ok (.ireturn, 1) := by decide +kernel
theorem dX8_told_130 : decode cX8_told 130 = .ok (.aload_n 0, 1) := by decide +kernel
theorem dX8_told_131 : decode cX8_told 131 = .ok (.getfield 12, 3) := by decide +kernel
theorem dX8_told_134 : decode cX8_told 134 = .ok (.invokevirtual 203, 3) := by decide +kernel
theorem dX8_told_137 : decode cX8_told 137 = .ok (.ireturn, 1) := by decide +kernel
theorem dX8_told_138 : decode cX8_told 138 = .ok (.iconst (-1), 1) := by decide +kernel
theorem dX8_told_139 : decode cX8_told 139 = .ok (.ireturn, 1) := by decide +kernel
theorem dX8_pass_0 : decode cX8_pass 0 = .ok (.iload_n 1, 1) := by decide +kernel
theorem dX8_pass_1 : decode cX8_pass 1 = .ok (.ifCond .lt 9, 3) := by decide +kernel
theorem dX8_pass_4 : decode cX8_pass 4 = .ok (.iload_n 1, 1) := by decide +kernel
theorem dX8_pass_5 : decode cX8_pass 5 = .ok (.bipush 60, 2) := by decide +kernel
theorem dX8_pass_7 : decode cX8_pass 7 = .ok (.if_icmp .le 6, 3) := by decide +kernel
theorem dX8_pass_10 : decode cX8_pass 10 = .ok (.bipush (-2), 2) := by decide +kernel
theorem dX8_pass_12 : decode cX8_pass 12 = .ok (.ireturn, 1) := by decide +kernel
theorem dX8_pass_13 : decode cX8_pass 13 = .ok (.aload_n 0, 1) := by decide +kernel
theorem dX8_pass_14 : decode cX8_pass 14 = .ok (.getfield 12, 3) := by decide +kernel
theorem dX8_pass_17 : decode cX8_pass 17 = .ok (.getfield 185, 3) := by decide +kernel
theorem dX8_pass_20 : decode cX8_pass 20 = .ok (.iload_n 1, 1) := by decide +kernel
theorem dX8_pass_21 : decode cX8_pass 21 = .ok (.iadd, 1) := by decide +kernel
theorem dX8_pass_22 : decode cX8_pass 22 = .ok (.sipush 9999, 3) := by decide +kernel
theorem dX8_pass_25 : decode cX8_pass 25 = .ok (.if_icmp .le 6, 3) := by decide +kernel
theorem dX8_pass_28 : decode cX8_pass 28 = .ok (.bipush (-3), 2) := by decide +kernel
theorem dX8_pass_30 : decode cX8_pass 30 = .ok (.ireturn, 1) := by decide +kernel
theorem dX8_pass_31 : decode cX8_pass 31 = .ok (.aload_n 0, 1) := by decide +kernel
theorem dX8_pass_32 : decode cX8_pass 32 = .ok (.getfield 12, 3) := by decide +kernel
theorem dX8_pass_35 : decode cX8_pass 35 = .ok (.iload_n 1, 1) := by decide +kernel
theorem dX8_pass_36 : decode cX8_pass 36 = .ok (.invokevirtual 207, 3) := by decide +kernel
theorem dX8_pass_39 : decode cX8_pass 39 = .ok (.aload_n 0, 1) := by decide +kernel
theorem dX8_pass_40 : decode cX8_pass 40 = .ok (.getfield 12, 3) := by decide +kernel
theorem dX8_pass_43 : decode cX8_pass 43 = .ok (.getfield 185, 3) := by decide +kernel
theorem dX8_pass_46 : decode cX8_pass 46 = .ok (.ireturn, 1) := by decide +kernel
theorem dX8_on_0 : decode cX8_on 0 = .ok (.iload_n 2, 1) := by decide +kernel
theorem dX8_on_1 : decode cX8_on 1 = .ok (.bipush 10, 2) := by decide +kernel
theorem dX8_on_3 : decode cX8_on 3 = .ok (.if_icmp .lt 21, 3) := by decide +kernel
theorem dX8_on_6 : decode cX8_on 6 = .ok (.aload_n 0, 1) := by decide +kernel
theorem dX8_on_7 : decode cX8_on 7 = .ok (.getfield 12, 3) := by decide +kernel
theorem dX8_on_10 : decode cX8_on 10 = .ok (.iload_n 2, 1) := by decide +kernel
theorem dX8_on_11 : decode cX8_on 11 = .ok (.bipush 10, 2) := by decide +kernel
theorem dX8_on_13 : decode cX8_on 13 = .ok (.isub, 1) := by decide +kernel
theorem dX8_on_14 : decode cX8_on 14 = .ok (.invokevirtual 93, 3) := by decide +kernel
theorem dX8_on_17 : decode cX8_on 17 = .ok (.ifCond .eq 7, 3) := by decide +kernel
theorem dX8_on_20 : decode cX8_on 20 = .ok (.iconst 1, 1) := by decide +kernel
theorem dX8_on_21 : decode cX8_on 21 = .ok (.goto 4, 3) := by decide +kernel
theorem dX8_on_24 : decode cX8_on 24 = .ok (.iconst 0, 1) := by decide +kernel
theorem dX8_on_25 : decode cX8_on 25 = .ok (.istore_n 3, 1) := by decide +kernel
theorem dX8_on_26 : decode cX8_on 26 = .ok (.iload_n 2, 1) := by decide +kernel
theorem dX8_on_27 : decode cX8_on 27 = .ok (.bipush 20, 2) := by decide +kernel
theorem dX8_on_29 : decode cX8_on 29 = .ok (.if_icmp .lt 21, 3) := by decide +kernel
theorem dX8_on_32 : decode cX8_on 32 = .ok (.aload_n 0, 1) := by decide +kernel
theorem dX8_on_33 : decode cX8_on 33 = .ok (.getfield 12, 3) := by decide +kernel
theorem dX8_on_36 : decode cX8_on 36 = .ok (.iload_n 2, 1) := by decide +kernel
theorem dX8_on_37 : decode cX8_on 37 = .ok (.bipush 20, 2) := by decide +kernel
theorem dX8_on_39 : decode cX8_on 39 = .ok (.isub, 1) := by decide +kernel
theorem dX8_on_40 : decode cX8_on 40 = .ok (.invokevirtual 93, 3) := by decide +kernel
theorem dX8_on_43 : decode cX8_on 43 = .ok (.ifCond .eq 7, 3) := by decide +kernel
theorem dX8_on_46 : decode cX8_on 46 = .ok (.iconst 1, 1) := by decide +kernel
theorem dX8_on_47 : decode cX8_on 47 = .ok (.goto 4, 3) := by decide +kernel
theorem dX8_on_50 : decode cX8_on 50 = .ok (.iconst 0, 1) := by decide +kernel
theorem dX8_on_51 : decode cX8_on 51 = .ok (.istore 4, 2) := by decide +kernel
theorem dX8_on_53 : decode cX8_on 53 = .ok (.iload_n 3, 1) := by decide +kernel
theorem dX8_on_54 : decode cX8_on 54 = .ok (.ifCond .ne 19, 3) := by decide +kernel
theorem dX8_on_57 : decode cX8_on 57 = .ok (.iload 4, 2) := by decide +kernel
theorem dX8_on_59 : decode cX8_on 59 = .ok (.ifCond .ne 14, 3) := by decide +kernel
theorem dX8_on_62 : decode cX8_on 62 = .ok (.iload_n 2, 1) := by decide +kernel
theorem dX8_on_63 : decode cX8_on 63 = .ok (.ifCond .lt 8, 3) := by decide +kernel
theorem dX8_on_66 : decode cX8_on 66 = .ok (.iload_n 2, 1) := by decide +kernel
theorem dX8_on_67 : decode cX8_on 67 = .ok (.iconst 2, 1) := by decide +kernel
theorem dX8_on_68 : decode cX8_on 68 = .ok (.if_icmp .le 5, 3) := by decide +kernel
theorem dX8_on_71 : decode cX8_on 71 = .ok (.iconst (-1), 1) := by decide +kernel
theorem dX8_on_72 : decode cX8_on 72 = .ok (.ireturn, 1) := by decide +kernel
theorem dX8_on_73 : decode cX8_on 73 = .ok (.iload_n 1, 1) := by decide +kernel
theorem dX8_on_74 : decode cX8_on 74 = .ok (.ifCond .lt 9, 3) := by decide +kernel
theorem dX8_on_77 : decode cX8_on 77 = .ok (.iload_n 1, 1) := by decide +kernel
theorem dX8_on_78 : decode cX8_on 78 = .ok (.bipush 99, 2) := by decide +kernel
theorem dX8_on_80 : decode cX8_on 80 = .ok (.if_icmp .le 6, 3) := by decide +kernel
theorem dX8_on_83 : decode cX8_on 83 = .ok (.bipush (-2), 2) := by decide +kernel
theorem dX8_on_85 : decode cX8_on 85 = .ok (.ireturn, 1) := by decide +kernel
theorem dX8_on_86 : decode cX8_on 86 = .ok (.aload_n 0, 1) := by decide +kernel
theorem dX8_on_87 : decode cX8_on 87 = .ok (.getfield 18, 3) := by decide +kernel
theorem dX8_on_90 : decode cX8_on 90 = .ok (.aload_n 0, 1) := by decide +kernel
theorem dX8_on_91 : decode cX8_on 91 = .ok (.getfield 12, 3) := by decide +kernel
theorem dX8_on_94 : decode cX8_on 94 = .ok (.invokevirtual 210, 3) := by decide +kernel
theorem dX8_on_97 : decode cX8_on 97 = .ok (.aload_n 0, 1) := by decide +kernel
theorem dX8_on_98 : decode cX8_on 98 = .ok (.getfield 18, 3) := by decide +kernel
theorem dX8_on_101 : decode cX8_on 101 = .ok (.iload_n 1, 1) := by decide +kernel
theorem dX8_on_102 : decode cX8_on 102 = .ok (.invokevirtual 207, 3) := by decide +kernel
theorem dX8_on_105 : decode cX8_on 105 = .ok (.iload_n 3, 1) := by decide +kernel
theorem dX8_on_106 : decode cX8_on 106 = .ok (.ifCond .eq 19, 3) := by decide +kernel
theorem dX8_on_109 : decode cX8_on 109 = .ok (.aload_n 0, 1) := by decide +kernel
theorem dX8_on_110 : decode cX8_on 110 = .ok (.getfield 18, 3) := by decide +kernel
theorem dX8_on_113 : decode cX8_on 113 = .ok (.getfield 96, 3) := by decide +kernel
theorem dX8_on_116 : decode cX8_on 116 = .ok (.iload_n 2, 1) := by decide +kernel
theorem dX8_on_117 : decode cX8_on 117 = .ok (.bipush 10, 2) := by decide +kernel
theorem dX8_on_119 : decode cX8_on 119 = .ok (.isub, 1) := by decide +kernel
theorem dX8_on_120 : decode cX8_on 120 = .ok (.aaload, 1) := by decide +kernel
theorem dX8_on_121 : decode cX8_on 121 = .ok (.getfield 108, 3) := by decide +kernel
theorem dX8_on_124 : decode cX8_on 124 = .ok (.ireturn, 1) := by decide +kernel
theorem dX8_on_125 : decode cX8_on 125 = .ok (.iload 4, 2) := by decide +kernel
theorem dX8_on_127 : decode cX8_on 127 = .ok (.ifCond .eq 19, 3) := by decide +kernel
theorem dX8_on_130 : decode cX8_on 130 = .ok (.aload_n 0, 1) := by decide +kernel
theorem dX8_on_131 : decode cX8_on 131 = .ok (.getfield 18, 3) := by decide +kernel
theorem dX8_on_134 : decode cX8_on 134 = .ok (.getfield 96, 3) := by decide +kernel
theorem dX8_on_137 : decode cX8_on 137 = .ok (.iload_n 2, 1) := by decide +kernel
theorem dX8_on_138 : decode cX8_on 138 = .ok (.bipush 20, 2) := by decide +kernel
theorem dX8_on_140 : decode cX8_on 140 = .ok (.isub, 1) := by decide +kernel
theorem dX8_on_141 : decode cX8_on 141 = .ok (.aaload, 1) := by decide +kernel
theorem dX8_on_142 : decode cX8_on 142 = .ok (.getfield 119, 3) := by decide +kernel
theorem dX8_on_145 : decode cX8_on 145 = .ok (.ireturn, 1) := by decide +kernel
theorem dX8_on_146 : decode cX8_on 146 = .ok (.iload_n 2, 1) := by decide +kernel
theorem dX8_on_147 : decode cX8_on 147 = .ok (.ifCond .ne 11, 3) := by decide +kernel
theorem dX8_on_150 : decode cX8_on 150 = .ok (.aload_n 0, 1) := by decide +kernel
theorem dX8_on_151 : decode cX8_on 151 = .ok (.getfield 18, 3) := by decide +kernel
theorem dX8_on_154 : decode cX8_on 154 = .ok (.invokevirtual 203, 3) := by decide +kernel
theorem dX8_on_157 : decode cX8_on 157 = .ok (.ireturn, 1) := by decide +kernel
theorem dX8_on_158 : decode cX8_on 158 = .ok (.iload_n 2, 1) := by decide +kernel
theorem dX8_on_159 : decode cX8_on 159 = .ok (.iconst 1, 1) := by decide +kernel
theorem dX8_on_160 : decode cX8_on 160 = .ok (.if_icmp .ne 13, 3) := by decide +kernel
theorem dX8_on_163 : decode cX8_on 163 = .ok (.aload_n 0, 1) := by decide +kernel
theorem dX8_on_164 : decode cX8_on 164 = .ok (.getfield 18, 3) := by decide +kernel
theorem dX8_on_167 : decode cX8_on 167 = .ok (.getfield 200, 3) := by decide +kernel
