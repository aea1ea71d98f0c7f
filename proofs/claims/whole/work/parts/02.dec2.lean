theorem dX7_enter_130 : decode cX7_enter 130 = .ok (.baload, 1) := by decide +kernel
theorem dX7_enter_131 : decode cX7_enter 131 = .ok (.ifCond .ne 7, 3) := by decide +kernel
theorem dX7_enter_134 : decode cX7_enter 134 = .ok (.iconst 1, 1) := by decide +kernel
theorem dX7_enter_135 : decode cX7_enter 135 = .ok (.goto 4, 3) := by decide +kernel
theorem dX7_enter_138 : decode cX7_enter 138 = .ok (.iconst 0, 1) := by decide +kernel
theorem dX7_enter_139 : decode cX7_enter 139 = .ok (.istore 4, 2) := by decide +kernel
theorem dX7_enter_141 : decode cX7_enter 141 = .ok (.iconst 0, 1) := by decide +kernel
theorem dX7_enter_142 : decode cX7_enter 142 = .ok (.istore 5, 2) := by decide +kernel
theorem dX7_enter_144 : decode cX7_enter 144 = .ok (.iload 5, 2) := by decide +kernel
theorem dX7_enter_146 : decode cX7_enter 146 = .ok (.aload_n 0, 1) := by decide +kernel
theorem dX7_enter_147 : decode cX7_enter 147 = .ok (.getfield 63, 3) := by decide +kernel
theorem dX7_enter_150 : decode cX7_enter 150 = .ok (.iload_n 1, 1) := by decide +kernel
theorem dX7_enter_151 : decode cX7_enter 151 = .ok (.iaload, 1) := by decide +kernel
theorem dX7_enter_152 : decode cX7_enter 152 = .ok (.if_icmp .ge 52, 3) := by decide +kernel
theorem dX7_enter_155 : decode cX7_enter 155 = .ok (.iload 4, 2) := by decide +kernel
theorem dX7_enter_157 : decode cX7_enter 157 = .ok (.ifCond .ne 34, 3) := by decide +kernel
theorem dX7_enter_160 : decode cX7_enter 160 = .ok (.aload_n 0, 1) := by decide +kernel
theorem dX7_enter_161 : decode cX7_enter 161 = .ok (.iload_n 1, 1) := by decide +kernel
theorem dX7_enter_162 : decode cX7_enter 162 = .ok (.iload 5, 2) := by decide +kernel
theorem dX7_enter_164 : decode cX7_enter 164 = .ok (.invokevirtual 209, 3) := by decide +kernel
theorem dX7_enter_167 : decode cX7_enter 167 = .ok (.ifCond .eq 28, 3) := by decide +kernel
theorem dX7_enter_170 : decode cX7_enter 170 = .ok (.aload_n 0, 1) := by decide +kernel
theorem dX7_enter_171 : decode cX7_enter 171 = .ok (.getfield 16, 3) := by decide +kernel
theorem dX7_enter_174 : decode cX7_enter 174 = .ok (.iload_n 3, 1) := by decide +kernel
theorem dX7_enter_175 : decode cX7_enter 175 = .ok (.iaload, 1) := by decide +kernel
theorem dX7_enter_176 : decode cX7_enter 176 = .ok (.aload_n 0, 1) := by decide +kernel
theorem dX7_enter_177 : decode cX7_enter 177 = .ok (.getfield 69, 3) := by decide +kernel
theorem dX7_enter_180 : decode cX7_enter 180 = .ok (.bipush 12, 2) := by decide +kernel
theorem dX7_enter_182 : decode cX7_enter 182 = .ok (.iload_n 1, 1) := by decide +kernel
theorem dX7_enter_183 : decode cX7_enter 183 = .ok (.imul, 1) := by decide +kernel
theorem dX7_enter_184 : decode cX7_enter 184 = .ok (.iload 5, 2) := by decide +kernel
theorem dX7_enter_186 : decode cX7_enter 186 = .ok (.iadd, 1) := by decide +kernel
theorem dX7_enter_187 : decode cX7_enter 187 = .ok (.iaload, 1) := by decide +kernel
theorem dX7_enter_188 : decode cX7_enter 188 = .ok (.if_icmp .ne 7, 3) := by decide +kernel
theorem dX7_enter_191 : decode cX7_enter 191 = .ok (.iconst 1, 1) := by decide +kernel
theorem dX7_enter_192 : decode cX7_enter 192 = .ok (.goto 4, 3) := by decide +kernel
theorem dX7_enter_195 : decode cX7_enter 195 = .ok (.iconst 0, 1) := by decide +kernel
theorem dX7_enter_196 : decode cX7_enter 196 = .ok (.istore 4, 2) := by decide +kernel
theorem dX7_enter_198 : decode cX7_enter 198 = .ok (.iinc 5 1, 3) := by decide +kernel
theorem dX7_enter_201 : decode cX7_enter 201 = .ok (.goto (-57), 3) := by decide +kernel
theorem dX7_enter_204 : decode cX7_enter 204 = .ok (.aload_n 0, 1) := by decide +kernel
theorem dX7_enter_205 : decode cX7_enter 205 = .ok (.getfield 124, 3) := by decide +kernel
theorem dX7_enter_208 : decode cX7_enter 208 = .ok (.iload_n 3, 1) := by decide +kernel
theorem dX7_enter_209 : decode cX7_enter 209 = .ok (.iload 4, 2) := by decide +kernel
theorem dX7_enter_211 : decode cX7_enter 211 = .ok (.bastore, 1) := by decide +kernel
theorem dX7_enter_212 : decode cX7_enter 212 = .ok (.iinc 3 1, 3) := by decide +kernel
theorem dX7_enter_215 : decode cX7_enter 215 = .ok (.goto (-132), 3) := by decide +kernel
theorem dX7_enter_218 : decode cX7_enter 218 = .ok (.iconst 0, 1) := by decide +kernel
theorem dX7_enter_219 : decode cX7_enter 219 = .ok (.istore_n 3, 1) := by decide +kernel
theorem dX7_enter_220 : decode cX7_enter 220 = .ok (.iload_n 3, 1) := by decide +kernel
theorem dX7_enter_221 : decode cX7_enter 221 = .ok (.sipush 256, 3) := by decide +kernel
theorem dX7_enter_224 : decode cX7_enter 224 = .ok (.if_icmp .ge 36, 3) := by decide +kernel
theorem dX7_enter_227 : decode cX7_enter 227 = .ok (.aload_n 0, 1) := by decide +kernel
theorem dX7_enter_228 : decode cX7_enter 228 = .ok (.getfield 30, 3) := by decide +kernel
theorem dX7_enter_231 : decode cX7_enter 231 = .ok (.iload_n 3, 1) := by decide +kernel
theorem dX7_enter_232 : decode cX7_enter 232 = .ok (.aload_n 0, 1) := by decide +kernel
theorem dX7_enter_233 : decode cX7_enter 233 = .ok (.getfield 124, 3) := by decide +kernel
theorem dX7_enter_236 : decode cX7_enter 236 = .ok (.iload_n 3, 1) := by decide +kernel
theorem dX7_enter_237 : decode cX7_enter 237 = .ok (.baload, 1) := by decide +kernel
theorem dX7_enter_238 : decode cX7_enter 238 = .ok (.ifCond .eq 9, 3) := by decide +kernel
theorem dX7_enter_241 : decode cX7_enter 241 = .ok (.iload_n 1, 1) := by decide +kernel
theorem dX7_enter_242 : decode cX7_enter 242 = .ok (.iconst 1, 1) := by decide +kernel
theorem dX7_enter_243 : decode cX7_enter 243 = .ok (.iadd, 1) := by decide +kernel
theorem dX7_enter_244 : decode cX7_enter 244 = .ok (.goto 9, 3) := by decide +kernel
theorem dX7_enter_247 : decode cX7_enter 247 = .ok (.aload_n 0, 1) := by decide +kernel
theorem dX7_enter_248 : decode cX7_enter 248 = .ok (.getfield 30, 3) := by decide +kernel
theorem dX7_enter_251 : decode cX7_enter 251 = .ok (.iload_n 3, 1) := by decide +kernel
theorem dX7_enter_252 : decode cX7_enter 252 = .ok (.iaload, 1) := by decide +kernel
theorem dX7_enter_253 : decode cX7_enter 253 = .ok (.iastore, 1) := by decide +kernel
theorem dX7_enter_254 : decode cX7_enter 254 = .ok (.iinc 3 1, 3) := by decide +kernel
theorem dX7_enter_257 : decode cX7_enter 257 = .ok (.goto (-37), 3) := by decide +kernel
theorem dX7_enter_260 : decode cX7_enter 260 = .ok (.aload_n 0, 1) := by decide +kernel
theorem dX7_enter_261 : decode cX7_enter 261 = .ok (.getfield 66, 3) := by decide +kernel
theorem dX7_enter_264 : decode cX7_enter 264 = .ok (.iload_n 1, 1) := by decide +kernel
theorem dX7_enter_265 : decode cX7_enter 265 = .ok (.iconst 1, 1) := by decide +kernel
theorem dX7_enter_266 : decode cX7_enter 266 = .ok (.bastore, 1) := by decide +kernel
theorem dX7_enter_267 : decode cX7_enter 267 = .ok (.iconst 0, 1) := by decide +kernel
theorem dX7_enter_268 : decode cX7_enter 268 = .ok (.istore_n 3, 1) := by decide +kernel
theorem dX7_enter_269 : decode cX7_enter 269 = .ok (.iload_n 3, 1) := by decide +kernel
theorem dX7_enter_270 : decode cX7_enter 270 = .ok (.aload_n 0, 1) := by decide +kernel
theorem dX7_enter_271 : decode cX7_enter 271 = .ok (.getfield 63, 3) := by decide +kernel
theorem dX7_enter_274 : decode cX7_enter 274 = .ok (.iload_n 1, 1) := by decide +kernel
theorem dX7_enter_275 : decode cX7_enter 275 = .ok (.iaload, 1) := by decide +kernel
theorem dX7_enter_276 : decode cX7_enter 276 = .ok (.if_icmp .ge 40, 3) := by decide +kernel
theorem dX7_enter_279 : decode cX7_enter 279 = .ok (.aload_n 0, 1) := by decide +kernel
theorem dX7_enter_280 : decode cX7_enter 280 = .ok (.iload_n 1, 1) := by decide +kernel
theorem dX7_enter_281 : decode cX7_enter 281 = .ok (.iload_n 3, 1) := by decide +kernel
theorem dX7_enter_282 : decode cX7_enter 282 = .ok (.invokevirtual 209, 3) := by decide +kernel
theorem dX7_enter_285 : decode cX7_enter 285 = .ok (.ifCond .eq 25, 3) := by decide +kernel
theorem dX7_enter_288 : decode cX7_enter 288 = .ok (.aload_n 0, 1) := by decide +kernel
theorem dX7_enter_289 : decode cX7_enter 289 = .ok (.getfield 72, 3) := by decide +kernel
theorem dX7_enter_292 : decode cX7_enter 292 = .ok (.bipush 12, 2) := by decide +kernel
theorem dX7_enter_294 : decode cX7_enter 294 = .ok (.iload_n 1, 1) := by decide +kernel
theorem dX7_enter_295 : decode cX7_enter 295 = .ok (.imul, 1) := by decide +kernel
theorem dX7_enter_296 : decode cX7_enter 296 = .ok (.iload_n 3, 1) := by decide +kernel
theorem dX7_enter_297 : decode cX7_enter 297 = .ok (.iadd, 1) := by decide +kernel
theorem dX7_enter_298 : decode cX7_enter 298 = .ok (.iconst 4, 1) := by decide +kernel
theorem dX7_enter_299 : decode cX7_enter 299 = .ok (.iastore, 1) := by decide +kernel
theorem dX7_enter_300 : decode cX7_enter 300 = .ok (.aload_n 0, 1) := by decide +kernel
theorem dX7_enter_301 : decode cX7_enter 301 = .ok (.bipush 12, 2) := by decide +kernel
theorem dX7_enter_303 : decode cX7_enter 303 = .ok (.iload_n 1, 1) := by decide +kernel
theorem dX7_enter_304 : decode cX7_enter 304 = .ok (.imul, 1) := by decide +kernel
theorem dX7_enter_305 : decode cX7_enter 305 = .ok (.iload_n 3, 1) := by decide +kernel
theorem dX7_enter_306 : decode cX7_enter 306 = .ok (.iadd, 1) := by decide +kernel
theorem dX7_enter_307 : decode cX7_enter 307 = .ok (.invokevirtual 212, 3) := by decide +kernel
theorem dX7_enter_310 : decode cX7_enter 310 = .ok (.iinc 3 1, 3) := by decide +kernel
theorem dX7_enter_313 : decode cX7_enter 313 = .ok (.goto (-44), 3) := by decide +kernel
theorem dX7_enter_316 : decode cX7_enter 316 = .ok (.aload_n 0, 1) := by decide +kernel
theorem dX7_enter_317 : decode cX7_enter 317 = .ok (.invokevirtual 206, 3) := by decide +kernel
theorem dX7_enter_320 : decode cX7_enter 320 = .ok (.iload_n 2, 1) := by decide +kernel
theorem dX7_enter_321 : decode cX7_enter 321 = .ok (.ireturn, 1) := by decide +kernel
theorem dX7_work_0 : decode cX7_work 0 = .ok (.aload_n 0, 1) := by decide +kernel
theorem dX7_work_1 : decode cX7_work 1 = .ok (.getfield 69, 3) := by decide +kernel
theorem dX7_work_4 : decode cX7_work 4 = .ok (.iload_n 1, 1) := by decide +kernel
theorem dX7_work_5 : decode cX7_work 5 = .ok (.iaload, 1) := by decide +kernel
theorem dX7_work_6 : decode cX7_work 6 = .ok (.istore_n 2, 1) := by decide +kernel
theorem dX7_work_7 : decode cX7_work 7 = .ok (.aload_n 0, 1) := by decide +kernel
theorem dX7_work_8 : decode cX7_work 8 = .ok (.getfield 78, 3) := by decide +kernel
theorem dX7_work_11 : decode cX7_work 11 = .ok (.iload_n 1, 1) := by decide +kernel
theorem dX7_work_12 : decode cX7_work 12 = .ok (.aload_n 0, 1) := by decide +kernel
theorem dX7_work_13 : decode cX7_work 13 = .ok (.getfield 174, 3) := by decide +kernel
theorem dX7_work_16 : decode cX7_work 16 = .ok (.iastore, 1) := by decide +kernel
theorem dX7_work_17 : decode cX7_work 17 = .ok (.aload_n 0, 1) := by decide +kernel
theorem dX7_work_18 : decode cX7_work 18 = .ok (.getfield 106, 3) := by decide +kernel
theorem dX7_work_21 : decode cX7_work 21 = .ok (.iload_n 1, 1) := by decide +kernel
theorem dX7_work_22 : decode cX7_work 22 = .ok (.aload_n 0, 1) := by decide +kernel
theorem dX7_work_23 : decode cX7_work 23 = .ok (.getfield 174, 3) := by decide +kernel
theorem dX7_work_26 : decode cX7_work 26 = .ok (.iastore, 1) := by decide +kernel
theorem dX7_work_27 : decode cX7_work 27 = .ok (.aload_n 0, 1) := by decide +kernel
theorem dX7_work_28 : decode cX7_work 28 = .ok (.getfield 81, 3) := by decide +kernel
theorem dX7_work_31 : decode cX7_work 31 = .ok (.iload_n 1, 1) := by decide +kernel
theorem dX7_work_32 : decode cX7_work 32 = .ok (.aload_n 0, 1) := by decide +kernel
theorem dX7_work_33 : decode cX7_work 33 = .ok (.getfield 54, 3) := by decide +kernel
theorem dX7_work_36 : decode cX7_work 36 = .ok (.iconst 3, 1) := by decide +kernel
theorem dX7_work_37 : decode cX7_work 37 = .ok (.iaload, 1) := by decide +kernel
theorem dX7_work_38 : decode cX7_work 38 = .ok (.iastore, 1) := by decide +kernel
theorem dX7_work_39 : decode cX7_work 39 = .ok (.iconst 0, 1) := by decide +kernel
theorem dX7_work_40 : decode cX7_work 40 = .ok (.istore_n 3, 1) := by decide +kernel
theorem dX7_work_41 : decode cX7_work 41 = .ok (.iload_n 3, 1) := by decide +kernel
theorem dX7_work_42 : decode cX7_work 42 = .ok (.sipush 256, 3) := by decide +kernel
theorem dX7_work_45 : decode cX7_work 45 = .ok (.if_icmp .ge 112, 3) := by decide +kernel
theorem dX7_work_48 : decode cX7_work 48 = .ok (.aload_n 0, 1) := by decide +kernel
theorem dX7_work_49 : decode cX7_work 49 = .ok (.getfield 124, 3) := by decide +kernel
theorem dX7_work_52 : decode cX7_work 52 = .ok (.iload_n 3, 1) := by decide +kernel
theorem dX7_work_53 : decode cX7_work 53 = .ok (.baload, 1) := by decide +kernel
theorem dX7_work_54 : decode cX7_work 54 = .ok (.ifCond .eq 97, 3) := by decide +kernel
theorem dX7_work_57 : decode cX7_work 57 = .ok (.aload_n 0, 1) := by decide +kernel
theorem dX7_work_58 : decode cX7_work 58 = .ok (.getfield 16, 3) := by decide +kernel
theorem dX7_work_61 : decode cX7_work 61 = .ok (.iload_n 3, 1) := by decide +kernel
theorem dX7_work_62 : decode cX7_work 62 = .ok (.iaload, 1) := by decide +kernel
theorem dX7_work_63 : decode cX7_work 63 = .ok (.iload_n 2, 1) := by decide +kernel
theorem dX7_work_64 : decode cX7_work 64 = .ok (.if_icmp .ne 87, 3) := by decide +kernel
theorem dX7_work_67 : decode cX7_work 67 = .ok (.aload_n 0, 1) := by decide +kernel
theorem dX7_work_68 : decode cX7_work 68 = .ok (.getfield 84, 3) := by decide +kernel
theorem dX7_work_71 : decode cX7_work 71 = .ok (.iload_n 1, 1) := by decide +kernel
theorem dX7_work_72 : decode cX7_work 72 = .ok (.dup2, 1) := by decide +kernel
theorem dX7_work_73 : decode cX7_work 73 = .ok (.laload, 1) := by decide +kernel
theorem dX7_work_74 : decode cX7_work 74 = .ok (.aload_n 0, 1) := by decide +kernel
theorem dX7_work_75 : decode cX7_work 75 = .ok (.aload_n 0, 1) := by decide +kernel
theorem dX7_work_76 : decode cX7_work 76 = .ok (.getfield 20, 3) := by decide +kernel
theorem dX7_work_79 : decode cX7_work 79 = .ok (.iload_n 3, 1) := by decide +kernel
theorem dX7_work_80 : decode cX7_work 80 = .ok (.iaload, 1) := by decide +kernel
theorem dX7_work_81 : decode cX7_work 81 = .ok (.aload_n 0, 1) := by decide +kernel
theorem dX7_work_82 : decode cX7_work 82 = .ok (.getfield 174, 3) := by decide +kernel
theorem dX7_work_85 : decode cX7_work 85 = .ok (.invokevirtual 167, 3) := by decide +kernel
theorem dX7_work_88 : decode cX7_work 88 = .ok (.i2l, 1) := by decide +kernel
theorem dX7_work_89 : decode cX7_work 89 = .ok (.ladd, 1) := by decide +kernel
theorem dX7_work_90 : decode cX7_work 90 = .ok (.lastore, 1) := by decide +kernel
theorem dX7_work_91 : decode cX7_work 91 = .ok (.iconst 0, 1) := by decide +kernel
theorem dX7_work_92 : decode cX7_work 92 = .ok (.istore 4, 2) := by decide +kernel
theorem dX7_work_94 : decode cX7_work 94 = .ok (.iload 4, 2) := by decide +kernel
theorem dX7_work_96 : decode cX7_work 96 = .ok (.iconst 4, 1) := by decide +kernel
theorem dX7_work_97 : decode cX7_work 97 = .ok (.if_icmp .ge 54, 3) := by decide +kernel
theorem dX7_work_100 : decode cX7_work 100 = .ok (.aload_n 0, 1) := by decide +kernel
theorem dX7_work_101 : decode cX7_work 101 = .ok (.iload_n 3, 1) := by decide +kernel
theorem dX7_work_102 : decode cX7_work 102 = .ok (.iload 4, 2) := by decide +kernel
theorem dX7_work_104 : decode cX7_work 104 = .ok (.invokevirtual 187, 3) := by decide +kernel
theorem dX7_work_107 : decode cX7_work 107 = .ok (.istore 5, 2) := by decide +kernel
theorem dX7_work_109 : decode cX7_work 109 = .ok (.aload_n 0, 1) := by decide +kernel
theorem dX7_work_110 : decode cX7_work 110 = .ok (.getfield 91, 3) := by decide +kernel
theorem dX7_work_113 : decode cX7_work 113 = .ok (.iload_n 1, 1) := by decide +kernel
theorem dX7_work_114 : decode cX7_work 114 = .ok (.dup2, 1) := by decide +kernel
theorem dX7_work_115 : decode cX7_work 115 = .ok (.laload, 1) := by decide +kernel
theorem dX7_work_116 : decode cX7_work 116 = .ok (.iload 5, 2) := by decide +kernel
theorem dX7_work_118 : decode cX7_work 118 = .ok (.iconst (-1), 1) := by decide +kernel
theorem dX7_work_119 : decode cX7_work 119 = .ok (.if_icmp .eq 23, 3) := by decide +kernel
theorem dX7_work_122 : decode cX7_work 122 = .ok (.aload_n 0, 1) := by decide +kernel
theorem dX7_work_123 : decode cX7_work 123 = .ok (.iload 5, 2) := by decide +kernel
theorem dX7_work_125 : decode cX7_work 125 = .ok (.iload_n 2, 1) := by decide +kernel
theorem dX7_work_126 : decode cX7_work 126 = .ok (.invokevirtual 190, 3) := by decide +kernel
theorem dX7_work_129 : decode cX7_work 129 = .ok (.ifCond .eq 13, 3) := by decide +kernel
theorem dX7_work_132 : decode cX7_work 132 = .ok (.aload_n 0, 1) := by decide +kernel
theorem dX7_work_133 : decode cX7_work 133 = .ok (.getfield 54, 3) := by decide +kernel
theorem dX7_work_136 : decode cX7_work 136 = .ok (.iconst 1, 1) := by decide +kernel
theorem dX7_work_137 : decode cX7_work 137 = .ok (.iaload, 1) := by decide +kernel
theorem dX7_work_138 : decode cX7_work 138 = .ok (.i2l, 1) := by decide +kernel
theorem dX7_work_139 : decode cX7_work 139 = .ok (.goto 4, 3) := by decide +kernel
theorem dX7_work_142 : decode cX7_work 142 = .ok (.lconst 0, 1) := by decide +kernel
theorem dX7_work_143 : decode cX7_work 143 = .ok (.ladd, 1) := by decide +kernel
theorem dX7_work_144 : decode cX7_work 144 = .ok (.lastore, 1) := by decide +kernel
theorem dX7_work_145 : decode cX7_work 145 = .ok (.iinc 4 1, 3) := by decide +kernel
theorem dX7_work_148 : decode cX7_work 148 = .ok (.goto (-54), 3) := by decide +kernel
theorem dX7_work_151 : decode cX7_work 151 = .ok (.iinc 3 1, 3) := by decide +kernel
theorem dX7_work_154 : decode cX7_work 154 = .ok (.goto (-113), 3) := by decide +kernel
theorem dX7_work_157 : decode cX7_work 157 = .ok (.aload_n 0, 1) := by decide +kernel
theorem dX7_work_158 : decode cX7_work 158 = .ok (.iload_n 2, 1) := by decide +kernel
theorem dX7_work_159 : decode cX7_work 159 = .ok (.invokevirtual 215, 3) := by decide +kernel
theorem dX7_work_162 : decode cX7_work 162 = .ok (.aload_n 0, 1) := by decide +kernel
theorem dX7_work_163 : decode cX7_work 163 = .ok (.iload_n 2, 1) := by decide +kernel
theorem dX7_work_164 : decode cX7_work 164 = .ok (.invokevirtual 218, 3) := by decide +kernel
theorem dX7_work_167 : decode cX7_work 167 = .ok (.istore_n 3, 1) := by decide +kernel
theorem dX7_work_168 : decode cX7_work 168 = .ok (.lconst 0, 1) := by decide +kernel
theorem dX7_work_169 : decode cX7_work 169 = .ok (.lstore 4, 2) := by decide +kernel
theorem dX7_work_171 : decode cX7_work 171 = .ok (.iconst 0, 1) := by decide +kernel
theorem dX7_work_172 : decode cX7_work 172 = .ok (.istore 6, 2) := by decide +kernel
theorem dX7_work_174 : decode cX7_work 174 = .ok (.iload 6, 2) := by decide +kernel
theorem dX7_work_176 : decode cX7_work 176 = .ok (.aload_n 0, 1) := by decide +kernel
theorem dX7_work_177 : decode cX7_work 177 = .ok (.getfield 184, 3) := by decide +kernel
theorem dX7_work_180 : decode cX7_work 180 = .ok (.if_icmp .ge 64, 3) := by decide +kernel
theorem dX7_work_183 : decode cX7_work 183 = .ok (.iload 6, 2) := by decide +kernel
theorem dX7_work_185 : decode cX7_work 185 = .ok (.iload_n 3, 1) := by decide +kernel
theorem dX7_work_186 : decode cX7_work 186 = .ok (.if_icmp .eq 52, 3) := by decide +kernel
theorem dX7_work_189 : decode cX7_work 189 = .ok (.aload_n 0, 1) := by decide +kernel
theorem dX7_work_190 : decode cX7_work 190 = .ok (.iload 6, 2) := by decide +kernel
theorem dX7_work_192 : decode cX7_work 192 = .ok (.invokevirtual 221, 3) := by decide +kernel
theorem dX7_work_195 : decode cX7_work 195 = .ok (.lstore 7, 2) := by decide +kernel
theorem dX7_work_197 : decode cX7_work 197 = .ok (.lload 4, 2) := by decide +kernel
theorem dX7_work_199 : decode cX7_work 199 = .ok (.aload_n 0, 1) := by decide +kernel
theorem dX7_work_200 : decode cX7_work 200 = .ok (.iload 6, 2) := by decide +kernel
theorem dX7_work_202 : decode cX7_work 202 = .ok (.invokevirtual 225, 3) := by decide +kernel
theorem dX7_work_205 : decode cX7_work 205 = .ok (.ifCond .ne 16, 3) := by decide +kernel
theorem dX7_work_208 : decode cX7_work 208 = .ok (.aload_n 0, 1) := by decide +kernel
theorem dX7_work_209 : decode cX7_work 209 = .ok (.iload_n 3, 1) := by decide +kernel
theorem dX7_work_210 : decode cX7_work 210 = .ok (.invokevirtual 225, 3) := by decide +kernel
theorem dX7_work_213 : decode cX7_work 213 = .ok (.ifCond .eq 8, 3) := by decide +kernel
theorem dX7_work_216 : decode cX7_work 216 = .ok (.lload 7, 2) := by decide +kernel
theorem dX7_work_218 : decode cX7_work 218 = .ok (.goto 17, 3) := by decide +kernel
theorem dX7_work_221 : decode cX7_work 221 = .ok (.lload 7, 2) := by decide +kernel
theorem dX7_work_223 : decode cX7_work 223 = .ok (.aload_n 0, 1) := by decide +kernel
theorem dX7_work_224 : decode cX7_work 224 = .ok (.getfield 54, 3) := by decide +kernel
theorem dX7_work_227 : decode cX7_work 227 = .ok (.iconst 0, 1) := by decide +kernel
theorem dX7_work_228 : decode cX7_work 228 = .ok (.iaload, 1) := by decide +kernel
theorem dX7_work_229 : decode cX7_work 229 = .ok (.i2l, 1) := by decide +kernel
theorem dX7_work_230 : decode cX7_work 230 = .ok (.lmul, 1) := by decide +kernel
theorem dX7_work_231 : decode cX7_work 231 = .ok (.ldc2_w 161, 3) := by decide +kernel
theorem dX7_work_234 : decode cX7_work 234 = .ok (.ldiv, 1) := by decide +kernel
theorem dX7_work_235 : decode cX7_work 235 = .ok (.ladd, 1) := by decide +kernel
theorem dX7_work_236 : decode cX7_work 236 = .ok (.lstore 4, 2) := by decide +kernel
theorem dX7_work_238 : decode cX7_work 238 = .ok (.iinc 6 1, 3) := by decide +kernel
theorem dX7_work_241 : decode cX7_work 241 = .ok (.goto (-67), 3) := by decide +kernel
theorem dX7_work_244 : decode cX7_work 244 = .ok (.lload 4, 2) := by decide +kernel
theorem dX7_work_246 : decode cX7_work 246 = .ok (.aload_n 0, 1) := by decide +kernel
theorem dX7_work_247 : decode cX7_work 247 = .ok (.iload_n 1, 1) := by decide +kernel
theorem dX7_work_248 : decode cX7_work 248 = .ok (.invokevirtual 228, 3) := by decide +kernel
theorem dX7_work_251 : decode cX7_work 251 = .ok (.lsub, 1) := by decide +kernel
theorem dX7_work_252 : decode cX7_work 252 = .ok (.lstore 4, 2) := by decide +kernel
theorem dX7_work_254 : decode cX7_work 254 = .ok (.aload_n 0, 1) := by decide +kernel
theorem dX7_work_255 : decode cX7_work 255 = .ok (.getfield 88, 3) := by decide +kernel
theorem dX7_work_258 : decode cX7_work 258 = .ok (.iload_n 1, 1) := by decide +kernel
theorem dX7_work_259 : decode cX7_work 259 = .ok (.lload 4, 2) := by decide +kernel
theorem dX7_work_261 : decode cX7_work 261 = .ok (.lconst 0, 1) := by decide +kernel
theorem dX7_work_262 : decode cX7_work 262 = .ok (.lcmp, 1) := by decide +kernel
theorem dX7_work_263 : decode cX7_work 263 = .ok (.ifCond .ge 7, 3) := by decide +kernel
theorem dX7_work_266 : decode cX7_work 266 = .ok (.lconst 0, 1) := by decide +kernel
theorem dX7_work_267 : decode cX7_work 267 = .ok (.goto 5, 3) := by decide +kernel
theorem dX7_work_270 : decode cX7_work 270 = .ok (.lload 4, 2) := by decide +kernel
theorem dX7_work_272 : decode cX7_work 272 = .ok (.lastore, 1) := by decide +kernel
theorem dX7_work_273 : decode cX7_work 273 = .ok (.aload_n 0, 1) := by decide +kernel
theorem dX7_work_274 : decode cX7_work 274 = .ok (.getfield 84, 3) := by decide +kernel
theorem dX7_work_277 : decode cX7_work 277 = .ok (.iload_n 1, 1) := by decide +kernel
theorem dX7_work_278 : decode cX7_work 278 = .ok (.laload, 1) := by decide +kernel
theorem dX7_work_279 : decode cX7_work 279 = .ok (.aload_n 0, 1) := by decide +kernel
theorem dX7_work_280 : decode cX7_work 280 = .ok (.getfield 88, 3) := by decide +kernel
theorem dX7_work_283 : decode cX7_work 283 = .ok (.iload_n 1, 1) := by decide +kernel
theorem dX7_work_284 : decode cX7_work 284 = .ok (.laload, 1) := by decide +kernel
theorem dX7_work_285 : decode cX7_work 285 = .ok (.ladd, 1) := by decide +kernel
theorem dX7_work_286 : decode cX7_work 286 = .ok (.aload_n 0, 1) := by decide +kernel
theorem dX7_work_287 : decode cX7_work 287 = .ok (.getfield 91, 3) := by decide +kernel
theorem dX7_work_290 : decode cX7_work 290 = .ok (.iload_n 1, 1) := by decide +kernel
theorem dX7_work_291 : decode cX7_work 291 = .ok (.laload, 1) := by decide +kernel
theorem dX7_work_292 : decode cX7_work 292 = .ok (.ladd, 1) := by decide +kernel
theorem dX7_work_293 : decode cX7_work 293 = .ok (.lstore 6, 2) := by decide +kernel
theorem dX7_work_295 : decode cX7_work 295 = .ok (.iload_n 3, 1) := by decide +kernel
theorem dX7_work_296 : decode cX7_work 296 = .ok (.iconst (-1), 1) := by decide +kernel
theorem dX7_work_297 : decode cX7_work 297 = .ok (.if_icmp .ne 7, 3) := by decide +kernel
theorem dX7_work_300 : decode cX7_work 300 = .ok (.lconst 0, 1) := by decide +kernel
theorem dX7_work_301 : decode cX7_work 301 = .ok (.goto 20, 3) := by decide +kernel
theorem dX7_work_304 : decode cX7_work 304 = .ok (.aload_n 0, 1) := by decide +kernel
theorem dX7_work_305 : decode cX7_work 305 = .ok (.iload_n 3, 1) := by decide +kernel
theorem dX7_work_306 : decode cX7_work 306 = .ok (.invokevirtual 221, 3) := by decide +kernel
theorem dX7_work_309 : decode cX7_work 309 = .ok (.aload_n 0, 1) := by decide +kernel
theorem dX7_work_310 : decode cX7_work 310 = .ok (.getfield 54, 3) := by decide +kernel
theorem dX7_work_313 : decode cX7_work 313 = .ok (.iconst 2, 1) := by decide +kernel
theorem dX7_work_314 : decode cX7_work 314 = .ok (.iaload, 1) := by decide +kernel
theorem dX7_work_315 : decode cX7_work 315 = .ok (.i2l, 1) := by decide +kernel
theorem dX7_work_316 : decode cX7_work 316 = .ok (.lmul, 1) := by decide +kernel
theorem dX7_work_317 : decode cX7_work 317 = .ok (.ldc2_w 161, 3) := by decide +kernel
theorem dX7_work_320 : decode cX7_work 320 = .ok (.ldiv, 1) := by decide +kernel
theorem dX7_work_321 : decode cX7_work 321 = .ok (.lstore 8, 2) := by decide +kernel
theorem dX7_work_323 : decode cX7_work 323 = .ok (.aload_n 0, 1) := by decide +kernel
theorem dX7_work_324 : decode cX7_work 324 = .ok (.getfield 94, 3) := by decide +kernel
theorem dX7_work_327 : decode cX7_work 327 = .ok (.iload_n 1, 1) := by decide +kernel
theorem dX7_work_328 : decode cX7_work 328 = .ok (.lload 8, 2) := by decide +kernel
theorem dX7_work_330 : decode cX7_work 330 = .ok (.lload 6, 2) := by decide +kernel
theorem dX7_work_332 : decode cX7_work 332 = .ok (.lcmp, 1) := by decide +kernel
theorem dX7_work_333 : decode cX7_work 333 = .ok (.ifCond .le 8, 3) := by decide +kernel
theorem dX7_work_336 : decode cX7_work 336 = .ok (.lload 6, 2) := by decide +kernel
theorem dX7_work_338 : decode cX7_work 338 = .ok (.goto 5, 3) := by decide +kernel
theorem dX7_work_341 : decode cX7_work 341 = .ok (.lload 8, 2) := by decide +kernel
theorem dX7_work_343 : decode cX7_work 343 = .ok (.lastore, 1) := by decide +kernel
theorem dX7_work_344 : decode cX7_work 344 = .ok (.aload_n 0, 1) := by decide +kernel
theorem dX7_work_345 : decode cX7_work 345 = .ok (.iload_n 1, 1) := by decide +kernel
theorem dX7_work_346 : decode cX7_work 346 = .ok (.invokevirtual 231, 3) := by decide +kernel
theorem dX7_work_349 : decode cX7_work 349 = .ok (.return_, 1) := by decide +kernel
theorem dX7_lossBefore_0 : decode cX7_lossBefore 0 = .ok (.lconst 0, 1) := by decide +kernel
theorem dX7_lossBefore_1 : decode cX7_lossBefore 1 = .ok (.lstore_n 2, 1) := by decide +kernel
theorem dX7_lossBefore_2 : decode cX7_lossBefore 2 = .ok (.iconst 0, 1) := by decide +kernel
theorem dX7_lossBefore_3 : decode cX7_lossBefore 3 = .ok (.istore 4, 2) := by decide +kernel
theorem dX7_lossBefore_5 : decode cX7_lossBefore 5 = .ok (.iload 4, 2) := by decide +kernel
theorem dX7_lossBefore_7 : decode cX7_lossBefore 7 = .ok (.aload_n 0, 1) := by decide +kernel
theorem dX7_lossBefore_8 : decode cX7_lossBefore 8 = .ok (.getfield 197, 3) := by decide +kernel
theorem dX7_lossBefore_11 : decode cX7_lossBefore 11 = .ok (.iconst 1, 1) := by decide +kernel
theorem dX7_lossBefore_12 : decode cX7_lossBefore 12 = .ok (.isub, 1) := by decide +kernel
theorem dX7_lossBefore_13 : decode cX7_lossBefore 13 = .ok (.if_icmp .ge 70, 3) := by decide +kernel
theorem dX7_lossBefore_16 : decode cX7_lossBefore 16 = .ok (.bipush 12, 2) := by decide +kernel
theorem dX7_lossBefore_18 : decode cX7_lossBefore 18 = .ok (.iload 4, 2) := by decide +kernel
theorem dX7_lossBefore_20 : decode cX7_lossBefore 20 = .ok (.imul, 1) := by decide +kernel
theorem dX7_lossBefore_21 : decode cX7_lossBefore 21 = .ok (.istore 5, 2) := by decide +kernel
theorem dX7_lossBefore_23 : decode cX7_lossBefore 23 = .ok (.iload 5, 2) := by decide +kernel
theorem dX7_lossBefore_25 : decode cX7_lossBefore 25 = .ok (.bipush 12, 2) := by decide +kernel
theorem dX7_lossBefore_27 : decode cX7_lossBefore 27 = .ok (.iload 4, 2) := by decide +kernel
theorem dX7_lossBefore_29 : decode cX7_lossBefore 29 = .ok (.imul, 1) := by decide +kernel
theorem dX7_lossBefore_30 : decode cX7_lossBefore 30 = .ok (.aload_n 0, 1) := by decide +kernel
theorem dX7_lossBefore_31 : decode cX7_lossBefore 31 = .ok (.getfield 63, 3) := by decide +kernel
theorem dX7_lossBefore_34 : decode cX7_lossBefore 34 = .ok (.iload 4, 2) := by decide +kernel
theorem dX7_lossBefore_36 : decode cX7_lossBefore 36 = .ok (.iaload, 1) := by decide +kernel
theorem dX7_lossBefore_37 : decode cX7_lossBefore 37 = .ok (.iadd, 1) := by decide +kernel
theorem dX7_lossBefore_38 : decode cX7_lossBefore 38 = .ok (.if_icmp .ge 39, 3) := by decide +kernel
theorem dX7_lossBefore_41 : decode cX7_lossBefore 41 = .ok (.lload_n 2, 1) := by decide +kernel
theorem dX7_lossBefore_42 : decode cX7_lossBefore 42 = .ok (.aload_n 0, 1) := by decide +kernel
theorem dX7_lossBefore_43 : decode cX7_lossBefore 43 = .ok (.getfield 69, 3) := by decide +kernel
theorem dX7_lossBefore_46 : decode cX7_lossBefore 46 = .ok (.iload 5, 2) := by decide +kernel
theorem dX7_lossBefore_48 : decode cX7_lossBefore 48 = .ok (.iaload, 1) := by decide +kernel
theorem dX7_lossBefore_49 : decode cX7_lossBefore 49 = .ok (.aload_n 0, 1) := by decide +kernel
theorem dX7_lossBefore_50 : decode cX7_lossBefore 50 = .ok (.getfield 69, 3) := by decide +kernel
theorem dX7_lossBefore_53 : decode cX7_lossBefore 53 = .ok (.iload_n 1, 1) := by decide +kernel
theorem dX7_lossBefore_54 : decode cX7_lossBefore 54 = .ok (.iaload, 1) := by decide +kernel
theorem dX7_lossBefore_55 : decode cX7_lossBefore 55 = .ok (.if_icmp .ne 13, 3) := by decide +kernel
theorem dX7_lossBefore_58 : decode cX7_lossBefore 58 = .ok (.aload_n 0, 1) := by decide +kernel
theorem dX7_lossBefore_59 : decode cX7_lossBefore 59 = .ok (.getfield 88, 3) := by decide +kernel
theorem dX7_lossBefore_62 : decode cX7_lossBefore 62 = .ok (.iload 5, 2) := by decide +kernel
theorem dX7_lossBefore_64 : decode cX7_lossBefore 64 = .ok (.laload, 1) := by decide +kernel
theorem dX7_lossBefore_65 : decode cX7_lossBefore 65 = .ok (.goto 4, 3) := by decide +kernel
theorem dX7_lossBefore_68 : decode cX7_lossBefore 68 = .ok (.lconst 0, 1) := by decide +kernel
theorem dX7_lossBefore_69 : decode cX7_lossBefore 69 = .ok (.ladd, 1) := by decide +kernel
theorem dX7_lossBefore_70 : decode cX7_lossBefore 70 = .ok (.lstore_n 2, 1) := by decide +kernel
theorem dX7_lossBefore_71 : decode cX7_lossBefore 71 = .ok (.iinc 5 1, 3) := by decide +kernel
theorem dX7_lossBefore_74 : decode cX7_lossBefore 74 = .ok (.goto (-51), 3) := by decide +kernel
theorem dX7_lossBefore_77 : decode cX7_lossBefore 77 = .ok (.iinc 4 1, 3) := by decide +kernel
theorem dX7_lossBefore_80 : decode cX7_lossBefore 80 = .ok (.goto (-75), 3) := by decide +kernel
theorem dX7_lossBefore_83 : decode cX7_lossBefore 83 = .ok (.lload_n 2, 1) := by decide +kernel
theorem dX7_lossBefore_84 : decode cX7_lossBefore 84 = .ok (.lreturn, 1) := by decide +kernel
theorem dX7_debtLeft_0 : decode cX7_debtLeft 0 = .ok (.aload_n 0, 1) := by decide +kernel
theorem dX7_debtLeft_1 : decode cX7_debtLeft 1 = .ok (.getfield 42, 3) := by decide +kernel
theorem dX7_debtLeft_4 : decode cX7_debtLeft 4 = .ok (.iconst 4, 1) := by decide +kernel
theorem dX7_debtLeft_5 : decode cX7_debtLeft 5 = .ok (.iload_n 1, 1) := by decide +kernel
theorem dX7_debtLeft_6 : decode cX7_debtLeft 6 = .ok (.imul, 1) := by decide +kernel
theorem dX7_debtLeft_7 : decode cX7_debtLeft 7 = .ok (.iload_n 2, 1) := by decide +kernel
theorem dX7_debtLeft_8 : decode cX7_debtLeft 8 = .ok (.iadd, 1) := by decide +kernel
theorem dX7_debtLeft_9 : decode cX7_debtLeft 9 = .ok (.iaload, 1) := by decide +kernel
theorem dX7_debtLeft_10 : decode cX7_debtLeft 10 = .ok (.i2l, 1) := by decide +kernel
theorem dX7_debtLeft_11 : decode cX7_debtLeft 11 = .ok (.lstore_n 3, 1) := by decide +kernel
theorem dX7_debtLeft_12 : decode cX7_debtLeft 12 = .ok (.iconst 0, 1) := by decide +kernel
theorem dX7_debtLeft_13 : decode cX7_debtLeft 13 = .ok (.istore 5, 2) := by decide +kernel
theorem dX7_debtLeft_15 : decode cX7_debtLeft 15 = .ok (.iload 5, 2) := by decide +kernel
theorem dX7_debtLeft_17 : decode cX7_debtLeft 17 = .ok (.aload_n 0, 1) := by decide +kernel
theorem dX7_debtLeft_18 : decode cX7_debtLeft 18 = .ok (.getfield 197, 3) := by decide +kernel
theorem dX7_debtLeft_21 : decode cX7_debtLeft 21 = .ok (.if_icmp .ge 69, 3) := by decide +kernel
theorem dX7_debtLeft_24 : decode cX7_debtLeft 24 = .ok (.bipush 12, 2) := by decide +kernel
theorem dX7_debtLeft_26 : decode cX7_debtLeft 26 = .ok (.iload 5, 2) := by decide +kernel
theorem dX7_debtLeft_28 : decode cX7_debtLeft 28 = .ok (.imul, 1) := by decide +kernel
theorem dX7_debtLeft_29 : decode cX7_debtLeft 29 = .ok (.istore 6, 2) := by decide +kernel
theorem dX7_debtLeft_31 : decode cX7_debtLeft 31 = .ok (.iload 6, 2) := by decide +kernel
theorem dX7_debtLeft_33 : decode cX7_debtLeft 33 = .ok (.bipush 12, 2) := by decide +kernel
theorem dX7_debtLeft_35 : decode cX7_debtLeft 35 = .ok (.iload 5, 2) := by decide +kernel
theorem dX7_debtLeft_37 : decode cX7_debtLeft 37 = .ok (.imul, 1) := by decide +kernel
theorem dX7_debtLeft_38 : decode cX7_debtLeft 38 = .ok (.aload_n 0, 1) := by decide +kernel
theorem dX7_debtLeft_39 : decode cX7_debtLeft 39 = .ok (.getfield 63, 3) := by decide +kernel
theorem dX7_debtLeft_42 : decode cX7_debtLeft 42 = .ok (.iload 5, 2) := by decide +kernel
theorem dX7_debtLeft_44 : decode cX7_debtLeft 44 = .ok (.iaload, 1) := by decide +kernel
theorem dX7_debtLeft_45 : decode cX7_debtLeft 45 = .ok (.iadd, 1) := by decide +kernel
theorem dX7_debtLeft_46 : decode cX7_debtLeft 46 = .ok (.if_icmp .ge 38, 3) := by decide +kernel
theorem dX7_debtLeft_49 : decode cX7_debtLeft 49 = .ok (.lload_n 3, 1) := by decide +kernel
theorem dX7_debtLeft_50 : decode cX7_debtLeft 50 = .ok (.aload_n 0, 1) := by decide +kernel
theorem dX7_debtLeft_51 : decode cX7_debtLeft 51 = .ok (.getfield 69, 3) := by decide +kernel
theorem dX7_debtLeft_54 : decode cX7_debtLeft 54 = .ok (.iload 6, 2) := by decide +kernel
theorem dX7_debtLeft_56 : decode cX7_debtLeft 56 = .ok (.iaload, 1) := by decide +kernel
theorem dX7_debtLeft_57 : decode cX7_debtLeft 57 = .ok (.iload_n 1, 1) := by decide +kernel
theorem dX7_debtLeft_58 : decode cX7_debtLeft 58 = .ok (.if_icmp .ne 17, 3) := by decide +kernel
theorem dX7_debtLeft_61 : decode cX7_debtLeft 61 = .ok (.aload_n 0, 1) := by decide +kernel
theorem dX7_debtLeft_62 : decode cX7_debtLeft 62 = .ok (.getfield 109, 3) := by decide +kernel
theorem dX7_debtLeft_65 : decode cX7_debtLeft 65 = .ok (.iconst 4, 1) := by decide +kernel
theorem dX7_debtLeft_66 : decode cX7_debtLeft 66 = .ok (.iload 6, 2) := by decide +kernel
theorem dX7_debtLeft_68 : decode cX7_debtLeft 68 = .ok (.imul, 1) := by decide +kernel
theorem dX7_debtLeft_69 : decode cX7_debtLeft 69 = .ok (.iload_n 2, 1) := by decide +kernel
theorem dX7_debtLeft_70 : decode cX7_debtLeft 70 = .ok (.iadd, 1) := by decide +kernel
theorem dX7_debtLeft_71 : decode cX7_debtLeft 71 = .ok (.laload, 1) := by decide +kernel
theorem dX7_debtLeft_72 : decode cX7_debtLeft 72 = .ok (.goto 4, 3) := by decide +kernel
theorem dX7_debtLeft_75 : decode cX7_debtLeft 75 = .ok (.lconst 0, 1) := by decide +kernel
theorem dX7_debtLeft_76 : decode cX7_debtLeft 76 = .ok (.lsub, 1) := by decide +kernel
theorem dX7_debtLeft_77 : decode cX7_debtLeft 77 = .ok (.lstore_n 3, 1) := by decide +kernel
theorem dX7_debtLeft_78 : decode cX7_debtLeft 78 = .ok (.iinc 6 1, 3) := by decide +kernel
theorem dX7_debtLeft_81 : decode cX7_debtLeft 81 = .ok (.goto (-50), 3) := by decide +kernel
theorem dX7_debtLeft_84 : decode cX7_debtLeft 84 = .ok (.iinc 5 1, 3) := by decide +kernel
theorem dX7_debtLeft_87 : decode cX7_debtLeft 87 = .ok (.goto (-72), 3) := by decide +kernel
theorem dX7_debtLeft_90 : decode cX7_debtLeft 90 = .ok (.lload_n 3, 1) := by decide +kernel
theorem dX7_debtLeft_91 : decode cX7_debtLeft 91 = .ok (.lreturn, 1) := by decide +kernel
theorem dX7_dueOf_0 : decode cX7_dueOf 0 = .ok (.aload_n 0, 1) := by decide +kernel
theorem dX7_dueOf_1 : decode cX7_dueOf 1 = .ok (.getfield 84, 3) := by decide +kernel
theorem dX7_dueOf_4 : decode cX7_dueOf 4 = .ok (.iload_n 1, 1) := by decide +kernel
theorem dX7_dueOf_5 : decode cX7_dueOf 5 = .ok (.laload, 1) := by decide +kernel
theorem dX7_dueOf_6 : decode cX7_dueOf 6 = .ok (.aload_n 0, 1) := by decide +kernel
theorem dX7_dueOf_7 : decode cX7_dueOf 7 = .ok (.getfield 88, 3) := by decide +kernel
theorem dX7_dueOf_10 : decode cX7_dueOf 10 = .ok (.iload_n 1, 1) := by decide +kernel
theorem dX7_dueOf_11 : decode cX7_dueOf 11 = .ok (.laload, 1) := by decide +kernel
theorem dX7_dueOf_12 : decode cX7_dueOf 12 = .ok (.ladd, 1) := by decide +kernel
theorem dX7_dueOf_13 : decode cX7_dueOf 13 = .ok (.aload_n 0, 1) := by decide +kernel
theorem dX7_dueOf_14 : decode cX7_dueOf 14 = .ok (.getfield 91, 3) := by decide +kernel
theorem dX7_dueOf_17 : decode cX7_dueOf 17 = .ok (.iload_n 1, 1) := by decide +kernel
theorem dX7_dueOf_18 : decode cX7_dueOf 18 = .ok (.laload, 1) := by decide +kernel
theorem dX7_dueOf_19 : decode cX7_dueOf 19 = .ok (.ladd, 1) := by decide +kernel
theorem dX7_dueOf_20 : decode cX7_dueOf 20 = .ok (.aload_n 0, 1) := by decide +kernel
theorem dX7_dueOf_21 : decode cX7_dueOf 21 = .ok (.getfield 94, 3) := by decide +kernel
theorem dX7_dueOf_24 : decode cX7_dueOf 24 = .ok (.iload_n 1, 1) := by decide +kernel
theorem dX7_dueOf_25 : decode cX7_dueOf 25 = .ok (.laload, 1) := by decide +kernel
theorem dX7_dueOf_26 : decode cX7_dueOf 26 = .ok (.lsub, 1) := by decide +kernel
theorem dX7_dueOf_27 : decode cX7_dueOf 27 = .ok (.lreturn, 1) := by decide +kernel
theorem dX7_share_0 : decode cX7_share 0 = .ok (.aload_n 0, 1) := by decide +kernel
theorem dX7_share_1 : decode cX7_share 1 = .ok (.getfield 69, 3) := by decide +kernel
theorem dX7_share_4 : decode cX7_share 4 = .ok (.iload_n 1, 1) := by decide +kernel
theorem dX7_share_5 : decode cX7_share 5 = .ok (.iaload, 1) := by decide +kernel
theorem dX7_share_6 : decode cX7_share 6 = .ok (.istore_n 2, 1) := by decide +kernel
theorem dX7_share_7 : decode cX7_share 7 = .ok (.aload_n 0, 1) := by decide +kernel
theorem dX7_share_8 : decode cX7_share 8 = .ok (.iload_n 1, 1) := by decide +kernel
theorem dX7_share_9 : decode cX7_share 9 = .ok (.invokevirtual 234, 3) := by decide +kernel
theorem dX7_share_12 : decode cX7_share 12 = .ok (.lstore_n 3, 1) := by decide +kernel
theorem dX7_share_13 : decode cX7_share 13 = .ok (.lload_n 3, 1) := by decide +kernel
theorem dX7_share_14 : decode cX7_share 14 = .ok (.lstore 5, 2) := by decide +kernel
theorem dX7_share_16 : decode cX7_share 16 = .ok (.iconst 0, 1) := by decide +kernel
theorem dX7_share_17 : decode cX7_share 17 = .ok (.istore 7, 2) := by decide +kernel
theorem dX7_share_19 : decode cX7_share 19 = .ok (.iload 7, 2) := by decide +kernel
theorem dX7_share_21 : decode cX7_share 21 = .ok (.aload_n 0, 1) := by decide +kernel
theorem dX7_share_22 : decode cX7_share 22 = .ok (.getfield 36, 3) := by decide +kernel
theorem dX7_share_25 : decode cX7_share 25 = .ok (.iload_n 2, 1) := by decide +kernel
theorem dX7_share_26 : decode cX7_share 26 = .ok (.iaload, 1) := by decide +kernel
theorem dX7_share_27 : decode cX7_share 27 = .ok (.if_icmp .ge 96, 3) := by decide +kernel
theorem dX7_share_30 : decode cX7_share 30 = .ok (.aload_n 0, 1) := by decide +kernel
theorem dX7_share_31 : decode cX7_share 31 = .ok (.getfield 39, 3) := by decide +kernel
theorem dX7_share_34 : decode cX7_share 34 = .ok (.iconst 4, 1) := by decide +kernel
theorem dX7_share_35 : decode cX7_share 35 = .ok (.iload_n 2, 1) := by decide +kernel
theorem dX7_share_36 : decode cX7_share 36 = .ok (.imul, 1) := by decide +kernel
theorem dX7_share_37 : decode cX7_share 37 = .ok (.iload 7, 2) := by decide +kernel
theorem dX7_share_39 : decode cX7_share 39 = .ok (.iadd, 1) := by decide +kernel
theorem dX7_share_40 : decode cX7_share 40 = .ok (.iaload, 1) := by decide +kernel
theorem dX7_share_41 : decode cX7_share 41 = .ok (.iconst 2, 1) := by decide +kernel
theorem dX7_share_42 : decode cX7_share 42 = .ok (.if_icmp .ne 24, 3) := by decide +kernel
theorem dX7_share_45 : decode cX7_share 45 = .ok (.lload_n 3, 1) := by decide +kernel
theorem dX7_share_46 : decode cX7_share 46 = .ok (.aload_n 0, 1) := by decide +kernel
theorem dX7_share_47 : decode cX7_share 47 = .ok (.getfield 42, 3) := by decide +kernel
theorem dX7_share_50 : decode cX7_share 50 = .ok (.iconst 4, 1) := by decide +kernel
theorem dX7_share_51 : decode cX7_share 51 = .ok (.iload_n 2, 1) := by decide +kernel
theorem dX7_share_52 : decode cX7_share 52 = .ok (.imul, 1) := by decide +kernel
theorem dX7_share_53 : decode cX7_share 53 = .ok (.iload 7, 2) := by decide +kernel
theorem dX7_share_55 : decode cX7_share 55 = .ok (.iadd, 1) := by decide +kernel
theorem dX7_share_56 : decode cX7_share 56 = .ok (.iaload, 1) := by decide +kernel
theorem dX7_share_57 : decode cX7_share 57 = .ok (.i2l, 1) := by decide +kernel
theorem dX7_share_58 : decode cX7_share 58 = .ok (.lmul, 1) := by decide +kernel
theorem dX7_share_59 : decode cX7_share 59 = .ok (.ldc2_w 161, 3) := by decide +kernel
theorem dX7_share_62 : decode cX7_share 62 = .ok (.ldiv, 1) := by decide +kernel
theorem dX7_share_63 : decode cX7_share 63 = .ok (.goto 10, 3) := by decide +kernel
theorem dX7_share_66 : decode cX7_share 66 = .ok (.aload_n 0, 1) := by decide +kernel
theorem dX7_share_67 : decode cX7_share 67 = .ok (.iload_n 2, 1) := by decide +kernel
theorem dX7_share_68 : decode cX7_share 68 = .ok (.iload 7, 2) := by decide +kernel
theorem dX7_share_70 : decode cX7_share 70 = .ok (.invokevirtual 237, 3) := by decide +kernel
theorem dX7_share_73 : decode cX7_share 73 = .ok (.lstore 8, 2) := by decide +kernel
theorem dX7_share_75 : decode cX7_share 75 = .ok (.aload_n 0, 1) := by decide +kernel
theorem dX7_share_76 : decode cX7_share 76 = .ok (.getfield 109, 3) := by decide +kernel
theorem dX7_share_79 : decode cX7_share 79 = .ok (.iconst 4, 1) := by decide +kernel
theorem dX7_share_80 : decode cX7_share 80 = .ok (.iload_n 1, 1) := by decide +kernel
theorem dX7_share_81 : decode cX7_share 81 = .ok (.imul, 1) := by decide +kernel
theorem dX7_share_82 : decode cX7_share 82 = .ok (.iload 7, 2) := by decide +kernel
theorem dX7_share_84 : decode cX7_share 84 = .ok (.iadd, 1) := by decide +kernel
theorem dX7_share_85 : decode cX7_share 85 = .ok (.lload 8, 2) := by decide +kernel
theorem dX7_share_87 : decode cX7_share 87 = .ok (.lload 5, 2) := by decide +kernel
theorem dX7_share_89 : decode cX7_share 89 = .ok (.lcmp, 1) := by decide +kernel
theorem dX7_share_90 : decode cX7_share 90 = .ok (.ifCond .le 8, 3) := by decide +kernel
theorem dX7_share_93 : decode cX7_share 93 = .ok (.lload 5, 2) := by decide +kernel
theorem dX7_share_95 : decode cX7_share 95 = .ok (.goto 5, 3) := by decide +kernel
theorem dX7_share_98 : decode cX7_share 98 = .ok (.lload 8, 2) := by decide +kernel
theorem dX7_share_100 : decode cX7_share 100 = .ok (.lastore, 1) := by decide +kernel
theorem dX7_share_101 : decode cX7_share 101 = .ok (.lload 5, 2) := by decide +kernel
theorem dX7_share_103 : decode cX7_share 103 = .ok (.aload_n 0, 1) := by decide +kernel
theorem dX7_share_104 : decode cX7_share 104 = .ok (.getfield 109, 3) := by decide +kernel
theorem dX7_share_107 : decode cX7_share 107 = .ok (.iconst 4, 1) := by decide +kernel
theorem dX7_share_108 : decode cX7_share 108 = .ok (.iload_n 1, 1) := by decide +kernel
theorem dX7_share_109 : decode cX7_share 109 = .ok (.imul, 1) := by decide +kernel
theorem dX7_share_110 : decode cX7_share 110 = .ok (.iload 7, 2) := by decide +kernel
theorem dX7_share_112 : decode cX7_share 112 = .ok (.iadd, 1) := by decide +kernel
theorem dX7_share_113 : decode cX7_share 113 = .ok (.laload, 1) := by decide +kernel
theorem dX7_share_114 : decode cX7_share 114 = .ok (.lsub, 1) := by decide +kernel
theorem dX7_share_115 : decode cX7_share 115 = .ok (.lstore 5, 2) := by decide +kernel
theorem dX7_share_117 : decode cX7_share 117 = .ok (.iinc 7 1, 3) := by decide +kernel
theorem dX7_share_120 : decode cX7_share 120 = .ok (.goto (-101), 3) := by decide +kernel
theorem dX7_share_123 : decode cX7_share 123 = .ok (.return_, 1) := by decide +kernel
theorem dX7_undo_0 : decode cX7_undo 0 = .ok (.aload_n 0, 1) := by decide +kernel
theorem dX7_undo_1 : decode cX7_undo 1 = .ok (.getfield 197, 3) := by decide +kernel
theorem dX7_undo_4 : decode cX7_undo 4 = .ok (.ifCond .eq 10, 3) := by decide +kernel
theorem dX7_undo_7 : decode cX7_undo 7 = .ok (.aload_n 0, 1) := by decide +kernel
theorem dX7_undo_8 : decode cX7_undo 8 = .ok (.getfield 200, 3) := by decide +kernel
theorem dX7_undo_11 : decode cX7_undo 11 = .ok (.ifCond .eq 7, 3) := by decide +kernel
theorem dX7_undo_14 : decode cX7_undo 14 = .ok (.ldc2_w 241, 3) := by decide +kernel
theorem dX7_undo_17 : decode cX7_undo 17 = .ok (.lreturn, 1) := by decide +kernel
theorem dX7_undo_18 : decode cX7_undo 18 = .ok (.aload_n 0, 1) := by decide +kernel
theorem dX7_undo_19 : decode cX7_undo 19 = .ok (.getfield 197, 3) := by decide +kernel
theorem dX7_undo_22 : decode cX7_undo 22 = .ok (.iconst 1, 1) := by decide +kernel
theorem dX7_undo_23 : decode cX7_undo 23 = .ok (.isub, 1) := by decide +kernel
theorem dX7_undo_24 : decode cX7_undo 24 = .ok (.istore_n 1, 1) := by decide +kernel
theorem dX7_undo_25 : decode cX7_undo 25 = .ok (.lconst 0, 1) := by decide +kernel
theorem dX7_undo_26 : decode cX7_undo 26 = .ok (.lstore_n 2, 1) := by decide +kernel
theorem dX7_undo_27 : decode cX7_undo 27 = .ok (.bipush 12, 2) := by decide +kernel
theorem dX7_undo_29 : decode cX7_undo 29 = .ok (.iload_n 1, 1) := by decide +kernel
theorem dX7_undo_30 : decode cX7_undo 30 = .ok (.imul, 1) := by decide +kernel
theorem dX7_undo_31 : decode cX7_undo 31 = .ok (.istore 4, 2) := by decide +kernel
theorem dX7_undo_33 : decode cX7_undo 33 = .ok (.iload 4, 2) := by decide +kernel
theorem dX7_undo_35 : decode cX7_undo 35 = .ok (.bipush 12, 2) := by decide +kernel
theorem dX7_undo_37 : decode cX7_undo 37 = .ok (.iload_n 1, 1) := by decide +kernel
theorem dX7_undo_38 : decode cX7_undo 38 = .ok (.imul, 1) := by decide +kernel
theorem dX7_undo_39 : decode cX7_undo 39 = .ok (.aload_n 0, 1) := by decide +kernel
theorem dX7_undo_40 : decode cX7_undo 40 = .ok (.getfield 63, 3) := by decide +kernel
theorem dX7_undo_43 : decode cX7_undo 43 = .ok (.iload_n 1, 1) := by decide +kernel
theorem dX7_undo_44 : decode cX7_undo 44 = .ok (.iaload, 1) := by decide +kernel
theorem dX7_undo_45 : decode cX7_undo 45 = .ok (.iadd, 1) := by decide +kernel
theorem dX7_undo_46 : decode cX7_undo 46 = .ok (.if_icmp .ge 27, 3) := by decide +kernel
theorem dX7_undo_49 : decode cX7_undo 49 = .ok (.lload_n 2, 1) := by decide +kernel
theorem dX7_undo_50 : decode cX7_undo 50 = .ok (.aload_n 0, 1) := by decide +kernel
theorem dX7_undo_51 : decode cX7_undo 51 = .ok (.getfield 97, 3) := by decide +kernel
theorem dX7_undo_54 : decode cX7_undo 54 = .ok (.iload 4, 2) := by decide +kernel
theorem dX7_undo_56 : decode cX7_undo 56 = .ok (.laload, 1) := by decide +kernel
theorem dX7_undo_57 : decode cX7_undo 57 = .ok (.aload_n 0, 1) := by decide +kernel
theorem dX7_undo_58 : decode cX7_undo 58 = .ok (.getfield 100, 3) := by decide +kernel
theorem dX7_undo_61 : decode cX7_undo 61 = .ok (.iload 4, 2) := by decide +kernel
theorem dX7_undo_63 : decode cX7_undo 63 = .ok (.laload, 1) := by decide +kernel
theorem dX7_undo_64 : decode cX7_undo 64 = .ok (.ladd, 1) := by decide +kernel
theorem dX7_undo_65 : decode cX7_undo 65 = .ok (.ladd, 1) := by decide +kernel
theorem dX7_undo_66 : decode cX7_undo 66 = .ok (.lstore_n 2, 1) := by decide +kernel
theorem dX7_undo_67 : decode cX7_undo 67 = .ok (.iinc 4 1, 3) := by decide +kernel
theorem dX7_undo_70 : decode cX7_undo 70 = .ok (.goto (-37), 3) := by decide +kernel
theorem dX7_undo_73 : decode cX7_undo 73 = .ok (.iconst 0, 1) := by decide +kernel
theorem dX7_undo_74 : decode cX7_undo 74 = .ok (.istore 4, 2) := by decide +kernel
theorem dX7_undo_76 : decode cX7_undo 76 = .ok (.iload 4, 2) := by decide +kernel
theorem dX7_undo_78 : decode cX7_undo 78 = .ok (.sipush 256, 3) := by decide +kernel
theorem dX7_undo_81 : decode cX7_undo 81 = .ok (.if_icmp .ge 40, 3) := by decide +kernel
theorem dX7_undo_84 : decode cX7_undo 84 = .ok (.aload_n 0, 1) := by decide +kernel
theorem dX7_undo_85 : decode cX7_undo 85 = .ok (.getfield 30, 3) := by decide +kernel
theorem dX7_undo_88 : decode cX7_undo 88 = .ok (.iload 4, 2) := by decide +kernel
theorem dX7_undo_90 : decode cX7_undo 90 = .ok (.aload_n 0, 1) := by decide +kernel
theorem dX7_undo_91 : decode cX7_undo 91 = .ok (.getfield 30, 3) := by decide +kernel
theorem dX7_undo_94 : decode cX7_undo 94 = .ok (.iload 4, 2) := by decide +kernel
theorem dX7_undo_96 : decode cX7_undo 96 = .ok (.iaload, 1) := by decide +kernel
theorem dX7_undo_97 : decode cX7_undo 97 = .ok (.iload_n 1, 1) := by decide +kernel
theorem dX7_undo_98 : decode cX7_undo 98 = .ok (.iconst 1, 1) := by decide +kernel
theorem dX7_undo_99 : decode cX7_undo 99 = .ok (.iadd, 1) := by decide +kernel
theorem dX7_undo_100 : decode cX7_undo 100 = .ok (.if_icmp .ne 7, 3) := by decide +kernel
theorem dX7_undo_103 : decode cX7_undo 103 = .ok (.iconst 0, 1) := by decide +kernel
theorem dX7_undo_104 : decode cX7_undo 104 = .ok (.goto 10, 3) := by decide +kernel
theorem dX7_undo_107 : decode cX7_undo 107 = .ok (.aload_n 0, 1) := by decide +kernel
theorem dX7_undo_108 : decode cX7_undo 108 = .ok (.getfield 30, 3) := by decide +kernel
theorem dX7_undo_111 : decode cX7_undo 111 = .ok (.iload 4, 2) := by decide +kernel
theorem dX7_undo_113 : decode cX7_undo 113 = .ok (.iaload, 1) := by decide +kernel
theorem dX7_undo_114 : decode cX7_undo 114 = .ok (.iastore, 1) := by decide +kernel
theorem dX7_undo_115 : decode cX7_undo 115 = .ok (.iinc 4 1, 3) := by decide +kernel
theorem dX7_undo_118 : decode cX7_undo 118 = .ok (.goto (-42), 3) := by decide +kernel
theorem dX7_undo_121 : decode cX7_undo 121 = .ok (.aload_n 0, 1) := by decide +kernel
theorem dX7_undo_122 : decode cX7_undo 122 = .ok (.dup, 1) := by decide +kernel
theorem dX7_undo_123 : decode cX7_undo 123 = .ok (.getfield 197, 3) := by decide +kernel
theorem dX7_undo_126 : decode cX7_undo 126 = .ok (.iconst 1, 1) := by decide +kernel
theorem dX7_undo_127 : decode cX7_undo 127 = .ok (.isub, 1) := by decide +kernel
theorem dX7_undo_128 : decode cX7_undo 128 = .ok (.putfield 197, 3) := by decide +kernel
theorem dX7_undo_131 : decode cX7_undo 131 = .ok (.aload_n 0, 1) := by decide +kernel
theorem dX7_undo_132 : decode cX7_undo 132 = .ok (.dup, 1) := by decide +kernel
theorem dX7_undo_133 : decode cX7_undo 133 = .ok (.getfield 243, 3) := by decide +kernel
theorem dX7_undo_136 : decode cX7_undo 136 = .ok (.iconst 1, 1) := by decide +kernel
theorem dX7_undo_137 : decode cX7_undo 137 = .ok (.iadd, 1) := by decide +kernel
theorem dX7_undo_138 : decode cX7_undo 138 = .ok (.putfield 243, 3) := by decide +kernel
theorem dX7_undo_141 : decode cX7_undo 141 = .ok (.lload_n 2, 1) := by decide +kernel
theorem dX7_undo_142 : decode cX7_undo 142 = .ok (.lreturn, 1) := by decide +kernel
theorem dX7_owed_0 : decode cX7_owed 0 = .ok (.aload_n 0, 1) := by decide +kernel
theorem dX7_owed_1 : decode cX7_owed 1 = .ok (.iload_n 1, 1) := by decide +kernel
theorem dX7_owed_2 : decode cX7_owed 2 = .ok (.invokevirtual 234, 3) := by decide +kernel
theorem dX7_owed_5 : decode cX7_owed 5 = .ok (.aload_n 0, 1) := by decide +kernel
theorem dX7_owed_6 : decode cX7_owed 6 = .ok (.getfield 97, 3) := by decide +kernel
theorem dX7_owed_9 : decode cX7_owed 9 = .ok (.iload_n 1, 1) := by decide +kernel
theorem dX7_owed_10 : decode cX7_owed 10 = .ok (.laload, 1) := by decide +kernel
theorem dX7_owed_11 : decode cX7_owed 11 = .ok (.lsub, 1) := by decide +kernel
theorem dX7_owed_12 : decode cX7_owed 12 = .ok (.lreturn, 1) := by decide +kernel
theorem dX7_interestOf_0 : decode cX7_interestOf 0 = .ok (.aload_n 0, 1) := by decide +kernel
theorem dX7_interestOf_1 : decode cX7_interestOf 1 = .ok (.getfield 72, 3) := by decide +kernel
theorem dX7_interestOf_4 : decode cX7_interestOf 4 = .ok (.iload_n 1, 1) := by decide +kernel
theorem dX7_interestOf_5 : decode cX7_interestOf 5 = .ok (.iaload, 1) := by decide +kernel
theorem dX7_interestOf_6 : decode cX7_interestOf 6 = .ok (.iconst 4, 1) := by decide +kernel
theorem dX7_interestOf_7 : decode cX7_interestOf 7 = .ok (.if_icmp .eq 5, 3) := by decide +kernel
theorem dX7_interestOf_10 : decode cX7_interestOf 10 = .ok (.lconst 0, 1) := by decide +kernel
theorem dX7_interestOf_11 : decode cX7_interestOf 11 = .ok (.lreturn, 1) := by decide +kernel
theorem dX7_interestOf_12 : decode cX7_interestOf 12 = .ok (.aload_n 0, 1) := by decide +kernel
theorem dX7_interestOf_13 : decode cX7_interestOf 13 = .ok (.getfield 103, 3) := by decide +kernel
theorem dX7_interestOf_16 : decode cX7_interestOf 16 = .ok (.iload_n 1, 1) := by decide +kernel
theorem dX7_interestOf_17 : decode cX7_interestOf 17 = .ok (.laload, 1) := by decide +kernel
theorem dX7_interestOf_18 : decode cX7_interestOf 18 = .ok (.aload_n 0, 1) := by decide +kernel
theorem dX7_interestOf_19 : decode cX7_interestOf 19 = .ok (.iload_n 1, 1) := by decide +kernel
theorem dX7_interestOf_20 : decode cX7_interestOf 20 = .ok (.invokevirtual 246, 3) := by decide +kernel
theorem dX7_interestOf_23 : decode cX7_interestOf 23 = .ok (.aload_n 0, 1) := by decide +kernel
theorem dX7_interestOf_24 : decode cX7_interestOf 24 = .ok (.getfield 81, 3) := by decide +kernel
theorem dX7_interestOf_27 : decode cX7_interestOf 27 = .ok (.iload_n 1, 1) := by decide +kernel
theorem dX7_interestOf_28 : decode cX7_interestOf 28 = .ok (.iaload, 1) := by decide +kernel
theorem dX7_interestOf_29 : decode cX7_interestOf 29 = .ok (.i2l, 1) := by decide +kernel
theorem dX7_interestOf_30 : decode cX7_interestOf 30 = .ok (.lmul, 1) := by decide +kernel
theorem dX7_interestOf_31 : decode cX7_interestOf 31 = .ok (.aload_n 0, 1) := by decide +kernel
theorem dX7_interestOf_32 : decode cX7_interestOf 32 = .ok (.getfield 174, 3) := by decide +kernel
theorem dX7_interestOf_35 : decode cX7_interestOf 35 = .ok (.aload_n 0, 1) := by decide +kernel
theorem dX7_interestOf_36 : decode cX7_interestOf 36 = .ok (.getfield 106, 3) := by decide +kernel
theorem dX7_interestOf_39 : decode cX7_interestOf 39 = .ok (.iload_n 1, 1) := by decide +kernel
theorem dX7_interestOf_40 : decode cX7_interestOf 40 = .ok (.iaload, 1) := by decide +kernel
theorem dX7_interestOf_41 : decode cX7_interestOf 41 = .ok (.isub, 1) := by decide +kernel
theorem dX7_interestOf_42 : decode cX7_interestOf 42 = .ok (.i2l, 1) := by decide +kernel
theorem dX7_interestOf_43 : decode cX7_interestOf 43 = .ok (.lmul, 1) := by decide +kernel
theorem dX7_interestOf_44 : decode cX7_interestOf 44 = .ok (.ldc2_w 159, 3) := by decide +kernel
theorem dX7_interestOf_47 : decode cX7_interestOf 47 = .ok (.ldiv, 1) := by decide +kernel
theorem dX7_interestOf_48 : decode cX7_interestOf 48 = .ok (.ladd, 1) := by decide +kernel
theorem dX7_interestOf_49 : decode cX7_interestOf 49 = .ok (.lreturn, 1) := by decide +kernel
theorem dX7_pay_0 : decode cX7_pay 0 = .ok (.aload_n 0, 1) := by decide +kernel
theorem dX7_pay_1 : decode cX7_pay 1 = .ok (.iload_n 1, 1) := by decide +kernel
theorem dX7_pay_2 : decode cX7_pay 2 = .ok (.iload_n 2, 1) := by decide +kernel
theorem dX7_pay_3 : decode cX7_pay 3 = .ok (.invokevirtual 249, 3) := by decide +kernel
theorem dX7_pay_6 : decode cX7_pay 6 = .ok (.ifCond .ne 7, 3) := by decide +kernel
theorem dX7_pay_9 : decode cX7_pay 9 = .ok (.ldc2_w 252, 3) := by decide +kernel
theorem dX7_pay_12 : decode cX7_pay 12 = .ok (.lreturn, 1) := by decide +kernel
theorem dX7_pay_13 : decode cX7_pay 13 = .ok (.lload_n 3, 1) := by decide +kernel
theorem dX7_pay_14 : decode cX7_pay 14 = .ok (.lconst 1, 1) := by decide +kernel
theorem dX7_pay_15 : decode cX7_pay 15 = .ok (.ldc2_w 254, 3) := by decide +kernel
theorem dX7_pay_18 : decode cX7_pay 18 = .ok (.invokestatic 133, 3) := by decide +kernel
theorem dX7_pay_21 : decode cX7_pay 21 = .ok (.ifCond .ne 7, 3) := by decide +kernel
theorem dX7_pay_24 : decode cX7_pay 24 = .ok (.ldc2_w 256, 3) := by decide +kernel
theorem dX7_pay_27 : decode cX7_pay 27 = .ok (.lreturn, 1) := by decide +kernel
theorem dX7_pay_28 : decode cX7_pay 28 = .ok (.bipush 12, 2) := by decide +kernel
theorem dX7_pay_30 : decode cX7_pay 30 = .ok (.iload_n 1, 1) := by decide +kernel
theorem dX7_pay_31 : decode cX7_pay 31 = .ok (.imul, 1) := by decide +kernel
theorem dX7_pay_32 : decode cX7_pay 32 = .ok (.iload_n 2, 1) := by decide +kernel
theorem dX7_pay_33 : decode cX7_pay 33 = .ok (.iadd, 1) := by decide +kernel
theorem dX7_pay_34 : decode cX7_pay 34 = .ok (.istore 5, 2) := by decide +kernel
theorem dX7_pay_36 : decode cX7_pay 36 = .ok (.aload_n 0, 1) := by decide +kernel
theorem dX7_pay_37 : decode cX7_pay 37 = .ok (.getfield 72, 3) := by decide +kernel
theorem dX7_pay_40 : decode cX7_pay 40 = .ok (.iload 5, 2) := by decide +kernel
theorem dX7_pay_42 : decode cX7_pay 42 = .ok (.iaload, 1) := by decide +kernel
theorem dX7_pay_43 : decode cX7_pay 43 = .ok (.iconst 4, 1) := by decide +kernel
theorem dX7_pay_44 : decode cX7_pay 44 = .ok (.if_icmp .eq 7, 3) := by decide +kernel
theorem dX7_pay_47 : decode cX7_pay 47 = .ok (.ldc2_w 241, 3) := by decide +kernel
theorem dX7_pay_50 : decode cX7_pay 50 = .ok (.lreturn, 1) := by decide +kernel
theorem dX7_pay_51 : decode cX7_pay 51 = .ok (.aload_n 0, 1) := by decide +kernel
theorem dX7_pay_52 : decode cX7_pay 52 = .ok (.getfield 103, 3) := by decide +kernel
theorem dX7_pay_55 : decode cX7_pay 55 = .ok (.iload 5, 2) := by decide +kernel
theorem dX7_pay_57 : decode cX7_pay 57 = .ok (.aload_n 0, 1) := by decide +kernel
theorem dX7_pay_58 : decode cX7_pay 58 = .ok (.iload 5, 2) := by decide +kernel
theorem dX7_pay_60 : decode cX7_pay 60 = .ok (.invokevirtual 258, 3) := by decide +kernel
theorem dX7_pay_63 : decode cX7_pay 63 = .ok (.lastore, 1) := by decide +kernel
theorem dX7_pay_64 : decode cX7_pay 64 = .ok (.aload_n 0, 1) := by decide +kernel
theorem dX7_pay_65 : decode cX7_pay 65 = .ok (.getfield 106, 3) := by decide +kernel
theorem dX7_pay_68 : decode cX7_pay 68 = .ok (.iload 5, 2) := by decide +kernel
theorem dX7_pay_70 : decode cX7_pay 70 = .ok (.aload_n 0, 1) := by decide +kernel
theorem dX7_pay_71 : decode cX7_pay 71 = .ok (.getfield 174, 3) := by decide +kernel
theorem dX7_pay_74 : decode cX7_pay 74 = .ok (.iastore, 1) := by decide +kernel
theorem dX7_pay_75 : decode cX7_pay 75 = .ok (.lload_n 3, 1) := by decide +kernel
theorem dX7_pay_76 : decode cX7_pay 76 = .ok (.aload_n 0, 1) := by decide +kernel
theorem dX7_pay_77 : decode cX7_pay 77 = .ok (.getfield 103, 3) := by decide +kernel
theorem dX7_pay_80 : decode cX7_pay 80 = .ok (.iload 5, 2) := by decide +kernel
theorem dX7_pay_82 : decode cX7_pay 82 = .ok (.laload, 1) := by decide +kernel
theorem dX7_pay_83 : decode cX7_pay 83 = .ok (.lcmp, 1) := by decide +kernel
theorem dX7_pay_84 : decode cX7_pay 84 = .ok (.ifCond .le 13, 3) := by decide +kernel
theorem dX7_pay_87 : decode cX7_pay 87 = .ok (.aload_n 0, 1) := by decide +kernel
theorem dX7_pay_88 : decode cX7_pay 88 = .ok (.getfield 103, 3) := by decide +kernel
theorem dX7_pay_91 : decode cX7_pay 91 = .ok (.iload 5, 2) := by decide +kernel
theorem dX7_pay_93 : decode cX7_pay 93 = .ok (.laload, 1) := by decide +kernel
theorem dX7_pay_94 : decode cX7_pay 94 = .ok (.goto 4, 3) := by decide +kernel
theorem dX7_pay_97 : decode cX7_pay 97 = .ok (.lload_n 3, 1) := by decide +kernel
theorem dX7_pay_98 : decode cX7_pay 98 = .ok (.lstore 6, 2) := by decide +kernel
theorem dX7_pay_100 : decode cX7_pay 100 = .ok (.lload_n 3, 1) := by decide +kernel
theorem dX7_pay_101 : decode cX7_pay 101 = .ok (.lload 6, 2) := by decide +kernel
theorem dX7_pay_103 : decode cX7_pay 103 = .ok (.lsub, 1) := by decide +kernel
theorem dX7_pay_104 : decode cX7_pay 104 = .ok (.aload_n 0, 1) := by decide +kernel
theorem dX7_pay_105 : decode cX7_pay 105 = .ok (.iload 5, 2) := by decide +kernel
theorem dX7_pay_107 : decode cX7_pay 107 = .ok (.invokevirtual 246, 3) := by decide +kernel
theorem dX7_pay_110 : decode cX7_pay 110 = .ok (.lcmp, 1) := by decide +kernel
theorem dX7_pay_111 : decode cX7_pay 111 = .ok (.ifCond .le 12, 3) := by decide +kernel
theorem dX7_pay_114 : decode cX7_pay 114 = .ok (.aload_n 0, 1) := by decide +kernel
theorem dX7_pay_115 : decode cX7_pay 115 = .ok (.iload 5, 2) := by decide +kernel
theorem dX7_pay_117 : decode cX7_pay 117 = .ok (.invokevirtual 246, 3) := by decide +kernel
theorem dX7_pay_120 : decode cX7_pay 120 = .ok (.goto 7, 3) := by decide +kernel
theorem dX7_pay_123 : decode cX7_pay 123 = .ok (.lload_n 3, 1) := by decide +kernel
theorem dX7_pay_124 : decode cX7_pay 124 = .ok (.lload 6, 2) := by decide +kernel
theorem dX7_pay_126 : decode cX7_pay 126 = .ok (.lsub, 1) := by decide +kernel
theorem dX7_pay_127 : decode cX7_pay 127 = .ok (.lstore 8, 2) := by decide +kernel
theorem dX7_pay_129 : decode cX7_pay 129 = .ok (.aload_n 0, 1) := by decide +kernel
theorem dX7_pay_130 : decode cX7_pay 130 = .ok (.getfield 103, 3) := by decide +kernel
theorem dX7_pay_133 : decode cX7_pay 133 = .ok (.iload 5, 2) := by decide +kernel
theorem dX7_pay_135 : decode cX7_pay 135 = .ok (.dup2, 1) := by decide +kernel
theorem dX7_pay_136 : decode cX7_pay 136 = .ok (.laload, 1) := by decide +kernel
theorem dX7_pay_137 : decode cX7_pay 137 = .ok (.lload 6, 2) := by decide +kernel
theorem dX7_pay_139 : decode cX7_pay 139 = .ok (.lsub, 1) := by decide +kernel
theorem dX7_pay_140 : decode cX7_pay 140 = .ok (.lastore, 1) := by decide +kernel
theorem dX7_pay_141 : decode cX7_pay 141 = .ok (.aload_n 0, 1) := by decide +kernel
theorem dX7_pay_142 : decode cX7_pay 142 = .ok (.getfield 100, 3) := by decide +kernel
theorem dX7_pay_145 : decode cX7_pay 145 = .ok (.iload 5, 2) := by decide +kernel
theorem dX7_pay_147 : decode cX7_pay 147 = .ok (.dup2, 1) := by decide +kernel
theorem dX7_pay_148 : decode cX7_pay 148 = .ok (.laload, 1) := by decide +kernel
theorem dX7_pay_149 : decode cX7_pay 149 = .ok (.lload 6, 2) := by decide +kernel
theorem dX7_pay_151 : decode cX7_pay 151 = .ok (.ladd, 1) := by decide +kernel
theorem dX7_pay_152 : decode cX7_pay 152 = .ok (.lastore, 1) := by decide +kernel
theorem dX7_pay_153 : decode cX7_pay 153 = .ok (.aload_n 0, 1) := by decide +kernel
theorem dX7_pay_154 : decode cX7_pay 154 = .ok (.getfield 97, 3) := by decide +kernel
theorem dX7_pay_157 : decode cX7_pay 157 = .ok (.iload 5, 2) := by decide +kernel
theorem dX7_pay_159 : decode cX7_pay 159 = .ok (.dup2, 1) := by decide +kernel
theorem dX7_pay_160 : decode cX7_pay 160 = .ok (.laload, 1) := by decide +kernel
theorem dX7_pay_161 : decode cX7_pay 161 = .ok (.lload 8, 2) := by decide +kernel
theorem dX7_pay_163 : decode cX7_pay 163 = .ok (.ladd, 1) := by decide +kernel
theorem dX7_pay_164 : decode cX7_pay 164 = .ok (.lastore, 1) := by decide +kernel
theorem dX7_pay_165 : decode cX7_pay 165 = .ok (.lload 6, 2) := by decide +kernel
theorem dX7_pay_167 : decode cX7_pay 167 = .ok (.lload 8, 2) := by decide +kernel
theorem dX7_pay_169 : decode cX7_pay 169 = .ok (.ladd, 1) := by decide +kernel
theorem dX7_pay_170 : decode cX7_pay 170 = .ok (.lreturn, 1) := by decide +kernel
theorem dX7_toldOf_0 : decode cX7_toldOf 0 = .ok (.aload_n 0, 1) := by decide +kernel
theorem dX7_toldOf_1 : decode cX7_toldOf 1 = .ok (.getfield 69, 3) := by decide +kernel
theorem dX7_toldOf_4 : decode cX7_toldOf 4 = .ok (.iload_n 1, 1) := by decide +kernel
theorem dX7_toldOf_5 : decode cX7_toldOf 5 = .ok (.iaload, 1) := by decide +kernel
theorem dX7_toldOf_6 : decode cX7_toldOf 6 = .ok (.istore_n 3, 1) := by decide +kernel
theorem dX7_toldOf_7 : decode cX7_toldOf 7 = .ok (.iload_n 2, 1) := by decide +kernel
theorem dX7_toldOf_8 : decode cX7_toldOf 8 = .ok (.tableswitch 155 0 12 #[68, 71, 79, 87, 94, 101, 108, 115, 121, 128, 134, 140, 147], 68) := by decide +kernel
theorem dX7_toldOf_76 : decode cX7_toldOf 76 = .ok (.iload_n 3, 1) := by decide +kernel
theorem dX7_toldOf_77 : decode cX7_toldOf 77 = .ok (.i2l, 1) := by decide +kernel
theorem dX7_toldOf_78 : decode cX7_toldOf 78 = .ok (.lreturn, 1) := by decide +kernel
theorem dX7_toldOf_79 : decode cX7_toldOf 79 = .ok (.aload_n 0, 1) := by decide +kernel
theorem dX7_toldOf_80 : decode cX7_toldOf 80 = .ok (.getfield 72, 3) := by decide +kernel
theorem dX7_toldOf_83 : decode cX7_toldOf 83 = .ok (.iload_n 1, 1) := by decide +kernel
theorem dX7_toldOf_84 : decode cX7_toldOf 84 = .ok (.iaload, 1) := by decide +kernel
theorem dX7_toldOf_85 : decode cX7_toldOf 85 = .ok (.i2l, 1) := by decide +kernel
theorem dX7_toldOf_86 : decode cX7_toldOf 86 = .ok (.lreturn, 1) := by decide +kernel
theorem dX7_toldOf_87 : decode cX7_toldOf 87 = .ok (.aload_n 0, 1) := by decide +kernel
theorem dX7_toldOf_88 : decode cX7_toldOf 88 = .ok (.getfield 78, 3) := by decide +kernel
theorem dX7_toldOf_91 : decode cX7_toldOf 91 = .ok (.iload_n 1, 1) := by decide +kernel
theorem dX7_toldOf_92 : decode cX7_toldOf 92 = .ok (.iaload, 1) := by decide +kernel
theorem dX7_toldOf_93 : decode cX7_toldOf 93 = .ok (.i2l, 1) := by decide +kernel
theorem dX7_toldOf_94 : decode cX7_toldOf 94 = .ok (.lreturn, 1) := by decide +kernel
theorem dX7_toldOf_95 : decode cX7_toldOf 95 = .ok (.aload_n 0, 1) := by decide +kernel
theorem dX7_toldOf_96 : decode cX7_toldOf 96 = .ok (.getfield 84, 3) := by decide +kernel
theorem dX7_toldOf_99 : decode cX7_toldOf 99 = .ok (.iload_n 1, 1) := by decide +kernel
theorem dX7_toldOf_100 : decode cX7_toldOf 100 = .ok (.laload, 1) := by decide +kernel
theorem dX7_toldOf_101 : decode cX7_toldOf 101 = .ok (.lreturn, 1) := by decide +kernel
theorem dX7_toldOf_102 : decode cX7_toldOf 102 = .ok (.aload_n 0, 1) := by decide +kernel
theorem dX7_toldOf_103 : decode cX7_toldOf 103 = .ok (.getfield 88, 3) := by decide +kernel
theorem dX7_toldOf_106 : decode cX7_toldOf 106 = .ok (.iload_n 1, 1) := by decide +kernel
theorem dX7_toldOf_107 : decode cX7_toldOf 107 = .ok (.laload, 1) := by decide +kernel
theorem dX7_toldOf_108 : decode cX7_toldOf 108 = .ok (.lreturn, 1) := by decide +kernel
theorem dX7_toldOf_109 : decode cX7_toldOf 109 = .ok (.aload_n 0, 1) := by decide +kernel
theorem dX7_toldOf_110 : decode cX7_toldOf 110 = .ok (.getfield 91, 3) := by decide +kernel
theorem dX7_toldOf_113 : decode cX7_toldOf 113 = .ok (.iload_n 1, 1) := by decide +kernel
theorem dX7_toldOf_114 : decode cX7_toldOf 114 = .ok (.laload, 1) := by decide +kernel
theorem dX7_toldOf_115 : decode cX7_toldOf 115 = .ok (.lreturn, 1) := by decide +kernel
theorem dX7_toldOf_116 : decode cX7_toldOf 116 = .ok (.aload_n 0, 1) := by decide +kernel
theorem dX7_toldOf_117 : decode cX7_toldOf 117 = .ok (.getfield 94, 3) := by decide +kernel
theorem dX7_toldOf_120 : decode cX7_toldOf 120 = .ok (.iload_n 1, 1) := by decide +kernel
theorem dX7_toldOf_121 : decode cX7_toldOf 121 = .ok (.laload, 1) := by decide +kernel
theorem dX7_toldOf_122 : decode cX7_toldOf 122 = .ok (.lreturn, 1) := by decide +kernel
theorem dX7_toldOf_123 : decode cX7_toldOf 123 = .ok (.aload_n 0, 1) := by decide +kernel
theorem dX7_toldOf_124 : decode cX7_toldOf 124 = .ok (.iload_n 1, 1) := by decide +kernel
theorem dX7_toldOf_125 : decode cX7_toldOf 125 = .ok (.invokevirtual 234, 3) := by decide +kernel
theorem dX7_toldOf_128 : decode cX7_toldOf 128 = .ok (.lreturn, 1) := by decide +kernel
theorem dX7_toldOf_129 : decode cX7_toldOf 129 = .ok (.aload_n 0, 1) := by decide +kernel
theorem dX7_toldOf_130 : decode cX7_toldOf 130 = .ok (.getfield 97, 3) := by decide +kernel
theorem dX7_toldOf_133 : decode cX7_toldOf 133 = .ok (.iload_n 1, 1) := by decide +kernel
theorem dX7_toldOf_134 : decode cX7_toldOf 134 = .ok (.laload, 1) := by decide +kernel
theorem dX7_toldOf_135 : decode cX7_toldOf 135 = .ok (.lreturn, 1) := by decide +kernel
theorem dX7_toldOf_136 : decode cX7_toldOf 136 = .ok (.aload_n 0, 1) := by decide +kernel
theorem dX7_toldOf_137 : decode cX7_toldOf 137 = .ok (.iload_n 1, 1) := by decide +kernel
theorem dX7_toldOf_138 : decode cX7_toldOf 138 = .ok (.invokevirtual 246, 3) := by decide +kernel
theorem dX7_toldOf_141 : decode cX7_toldOf 141 = .ok (.lreturn, 1) := by decide +kernel
theorem dX7_toldOf_142 : decode cX7_toldOf 142 = .ok (.aload_n 0, 1) := by decide +kernel
theorem dX7_toldOf_143 : decode cX7_toldOf 143 = .ok (.iload_n 1, 1) := by decide +kernel
theorem dX7_toldOf_144 : decode cX7_toldOf 144 = .ok (.invokevirtual 258, 3) := by decide +kernel
theorem dX7_toldOf_147 : decode cX7_toldOf 147 = .ok (.lreturn, 1) := by decide +kernel
theorem dX7_toldOf_148 : decode cX7_toldOf 148 = .ok (.aload_n 0, 1) := by decide +kernel
theorem dX7_toldOf_149 : decode cX7_toldOf 149 = .ok (.getfield 100, 3) := by decide +kernel
theorem dX7_toldOf_152 : decode cX7_toldOf 152 = .ok (.iload_n 1, 1) := by decide +kernel
theorem dX7_toldOf_153 : decode cX7_toldOf 153 = .ok (.laload, 1) := by decide +kernel
theorem dX7_toldOf_154 : decode cX7_toldOf 154 = .ok (.lreturn, 1) := by decide +kernel
theorem dX7_toldOf_155 : decode cX7_toldOf 155 = .ok (.aload_n 0, 1) := by decide +kernel
theorem dX7_toldOf_156 : decode cX7_toldOf 156 = .ok (.getfield 75, 3) := by decide +kernel
theorem dX7_toldOf_159 : decode cX7_toldOf 159 = .ok (.iload_n 1, 1) := by decide +kernel
theorem dX7_toldOf_160 : decode cX7_toldOf 160 = .ok (.iaload, 1) := by decide +kernel
theorem dX7_toldOf_161 : decode cX7_toldOf 161 = .ok (.i2l, 1) := by decide +kernel
theorem dX7_toldOf_162 : decode cX7_toldOf 162 = .ok (.lreturn, 1) := by decide +kernel
theorem dX7_toldOf_163 : decode cX7_toldOf 163 = .ok (.aload_n 0, 1) := by decide +kernel
theorem dX7_toldOf_164 : decode cX7_toldOf 164 = .ok (.iload_n 1, 1) := by decide +kernel
theorem dX7_toldOf_165 : decode cX7_toldOf 165 = .ok (.invokevirtual 234, 3) := by decide +kernel
theorem dX7_toldOf_168 : decode cX7_toldOf 168 = .ok (.aload_n 0, 1) := by decide +kernel
theorem dX7_toldOf_169 : decode cX7_toldOf 169 = .ok (.getfield 109, 3) := by decide +kernel
theorem dX7_toldOf_172 : decode cX7_toldOf 172 = .ok (.iconst 4, 1) := by decide +kernel
theorem dX7_toldOf_173 : decode cX7_toldOf 173 = .ok (.iload_n 1, 1) := by decide +kernel
theorem dX7_toldOf_174 : decode cX7_toldOf 174 = .ok (.imul, 1) := by decide +kernel
theorem dX7_toldOf_175 : decode cX7_toldOf 175 = .ok (.laload, 1) := by decide +kernel
theorem dX7_toldOf_176 : decode cX7_toldOf 176 = .ok (.lsub, 1) := by decide +kernel
theorem dX7_toldOf_177 : decode cX7_toldOf 177 = .ok (.aload_n 0, 1) := by decide +kernel
theorem dX7_toldOf_178 : decode cX7_toldOf 178 = .ok (.getfield 109, 3) := by decide +kernel
theorem dX7_toldOf_181 : decode cX7_toldOf 181 = .ok (.iconst 4, 1) := by decide +kernel
theorem dX7_toldOf_182 : decode cX7_toldOf 182 = .ok (.iload_n 1, 1) := by decide +kernel
theorem dX7_toldOf_183 : decode cX7_toldOf 183 = .ok (.imul, 1) := by decide +kernel
theorem dX7_toldOf_184 : decode cX7_toldOf 184 = .ok (.iconst 1, 1) := by decide +kernel
theorem dX7_toldOf_185 : decode cX7_toldOf 185 = .ok (.iadd, 1) := by decide +kernel
theorem dX7_toldOf_186 : decode cX7_toldOf 186 = .ok (.laload, 1) := by decide +kernel
theorem dX7_toldOf_187 : decode cX7_toldOf 187 = .ok (.lsub, 1) := by decide +kernel
theorem dX7_toldOf_188 : decode cX7_toldOf 188 = .ok (.aload_n 0, 1) := by decide +kernel
theorem dX7_toldOf_189 : decode cX7_toldOf 189 = .ok (.getfield 109, 3) := by decide +kernel
theorem dX7_toldOf_192 : decode cX7_toldOf 192 = .ok (.iconst 4, 1) := by decide +kernel
theorem dX7_toldOf_193 : decode cX7_toldOf 193 = .ok (.iload_n 1, 1) := by decide +kernel
theorem dX7_toldOf_194 : decode cX7_toldOf 194 = .ok (.imul, 1) := by decide +kernel
theorem dX7_toldOf_195 : decode cX7_toldOf 195 = .ok (.iconst 2, 1) := by decide +kernel
theorem dX7_toldOf_196 : decode cX7_toldOf 196 = .ok (.iadd, 1) := by decide +kernel
theorem dX7_toldOf_197 : decode cX7_toldOf 197 = .ok (.laload, 1) := by decide +kernel
theorem dX7_toldOf_198 : decode cX7_toldOf 198 = .ok (.lsub, 1) := by decide +kernel
theorem dX7_toldOf_199 : decode cX7_toldOf 199 = .ok (.aload_n 0, 1) := by decide +kernel
theorem dX7_toldOf_200 : decode cX7_toldOf 200 = .ok (.getfield 109, 3) := by decide +kernel
theorem dX7_toldOf_203 : decode cX7_toldOf 203 = .ok (.iconst 4, 1) := by decide +kernel
theorem dX7_toldOf_204 : decode cX7_toldOf 204 = .ok (.iload_n 1, 1) := by decide +kernel
theorem dX7_toldOf_205 : decode cX7_toldOf 205 = .ok (.imul, 1) := by decide +kernel
theorem dX7_toldOf_206 : decode cX7_toldOf 206 = .ok (.iconst 3, 1) := by decide +kernel
theorem dX7_toldOf_207 : decode cX7_toldOf 207 = .ok (.iadd, 1) := by decide +kernel
theorem dX7_toldOf_208 : decode cX7_toldOf 208 = .ok (.laload, 1) := by decide +kernel
theorem dX7_toldOf_209 : decode cX7_toldOf 209 = .ok (.lsub, 1) := by decide +kernel
theorem dX7_toldOf_210 : decode cX7_toldOf 210 = .ok (.lreturn, 1) := by decide +kernel
theorem dX7_told_0 : decode cX7_told 0 = .ok (.aload_n 0, 1) := by decide +kernel
theorem dX7_told_1 : decode cX7_told 1 = .ok (.iload_n 1, 1) := by decide +kernel
theorem dX7_told_2 : decode cX7_told 2 = .ok (.iload_n 2, 1) := by decide +kernel
theorem dX7_told_3 : decode cX7_told 3 = .ok (.invokevirtual 249, 3) := by decide +kernel
theorem dX7_told_6 : decode cX7_told 6 = .ok (.ifCond .ne 7, 3) := by decide +kernel
theorem dX7_told_9 : decode cX7_told 9 = .ok (.ldc2_w 252, 3) := by decide +kernel
theorem dX7_told_12 : decode cX7_told 12 = .ok (.lreturn, 1) := by decide +kernel
theorem dX7_told_13 : decode cX7_told 13 = .ok (.iload_n 3, 1) := by decide +kernel
theorem dX7_told_14 : decode cX7_told 14 = .ok (.i2l, 1) := by decide +kernel
theorem dX7_told_15 : decode cX7_told 15 = .ok (.lconst 0, 1) := by decide +kernel
theorem dX7_told_16 : decode cX7_told 16 = .ok (.ldc2_w 261, 3) := by decide +kernel
theorem dX7_told_19 : decode cX7_told 19 = .ok (.invokestatic 133, 3) := by decide +kernel
theorem dX7_told_22 : decode cX7_told 22 = .ok (.ifCond .eq 17, 3) := by decide +kernel
theorem dX7_told_25 : decode cX7_told 25 = .ok (.aload_n 0, 1) := by decide +kernel
theorem dX7_told_26 : decode cX7_told 26 = .ok (.bipush 12, 2) := by decide +kernel
theorem dX7_told_28 : decode cX7_told 28 = .ok (.iload_n 1, 1) := by decide +kernel
theorem dX7_told_29 : decode cX7_told 29 = .ok (.imul, 1) := by decide +kernel
theorem dX7_told_30 : decode cX7_told 30 = .ok (.iload_n 2, 1) := by decide +kernel
theorem dX7_told_31 : decode cX7_told 31 = .ok (.iadd, 1) := by decide +kernel
theorem dX7_told_32 : decode cX7_told 32 = .ok (.iload_n 3, 1) := by decide +kernel
theorem dX7_told_33 : decode cX7_told 33 = .ok (.invokevirtual 263, 3) := by decide +kernel
theorem dX7_told_36 : decode cX7_told 36 = .ok (.goto 6, 3) := by decide +kernel
theorem dX7_told_39 : decode cX7_told 39 = .ok (.ldc2_w 256, 3) := by decide +kernel
theorem dX7_told_42 : decode cX7_told 42 = .ok (.lreturn, 1) := by decide +kernel
theorem dX7_gets_0 : decode cX7_gets 0 = .ok (.aload_n 0, 1) := by decide +kernel
theorem dX7_gets_1 : decode cX7_gets 1 = .ok (.iload_n 1, 1) := by decide +kernel
theorem dX7_gets_2 : decode cX7_gets 2 = .ok (.iload_n 2, 1) := by decide +kernel
theorem dX7_gets_3 : decode cX7_gets 3 = .ok (.invokevirtual 249, 3) := by decide +kernel
theorem dX7_gets_6 : decode cX7_gets 6 = .ok (.ifCond .eq 31, 3) := by decide +kernel
theorem dX7_gets_9 : decode cX7_gets 9 = .ok (.iload_n 3, 1) := by decide +kernel
theorem dX7_gets_10 : decode cX7_gets 10 = .ok (.i2l, 1) := by decide +kernel
theorem dX7_gets_11 : decode cX7_gets 11 = .ok (.lconst 0, 1) := by decide +kernel
theorem dX7_gets_12 : decode cX7_gets 12 = .ok (.aload_n 0, 1) := by decide +kernel
theorem dX7_gets_13 : decode cX7_gets 13 = .ok (.getfield 36, 3) := by decide +kernel
theorem dX7_gets_16 : decode cX7_gets 16 = .ok (.aload_n 0, 1) := by decide +kernel
theorem dX7_gets_17 : decode cX7_gets 17 = .ok (.getfield 69, 3) := by decide +kernel
theorem dX7_gets_20 : decode cX7_gets 20 = .ok (.bipush 12, 2) := by decide +kernel
theorem dX7_gets_22 : decode cX7_gets 22 = .ok (.iload_n 1, 1) := by decide +kernel
theorem dX7_gets_23 : decode cX7_gets 23 = .ok (.imul, 1) := by decide +kernel
theorem dX7_gets_24 : decode cX7_gets 24 = .ok (.iload_n 2, 1) := by decide +kernel
theorem dX7_gets_25 : decode cX7_gets 25 = .ok (.iadd, 1) := by decide +kernel
theorem dX7_gets_26 : decode cX7_gets 26 = .ok (.iaload, 1) := by decide +kernel
theorem dX7_gets_27 : decode cX7_gets 27 = .ok (.iaload, 1) := by decide +kernel
theorem dX7_gets_28 : decode cX7_gets 28 = .ok (.iconst 1, 1) := by decide +kernel
theorem dX7_gets_29 : decode cX7_gets 29 = .ok (.isub, 1) := by decide +kernel
theorem dX7_gets_30 : decode cX7_gets 30 = .ok (.i2l, 1) := by decide +kernel
theorem dX7_gets_31 : decode cX7_gets 31 = .ok (.invokestatic 133, 3) := by decide +kernel
theorem dX7_gets_34 : decode cX7_gets 34 = .ok (.ifCond .ne 7, 3) := by decide +kernel
theorem dX7_gets_37 : decode cX7_gets 37 = .ok (.ldc2_w 252, 3) := by decide +kernel
theorem dX7_gets_40 : decode cX7_gets 40 = .ok (.lreturn, 1) := by decide +kernel
theorem dX7_gets_41 : decode cX7_gets 41 = .ok (.aload_n 0, 1) := by decide +kernel
theorem dX7_gets_42 : decode cX7_gets 42 = .ok (.getfield 109, 3) := by decide +kernel
theorem dX7_gets_45 : decode cX7_gets 45 = .ok (.iconst 4, 1) := by decide +kernel
theorem dX7_gets_46 : decode cX7_gets 46 = .ok (.bipush 12, 2) := by decide +kernel
theorem dX7_gets_48 : decode cX7_gets 48 = .ok (.iload_n 1, 1) := by decide +kernel
theorem dX7_gets_49 : decode cX7_gets 49 = .ok (.imul, 1) := by decide +kernel
theorem dX7_gets_50 : decode cX7_gets 50 = .ok (.iload_n 2, 1) := by decide +kernel
theorem dX7_gets_51 : decode cX7_gets 51 = .ok (.iadd, 1) := by decide +kernel
theorem dX7_gets_52 : decode cX7_gets 52 = .ok (.imul, 1) := by decide +kernel
theorem dX7_gets_53 : decode cX7_gets 53 = .ok (.iload_n 3, 1) := by decide +kernel
theorem dX7_gets_54 : decode cX7_gets 54 = .ok (.iadd, 1) := by decide +kernel
theorem dX7_gets_55 : decode cX7_gets 55 = .ok (.laload, 1) := by decide +kernel
theorem dX7_gets_56 : decode cX7_gets 56 = .ok (.lreturn, 1) := by decide +kernel
theorem dX7_lookOf_0 : decode cX7_lookOf 0 = .ok (.iload_n 2, 1) := by decide +kernel
theorem dX7_lookOf_1 : decode cX7_lookOf 1 = .ok (.tableswitch 75 0 3 #[31, 38, 45, 60], 31) := by decide +kernel
theorem dX7_lookOf_32 : decode cX7_lookOf 32 = .ok (.aload_n 0, 1) := by decide +kernel
theorem dX7_lookOf_33 : decode cX7_lookOf 33 = .ok (.getfield 16, 3) := by decide +kernel
theorem dX7_lookOf_36 : decode cX7_lookOf 36 = .ok (.iload_n 1, 1) := by decide +kernel
theorem dX7_lookOf_37 : decode cX7_lookOf 37 = .ok (.iaload, 1) := by decide +kernel
theorem dX7_lookOf_38 : decode cX7_lookOf 38 = .ok (.ireturn, 1) := by decide +kernel
theorem dX7_lookOf_39 : decode cX7_lookOf 39 = .ok (.aload_n 0, 1) := by decide +kernel
theorem dX7_lookOf_40 : decode cX7_lookOf 40 = .ok (.getfield 20, 3) := by decide +kernel
theorem dX7_lookOf_43 : decode cX7_lookOf 43 = .ok (.iload_n 1, 1) := by decide +kernel
theorem dX7_lookOf_44 : decode cX7_lookOf 44 = .ok (.iaload, 1) := by decide +kernel
theorem dX7_lookOf_45 : decode cX7_lookOf 45 = .ok (.ireturn, 1) := by decide +kernel
theorem dX7_lookOf_46 : decode cX7_lookOf 46 = .ok (.aload_n 0, 1) := by decide +kernel
theorem dX7_lookOf_47 : decode cX7_lookOf 47 = .ok (.getfield 23, 3) := by decide +kernel
theorem dX7_lookOf_50 : decode cX7_lookOf 50 = .ok (.iload_n 1, 1) := by decide +kernel
theorem dX7_lookOf_51 : decode cX7_lookOf 51 = .ok (.baload, 1) := by decide +kernel
theorem dX7_lookOf_52 : decode cX7_lookOf 52 = .ok (.ifCond .eq 7, 3) := by decide +kernel
theorem dX7_lookOf_55 : decode cX7_lookOf 55 = .ok (.iconst 1, 1) := by decide +kernel
theorem dX7_lookOf_56 : decode cX7_lookOf 56 = .ok (.goto 4, 3) := by decide +kernel
theorem dX7_lookOf_59 : decode cX7_lookOf 59 = .ok (.iconst 0, 1) := by decide +kernel
theorem dX7_lookOf_60 : decode cX7_lookOf 60 = .ok (.ireturn, 1) := by decide +kernel
theorem dX7_lookOf_61 : decode cX7_lookOf 61 = .ok (.aload_n 0, 1) := by decide +kernel
theorem dX7_lookOf_62 : decode cX7_lookOf 62 = .ok (.getfield 30, 3) := by decide +kernel
theorem dX7_lookOf_65 : decode cX7_lookOf 65 = .ok (.iload_n 1, 1) := by decide +kernel
theorem dX7_lookOf_66 : decode cX7_lookOf 66 = .ok (.iaload, 1) := by decide +kernel
theorem dX7_lookOf_67 : decode cX7_lookOf 67 = .ok (.ifCond .le 7, 3) := by decide +kernel
theorem dX7_lookOf_70 : decode cX7_lookOf 70 = .ok (.iconst 1, 1) := by decide +kernel
theorem dX7_lookOf_71 : decode cX7_lookOf 71 = .ok (.goto 4, 3) := by decide +kernel
theorem dX7_lookOf_74 : decode cX7_lookOf 74 = .ok (.iconst 0, 1) := by decide +kernel
theorem dX7_lookOf_75 : decode cX7_lookOf 75 = .ok (.ireturn, 1) := by decide +kernel
theorem dX7_lookOf_76 : decode cX7_lookOf 76 = .ok (.aload_n 0, 1) := by decide +kernel
theorem dX7_lookOf_77 : decode cX7_lookOf 77 = .ok (.getfield 27, 3) := by decide +kernel
theorem dX7_lookOf_80 : decode cX7_lookOf 80 = .ok (.iload_n 1, 1) := by decide +kernel
theorem dX7_lookOf_81 : decode cX7_lookOf 81 = .ok (.baload, 1) := by decide +kernel
theorem dX7_lookOf_82 : decode cX7_lookOf 82 = .ok (.ifCond .eq 7, 3) := by decide +kernel
theorem dX7_lookOf_85 : decode cX7_lookOf 85 = .ok (.iconst 1, 1) := by decide +kernel
theorem dX7_lookOf_86 : decode cX7_lookOf 86 = .ok (.goto 4, 3) := by decide +kernel
theorem dX7_lookOf_89 : decode cX7_lookOf 89 = .ok (.iconst 0, 1) := by decide +kernel
theorem dX7_lookOf_90 : decode cX7_lookOf 90 = .ok (.ireturn, 1) := by decide +kernel
theorem dX7_look_0 : decode cX7_look 0 = .ok (.aload_n 0, 1) := by decide +kernel
theorem dX7_look_1 : decode cX7_look 1 = .ok (.iload_n 1, 1) := by decide +kernel
theorem dX7_look_2 : decode cX7_look 2 = .ok (.iload_n 2, 1) := by decide +kernel
theorem dX7_look_3 : decode cX7_look 3 = .ok (.invokevirtual 143, 3) := by decide +kernel
theorem dX7_look_6 : decode cX7_look 6 = .ok (.ifCond .ne 6, 3) := by decide +kernel
theorem dX7_look_9 : decode cX7_look 9 = .ok (.bipush (-101), 2) := by decide +kernel
theorem dX7_look_11 : decode cX7_look 11 = .ok (.ireturn, 1) := by decide +kernel
theorem dX7_look_12 : decode cX7_look 12 = .ok (.iload_n 3, 1) := by decide +kernel
theorem dX7_look_13 : decode cX7_look 13 = .ok (.i2l, 1) := by decide +kernel
theorem dX7_look_14 : decode cX7_look 14 = .ok (.lconst 0, 1) := by decide +kernel
theorem dX7_look_15 : decode cX7_look 15 = .ok (.ldc2_w 171, 3) := by decide +kernel
theorem dX7_look_18 : decode cX7_look 18 = .ok (.invokestatic 133, 3) := by decide +kernel
theorem dX7_look_21 : decode cX7_look 21 = .ok (.ifCond .eq 17, 3) := by decide +kernel
theorem dX7_look_24 : decode cX7_look 24 = .ok (.aload_n 0, 1) := by decide +kernel
theorem dX7_look_25 : decode cX7_look 25 = .ok (.bipush 16, 2) := by decide +kernel
theorem dX7_look_27 : decode cX7_look 27 = .ok (.iload_n 2, 1) := by decide +kernel
theorem dX7_look_28 : decode cX7_look 28 = .ok (.imul, 1) := by decide +kernel
theorem dX7_look_29 : decode cX7_look 29 = .ok (.iload_n 1, 1) := by decide +kernel
theorem dX7_look_30 : decode cX7_look 30 = .ok (.iadd, 1) := by decide +kernel
theorem dX7_look_31 : decode cX7_look 31 = .ok (.iload_n 3, 1) := by decide +kernel
theorem dX7_look_32 : decode cX7_look 32 = .ok (.invokevirtual 266, 3) := by decide +kernel
theorem dX7_look_35 : decode cX7_look 35 = .ok (.goto 5, 3) := by decide +kernel
theorem dX7_look_38 : decode cX7_look 38 = .ok (.bipush (-102), 2) := by decide +kernel
theorem dX7_look_40 : decode cX7_look 40 = .ok (.ireturn, 1) := by decide +kernel
theorem dX7_pieces_0 : decode cX7_pieces 0 = .ok (.aload_n 0, 1) := by decide +kernel
theorem dX7_pieces_1 : decode cX7_pieces 1 = .ok (.iload_n 1, 1) := by decide +kernel
theorem dX7_pieces_2 : decode cX7_pieces 2 = .ok (.invokevirtual 147, 3) := by decide +kernel
theorem dX7_pieces_5 : decode cX7_pieces 5 = .ok (.ifCond .ne 6, 3) := by decide +kernel
theorem dX7_pieces_8 : decode cX7_pieces 8 = .ok (.bipush (-101), 2) := by decide +kernel
theorem dX7_pieces_10 : decode cX7_pieces 10 = .ok (.ireturn, 1) := by decide +kernel
theorem dX7_pieces_11 : decode cX7_pieces 11 = .ok (.aload_n 0, 1) := by decide +kernel
theorem dX7_pieces_12 : decode cX7_pieces 12 = .ok (.iload_n 1, 1) := by decide +kernel
theorem dX7_pieces_13 : decode cX7_pieces 13 = .ok (.invokevirtual 215, 3) := by decide +kernel
theorem dX7_pieces_16 : decode cX7_pieces 16 = .ok (.aload_n 0, 1) := by decide +kernel
theorem dX7_pieces_17 : decode cX7_pieces 17 = .ok (.getfield 184, 3) := by decide +kernel
theorem dX7_pieces_20 : decode cX7_pieces 20 = .ok (.ireturn, 1) := by decide +kernel
theorem dX7_piece_0 : decode cX7_piece 0 = .ok (.aload_n 0, 1) := by decide +kernel
theorem dX7_piece_1 : decode cX7_piece 1 = .ok (.iload_n 1, 1) := by decide +kernel
theorem dX7_piece_2 : decode cX7_piece 2 = .ok (.invokevirtual 147, 3) := by decide +kernel
theorem dX7_piece_5 : decode cX7_piece 5 = .ok (.ifCond .ne 6, 3) := by decide +kernel
theorem dX7_piece_8 : decode cX7_piece 8 = .ok (.bipush (-101), 2) := by decide +kernel
theorem dX7_piece_10 : decode cX7_piece 10 = .ok (.ireturn, 1) := by decide +kernel
theorem dX7_piece_11 : decode cX7_piece 11 = .ok (.aload_n 0, 1) := by decide +kernel
theorem dX7_piece_12 : decode cX7_piece 12 = .ok (.iload_n 1, 1) := by decide +kernel
theorem dX7_piece_13 : decode cX7_piece 13 = .ok (.invokevirtual 215, 3) := by decide +kernel
theorem dX7_piece_16 : decode cX7_piece 16 = .ok (.iload_n 2, 1) := by decide +kernel
theorem dX7_piece_17 : decode cX7_piece 17 = .ok (.i2l, 1) := by decide +kernel
theorem dX7_piece_18 : decode cX7_piece 18 = .ok (.lconst 0, 1) := by decide +kernel
theorem dX7_piece_19 : decode cX7_piece 19 = .ok (.aload_n 0, 1) := by decide +kernel
theorem dX7_piece_20 : decode cX7_piece 20 = .ok (.getfield 184, 3) := by decide +kernel
theorem dX7_piece_23 : decode cX7_piece 23 = .ok (.iconst 1, 1) := by decide +kernel
theorem dX7_piece_24 : decode cX7_piece 24 = .ok (.isub, 1) := by decide +kernel
theorem dX7_piece_25 : decode cX7_piece 25 = .ok (.i2l, 1) := by decide +kernel
theorem dX7_piece_26 : decode cX7_piece 26 = .ok (.invokestatic 133, 3) := by decide +kernel
theorem dX7_piece_29 : decode cX7_piece 29 = .ok (.ifCond .ne 6, 3) := by decide +kernel
theorem dX7_piece_32 : decode cX7_piece 32 = .ok (.bipush (-101), 2) := by decide +kernel
theorem dX7_piece_34 : decode cX7_piece 34 = .ok (.ireturn, 1) := by decide +kernel
theorem dX7_piece_35 : decode cX7_piece 35 = .ok (.iload_n 3, 1) := by decide +kernel
theorem dX7_piece_36 : decode cX7_piece 36 = .ok (.tableswitch 75 0 3 #[32, 39, 46, 61], 32) := by decide +kernel
theorem dX7_piece_68 : decode cX7_piece 68 = .ok (.aload_n 0, 1) := by decide +kernel
theorem dX7_piece_69 : decode cX7_piece 69 = .ok (.getfield 121, 3) := by decide +kernel
theorem dX7_piece_72 : decode cX7_piece 72 = .ok (.iload_n 2, 1) := by decide +kernel
theorem dX7_piece_73 : decode cX7_piece 73 = .ok (.iaload, 1) := by decide +kernel
theorem dX7_piece_74 : decode cX7_piece 74 = .ok (.ireturn, 1) := by decide +kernel
theorem dX7_piece_75 : decode cX7_piece 75 = .ok (.aload_n 0, 1) := by decide +kernel
theorem dX7_piece_76 : decode cX7_piece 76 = .ok (.getfield 118, 3) := by decide +kernel
theorem dX7_piece_79 : decode cX7_piece 79 = .ok (.iload_n 2, 1) := by decide +kernel
theorem dX7_piece_80 : decode cX7_piece 80 = .ok (.iaload, 1) := by decide +kernel
theorem dX7_piece_81 : decode cX7_piece 81 = .ok (.ireturn, 1) := by decide +kernel
theorem dX7_piece_82 : decode cX7_piece 82 = .ok (.aload_n 0, 1) := by decide +kernel
theorem dX7_piece_83 : decode cX7_piece 83 = .ok (.iload_n 1, 1) := by decide +kernel
theorem dX7_piece_84 : decode cX7_piece 84 = .ok (.invokevirtual 218, 3) := by decide +kernel
theorem dX7_piece_87 : decode cX7_piece 87 = .ok (.iload_n 2, 1) := by decide +kernel
theorem dX7_piece_88 : decode cX7_piece 88 = .ok (.if_icmp .ne 7, 3) := by decide +kernel
theorem dX7_piece_91 : decode cX7_piece 91 = .ok (.iconst 1, 1) := by decide +kernel
theorem dX7_piece_92 : decode cX7_piece 92 = .ok (.goto 4, 3) := by decide +kernel
theorem dX7_piece_95 : decode cX7_piece 95 = .ok (.iconst 0, 1) := by decide +kernel
theorem dX7_piece_96 : decode cX7_piece 96 = .ok (.ireturn, 1) := by decide +kernel
theorem dX7_piece_97 : decode cX7_piece 97 = .ok (.aload_n 0, 1) := by decide +kernel
theorem dX7_piece_98 : decode cX7_piece 98 = .ok (.iload_n 2, 1) := by decide +kernel
theorem dX7_piece_99 : decode cX7_piece 99 = .ok (.invokevirtual 225, 3) := by decide +kernel
theorem dX7_piece_102 : decode cX7_piece 102 = .ok (.ifCond .eq 7, 3) := by decide +kernel
theorem dX7_piece_105 : decode cX7_piece 105 = .ok (.iconst 1, 1) := by decide +kernel
theorem dX7_piece_106 : decode cX7_piece 106 = .ok (.goto 4, 3) := by decide +kernel
theorem dX7_piece_109 : decode cX7_piece 109 = .ok (.iconst 0, 1) := by decide +kernel
theorem dX7_piece_110 : decode cX7_piece 110 = .ok (.ireturn, 1) := by decide +kernel
theorem dX7_piece_111 : decode cX7_piece 111 = .ok (.bipush (-102), 2) := by decide +kernel
theorem dX7_piece_113 : decode cX7_piece 113 = .ok (.ireturn, 1) := by decide +kernel
theorem dX7_count_0 : decode cX7_count 0 = .ok (.iconst 0, 1) := by decide +kernel
theorem dX7_count_1 : decode cX7_count 1 = .ok (.istore_n 2, 1) := by decide +kernel
theorem dX7_count_2 : decode cX7_count 2 = .ok (.iconst 0, 1) := by decide +kernel
theorem dX7_count_3 : decode cX7_count 3 = .ok (.istore_n 3, 1) := by decide +kernel
theorem dX7_count_4 : decode cX7_count 4 = .ok (.iload_n 3, 1) := by decide +kernel
theorem dX7_count_5 : decode cX7_count 5 = .ok (.sipush 256, 3) := by decide +kernel
theorem dX7_count_8 : decode cX7_count 8 = .ok (.if_icmp .ge 48, 3) := by decide +kernel
theorem dX7_count_11 : decode cX7_count 11 = .ok (.iload_n 2, 1) := by decide +kernel
theorem dX7_count_12 : decode cX7_count 12 = .ok (.iload_n 1, 1) := by decide +kernel
theorem dX7_count_13 : decode cX7_count 13 = .ok (.iconst 1, 1) := by decide +kernel
theorem dX7_count_14 : decode cX7_count 14 = .ok (.if_icmp .ne 20, 3) := by decide +kernel
theorem dX7_count_17 : decode cX7_count 17 = .ok (.aload_n 0, 1) := by decide +kernel
theorem dX7_count_18 : decode cX7_count 18 = .ok (.getfield 30, 3) := by decide +kernel
theorem dX7_count_21 : decode cX7_count 21 = .ok (.iload_n 3, 1) := by decide +kernel
theorem dX7_count_22 : decode cX7_count 22 = .ok (.iaload, 1) := by decide +kernel
theorem dX7_count_23 : decode cX7_count 23 = .ok (.ifCond .le 7, 3) := by decide +kernel
theorem dX7_count_26 : decode cX7_count 26 = .ok (.iconst 1, 1) := by decide +kernel
theorem dX7_count_27 : decode cX7_count 27 = .ok (.goto 21, 3) := by decide +kernel
theorem dX7_count_30 : decode cX7_count 30 = .ok (.iconst 0, 1) := by decide +kernel
theorem dX7_count_31 : decode cX7_count 31 = .ok (.goto 17, 3) := by decide +kernel
theorem dX7_count_34 : decode cX7_count 34 = .ok (.aload_n 0, 1) := by decide +kernel
theorem dX7_count_35 : decode cX7_count 35 = .ok (.getfield 27, 3) := by decide +kernel
theorem dX7_count_38 : decode cX7_count 38 = .ok (.iload_n 3, 1) := by decide +kernel
theorem dX7_count_39 : decode cX7_count 39 = .ok (.baload, 1) := by decide +kernel
theorem dX7_count_40 : decode cX7_count 40 = .ok (.ifCond .eq 7, 3) := by decide +kernel
theorem dX7_count_43 : decode cX7_count 43 = .ok (.iconst 1, 1) := by decide +kernel
theorem dX7_count_44 : decode cX7_count 44 = .ok (.goto 4, 3) := by decide +kernel
theorem dX7_count_47 : decode cX7_count 47 = .ok (.iconst 0, 1) := by decide +kernel
theorem dX7_count_48 : decode cX7_count 48 = .ok (.iadd, 1) := by decide +kernel
theorem dX7_count_49 : decode cX7_count 49 = .ok (.istore_n 2, 1) := by decide +kernel
theorem dX7_count_50 : decode cX7_count 50 = .ok (.iinc 3 1, 3) := by decide +kernel
theorem dX7_count_53 : decode cX7_count 53 = .ok (.goto (-49), 3) := by decide +kernel
theorem dX7_count_56 : decode cX7_count 56 = .ok (.iload_n 1, 1) := by decide +kernel
theorem dX7_count_57 : decode cX7_count 57 = .ok (.tableswitch 105 0 7 #[47, 52, 52, 54, 59, 82, 87, 100], 47) := by decide +kernel
theorem dX7_count_104 : decode cX7_count 104 = .ok (.aload_n 0, 1) := by decide +kernel
theorem dX7_count_105 : decode cX7_count 105 = .ok (.getfield 130, 3) := by decide +kernel
theorem dX7_count_108 : decode cX7_count 108 = .ok (.ireturn, 1) := by decide +kernel
theorem dX7_count_109 : decode cX7_count 109 = .ok (.iload_n 2, 1) := by decide +kernel
theorem dX7_count_110 : decode cX7_count 110 = .ok (.ireturn, 1) := by decide +kernel
theorem dX7_count_111 : decode cX7_count 111 = .ok (.aload_n 0, 1) := by decide +kernel
theorem dX7_count_112 : decode cX7_count 112 = .ok (.getfield 197, 3) := by decide +kernel
theorem dX7_count_115 : decode cX7_count 115 = .ok (.ireturn, 1) := by decide +kernel
theorem dX7_count_116 : decode cX7_count 116 = .ok (.aload_n 0, 1) := by decide +kernel
theorem dX7_count_117 : decode cX7_count 117 = .ok (.getfield 197, 3) := by decide +kernel
theorem dX7_count_120 : decode cX7_count 120 = .ok (.ifCond .ne 7, 3) := by decide +kernel
theorem dX7_count_123 : decode cX7_count 123 = .ok (.iconst 0, 1) := by decide +kernel
theorem dX7_count_124 : decode cX7_count 124 = .ok (.goto 14, 3) := by decide +kernel
theorem dX7_count_127 : decode cX7_count 127 = .ok (.aload_n 0, 1) := by decide +kernel
theorem dX7_count_128 : decode cX7_count 128 = .ok (.getfield 63, 3) := by decide +kernel
theorem dX7_count_131 : decode cX7_count 131 = .ok (.aload_n 0, 1) := by decide +kernel
theorem dX7_count_132 : decode cX7_count 132 = .ok (.getfield 197, 3) := by decide +kernel
theorem dX7_count_135 : decode cX7_count 135 = .ok (.iconst 1, 1) := by decide +kernel
theorem dX7_count_136 : decode cX7_count 136 = .ok (.isub, 1) := by decide +kernel
theorem dX7_count_137 : decode cX7_count 137 = .ok (.iaload, 1) := by decide +kernel
theorem dX7_count_138 : decode cX7_count 138 = .ok (.ireturn, 1) := by decide +kernel
theorem dX7_count_139 : decode cX7_count 139 = .ok (.aload_n 0, 1) := by decide +kernel
theorem dX7_count_140 : decode cX7_count 140 = .ok (.getfield 174, 3) := by decide +kernel
theorem dX7_count_143 : decode cX7_count 143 = .ok (.ireturn, 1) := by decide +kernel
theorem dX7_count_144 : decode cX7_count 144 = .ok (.aload_n 0, 1) := by decide +kernel
theorem dX7_count_145 : decode cX7_count 145 = .ok (.getfield 200, 3) := by decide +kernel
theorem dX7_count_148 : decode cX7_count 148 = .ok (.ifCond .eq 7, 3) := by decide +kernel
theorem dX7_count_151 : decode cX7_count 151 = .ok (.iconst 1, 1) := by decide +kernel
theorem dX7_count_152 : decode cX7_count 152 = .ok (.goto 4, 3) := by decide +kernel
theorem dX7_count_155 : decode cX7_count 155 = .ok (.iconst 0, 1) := by decide +kernel
theorem dX7_count_156 : decode cX7_count 156 = .ok (.ireturn, 1) := by decide +kernel
theorem dX7_count_157 : decode cX7_count 157 = .ok (.aload_n 0, 1) := by decide +kernel
theorem dX7_count_158 : decode cX7_count 158 = .ok (.getfield 243, 3) := by decide +kernel
theorem dX7_count_161 : decode cX7_count 161 = .ok (.ireturn, 1) := by decide +kernel
theorem dX7_count_162 : decode cX7_count 162 = .ok (.bipush (-102), 2) := by decide +kernel
theorem dX7_count_164 : decode cX7_count 164 = .ok (.ireturn, 1) := by decide +kernel
theorem dX7_mix_0 : decode cX7_mix 0 = .ok (.aload_n 0, 1) := by decide +kernel
theorem dX7_mix_1 : decode cX7_mix 1 = .ok (.ldc2_w 269, 3) := by decide +kernel
theorem dX7_mix_4 : decode cX7_mix 4 = .ok (.aload_n 0, 1) := by decide +kernel
theorem dX7_mix_5 : decode cX7_mix 5 = .ok (.getfield 271, 3) := by decide +kernel
theorem dX7_mix_8 : decode cX7_mix 8 = .ok (.lmul, 1) := by decide +kernel
theorem dX7_mix_9 : decode cX7_mix 9 = .ok (.lload_n 1, 1) := by decide +kernel
theorem dX7_mix_10 : decode cX7_mix 10 = .ok (.ladd, 1) := by decide +kernel
theorem dX7_mix_11 : decode cX7_mix 11 = .ok (.putfield 271, 3) := by decide +kernel
theorem dX7_mix_14 : decode cX7_mix 14 = .ok (.return_, 1) := by decide +kernel
theorem dX7_digest_0 : decode cX7_digest 0 = .ok (.aload_n 0, 1) := by decide +kernel
theorem dX7_digest_1 : decode cX7_digest 1 = .ok (.ldc2_w 275, 3) := by decide +kernel
theorem dX7_digest_4 : decode cX7_digest 4 = .ok (.putfield 271, 3) := by decide +kernel
theorem dX7_digest_7 : decode cX7_digest 7 = .ok (.aload_n 0, 1) := by decide +kernel
theorem dX7_digest_8 : decode cX7_digest 8 = .ok (.aload_n 0, 1) := by decide +kernel
theorem dX7_digest_9 : decode cX7_digest 9 = .ok (.getfield 7, 3) := by decide +kernel
theorem dX7_digest_12 : decode cX7_digest 12 = .ok (.i2l, 1) := by decide +kernel
theorem dX7_digest_13 : decode cX7_digest 13 = .ok (.invokevirtual 277, 3) := by decide +kernel
theorem dX7_digest_16 : decode cX7_digest 16 = .ok (.aload_n 0, 1) := by decide +kernel
theorem dX7_digest_17 : decode cX7_digest 17 = .ok (.aload_n 0, 1) := by decide +kernel
theorem dX7_digest_18 : decode cX7_digest 18 = .ok (.getfield 13, 3) := by decide +kernel
theorem dX7_digest_21 : decode cX7_digest 21 = .ok (.i2l, 1) := by decide +kernel
theorem dX7_digest_22 : decode cX7_digest 22 = .ok (.invokevirtual 277, 3) := by decide +kernel
theorem dX7_digest_25 : decode cX7_digest 25 = .ok (.iconst 0, 1) := by decide +kernel
theorem dX7_digest_26 : decode cX7_digest 26 = .ok (.istore_n 1, 1) := by decide +kernel
theorem dX7_digest_27 : decode cX7_digest 27 = .ok (.iload_n 1, 1) := by decide +kernel
theorem dX7_digest_28 : decode cX7_digest 28 = .ok (.aload_n 0, 1) := by decide +kernel
theorem dX7_digest_29 : decode cX7_digest 29 = .ok (.getfield 13, 3) := by decide +kernel
theorem dX7_digest_32 : decode cX7_digest 32 = .ok (.if_icmp .ge 54, 3) := by decide +kernel
theorem dX7_digest_35 : decode cX7_digest 35 = .ok (.iconst 0, 1) := by decide +kernel
theorem dX7_digest_36 : decode cX7_digest 36 = .ok (.istore_n 2, 1) := by decide +kernel
theorem dX7_digest_37 : decode cX7_digest 37 = .ok (.iload_n 2, 1) := by decide +kernel
theorem dX7_digest_38 : decode cX7_digest 38 = .ok (.aload_n 0, 1) := by decide +kernel
theorem dX7_digest_39 : decode cX7_digest 39 = .ok (.getfield 7, 3) := by decide +kernel
theorem dX7_digest_42 : decode cX7_digest 42 = .ok (.if_icmp .ge 38, 3) := by decide +kernel
theorem dX7_digest_45 : decode cX7_digest 45 = .ok (.iconst 0, 1) := by decide +kernel
theorem dX7_digest_46 : decode cX7_digest 46 = .ok (.istore_n 3, 1) := by decide +kernel
theorem dX7_digest_47 : decode cX7_digest 47 = .ok (.iload_n 3, 1) := by decide +kernel
theorem dX7_digest_48 : decode cX7_digest 48 = .ok (.iconst 5, 1) := by decide +kernel
theorem dX7_digest_49 : decode cX7_digest 49 = .ok (.if_icmp .ge 25, 3) := by decide +kernel
theorem dX7_digest_52 : decode cX7_digest 52 = .ok (.aload_n 0, 1) := by decide +kernel
theorem dX7_digest_53 : decode cX7_digest 53 = .ok (.aload_n 0, 1) := by decide +kernel
theorem dX7_digest_54 : decode cX7_digest 54 = .ok (.bipush 16, 2) := by decide +kernel
theorem dX7_digest_56 : decode cX7_digest 56 = .ok (.iload_n 1, 1) := by decide +kernel
theorem dX7_digest_57 : decode cX7_digest 57 = .ok (.imul, 1) := by decide +kernel
theorem dX7_digest_58 : decode cX7_digest 58 = .ok (.iload_n 2, 1) := by decide +kernel
theorem dX7_digest_59 : decode cX7_digest 59 = .ok (.iadd, 1) := by decide +kernel
theorem dX7_digest_60 : decode cX7_digest 60 = .ok (.iload_n 3, 1) := by decide +kernel
theorem dX7_digest_61 : decode cX7_digest 61 = .ok (.invokevirtual 266, 3) := by decide +kernel
theorem dX7_digest_64 : decode cX7_digest 64 = .ok (.i2l, 1) := by decide +kernel
theorem dX7_digest_65 : decode cX7_digest 65 = .ok (.invokevirtual 277, 3) := by decide +kernel
theorem dX7_digest_68 : decode cX7_digest 68 = .ok (.iinc 3 1, 3) := by decide +kernel
theorem dX7_digest_71 : decode cX7_digest 71 = .ok (.goto (-24), 3) := by decide +kernel
theorem dX7_digest_74 : decode cX7_digest 74 = .ok (.iinc 2 1, 3) := by decide +kernel
theorem dX7_digest_77 : decode cX7_digest 77 = .ok (.goto (-40), 3) := by decide +kernel
theorem dX7_digest_80 : decode cX7_digest 80 = .ok (.iinc 1 1, 3) := by decide +kernel
theorem dX7_digest_83 : decode cX7_digest 83 = .ok (.goto (-56), 3) := by decide +kernel
theorem dX7_digest_86 : decode cX7_digest 86 = .ok (.iconst 0, 1) := by decide +kernel
theorem dX7_digest_87 : decode cX7_digest 87 = .ok (.istore_n 1, 1) := by decide +kernel
theorem dX7_digest_88 : decode cX7_digest 88 = .ok (.iload_n 1, 1) := by decide +kernel
theorem dX7_digest_89 : decode cX7_digest 89 = .ok (.aload_n 0, 1) := by decide +kernel
theorem dX7_digest_90 : decode cX7_digest 90 = .ok (.getfield 130, 3) := by decide +kernel
theorem dX7_digest_93 : decode cX7_digest 93 = .ok (.if_icmp .ge 68, 3) := by decide +kernel
theorem dX7_digest_96 : decode cX7_digest 96 = .ok (.aload_n 0, 1) := by decide +kernel
theorem dX7_digest_97 : decode cX7_digest 97 = .ok (.aload_n 0, 1) := by decide +kernel
theorem dX7_digest_98 : decode cX7_digest 98 = .ok (.getfield 33, 3) := by decide +kernel
theorem dX7_digest_101 : decode cX7_digest 101 = .ok (.iload_n 1, 1) := by decide +kernel
theorem dX7_digest_102 : decode cX7_digest 102 = .ok (.iaload, 1) := by decide +kernel
theorem dX7_digest_103 : decode cX7_digest 103 = .ok (.i2l, 1) := by decide +kernel
theorem dX7_digest_104 : decode cX7_digest 104 = .ok (.invokevirtual 277, 3) := by decide +kernel
theorem dX7_digest_107 : decode cX7_digest 107 = .ok (.iconst 0, 1) := by decide +kernel
theorem dX7_digest_108 : decode cX7_digest 108 = .ok (.istore_n 2, 1) := by decide +kernel
theorem dX7_digest_109 : decode cX7_digest 109 = .ok (.iload_n 2, 1) := by decide +kernel
theorem dX7_digest_110 : decode cX7_digest 110 = .ok (.aload_n 0, 1) := by decide +kernel
theorem dX7_digest_111 : decode cX7_digest 111 = .ok (.getfield 36, 3) := by decide +kernel
theorem dX7_digest_114 : decode cX7_digest 114 = .ok (.iload_n 1, 1) := by decide +kernel
theorem dX7_digest_115 : decode cX7_digest 115 = .ok (.iaload, 1) := by decide +kernel
theorem dX7_digest_116 : decode cX7_digest 116 = .ok (.if_icmp .ge 39, 3) := by decide +kernel
theorem dX7_digest_119 : decode cX7_digest 119 = .ok (.aload_n 0, 1) := by decide +kernel
theorem dX7_digest_120 : decode cX7_digest 120 = .ok (.aload_n 0, 1) := by decide +kernel
theorem dX7_digest_121 : decode cX7_digest 121 = .ok (.getfield 39, 3) := by decide +kernel
theorem dX7_digest_124 : decode cX7_digest 124 = .ok (.iconst 4, 1) := by decide +kernel
theorem dX7_digest_125 : decode cX7_digest 125 = .ok (.iload_n 1, 1) := by decide +kernel
theorem dX7_digest_126 : decode cX7_digest 126 = .ok (.imul, 1) := by decide +kernel
theorem dX7_digest_127 : decode cX7_digest 127 = .ok (.iload_n 2, 1) := by decide +kernel
theorem dX7_digest_128 : decode cX7_digest 128 = .ok (.iadd, 1) := by decide +kernel
theorem dX7_digest_129 : decode cX7_digest 129 = .ok (.iaload, 1) := by decide +kernel
theorem dX7_digest_130 : decode cX7_digest 130 = .ok (.i2l, 1) := by decide +kernel
theorem dX7_digest_131 : decode cX7_digest 131 = .ok (.invokevirtual 277, 3) := by decide +kernel
theorem dX7_digest_134 : decode cX7_digest 134 = .ok (.aload_n 0, 1) := by decide +kernel
theorem dX7_digest_135 : decode cX7_digest 135 = .ok (.aload_n 0, 1) := by decide +kernel
theorem dX7_digest_136 : decode cX7_digest 136 = .ok (.getfield 42, 3) := by decide +kernel
theorem dX7_digest_139 : decode cX7_digest 139 = .ok (.iconst 4, 1) := by decide +kernel
theorem dX7_digest_140 : decode cX7_digest 140 = .ok (.iload_n 1, 1) := by decide +kernel
theorem dX7_digest_141 : decode cX7_digest 141 = .ok (.imul, 1) := by decide +kernel
theorem dX7_digest_142 : decode cX7_digest 142 = .ok (.iload_n 2, 1) := by decide +kernel
theorem dX7_digest_143 : decode cX7_digest 143 = .ok (.iadd, 1) := by decide +kernel
theorem dX7_digest_144 : decode cX7_digest 144 = .ok (.iaload, 1) := by decide +kernel
theorem dX7_digest_145 : decode cX7_digest 145 = .ok (.i2l, 1) := by decide +kernel
theorem dX7_digest_146 : decode cX7_digest 146 = .ok (.invokevirtual 277, 3) := by decide +kernel
theorem dX7_digest_149 : decode cX7_digest 149 = .ok (.iinc 2 1, 3) := by decide +kernel
theorem dX7_digest_152 : decode cX7_digest 152 = .ok (.goto (-43), 3) := by decide +kernel
theorem dX7_digest_155 : decode cX7_digest 155 = .ok (.iinc 1 1, 3) := by decide +kernel
theorem dX7_digest_158 : decode cX7_digest 158 = .ok (.goto (-70), 3) := by decide +kernel
theorem dX7_digest_161 : decode cX7_digest 161 = .ok (.iconst 0, 1) := by decide +kernel
theorem dX7_digest_162 : decode cX7_digest 162 = .ok (.istore_n 1, 1) := by decide +kernel
theorem dX7_digest_163 : decode cX7_digest 163 = .ok (.iload_n 1, 1) := by decide +kernel
theorem dX7_digest_164 : decode cX7_digest 164 = .ok (.aload_n 0, 1) := by decide +kernel
theorem dX7_digest_165 : decode cX7_digest 165 = .ok (.getfield 197, 3) := by decide +kernel
theorem dX7_digest_168 : decode cX7_digest 168 = .ok (.if_icmp .ge 70, 3) := by decide +kernel
theorem dX7_digest_171 : decode cX7_digest 171 = .ok (.aload_n 0, 1) := by decide +kernel
theorem dX7_digest_172 : decode cX7_digest 172 = .ok (.aload_n 0, 1) := by decide +kernel
theorem dX7_digest_173 : decode cX7_digest 173 = .ok (.getfield 57, 3) := by decide +kernel
theorem dX7_digest_176 : decode cX7_digest 176 = .ok (.iload_n 1, 1) := by decide +kernel
theorem dX7_digest_177 : decode cX7_digest 177 = .ok (.iaload, 1) := by decide +kernel
theorem dX7_digest_178 : decode cX7_digest 178 = .ok (.i2l, 1) := by decide +kernel
theorem dX7_digest_179 : decode cX7_digest 179 = .ok (.invokevirtual 277, 3) := by decide +kernel
theorem dX7_digest_182 : decode cX7_digest 182 = .ok (.bipush 12, 2) := by decide +kernel
theorem dX7_digest_184 : decode cX7_digest 184 = .ok (.iload_n 1, 1) := by decide +kernel
theorem dX7_digest_185 : decode cX7_digest 185 = .ok (.imul, 1) := by decide +kernel
theorem dX7_digest_186 : decode cX7_digest 186 = .ok (.istore_n 2, 1) := by decide +kernel
theorem dX7_digest_187 : decode cX7_digest 187 = .ok (.iload_n 2, 1) := by decide +kernel
theorem dX7_digest_188 : decode cX7_digest 188 = .ok (.bipush 12, 2) := by decide +kernel
theorem dX7_digest_190 : decode cX7_digest 190 = .ok (.iload_n 1, 1) := by decide +kernel
theorem dX7_digest_191 : decode cX7_digest 191 = .ok (.imul, 1) := by decide +kernel
theorem dX7_digest_192 : decode cX7_digest 192 = .ok (.aload_n 0, 1) := by decide +kernel
theorem dX7_digest_193 : decode cX7_digest 193 = .ok (.getfield 63, 3) := by decide +kernel
theorem dX7_digest_196 : decode cX7_digest 196 = .ok (.iload_n 1, 1) := by decide +kernel
theorem dX7_digest_197 : decode cX7_digest 197 = .ok (.iaload, 1) := by decide +kernel
theorem dX7_digest_198 : decode cX7_digest 198 = .ok (.iadd, 1) := by decide +kernel
theorem dX7_digest_199 : decode cX7_digest 199 = .ok (.if_icmp .ge 33, 3) := by decide +kernel
theorem dX7_digest_202 : decode cX7_digest 202 = .ok (.iconst 0, 1) := by decide +kernel
theorem dX7_digest_203 : decode cX7_digest 203 = .ok (.istore_n 3, 1) := by decide +kernel
theorem dX7_digest_204 : decode cX7_digest 204 = .ok (.iload_n 3, 1) := by decide +kernel
theorem dX7_digest_205 : decode cX7_digest 205 = .ok (.bipush 14, 2) := by decide +kernel
theorem dX7_digest_207 : decode cX7_digest 207 = .ok (.if_icmp .ge 19, 3) := by decide +kernel
theorem dX7_digest_210 : decode cX7_digest 210 = .ok (.aload_n 0, 1) := by decide +kernel
theorem dX7_digest_211 : decode cX7_digest 211 = .ok (.aload_n 0, 1) := by decide +kernel
theorem dX7_digest_212 : decode cX7_digest 212 = .ok (.iload_n 2, 1) := by decide +kernel
theorem dX7_digest_213 : decode cX7_digest 213 = .ok (.iload_n 3, 1) := by decide +kernel
theorem dX7_digest_214 : decode cX7_digest 214 = .ok (.invokevirtual 263, 3) := by decide +kernel
theorem dX7_digest_217 : decode cX7_digest 217 = .ok (.invokevirtual 277, 3) := by decide +kernel
theorem dX7_digest_220 : decode cX7_digest 220 = .ok (.iinc 3 1, 3) := by decide +kernel
theorem dX7_digest_223 : decode cX7_digest 223 = .ok (.goto (-19), 3) := by decide +kernel
theorem dX7_digest_226 : decode cX7_digest 226 = .ok (.iinc 2 1, 3) := by decide +kernel
theorem dX7_digest_229 : decode cX7_digest 229 = .ok (.goto (-42), 3) := by decide +kernel
theorem dX7_digest_232 : decode cX7_digest 232 = .ok (.iinc 1 1, 3) := by decide +kernel
theorem dX7_digest_235 : decode cX7_digest 235 = .ok (.goto (-72), 3) := by decide +kernel
theorem dX7_digest_238 : decode cX7_digest 238 = .ok (.iconst 0, 1) := by decide +kernel
theorem dX7_digest_239 : decode cX7_digest 239 = .ok (.istore_n 1, 1) := by decide +kernel
theorem dX7_digest_240 : decode cX7_digest 240 = .ok (.iload_n 1, 1) := by decide +kernel
theorem dX7_digest_241 : decode cX7_digest 241 = .ok (.iconst 5, 1) := by decide +kernel
theorem dX7_digest_242 : decode cX7_digest 242 = .ok (.if_icmp .ge 20, 3) := by decide +kernel
theorem dX7_digest_245 : decode cX7_digest 245 = .ok (.aload_n 0, 1) := by decide +kernel
theorem dX7_digest_246 : decode cX7_digest 246 = .ok (.aload_n 0, 1) := by decide +kernel
theorem dX7_digest_247 : decode cX7_digest 247 = .ok (.getfield 54, 3) := by decide +kernel
theorem dX7_digest_250 : decode cX7_digest 250 = .ok (.iload_n 1, 1) := by decide +kernel
theorem dX7_digest_251 : decode cX7_digest 251 = .ok (.iaload, 1) := by decide +kernel
theorem dX7_digest_252 : decode cX7_digest 252 = .ok (.i2l, 1) := by decide +kernel
theorem dX7_digest_253 : decode cX7_digest 253 = .ok (.invokevirtual 277, 3) := by decide +kernel
theorem dX7_digest_256 : decode cX7_digest 256 = .ok (.iinc 1 1, 3) := by decide +kernel
theorem dX7_digest_259 : decode cX7_digest 259 = .ok (.goto (-19), 3) := by decide +kernel
theorem dX7_digest_262 : decode cX7_digest 262 = .ok (.iconst 5, 1) := by decide +kernel
theorem dX7_digest_263 : decode cX7_digest 263 = .ok (.istore_n 1, 1) := by decide +kernel
theorem dX7_digest_264 : decode cX7_digest 264 = .ok (.iload_n 1, 1) := by decide +kernel
theorem dX7_digest_265 : decode cX7_digest 265 = .ok (.bipush 8, 2) := by decide +kernel
theorem dX7_digest_267 : decode cX7_digest 267 = .ok (.if_icmp .ge 19, 3) := by decide +kernel
theorem dX7_digest_270 : decode cX7_digest 270 = .ok (.aload_n 0, 1) := by decide +kernel
theorem dX7_digest_271 : decode cX7_digest 271 = .ok (.aload_n 0, 1) := by decide +kernel
theorem dX7_digest_272 : decode cX7_digest 272 = .ok (.iload_n 1, 1) := by decide +kernel
theorem dX7_digest_273 : decode cX7_digest 273 = .ok (.invokevirtual 281, 3) := by decide +kernel
theorem dX7_digest_276 : decode cX7_digest 276 = .ok (.i2l, 1) := by decide +kernel
theorem dX7_digest_277 : decode cX7_digest 277 = .ok (.invokevirtual 277, 3) := by decide +kernel
theorem dX7_digest_280 : decode cX7_digest 280 = .ok (.iinc 1 1, 3) := by decide +kernel
theorem dX7_digest_283 : decode cX7_digest 283 = .ok (.goto (-19), 3) := by decide +kernel
theorem dX7_digest_286 : decode cX7_digest 286 = .ok (.aload_n 0, 1) := by decide +kernel
theorem dX7_digest_287 : decode cX7_digest 287 = .ok (.getfield 271, 3) := by decide +kernel
theorem dX7_digest_290 : decode cX7_digest 290 = .ok (.lreturn, 1) := by decide +kernel
theorem dJ9_max_f86c9_0 : decode cJ9_max_f86c9 0 = .ok (.lload_n 0, 1) := by decide +kernel
theorem dJ9_max_f86c9_1 : decode cJ9_max_f86c9 1 = .ok (.lload_n 2, 1) := by decide +kernel
theorem dJ9_max_f86c9_2 : decode cJ9_max_f86c9 2 = .ok (.lcmp, 1) := by decide +kernel
theorem dJ9_max_f86c9_3 : decode cJ9_max_f86c9 3 = .ok (.ifCond .lt 7, 3) := by decide +kernel
theorem dJ9_max_f86c9_6 : decode cJ9_max_f86c9 6 = .ok (.lload_n 0, 1) := by decide +kernel
theorem dJ9_max_f86c9_7 : decode cJ9_max_f86c9 7 = .ok (.goto 4, 3) := by decide +kernel
theorem dJ9_max_f86c9_10 : decode cJ9_max_f86c9 10 = .ok (.lload_n 2, 1) := by decide +kernel
theorem dJ9_max_f86c9_11 : decode cJ9_max_f86c9 11 = .ok (.lreturn, 1) := by decide +kernel
theorem dJ9_min_f86c9_0 : decode cJ9_min_f86c9 0 = .ok (.lload_n 0, 1) := by decide +kernel
theorem dJ9_min_f86c9_1 : decode cJ9_min_f86c9 1 = .ok (.lload_n 2, 1) := by decide +kernel
theorem dJ9_min_f86c9_2 : decode cJ9_min_f86c9 2 = .ok (.lcmp, 1) := by decide +kernel
theorem dJ9_min_f86c9_3 : decode cJ9_min_f86c9 3 = .ok (.ifCond .gt 7, 3) := by decide +kernel
theorem dJ9_min_f86c9_6 : decode cJ9_min_f86c9 6 = .ok (.lload_n 0, 1) := by decide +kernel
theorem dJ9_min_f86c9_7 : decode cJ9_min_f86c9 7 = .ok (.goto 4, 3) := by decide +kernel
theorem dJ9_min_f86c9_10 : decode cJ9_min_f86c9 10 = .ok (.lload_n 2, 1) := by decide +kernel
theorem dJ9_min_f86c9_11 : decode cJ9_min_f86c9 11 = .ok (.lreturn, 1) := by decide +kernel
theorem dL_law_0 : decode cL_law 0 = .ok (.new 7, 3) := by decide +kernel
theorem dL_law_3 : decode cL_law 3 = .ok (.dup, 1) := by decide +kernel
theorem dL_law_4 : decode cL_law 4 = .ok (.invokespecial 9, 3) := by decide +kernel
theorem dL_law_7 : decode cL_law 7 = .ok (.astore_n 1, 1) := by decide +kernel
theorem dL_law_8 : decode cL_law 8 = .ok (.new 10, 3) := by decide +kernel
theorem dL_law_11 : decode cL_law 11 = .ok (.dup, 1) := by decide +kernel
theorem dL_law_12 : decode cL_law 12 = .ok (.invokespecial 12, 3) := by decide +kernel
theorem dL_law_15 : decode cL_law 15 = .ok (.astore_n 2, 1) := by decide +kernel
theorem dL_law_16 : decode cL_law 16 = .ok (.iconst 0, 1) := by decide +kernel
theorem dL_law_17 : decode cL_law 17 = .ok (.istore_n 3, 1) := by decide +kernel
theorem dL_law_18 : decode cL_law 18 = .ok (.iload_n 3, 1) := by decide +kernel
theorem dL_law_19 : decode cL_law 19 = .ok (.aload_n 0, 1) := by decide +kernel
theorem dL_law_20 : decode cL_law 20 = .ok (.arraylength, 1) := by decide +kernel
theorem dL_law_21 : decode cL_law 21 = .ok (.iconst 5, 1) := by decide +kernel
theorem dL_law_22 : decode cL_law 22 = .ok (.isub, 1) := by decide +kernel
theorem dL_law_23 : decode cL_law 23 = .ok (.if_icmp .gt 956, 3) := by decide +kernel
theorem dL_law_26 : decode cL_law 26 = .ok (.aload_n 0, 1) := by decide +kernel
theorem dL_law_27 : decode cL_law 27 = .ok (.iload_n 3, 1) := by decide +kernel
theorem dL_law_28 : decode cL_law 28 = .ok (.iaload, 1) := by decide +kernel
theorem dL_law_29 : decode cL_law 29 = .ok (.bipush 31, 2) := by decide +kernel
theorem dL_law_31 : decode cL_law 31 = .ok (.iand, 1) := by decide +kernel
theorem dL_law_32 : decode cL_law 32 = .ok (.tableswitch 941 0 23 #[112, 145, 158, 211, 244, 287, 330, 373, 406, 439, 462, 521, 534, 557, 606, 619, 633, 707, 751, 795, 838, 861, 904, 927], 112) := by decide +kernel
theorem dL_law_144 : decode cL_law 144 = .ok (.aload_n 1, 1) := by decide +kernel
theorem dL_law_145 : decode cL_law 145 = .ok (.aload_n 0, 1) := by decide +kernel
theorem dL_law_146 : decode cL_law 146 = .ok (.iload_n 3, 1) := by decide +kernel
theorem dL_law_147 : decode cL_law 147 = .ok (.iconst 1, 1) := by decide +kernel
theorem dL_law_148 : decode cL_law 148 = .ok (.iadd, 1) := by decide +kernel
theorem dL_law_149 : decode cL_law 149 = .ok (.iaload, 1) := by decide +kernel
theorem dL_law_150 : decode cL_law 150 = .ok (.aload_n 0, 1) := by decide +kernel
theorem dL_law_151 : decode cL_law 151 = .ok (.iload_n 3, 1) := by decide +kernel
theorem dL_law_152 : decode cL_law 152 = .ok (.iconst 2, 1) := by decide +kernel
theorem dL_law_153 : decode cL_law 153 = .ok (.iadd, 1) := by decide +kernel
theorem dL_law_154 : decode cL_law 154 = .ok (.iaload, 1) := by decide +kernel
theorem dL_law_155 : decode cL_law 155 = .ok (.invokevirtual 13, 3) := by decide +kernel
theorem dL_law_158 : decode cL_law 158 = .ok (.aload_n 2, 1) := by decide +kernel
theorem dL_law_159 : decode cL_law 159 = .ok (.aload_n 0, 1) := by decide +kernel
theorem dL_law_160 : decode cL_law 160 = .ok (.iload_n 3, 1) := by decide +kernel
theorem dL_law_161 : decode cL_law 161 = .ok (.iconst 1, 1) := by decide +kernel
theorem dL_law_162 : decode cL_law 162 = .ok (.iadd, 1) := by decide +kernel
theorem dL_law_163 : decode cL_law 163 = .ok (.iaload, 1) := by decide +kernel
theorem dL_law_164 : decode cL_law 164 = .ok (.aload_n 0, 1) := by decide +kernel
theorem dL_law_165 : decode cL_law 165 = .ok (.iload_n 3, 1) := by decide +kernel
theorem dL_law_166 : decode cL_law 166 = .ok (.iconst 2, 1) := by decide +kernel
theorem dL_law_167 : decode cL_law 167 = .ok (.iadd, 1) := by decide +kernel
theorem dL_law_168 : decode cL_law 168 = .ok (.iaload, 1) := by decide +kernel
theorem dL_law_169 : decode cL_law 169 = .ok (.invokevirtual 17, 3) := by decide +kernel
theorem dL_law_172 : decode cL_law 172 = .ok (.if_icmp .eq 801, 3) := by decide +kernel
theorem dL_law_175 : decode cL_law 175 = .ok (.iconst 0, 1) := by decide +kernel
theorem dL_law_176 : decode cL_law 176 = .ok (.ireturn, 1) := by decide +kernel
theorem dL_law_177 : decode cL_law 177 = .ok (.aload_n 1, 1) := by decide +kernel
theorem dL_law_178 : decode cL_law 178 = .ok (.invokevirtual 18, 3) := by decide +kernel
theorem dL_law_181 : decode cL_law 181 = .ok (.aload_n 2, 1) := by decide +kernel
theorem dL_law_182 : decode cL_law 182 = .ok (.invokevirtual 22, 3) := by decide +kernel
theorem dL_law_185 : decode cL_law 185 = .ok (.if_icmp .eq 788, 3) := by decide +kernel
theorem dL_law_188 : decode cL_law 188 = .ok (.iconst 0, 1) := by decide +kernel
theorem dL_law_189 : decode cL_law 189 = .ok (.ireturn, 1) := by decide +kernel
theorem dL_law_190 : decode cL_law 190 = .ok (.aload_n 1, 1) := by decide +kernel
theorem dL_law_191 : decode cL_law 191 = .ok (.aload_n 0, 1) := by decide +kernel
theorem dL_law_192 : decode cL_law 192 = .ok (.iload_n 3, 1) := by decide +kernel
theorem dL_law_193 : decode cL_law 193 = .ok (.iconst 1, 1) := by decide +kernel
theorem dL_law_194 : decode cL_law 194 = .ok (.iadd, 1) := by decide +kernel
theorem dL_law_195 : decode cL_law 195 = .ok (.iaload, 1) := by decide +kernel
theorem dL_law_196 : decode cL_law 196 = .ok (.aload_n 0, 1) := by decide +kernel
theorem dL_law_197 : decode cL_law 197 = .ok (.iload_n 3, 1) := by decide +kernel
theorem dL_law_198 : decode cL_law 198 = .ok (.iconst 2, 1) := by decide +kernel
theorem dL_law_199 : decode cL_law 199 = .ok (.iadd, 1) := by decide +kernel
theorem dL_law_200 : decode cL_law 200 = .ok (.iaload, 1) := by decide +kernel
theorem dL_law_201 : decode cL_law 201 = .ok (.aload_n 0, 1) := by decide +kernel
theorem dL_law_202 : decode cL_law 202 = .ok (.iload_n 3, 1) := by decide +kernel
theorem dL_law_203 : decode cL_law 203 = .ok (.iconst 3, 1) := by decide +kernel
theorem dL_law_204 : decode cL_law 204 = .ok (.iadd, 1) := by decide +kernel
theorem dL_law_205 : decode cL_law 205 = .ok (.iaload, 1) := by decide +kernel
theorem dL_law_206 : decode cL_law 206 = .ok (.aload_n 0, 1) := by decide +kernel
theorem dL_law_207 : decode cL_law 207 = .ok (.iload_n 3, 1) := by decide +kernel
theorem dL_law_208 : decode cL_law 208 = .ok (.iconst 4, 1) := by decide +kernel
theorem dL_law_209 : decode cL_law 209 = .ok (.iadd, 1) := by decide +kernel
theorem dL_law_210 : decode cL_law 210 = .ok (.iaload, 1) := by decide +kernel
theorem dL_law_211 : decode cL_law 211 = .ok (.invokevirtual 23, 3) := by decide +kernel
theorem dL_law_214 : decode cL_law 214 = .ok (.aload_n 2, 1) := by decide +kernel
theorem dL_law_215 : decode cL_law 215 = .ok (.aload_n 0, 1) := by decide +kernel
theorem dL_law_216 : decode cL_law 216 = .ok (.iload_n 3, 1) := by decide +kernel
theorem dL_law_217 : decode cL_law 217 = .ok (.iconst 1, 1) := by decide +kernel
theorem dL_law_218 : decode cL_law 218 = .ok (.iadd, 1) := by decide +kernel
theorem dL_law_219 : decode cL_law 219 = .ok (.iaload, 1) := by decide +kernel
theorem dL_law_220 : decode cL_law 220 = .ok (.aload_n 0, 1) := by decide +kernel
theorem dL_law_221 : decode cL_law 221 = .ok (.iload_n 3, 1) := by decide +kernel
theorem dL_law_222 : decode cL_law 222 = .ok (.iconst 2, 1) := by decide +kernel
theorem dL_law_223 : decode cL_law 223 = .ok (.iadd, 1) := by decide +kernel
theorem dL_law_224 : decode cL_law 224 = .ok (.iaload, 1) := by decide +kernel
theorem dL_law_225 : decode cL_law 225 = .ok (.aload_n 0, 1) := by decide +kernel
theorem dL_law_226 : decode cL_law 226 = .ok (.iload_n 3, 1) := by decide +kernel
theorem dL_law_227 : decode cL_law 227 = .ok (.iconst 3, 1) := by decide +kernel
theorem dL_law_228 : decode cL_law 228 = .ok (.iadd, 1) := by decide +kernel
theorem dL_law_229 : decode cL_law 229 = .ok (.iaload, 1) := by decide +kernel
theorem dL_law_230 : decode cL_law 230 = .ok (.aload_n 0, 1) := by decide +kernel
theorem dL_law_231 : decode cL_law 231 = .ok (.iload_n 3, 1) := by decide +kernel
theorem dL_law_232 : decode cL_law 232 = .ok (.iconst 4, 1) := by decide +kernel
theorem dL_law_233 : decode cL_law 233 = .ok (.iadd, 1) := by decide +kernel
theorem dL_law_234 : decode cL_law 234 = .ok (.iaload, 1) := by decide +kernel
theorem dL_law_235 : decode cL_law 235 = .ok (.invokevirtual 27, 3) := by decide +kernel
theorem dL_law_238 : decode cL_law 238 = .ok (.if_icmp .eq 735, 3) := by decide +kernel
theorem dL_law_241 : decode cL_law 241 = .ok (.iconst 0, 1) := by decide +kernel
theorem dL_law_242 : decode cL_law 242 = .ok (.ireturn, 1) := by decide +kernel
theorem dL_law_243 : decode cL_law 243 = .ok (.aload_n 1, 1) := by decide +kernel
theorem dL_law_244 : decode cL_law 244 = .ok (.aload_n 0, 1) := by decide +kernel
theorem dL_law_245 : decode cL_law 245 = .ok (.iload_n 3, 1) := by decide +kernel
theorem dL_law_246 : decode cL_law 246 = .ok (.iconst 1, 1) := by decide +kernel
theorem dL_law_247 : decode cL_law 247 = .ok (.iadd, 1) := by decide +kernel
theorem dL_law_248 : decode cL_law 248 = .ok (.iaload, 1) := by decide +kernel
theorem dL_law_249 : decode cL_law 249 = .ok (.aload_n 0, 1) := by decide +kernel
theorem dL_law_250 : decode cL_law 250 = .ok (.iload_n 3, 1) := by decide +kernel
theorem dL_law_251 : decode cL_law 251 = .ok (.iconst 2, 1) := by decide +kernel
theorem dL_law_252 : decode cL_law 252 = .ok (.iadd, 1) := by decide +kernel
theorem dL_law_253 : decode cL_law 253 = .ok (.iaload, 1) := by decide +kernel
theorem dL_law_254 : decode cL_law 254 = .ok (.invokevirtual 28, 3) := by decide +kernel
theorem dL_law_257 : decode cL_law 257 = .ok (.aload_n 2, 1) := by decide +kernel
theorem dL_law_258 : decode cL_law 258 = .ok (.aload_n 0, 1) := by decide +kernel
theorem dL_law_259 : decode cL_law 259 = .ok (.iload_n 3, 1) := by decide +kernel
theorem dL_law_260 : decode cL_law 260 = .ok (.iconst 1, 1) := by decide +kernel
theorem dL_law_261 : decode cL_law 261 = .ok (.iadd, 1) := by decide +kernel
theorem dL_law_262 : decode cL_law 262 = .ok (.iaload, 1) := by decide +kernel
theorem dL_law_263 : decode cL_law 263 = .ok (.aload_n 0, 1) := by decide +kernel
theorem dL_law_264 : decode cL_law 264 = .ok (.iload_n 3, 1) := by decide +kernel
theorem dL_law_265 : decode cL_law 265 = .ok (.iconst 2, 1) := by decide +kernel
theorem dL_law_266 : decode cL_law 266 = .ok (.iadd, 1) := by decide +kernel
theorem dL_law_267 : decode cL_law 267 = .ok (.iaload, 1) := by decide +kernel
theorem dL_law_268 : decode cL_law 268 = .ok (.invokevirtual 31, 3) := by decide +kernel
theorem dL_law_271 : decode cL_law 271 = .ok (.if_icmp .eq 702, 3) := by decide +kernel
theorem dL_law_274 : decode cL_law 274 = .ok (.iconst 0, 1) := by decide +kernel
theorem dL_law_275 : decode cL_law 275 = .ok (.ireturn, 1) := by decide +kernel
theorem dL_law_276 : decode cL_law 276 = .ok (.aload_n 1, 1) := by decide +kernel
theorem dL_law_277 : decode cL_law 277 = .ok (.aload_n 0, 1) := by decide +kernel
theorem dL_law_278 : decode cL_law 278 = .ok (.iload_n 3, 1) := by decide +kernel
theorem dL_law_279 : decode cL_law 279 = .ok (.iconst 1, 1) := by decide +kernel
theorem dL_law_280 : decode cL_law 280 = .ok (.iadd, 1) := by decide +kernel
theorem dL_law_281 : decode cL_law 281 = .ok (.iaload, 1) := by decide +kernel
theorem dL_law_282 : decode cL_law 282 = .ok (.aload_n 0, 1) := by decide +kernel
theorem dL_law_283 : decode cL_law 283 = .ok (.iload_n 3, 1) := by decide +kernel
theorem dL_law_284 : decode cL_law 284 = .ok (.iconst 2, 1) := by decide +kernel
theorem dL_law_285 : decode cL_law 285 = .ok (.iadd, 1) := by decide +kernel
theorem dL_law_286 : decode cL_law 286 = .ok (.iaload, 1) := by decide +kernel
theorem dL_law_287 : decode cL_law 287 = .ok (.aload_n 0, 1) := by decide +kernel
theorem dL_law_288 : decode cL_law 288 = .ok (.iload_n 3, 1) := by decide +kernel
theorem dL_law_289 : decode cL_law 289 = .ok (.iconst 3, 1) := by decide +kernel
theorem dL_law_290 : decode cL_law 290 = .ok (.iadd, 1) := by decide +kernel
theorem dL_law_291 : decode cL_law 291 = .ok (.iaload, 1) := by decide +kernel
theorem dL_law_292 : decode cL_law 292 = .ok (.invokevirtual 32, 3) := by decide +kernel
theorem dL_law_295 : decode cL_law 295 = .ok (.aload_n 2, 1) := by decide +kernel
theorem dL_law_296 : decode cL_law 296 = .ok (.aload_n 0, 1) := by decide +kernel
theorem dL_law_297 : decode cL_law 297 = .ok (.iload_n 3, 1) := by decide +kernel
theorem dL_law_298 : decode cL_law 298 = .ok (.iconst 1, 1) := by decide +kernel
theorem dL_law_299 : decode cL_law 299 = .ok (.iadd, 1) := by decide +kernel
theorem dL_law_300 : decode cL_law 300 = .ok (.iaload, 1) := by decide +kernel
theorem dL_law_301 : decode cL_law 301 = .ok (.aload_n 0, 1) := by decide +kernel
theorem dL_law_302 : decode cL_law 302 = .ok (.iload_n 3, 1) := by decide +kernel
theorem dL_law_303 : decode cL_law 303 = .ok (.iconst 2, 1) := by decide +kernel
theorem dL_law_304 : decode cL_law 304 = .ok (.iadd, 1) := by decide +kernel
theorem dL_law_305 : decode cL_law 305 = .ok (.iaload, 1) := by decide +kernel
theorem dL_law_306 : decode cL_law 306 = .ok (.aload_n 0, 1) := by decide +kernel
theorem dL_law_307 : decode cL_law 307 = .ok (.iload_n 3, 1) := by decide +kernel
theorem dL_law_308 : decode cL_law 308 = .ok (.iconst 3, 1) := by decide +kernel
theorem dL_law_309 : decode cL_law 309 = .ok (.iadd, 1) := by decide +kernel
theorem dL_law_310 : decode cL_law 310 = .ok (.iaload, 1) := by decide +kernel
theorem dL_law_311 : decode cL_law 311 = .ok (.invokevirtual 36, 3) := by decide +kernel
theorem dL_law_314 : decode cL_law 314 = .ok (.if_icmp .eq 659, 3) := by decide +kernel
theorem dL_law_317 : decode cL_law 317 = .ok (.iconst 0, 1) := by decide +kernel
theorem dL_law_318 : decode cL_law 318 = .ok (.ireturn, 1) := by decide +kernel
theorem dL_law_319 : decode cL_law 319 = .ok (.aload_n 1, 1) := by decide +kernel
theorem dL_law_320 : decode cL_law 320 = .ok (.aload_n 0, 1) := by decide +kernel
theorem dL_law_321 : decode cL_law 321 = .ok (.iload_n 3, 1) := by decide +kernel
theorem dL_law_322 : decode cL_law 322 = .ok (.iconst 1, 1) := by decide +kernel
theorem dL_law_323 : decode cL_law 323 = .ok (.iadd, 1) := by decide +kernel
theorem dL_law_324 : decode cL_law 324 = .ok (.iaload, 1) := by decide +kernel
theorem dL_law_325 : decode cL_law 325 = .ok (.aload_n 0, 1) := by decide +kernel
theorem dL_law_326 : decode cL_law 326 = .ok (.iload_n 3, 1) := by decide +kernel
theorem dL_law_327 : decode cL_law 327 = .ok (.iconst 2, 1) := by decide +kernel
theorem dL_law_328 : decode cL_law 328 = .ok (.iadd, 1) := by decide +kernel
theorem dL_law_329 : decode cL_law 329 = .ok (.iaload, 1) := by decide +kernel
theorem dL_law_330 : decode cL_law 330 = .ok (.aload_n 0, 1) := by decide +kernel
theorem dL_law_331 : decode cL_law 331 = .ok (.iload_n 3, 1) := by decide +kernel
theorem dL_law_332 : decode cL_law 332 = .ok (.iconst 3, 1) := by decide +kernel
theorem dL_law_333 : decode cL_law 333 = .ok (.iadd, 1) := by decide +kernel
theorem dL_law_334 : decode cL_law 334 = .ok (.iaload, 1) := by decide +kernel
theorem dL_law_335 : decode cL_law 335 = .ok (.invokevirtual 37, 3) := by decide +kernel
theorem dL_law_338 : decode cL_law 338 = .ok (.aload_n 2, 1) := by decide +kernel
theorem dL_law_339 : decode cL_law 339 = .ok (.aload_n 0, 1) := by decide +kernel
theorem dL_law_340 : decode cL_law 340 = .ok (.iload_n 3, 1) := by decide +kernel
theorem dL_law_341 : decode cL_law 341 = .ok (.iconst 1, 1) := by decide +kernel
theorem dL_law_342 : decode cL_law 342 = .ok (.iadd, 1) := by decide +kernel
theorem dL_law_343 : decode cL_law 343 = .ok (.iaload, 1) := by decide +kernel
theorem dL_law_344 : decode cL_law 344 = .ok (.aload_n 0, 1) := by decide +kernel
theorem dL_law_345 : decode cL_law 345 = .ok (.iload_n 3, 1) := by decide +kernel
theorem dL_law_346 : decode cL_law 346 = .ok (.iconst 2, 1) := by decide +kernel
theorem dL_law_347 : decode cL_law 347 = .ok (.iadd, 1) := by decide +kernel
theorem dL_law_348 : decode cL_law 348 = .ok (.iaload, 1) := by decide +kernel
theorem dL_law_349 : decode cL_law 349 = .ok (.aload_n 0, 1) := by decide +kernel
theorem dL_law_350 : decode cL_law 350 = .ok (.iload_n 3, 1) := by decide +kernel
theorem dL_law_351 : decode cL_law 351 = .ok (.iconst 3, 1) := by decide +kernel
theorem dL_law_352 : decode cL_law 352 = .ok (.iadd, 1) := by decide +kernel
theorem dL_law_353 : decode cL_law 353 = .ok (.iaload, 1) := by decide +kernel
theorem dL_law_354 : decode cL_law 354 = .ok (.invokevirtual 40, 3) := by decide +kernel
theorem dL_law_357 : decode cL_law 357 = .ok (.if_icmp .eq 616, 3) := by decide +kernel
theorem dL_law_360 : decode cL_law 360 = .ok (.iconst 0, 1) := by decide +kernel
theorem dL_law_361 : decode cL_law 361 = .ok (.ireturn, 1) := by decide +kernel
theorem dL_law_362 : decode cL_law 362 = .ok (.aload_n 1, 1) := by decide +kernel
theorem dL_law_363 : decode cL_law 363 = .ok (.aload_n 0, 1) := by decide +kernel
theorem dL_law_364 : decode cL_law 364 = .ok (.iload_n 3, 1) := by decide +kernel
theorem dL_law_365 : decode cL_law 365 = .ok (.iconst 1, 1) := by decide +kernel
theorem dL_law_366 : decode cL_law 366 = .ok (.iadd, 1) := by decide +kernel
theorem dL_law_367 : decode cL_law 367 = .ok (.iaload, 1) := by decide +kernel
theorem dL_law_368 : decode cL_law 368 = .ok (.aload_n 0, 1) := by decide +kernel
theorem dL_law_369 : decode cL_law 369 = .ok (.iload_n 3, 1) := by decide +kernel
theorem dL_law_370 : decode cL_law 370 = .ok (.iconst 2, 1) := by decide +kernel
theorem dL_law_371 : decode cL_law 371 = .ok (.iadd, 1) := by decide +kernel
theorem dL_law_372 : decode cL_law 372 = .ok (.iaload, 1) := by decide +kernel
theorem dL_law_373 : decode cL_law 373 = .ok (.aload_n 0, 1) := by decide +kernel
theorem dL_law_374 : decode cL_law 374 = .ok (.iload_n 3, 1) := by decide +kernel
theorem dL_law_375 : decode cL_law 375 = .ok (.iconst 3, 1) := by decide +kernel
theorem dL_law_376 : decode cL_law 376 = .ok (.iadd, 1) := by decide +kernel
theorem dL_law_377 : decode cL_law 377 = .ok (.iaload, 1) := by decide +kernel
theorem dL_law_378 : decode cL_law 378 = .ok (.invokevirtual 41, 3) := by decide +kernel
theorem dL_law_381 : decode cL_law 381 = .ok (.aload_n 2, 1) := by decide +kernel
theorem dL_law_382 : decode cL_law 382 = .ok (.aload_n 0, 1) := by decide +kernel
theorem dL_law_383 : decode cL_law 383 = .ok (.iload_n 3, 1) := by decide +kernel
theorem dL_law_384 : decode cL_law 384 = .ok (.iconst 1, 1) := by decide +kernel
theorem dL_law_385 : decode cL_law 385 = .ok (.iadd, 1) := by decide +kernel
theorem dL_law_386 : decode cL_law 386 = .ok (.iaload, 1) := by decide +kernel
theorem dL_law_387 : decode cL_law 387 = .ok (.aload_n 0, 1) := by decide +kernel
theorem dL_law_388 : decode cL_law 388 = .ok (.iload_n 3, 1) := by decide +kernel
theorem dL_law_389 : decode cL_law 389 = .ok (.iconst 2, 1) := by decide +kernel
theorem dL_law_390 : decode cL_law 390 = .ok (.iadd, 1) := by decide +kernel
theorem dL_law_391 : decode cL_law 391 = .ok (.iaload, 1) := by decide +kernel
theorem dL_law_392 : decode cL_law 392 = .ok (.aload_n 0, 1) := by decide +kernel
theorem dL_law_393 : decode cL_law 393 = .ok (.iload_n 3, 1) := by decide +kernel
theorem dL_law_394 : decode cL_law 394 = .ok (.iconst 3, 1) := by decide +kernel
theorem dL_law_395 : decode cL_law 395 = .ok (.iadd, 1) := by decide +kernel
theorem dL_law_396 : decode cL_law 396 = .ok (.iaload, 1) := by decide +kernel
theorem dL_law_397 : decode cL_law 397 = .ok (.invokevirtual 44, 3) := by decide +kernel
theorem dL_law_400 : decode cL_law 400 = .ok (.if_icmp .eq 573, 3) := by decide +kernel
theorem dL_law_403 : decode cL_law 403 = .ok (.iconst 0, 1) := by decide +kernel
theorem dL_law_404 : decode cL_law 404 = .ok (.ireturn, 1) := by decide +kernel
theorem dL_law_405 : decode cL_law 405 = .ok (.aload_n 1, 1) := by decide +kernel
theorem dL_law_406 : decode cL_law 406 = .ok (.aload_n 0, 1) := by decide +kernel
theorem dL_law_407 : decode cL_law 407 = .ok (.iload_n 3, 1) := by decide +kernel
theorem dL_law_408 : decode cL_law 408 = .ok (.iconst 1, 1) := by decide +kernel
theorem dL_law_409 : decode cL_law 409 = .ok (.iadd, 1) := by decide +kernel
theorem dL_law_410 : decode cL_law 410 = .ok (.iaload, 1) := by decide +kernel
theorem dL_law_411 : decode cL_law 411 = .ok (.aload_n 0, 1) := by decide +kernel
theorem dL_law_412 : decode cL_law 412 = .ok (.iload_n 3, 1) := by decide +kernel
theorem dL_law_413 : decode cL_law 413 = .ok (.iconst 2, 1) := by decide +kernel
theorem dL_law_414 : decode cL_law 414 = .ok (.iadd, 1) := by decide +kernel
theorem dL_law_415 : decode cL_law 415 = .ok (.iaload, 1) := by decide +kernel
theorem dL_law_416 : decode cL_law 416 = .ok (.invokevirtual 45, 3) := by decide +kernel
theorem dL_law_419 : decode cL_law 419 = .ok (.aload_n 2, 1) := by decide +kernel
theorem dL_law_420 : decode cL_law 420 = .ok (.aload_n 0, 1) := by decide +kernel
theorem dL_law_421 : decode cL_law 421 = .ok (.iload_n 3, 1) := by decide +kernel
theorem dL_law_422 : decode cL_law 422 = .ok (.iconst 1, 1) := by decide +kernel
theorem dL_law_423 : decode cL_law 423 = .ok (.iadd, 1) := by decide +kernel
theorem dL_law_424 : decode cL_law 424 = .ok (.iaload, 1) := by decide +kernel
theorem dL_law_425 : decode cL_law 425 = .ok (.aload_n 0, 1) := by decide +kernel
theorem dL_law_426 : decode cL_law 426 = .ok (.iload_n 3, 1) := by decide +kernel
theorem dL_law_427 : decode cL_law 427 = .ok (.iconst 2, 1) := by decide +kernel
theorem dL_law_428 : decode cL_law 428 = .ok (.iadd, 1) := by decide +kernel
theorem dL_law_429 : decode cL_law 429 = .ok (.iaload, 1) := by decide +kernel
theorem dL_law_430 : decode cL_law 430 = .ok (.invokevirtual 48, 3) := by decide +kernel
theorem dL_law_433 : decode cL_law 433 = .ok (.if_icmp .eq 540, 3) := by decide +kernel
theorem dL_law_436 : decode cL_law 436 = .ok (.iconst 0, 1) := by decide +kernel
theorem dL_law_437 : decode cL_law 437 = .ok (.ireturn, 1) := by decide +kernel
theorem dL_law_438 : decode cL_law 438 = .ok (.aload_n 1, 1) := by decide +kernel
theorem dL_law_439 : decode cL_law 439 = .ok (.aload_n 0, 1) := by decide +kernel
theorem dL_law_440 : decode cL_law 440 = .ok (.iload_n 3, 1) := by decide +kernel
theorem dL_law_441 : decode cL_law 441 = .ok (.iconst 1, 1) := by decide +kernel
theorem dL_law_442 : decode cL_law 442 = .ok (.iadd, 1) := by decide +kernel
theorem dL_law_443 : decode cL_law 443 = .ok (.iaload, 1) := by decide +kernel
theorem dL_law_444 : decode cL_law 444 = .ok (.aload_n 0, 1) := by decide +kernel
theorem dL_law_445 : decode cL_law 445 = .ok (.iload_n 3, 1) := by decide +kernel
theorem dL_law_446 : decode cL_law 446 = .ok (.iconst 2, 1) := by decide +kernel
theorem dL_law_447 : decode cL_law 447 = .ok (.iadd, 1) := by decide +kernel
theorem dL_law_448 : decode cL_law 448 = .ok (.iaload, 1) := by decide +kernel
theorem dL_law_449 : decode cL_law 449 = .ok (.invokevirtual 49, 3) := by decide +kernel
theorem dL_law_452 : decode cL_law 452 = .ok (.aload_n 2, 1) := by decide +kernel
theorem dL_law_453 : decode cL_law 453 = .ok (.aload_n 0, 1) := by decide +kernel
theorem dL_law_454 : decode cL_law 454 = .ok (.iload_n 3, 1) := by decide +kernel
theorem dL_law_455 : decode cL_law 455 = .ok (.iconst 1, 1) := by decide +kernel
theorem dL_law_456 : decode cL_law 456 = .ok (.iadd, 1) := by decide +kernel
theorem dL_law_457 : decode cL_law 457 = .ok (.iaload, 1) := by decide +kernel
theorem dL_law_458 : decode cL_law 458 = .ok (.aload_n 0, 1) := by decide +kernel
theorem dL_law_459 : decode cL_law 459 = .ok (.iload_n 3, 1) := by decide +kernel
theorem dL_law_460 : decode cL_law 460 = .ok (.iconst 2, 1) := by decide +kernel
theorem dL_law_461 : decode cL_law 461 = .ok (.iadd, 1) := by decide +kernel
theorem dL_law_462 : decode cL_law 462 = .ok (.iaload, 1) := by decide +kernel
theorem dL_law_463 : decode cL_law 463 = .ok (.invokevirtual 52, 3) := by decide +kernel
theorem dL_law_466 : decode cL_law 466 = .ok (.if_icmp .eq 507, 3) := by decide +kernel
theorem dL_law_469 : decode cL_law 469 = .ok (.iconst 0, 1) := by decide +kernel
theorem dL_law_470 : decode cL_law 470 = .ok (.ireturn, 1) := by decide +kernel
theorem dL_law_471 : decode cL_law 471 = .ok (.aload_n 1, 1) := by decide +kernel
theorem dL_law_472 : decode cL_law 472 = .ok (.aload_n 0, 1) := by decide +kernel
theorem dL_law_473 : decode cL_law 473 = .ok (.iload_n 3, 1) := by decide +kernel
theorem dL_law_474 : decode cL_law 474 = .ok (.iconst 1, 1) := by decide +kernel
theorem dL_law_475 : decode cL_law 475 = .ok (.iadd, 1) := by decide +kernel
theorem dL_law_476 : decode cL_law 476 = .ok (.iaload, 1) := by decide +kernel
theorem dL_law_477 : decode cL_law 477 = .ok (.invokevirtual 53, 3) := by decide +kernel
theorem dL_law_480 : decode cL_law 480 = .ok (.aload_n 2, 1) := by decide +kernel
theorem dL_law_481 : decode cL_law 481 = .ok (.aload_n 0, 1) := by decide +kernel
theorem dL_law_482 : decode cL_law 482 = .ok (.iload_n 3, 1) := by decide +kernel
theorem dL_law_483 : decode cL_law 483 = .ok (.iconst 1, 1) := by decide +kernel
theorem dL_law_484 : decode cL_law 484 = .ok (.iadd, 1) := by decide +kernel
theorem dL_law_485 : decode cL_law 485 = .ok (.iaload, 1) := by decide +kernel
theorem dL_law_486 : decode cL_law 486 = .ok (.invokevirtual 57, 3) := by decide +kernel
theorem dL_law_489 : decode cL_law 489 = .ok (.if_icmp .eq 484, 3) := by decide +kernel
theorem dL_law_492 : decode cL_law 492 = .ok (.iconst 0, 1) := by decide +kernel
theorem dL_law_493 : decode cL_law 493 = .ok (.ireturn, 1) := by decide +kernel
theorem dL_law_494 : decode cL_law 494 = .ok (.aload_n 1, 1) := by decide +kernel
theorem dL_law_495 : decode cL_law 495 = .ok (.aload_n 0, 1) := by decide +kernel
theorem dL_law_496 : decode cL_law 496 = .ok (.iload_n 3, 1) := by decide +kernel
theorem dL_law_497 : decode cL_law 497 = .ok (.iconst 1, 1) := by decide +kernel
theorem dL_law_498 : decode cL_law 498 = .ok (.iadd, 1) := by decide +kernel
theorem dL_law_499 : decode cL_law 499 = .ok (.iaload, 1) := by decide +kernel
theorem dL_law_500 : decode cL_law 500 = .ok (.aload_n 0, 1) := by decide +kernel
theorem dL_law_501 : decode cL_law 501 = .ok (.iload_n 3, 1) := by decide +kernel
theorem dL_law_502 : decode cL_law 502 = .ok (.iconst 2, 1) := by decide +kernel
theorem dL_law_503 : decode cL_law 503 = .ok (.iadd, 1) := by decide +kernel
theorem dL_law_504 : decode cL_law 504 = .ok (.iaload, 1) := by decide +kernel
theorem dL_law_505 : decode cL_law 505 = .ok (.aload_n 0, 1) := by decide +kernel
theorem dL_law_506 : decode cL_law 506 = .ok (.iload_n 3, 1) := by decide +kernel
theorem dL_law_507 : decode cL_law 507 = .ok (.iconst 3, 1) := by decide +kernel
theorem dL_law_508 : decode cL_law 508 = .ok (.iadd, 1) := by decide +kernel
theorem dL_law_509 : decode cL_law 509 = .ok (.iaload, 1) := by decide +kernel
theorem dL_law_510 : decode cL_law 510 = .ok (.ifCond .eq 7, 3) := by decide +kernel
theorem dL_law_513 : decode cL_law 513 = .ok (.iconst 1, 1) := by decide +kernel
theorem dL_law_514 : decode cL_law 514 = .ok (.goto 4, 3) := by decide +kernel
theorem dL_law_517 : decode cL_law 517 = .ok (.iconst 0, 1) := by decide +kernel
theorem dL_law_518 : decode cL_law 518 = .ok (.invokevirtual 58, 3) := by decide +kernel
theorem dL_law_521 : decode cL_law 521 = .ok (.aload_n 2, 1) := by decide +kernel
theorem dL_law_522 : decode cL_law 522 = .ok (.aload_n 0, 1) := by decide +kernel
theorem dL_law_523 : decode cL_law 523 = .ok (.iload_n 3, 1) := by decide +kernel
theorem dL_law_524 : decode cL_law 524 = .ok (.iconst 1, 1) := by decide +kernel
theorem dL_law_525 : decode cL_law 525 = .ok (.iadd, 1) := by decide +kernel
theorem dL_law_526 : decode cL_law 526 = .ok (.iaload, 1) := by decide +kernel
theorem dL_law_527 : decode cL_law 527 = .ok (.aload_n 0, 1) := by decide +kernel
theorem dL_law_528 : decode cL_law 528 = .ok (.iload_n 3, 1) := by decide +kernel
theorem dL_law_529 : decode cL_law 529 = .ok (.iconst 2, 1) := by decide +kernel
theorem dL_law_530 : decode cL_law 530 = .ok (.iadd, 1) := by decide +kernel
theorem dL_law_531 : decode cL_law 531 = .ok (.iaload, 1) := by decide +kernel
theorem dL_law_532 : decode cL_law 532 = .ok (.aload_n 0, 1) := by decide +kernel
theorem dL_law_533 : decode cL_law 533 = .ok (.iload_n 3, 1) := by decide +kernel
theorem dL_law_534 : decode cL_law 534 = .ok (.iconst 3, 1) := by decide +kernel
theorem dL_law_535 : decode cL_law 535 = .ok (.iadd, 1) := by decide +kernel
theorem dL_law_536 : decode cL_law 536 = .ok (.iaload, 1) := by decide +kernel
theorem dL_law_537 : decode cL_law 537 = .ok (.ifCond .eq 7, 3) := by decide +kernel
theorem dL_law_540 : decode cL_law 540 = .ok (.iconst 1, 1) := by decide +kernel
theorem dL_law_541 : decode cL_law 541 = .ok (.goto 4, 3) := by decide +kernel
theorem dL_law_544 : decode cL_law 544 = .ok (.iconst 0, 1) := by decide +kernel
theorem dL_law_545 : decode cL_law 545 = .ok (.invokevirtual 62, 3) := by decide +kernel
theorem dL_law_548 : decode cL_law 548 = .ok (.if_icmp .eq 425, 3) := by decide +kernel
theorem dL_law_551 : decode cL_law 551 = .ok (.iconst 0, 1) := by decide +kernel
theorem dL_law_552 : decode cL_law 552 = .ok (.ireturn, 1) := by decide +kernel
theorem dL_law_553 : decode cL_law 553 = .ok (.aload_n 1, 1) := by decide +kernel
theorem dL_law_554 : decode cL_law 554 = .ok (.invokevirtual 63, 3) := by decide +kernel
theorem dL_law_557 : decode cL_law 557 = .ok (.aload_n 2, 1) := by decide +kernel
theorem dL_law_558 : decode cL_law 558 = .ok (.invokevirtual 66, 3) := by decide +kernel
theorem dL_law_561 : decode cL_law 561 = .ok (.if_icmp .eq 412, 3) := by decide +kernel
theorem dL_law_564 : decode cL_law 564 = .ok (.iconst 0, 1) := by decide +kernel
theorem dL_law_565 : decode cL_law 565 = .ok (.ireturn, 1) := by decide +kernel
theorem dL_law_566 : decode cL_law 566 = .ok (.aload_n 1, 1) := by decide +kernel
theorem dL_law_567 : decode cL_law 567 = .ok (.aload_n 0, 1) := by decide +kernel
theorem dL_law_568 : decode cL_law 568 = .ok (.iload_n 3, 1) := by decide +kernel
theorem dL_law_569 : decode cL_law 569 = .ok (.iconst 1, 1) := by decide +kernel
theorem dL_law_570 : decode cL_law 570 = .ok (.iadd, 1) := by decide +kernel
theorem dL_law_571 : decode cL_law 571 = .ok (.iaload, 1) := by decide +kernel
theorem dL_law_572 : decode cL_law 572 = .ok (.invokevirtual 67, 3) := by decide +kernel
theorem dL_law_575 : decode cL_law 575 = .ok (.aload_n 2, 1) := by decide +kernel
theorem dL_law_576 : decode cL_law 576 = .ok (.aload_n 0, 1) := by decide +kernel
theorem dL_law_577 : decode cL_law 577 = .ok (.iload_n 3, 1) := by decide +kernel
theorem dL_law_578 : decode cL_law 578 = .ok (.iconst 1, 1) := by decide +kernel
theorem dL_law_579 : decode cL_law 579 = .ok (.iadd, 1) := by decide +kernel
theorem dL_law_580 : decode cL_law 580 = .ok (.iaload, 1) := by decide +kernel
theorem dL_law_581 : decode cL_law 581 = .ok (.invokevirtual 70, 3) := by decide +kernel
theorem dL_law_584 : decode cL_law 584 = .ok (.if_icmp .eq 389, 3) := by decide +kernel
theorem dL_law_587 : decode cL_law 587 = .ok (.iconst 0, 1) := by decide +kernel
theorem dL_law_588 : decode cL_law 588 = .ok (.ireturn, 1) := by decide +kernel
theorem dL_law_589 : decode cL_law 589 = .ok (.aload_n 1, 1) := by decide +kernel
theorem dL_law_590 : decode cL_law 590 = .ok (.aload_n 0, 1) := by decide +kernel
theorem dL_law_591 : decode cL_law 591 = .ok (.iload_n 3, 1) := by decide +kernel
theorem dL_law_592 : decode cL_law 592 = .ok (.iconst 1, 1) := by decide +kernel
theorem dL_law_593 : decode cL_law 593 = .ok (.iadd, 1) := by decide +kernel
theorem dL_law_594 : decode cL_law 594 = .ok (.iaload, 1) := by decide +kernel
theorem dL_law_595 : decode cL_law 595 = .ok (.aload_n 0, 1) := by decide +kernel
theorem dL_law_596 : decode cL_law 596 = .ok (.iload_n 3, 1) := by decide +kernel
theorem dL_law_597 : decode cL_law 597 = .ok (.iconst 2, 1) := by decide +kernel
theorem dL_law_598 : decode cL_law 598 = .ok (.iadd, 1) := by decide +kernel
theorem dL_law_599 : decode cL_law 599 = .ok (.iaload, 1) := by decide +kernel
theorem dL_law_600 : decode cL_law 600 = .ok (.ifCond .eq 7, 3) := by decide +kernel
theorem dL_law_603 : decode cL_law 603 = .ok (.iconst 1, 1) := by decide +kernel
theorem dL_law_604 : decode cL_law 604 = .ok (.goto 4, 3) := by decide +kernel
theorem dL_law_607 : decode cL_law 607 = .ok (.iconst 0, 1) := by decide +kernel
theorem dL_law_608 : decode cL_law 608 = .ok (.invokevirtual 71, 3) := by decide +kernel
theorem dL_law_611 : decode cL_law 611 = .ok (.aload_n 2, 1) := by decide +kernel
theorem dL_law_612 : decode cL_law 612 = .ok (.aload_n 0, 1) := by decide +kernel
theorem dL_law_613 : decode cL_law 613 = .ok (.iload_n 3, 1) := by decide +kernel
theorem dL_law_614 : decode cL_law 614 = .ok (.iconst 1, 1) := by decide +kernel
theorem dL_law_615 : decode cL_law 615 = .ok (.iadd, 1) := by decide +kernel
theorem dL_law_616 : decode cL_law 616 = .ok (.iaload, 1) := by decide +kernel
theorem dL_law_617 : decode cL_law 617 = .ok (.aload_n 0, 1) := by decide +kernel
theorem dL_law_618 : decode cL_law 618 = .ok (.iload_n 3, 1) := by decide +kernel
theorem dL_law_619 : decode cL_law 619 = .ok (.iconst 2, 1) := by decide +kernel
theorem dL_law_620 : decode cL_law 620 = .ok (.iadd, 1) := by decide +kernel
theorem dL_law_621 : decode cL_law 621 = .ok (.iaload, 1) := by decide +kernel
theorem dL_law_622 : decode cL_law 622 = .ok (.ifCond .eq 7, 3) := by decide +kernel
theorem dL_law_625 : decode cL_law 625 = .ok (.iconst 1, 1) := by decide +kernel
theorem dL_law_626 : decode cL_law 626 = .ok (.goto 4, 3) := by decide +kernel
theorem dL_law_629 : decode cL_law 629 = .ok (.iconst 0, 1) := by decide +kernel
theorem dL_law_630 : decode cL_law 630 = .ok (.invokevirtual 75, 3) := by decide +kernel
theorem dL_law_633 : decode cL_law 633 = .ok (.if_icmp .eq 340, 3) := by decide +kernel
theorem dL_law_636 : decode cL_law 636 = .ok (.iconst 0, 1) := by decide +kernel
theorem dL_law_637 : decode cL_law 637 = .ok (.ireturn, 1) := by decide +kernel
theorem dL_law_638 : decode cL_law 638 = .ok (.aload_n 1, 1) := by decide +kernel
theorem dL_law_639 : decode cL_law 639 = .ok (.invokevirtual 76, 3) := by decide +kernel
theorem dL_law_642 : decode cL_law 642 = .ok (.aload_n 2, 1) := by decide +kernel
theorem dL_law_643 : decode cL_law 643 = .ok (.invokevirtual 79, 3) := by decide +kernel
theorem dL_law_646 : decode cL_law 646 = .ok (.if_icmp .eq 327, 3) := by decide +kernel
theorem dL_law_649 : decode cL_law 649 = .ok (.iconst 0, 1) := by decide +kernel
theorem dL_law_650 : decode cL_law 650 = .ok (.ireturn, 1) := by decide +kernel
theorem dL_law_651 : decode cL_law 651 = .ok (.aload_n 1, 1) := by decide +kernel
theorem dL_law_652 : decode cL_law 652 = .ok (.invokevirtual 80, 3) := by decide +kernel
theorem dL_law_655 : decode cL_law 655 = .ok (.aload_n 2, 1) := by decide +kernel
theorem dL_law_656 : decode cL_law 656 = .ok (.invokevirtual 84, 3) := by decide +kernel
theorem dL_law_659 : decode cL_law 659 = .ok (.lcmp, 1) := by decide +kernel
theorem dL_law_660 : decode cL_law 660 = .ok (.ifCond .eq 313, 3) := by decide +kernel
theorem dL_law_663 : decode cL_law 663 = .ok (.iconst 0, 1) := by decide +kernel
theorem dL_law_664 : decode cL_law 664 = .ok (.ireturn, 1) := by decide +kernel
theorem dL_law_665 : decode cL_law 665 = .ok (.aload_n 1, 1) := by decide +kernel
theorem dL_law_666 : decode cL_law 666 = .ok (.aload_n 0, 1) := by decide +kernel
theorem dL_law_667 : decode cL_law 667 = .ok (.iload_n 3, 1) := by decide +kernel
theorem dL_law_668 : decode cL_law 668 = .ok (.iconst 1, 1) := by decide +kernel
theorem dL_law_669 : decode cL_law 669 = .ok (.iadd, 1) := by decide +kernel
theorem dL_law_670 : decode cL_law 670 = .ok (.iaload, 1) := by decide +kernel
theorem dL_law_671 : decode cL_law 671 = .ok (.aload_n 0, 1) := by decide +kernel
theorem dL_law_672 : decode cL_law 672 = .ok (.iload_n 3, 1) := by decide +kernel
theorem dL_law_673 : decode cL_law 673 = .ok (.iconst 2, 1) := by decide +kernel
theorem dL_law_674 : decode cL_law 674 = .ok (.iadd, 1) := by decide +kernel
theorem dL_law_675 : decode cL_law 675 = .ok (.iaload, 1) := by decide +kernel
theorem dL_law_676 : decode cL_law 676 = .ok (.aload_n 0, 1) := by decide +kernel
theorem dL_law_677 : decode cL_law 677 = .ok (.iload_n 3, 1) := by decide +kernel
theorem dL_law_678 : decode cL_law 678 = .ok (.iconst 3, 1) := by decide +kernel
theorem dL_law_679 : decode cL_law 679 = .ok (.iadd, 1) := by decide +kernel
theorem dL_law_680 : decode cL_law 680 = .ok (.iaload, 1) := by decide +kernel
theorem dL_law_681 : decode cL_law 681 = .ok (.i2l, 1) := by decide +kernel
theorem dL_law_682 : decode cL_law 682 = .ok (.bipush 32, 2) := by decide +kernel
theorem dL_law_684 : decode cL_law 684 = .ok (.lshl, 1) := by decide +kernel
theorem dL_law_685 : decode cL_law 685 = .ok (.aload_n 0, 1) := by decide +kernel
theorem dL_law_686 : decode cL_law 686 = .ok (.iload_n 3, 1) := by decide +kernel
theorem dL_law_687 : decode cL_law 687 = .ok (.iconst 4, 1) := by decide +kernel
theorem dL_law_688 : decode cL_law 688 = .ok (.iadd, 1) := by decide +kernel
theorem dL_law_689 : decode cL_law 689 = .ok (.iaload, 1) := by decide +kernel
theorem dL_law_690 : decode cL_law 690 = .ok (.i2l, 1) := by decide +kernel
theorem dL_law_691 : decode cL_law 691 = .ok (.ldc2_w 85, 3) := by decide +kernel
theorem dL_law_694 : decode cL_law 694 = .ok (.land, 1) := by decide +kernel
theorem dL_law_695 : decode cL_law 695 = .ok (.lor, 1) := by decide +kernel
theorem dL_law_696 : decode cL_law 696 = .ok (.invokevirtual 87, 3) := by decide +kernel
theorem dL_law_699 : decode cL_law 699 = .ok (.aload_n 2, 1) := by decide +kernel
theorem dL_law_700 : decode cL_law 700 = .ok (.aload_n 0, 1) := by decide +kernel
theorem dL_law_701 : decode cL_law 701 = .ok (.iload_n 3, 1) := by decide +kernel
theorem dL_law_702 : decode cL_law 702 = .ok (.iconst 1, 1) := by decide +kernel
theorem dL_law_703 : decode cL_law 703 = .ok (.iadd, 1) := by decide +kernel
theorem dL_law_704 : decode cL_law 704 = .ok (.iaload, 1) := by decide +kernel
theorem dL_law_705 : decode cL_law 705 = .ok (.aload_n 0, 1) := by decide +kernel
theorem dL_law_706 : decode cL_law 706 = .ok (.iload_n 3, 1) := by decide +kernel
theorem dL_law_707 : decode cL_law 707 = .ok (.iconst 2, 1) := by decide +kernel
theorem dL_law_708 : decode cL_law 708 = .ok (.iadd, 1) := by decide +kernel
theorem dL_law_709 : decode cL_law 709 = .ok (.iaload, 1) := by decide +kernel
theorem dL_law_710 : decode cL_law 710 = .ok (.aload_n 0, 1) := by decide +kernel
theorem dL_law_711 : decode cL_law 711 = .ok (.iload_n 3, 1) := by decide +kernel
theorem dL_law_712 : decode cL_law 712 = .ok (.iconst 3, 1) := by decide +kernel
theorem dL_law_713 : decode cL_law 713 = .ok (.iadd, 1) := by decide +kernel
theorem dL_law_714 : decode cL_law 714 = .ok (.iaload, 1) := by decide +kernel
theorem dL_law_715 : decode cL_law 715 = .ok (.i2l, 1) := by decide +kernel
theorem dL_law_716 : decode cL_law 716 = .ok (.bipush 32, 2) := by decide +kernel
theorem dL_law_718 : decode cL_law 718 = .ok (.lshl, 1) := by decide +kernel
theorem dL_law_719 : decode cL_law 719 = .ok (.aload_n 0, 1) := by decide +kernel
theorem dL_law_720 : decode cL_law 720 = .ok (.iload_n 3, 1) := by decide +kernel
theorem dL_law_721 : decode cL_law 721 = .ok (.iconst 4, 1) := by decide +kernel
theorem dL_law_722 : decode cL_law 722 = .ok (.iadd, 1) := by decide +kernel
theorem dL_law_723 : decode cL_law 723 = .ok (.iaload, 1) := by decide +kernel
theorem dL_law_724 : decode cL_law 724 = .ok (.i2l, 1) := by decide +kernel
theorem dL_law_725 : decode cL_law 725 = .ok (.ldc2_w 85, 3) := by decide +kernel
theorem dL_law_728 : decode cL_law 728 = .ok (.land, 1) := by decide +kernel
theorem dL_law_729 : decode cL_law 729 = .ok (.lor, 1) := by decide +kernel
theorem dL_law_730 : decode cL_law 730 = .ok (.invokevirtual 91, 3) := by decide +kernel
theorem dL_law_733 : decode cL_law 733 = .ok (.lcmp, 1) := by decide +kernel
theorem dL_law_734 : decode cL_law 734 = .ok (.ifCond .eq 239, 3) := by decide +kernel
theorem dL_law_737 : decode cL_law 737 = .ok (.iconst 0, 1) := by decide +kernel
theorem dL_law_738 : decode cL_law 738 = .ok (.ireturn, 1) := by decide +kernel
theorem dL_law_739 : decode cL_law 739 = .ok (.aload_n 1, 1) := by decide +kernel
theorem dL_law_740 : decode cL_law 740 = .ok (.aload_n 0, 1) := by decide +kernel
theorem dL_law_741 : decode cL_law 741 = .ok (.iload_n 3, 1) := by decide +kernel
theorem dL_law_742 : decode cL_law 742 = .ok (.iconst 1, 1) := by decide +kernel
theorem dL_law_743 : decode cL_law 743 = .ok (.iadd, 1) := by decide +kernel
theorem dL_law_744 : decode cL_law 744 = .ok (.iaload, 1) := by decide +kernel
theorem dL_law_745 : decode cL_law 745 = .ok (.aload_n 0, 1) := by decide +kernel
theorem dL_law_746 : decode cL_law 746 = .ok (.iload_n 3, 1) := by decide +kernel
theorem dL_law_747 : decode cL_law 747 = .ok (.iconst 2, 1) := by decide +kernel
theorem dL_law_748 : decode cL_law 748 = .ok (.iadd, 1) := by decide +kernel
theorem dL_law_749 : decode cL_law 749 = .ok (.iaload, 1) := by decide +kernel
theorem dL_law_750 : decode cL_law 750 = .ok (.aload_n 0, 1) := by decide +kernel
theorem dL_law_751 : decode cL_law 751 = .ok (.iload_n 3, 1) := by decide +kernel
theorem dL_law_752 : decode cL_law 752 = .ok (.iconst 3, 1) := by decide +kernel
theorem dL_law_753 : decode cL_law 753 = .ok (.iadd, 1) := by decide +kernel
theorem dL_law_754 : decode cL_law 754 = .ok (.iaload, 1) := by decide +kernel
theorem dL_law_755 : decode cL_law 755 = .ok (.invokevirtual 92, 3) := by decide +kernel
theorem dL_law_758 : decode cL_law 758 = .ok (.aload_n 2, 1) := by decide +kernel
theorem dL_law_759 : decode cL_law 759 = .ok (.aload_n 0, 1) := by decide +kernel
theorem dL_law_760 : decode cL_law 760 = .ok (.iload_n 3, 1) := by decide +kernel
theorem dL_law_761 : decode cL_law 761 = .ok (.iconst 1, 1) := by decide +kernel
theorem dL_law_762 : decode cL_law 762 = .ok (.iadd, 1) := by decide +kernel
theorem dL_law_763 : decode cL_law 763 = .ok (.iaload, 1) := by decide +kernel
theorem dL_law_764 : decode cL_law 764 = .ok (.aload_n 0, 1) := by decide +kernel
theorem dL_law_765 : decode cL_law 765 = .ok (.iload_n 3, 1) := by decide +kernel
theorem dL_law_766 : decode cL_law 766 = .ok (.iconst 2, 1) := by decide +kernel
theorem dL_law_767 : decode cL_law 767 = .ok (.iadd, 1) := by decide +kernel
theorem dL_law_768 : decode cL_law 768 = .ok (.iaload, 1) := by decide +kernel
theorem dL_law_769 : decode cL_law 769 = .ok (.aload_n 0, 1) := by decide +kernel
theorem dL_law_770 : decode cL_law 770 = .ok (.iload_n 3, 1) := by decide +kernel
theorem dL_law_771 : decode cL_law 771 = .ok (.iconst 3, 1) := by decide +kernel
theorem dL_law_772 : decode cL_law 772 = .ok (.iadd, 1) := by decide +kernel
theorem dL_law_773 : decode cL_law 773 = .ok (.iaload, 1) := by decide +kernel
theorem dL_law_774 : decode cL_law 774 = .ok (.invokevirtual 96, 3) := by decide +kernel
theorem dL_law_777 : decode cL_law 777 = .ok (.lcmp, 1) := by decide +kernel
theorem dL_law_778 : decode cL_law 778 = .ok (.ifCond .eq 195, 3) := by decide +kernel
theorem dL_law_781 : decode cL_law 781 = .ok (.iconst 0, 1) := by decide +kernel
theorem dL_law_782 : decode cL_law 782 = .ok (.ireturn, 1) := by decide +kernel
theorem dL_law_783 : decode cL_law 783 = .ok (.aload_n 1, 1) := by decide +kernel
theorem dL_law_784 : decode cL_law 784 = .ok (.aload_n 0, 1) := by decide +kernel
theorem dL_law_785 : decode cL_law 785 = .ok (.iload_n 3, 1) := by decide +kernel
theorem dL_law_786 : decode cL_law 786 = .ok (.iconst 1, 1) := by decide +kernel
theorem dL_law_787 : decode cL_law 787 = .ok (.iadd, 1) := by decide +kernel
theorem dL_law_788 : decode cL_law 788 = .ok (.iaload, 1) := by decide +kernel
theorem dL_law_789 : decode cL_law 789 = .ok (.aload_n 0, 1) := by decide +kernel
theorem dL_law_790 : decode cL_law 790 = .ok (.iload_n 3, 1) := by decide +kernel
theorem dL_law_791 : decode cL_law 791 = .ok (.iconst 2, 1) := by decide +kernel
theorem dL_law_792 : decode cL_law 792 = .ok (.iadd, 1) := by decide +kernel
theorem dL_law_793 : decode cL_law 793 = .ok (.iaload, 1) := by decide +kernel
theorem dL_law_794 : decode cL_law 794 = .ok (.aload_n 0, 1) := by decide +kernel
theorem dL_law_795 : decode cL_law 795 = .ok (.iload_n 3, 1) := by decide +kernel
theorem dL_law_796 : decode cL_law 796 = .ok (.iconst 3, 1) := by decide +kernel
theorem dL_law_797 : decode cL_law 797 = .ok (.iadd, 1) := by decide +kernel
theorem dL_law_798 : decode cL_law 798 = .ok (.iaload, 1) := by decide +kernel
theorem dL_law_799 : decode cL_law 799 = .ok (.invokevirtual 97, 3) := by decide +kernel
theorem dL_law_802 : decode cL_law 802 = .ok (.aload_n 2, 1) := by decide +kernel
theorem dL_law_803 : decode cL_law 803 = .ok (.aload_n 0, 1) := by decide +kernel
theorem dL_law_804 : decode cL_law 804 = .ok (.iload_n 3, 1) := by decide +kernel
theorem dL_law_805 : decode cL_law 805 = .ok (.iconst 1, 1) := by decide +kernel
theorem dL_law_806 : decode cL_law 806 = .ok (.iadd, 1) := by decide +kernel
theorem dL_law_807 : decode cL_law 807 = .ok (.iaload, 1) := by decide +kernel
theorem dL_law_808 : decode cL_law 808 = .ok (.aload_n 0, 1) := by decide +kernel
theorem dL_law_809 : decode cL_law 809 = .ok (.iload_n 3, 1) := by decide +kernel
theorem dL_law_810 : decode cL_law 810 = .ok (.iconst 2, 1) := by decide +kernel
theorem dL_law_811 : decode cL_law 811 = .ok (.iadd, 1) := by decide +kernel
theorem dL_law_812 : decode cL_law 812 = .ok (.iaload, 1) := by decide +kernel
theorem dL_law_813 : decode cL_law 813 = .ok (.aload_n 0, 1) := by decide +kernel
theorem dL_law_814 : decode cL_law 814 = .ok (.iload_n 3, 1) := by decide +kernel
theorem dL_law_815 : decode cL_law 815 = .ok (.iconst 3, 1) := by decide +kernel
theorem dL_law_816 : decode cL_law 816 = .ok (.iadd, 1) := by decide +kernel
theorem dL_law_817 : decode cL_law 817 = .ok (.iaload, 1) := by decide +kernel
theorem dL_law_818 : decode cL_law 818 = .ok (.invokevirtual 100, 3) := by decide +kernel
theorem dL_law_821 : decode cL_law 821 = .ok (.lcmp, 1) := by decide +kernel
theorem dL_law_822 : decode cL_law 822 = .ok (.ifCond .eq 151, 3) := by decide +kernel
theorem dL_law_825 : decode cL_law 825 = .ok (.iconst 0, 1) := by decide +kernel
theorem dL_law_826 : decode cL_law 826 = .ok (.ireturn, 1) := by decide +kernel
theorem dL_law_827 : decode cL_law 827 = .ok (.aload_n 1, 1) := by decide +kernel
theorem dL_law_828 : decode cL_law 828 = .ok (.aload_n 0, 1) := by decide +kernel
theorem dL_law_829 : decode cL_law 829 = .ok (.iload_n 3, 1) := by decide +kernel
theorem dL_law_830 : decode cL_law 830 = .ok (.iconst 1, 1) := by decide +kernel
theorem dL_law_831 : decode cL_law 831 = .ok (.iadd, 1) := by decide +kernel
theorem dL_law_832 : decode cL_law 832 = .ok (.iaload, 1) := by decide +kernel
theorem dL_law_833 : decode cL_law 833 = .ok (.aload_n 0, 1) := by decide +kernel
theorem dL_law_834 : decode cL_law 834 = .ok (.iload_n 3, 1) := by decide +kernel
theorem dL_law_835 : decode cL_law 835 = .ok (.iconst 2, 1) := by decide +kernel
theorem dL_law_836 : decode cL_law 836 = .ok (.iadd, 1) := by decide +kernel
theorem dL_law_837 : decode cL_law 837 = .ok (.iaload, 1) := by decide +kernel
theorem dL_law_838 : decode cL_law 838 = .ok (.aload_n 0, 1) := by decide +kernel
theorem dL_law_839 : decode cL_law 839 = .ok (.iload_n 3, 1) := by decide +kernel
theorem dL_law_840 : decode cL_law 840 = .ok (.iconst 3, 1) := by decide +kernel
theorem dL_law_841 : decode cL_law 841 = .ok (.iadd, 1) := by decide +kernel
theorem dL_law_842 : decode cL_law 842 = .ok (.iaload, 1) := by decide +kernel
theorem dL_law_843 : decode cL_law 843 = .ok (.invokevirtual 101, 3) := by decide +kernel
theorem dL_law_846 : decode cL_law 846 = .ok (.aload_n 2, 1) := by decide +kernel
theorem dL_law_847 : decode cL_law 847 = .ok (.aload_n 0, 1) := by decide +kernel
theorem dL_law_848 : decode cL_law 848 = .ok (.iload_n 3, 1) := by decide +kernel
theorem dL_law_849 : decode cL_law 849 = .ok (.iconst 1, 1) := by decide +kernel
theorem dL_law_850 : decode cL_law 850 = .ok (.iadd, 1) := by decide +kernel
theorem dL_law_851 : decode cL_law 851 = .ok (.iaload, 1) := by decide +kernel
theorem dL_law_852 : decode cL_law 852 = .ok (.aload_n 0, 1) := by decide +kernel
theorem dL_law_853 : decode cL_law 853 = .ok (.iload_n 3, 1) := by decide +kernel
theorem dL_law_854 : decode cL_law 854 = .ok (.iconst 2, 1) := by decide +kernel
theorem dL_law_855 : decode cL_law 855 = .ok (.iadd, 1) := by decide +kernel
theorem dL_law_856 : decode cL_law 856 = .ok (.iaload, 1) := by decide +kernel
theorem dL_law_857 : decode cL_law 857 = .ok (.aload_n 0, 1) := by decide +kernel
theorem dL_law_858 : decode cL_law 858 = .ok (.iload_n 3, 1) := by decide +kernel
theorem dL_law_859 : decode cL_law 859 = .ok (.iconst 3, 1) := by decide +kernel
theorem dL_law_860 : decode cL_law 860 = .ok (.iadd, 1) := by decide +kernel
theorem dL_law_861 : decode cL_law 861 = .ok (.iaload, 1) := by decide +kernel
theorem dL_law_862 : decode cL_law 862 = .ok (.invokevirtual 104, 3) := by decide +kernel
theorem dL_law_865 : decode cL_law 865 = .ok (.if_icmp .eq 108, 3) := by decide +kernel
theorem dL_law_868 : decode cL_law 868 = .ok (.iconst 0, 1) := by decide +kernel
theorem dL_law_869 : decode cL_law 869 = .ok (.ireturn, 1) := by decide +kernel
theorem dL_law_870 : decode cL_law 870 = .ok (.aload_n 1, 1) := by decide +kernel
theorem dL_law_871 : decode cL_law 871 = .ok (.aload_n 0, 1) := by decide +kernel
theorem dL_law_872 : decode cL_law 872 = .ok (.iload_n 3, 1) := by decide +kernel
theorem dL_law_873 : decode cL_law 873 = .ok (.iconst 1, 1) := by decide +kernel
theorem dL_law_874 : decode cL_law 874 = .ok (.iadd, 1) := by decide +kernel
theorem dL_law_875 : decode cL_law 875 = .ok (.iaload, 1) := by decide +kernel
theorem dL_law_876 : decode cL_law 876 = .ok (.invokevirtual 105, 3) := by decide +kernel
theorem dL_law_879 : decode cL_law 879 = .ok (.aload_n 2, 1) := by decide +kernel
theorem dL_law_880 : decode cL_law 880 = .ok (.aload_n 0, 1) := by decide +kernel
theorem dL_law_881 : decode cL_law 881 = .ok (.iload_n 3, 1) := by decide +kernel
theorem dL_law_882 : decode cL_law 882 = .ok (.iconst 1, 1) := by decide +kernel
theorem dL_law_883 : decode cL_law 883 = .ok (.iadd, 1) := by decide +kernel
theorem dL_law_884 : decode cL_law 884 = .ok (.iaload, 1) := by decide +kernel
theorem dL_law_885 : decode cL_law 885 = .ok (.invokevirtual 108, 3) := by decide +kernel
theorem dL_law_888 : decode cL_law 888 = .ok (.if_icmp .eq 85, 3) := by decide +kernel
theorem dL_law_891 : decode cL_law 891 = .ok (.iconst 0, 1) := by decide +kernel
theorem dL_law_892 : decode cL_law 892 = .ok (.ireturn, 1) := by decide +kernel
theorem dL_law_893 : decode cL_law 893 = .ok (.aload_n 1, 1) := by decide +kernel
theorem dL_law_894 : decode cL_law 894 = .ok (.aload_n 0, 1) := by decide +kernel
theorem dL_law_895 : decode cL_law 895 = .ok (.iload_n 3, 1) := by decide +kernel
theorem dL_law_896 : decode cL_law 896 = .ok (.iconst 1, 1) := by decide +kernel
theorem dL_law_897 : decode cL_law 897 = .ok (.iadd, 1) := by decide +kernel
theorem dL_law_898 : decode cL_law 898 = .ok (.iaload, 1) := by decide +kernel
theorem dL_law_899 : decode cL_law 899 = .ok (.aload_n 0, 1) := by decide +kernel
theorem dL_law_900 : decode cL_law 900 = .ok (.iload_n 3, 1) := by decide +kernel
theorem dL_law_901 : decode cL_law 901 = .ok (.iconst 2, 1) := by decide +kernel
theorem dL_law_902 : decode cL_law 902 = .ok (.iadd, 1) := by decide +kernel
theorem dL_law_903 : decode cL_law 903 = .ok (.iaload, 1) := by decide +kernel
theorem dL_law_904 : decode cL_law 904 = .ok (.aload_n 0, 1) := by decide +kernel
theorem dL_law_905 : decode cL_law 905 = .ok (.iload_n 3, 1) := by decide +kernel
theorem dL_law_906 : decode cL_law 906 = .ok (.iconst 3, 1) := by decide +kernel
theorem dL_law_907 : decode cL_law 907 = .ok (.iadd, 1) := by decide +kernel
theorem dL_law_908 : decode cL_law 908 = .ok (.iaload, 1) := by decide +kernel
theorem dL_law_909 : decode cL_law 909 = .ok (.invokevirtual 109, 3) := by decide +kernel
theorem dL_law_912 : decode cL_law 912 = .ok (.aload_n 2, 1) := by decide +kernel
theorem dL_law_913 : decode cL_law 913 = .ok (.aload_n 0, 1) := by decide +kernel
theorem dL_law_914 : decode cL_law 914 = .ok (.iload_n 3, 1) := by decide +kernel
theorem dL_law_915 : decode cL_law 915 = .ok (.iconst 1, 1) := by decide +kernel
theorem dL_law_916 : decode cL_law 916 = .ok (.iadd, 1) := by decide +kernel
theorem dL_law_917 : decode cL_law 917 = .ok (.iaload, 1) := by decide +kernel
theorem dL_law_918 : decode cL_law 918 = .ok (.aload_n 0, 1) := by decide +kernel
theorem dL_law_919 : decode cL_law 919 = .ok (.iload_n 3, 1) := by decide +kernel
theorem dL_law_920 : decode cL_law 920 = .ok (.iconst 2, 1) := by decide +kernel
theorem dL_law_921 : decode cL_law 921 = .ok (.iadd, 1) := by decide +kernel
theorem dL_law_922 : decode cL_law 922 = .ok (.iaload, 1) := by decide +kernel
theorem dL_law_923 : decode cL_law 923 = .ok (.aload_n 0, 1) := by decide +kernel
theorem dL_law_924 : decode cL_law 924 = .ok (.iload_n 3, 1) := by decide +kernel
theorem dL_law_925 : decode cL_law 925 = .ok (.iconst 3, 1) := by decide +kernel
theorem dL_law_926 : decode cL_law 926 = .ok (.iadd, 1) := by decide +kernel
theorem dL_law_927 : decode cL_law 927 = .ok (.iaload, 1) := by decide +kernel
theorem dL_law_928 : decode cL_law 928 = .ok (.invokevirtual 112, 3) := by decide +kernel
theorem dL_law_931 : decode cL_law 931 = .ok (.if_icmp .eq 42, 3) := by decide +kernel
theorem dL_law_934 : decode cL_law 934 = .ok (.iconst 0, 1) := by decide +kernel
theorem dL_law_935 : decode cL_law 935 = .ok (.ireturn, 1) := by decide +kernel
theorem dL_law_936 : decode cL_law 936 = .ok (.aload_n 1, 1) := by decide +kernel
theorem dL_law_937 : decode cL_law 937 = .ok (.aload_n 0, 1) := by decide +kernel
theorem dL_law_938 : decode cL_law 938 = .ok (.iload_n 3, 1) := by decide +kernel
theorem dL_law_939 : decode cL_law 939 = .ok (.iconst 1, 1) := by decide +kernel
theorem dL_law_940 : decode cL_law 940 = .ok (.iadd, 1) := by decide +kernel
theorem dL_law_941 : decode cL_law 941 = .ok (.iaload, 1) := by decide +kernel
theorem dL_law_942 : decode cL_law 942 = .ok (.invokevirtual 113, 3) := by decide +kernel
theorem dL_law_945 : decode cL_law 945 = .ok (.aload_n 2, 1) := by decide +kernel
theorem dL_law_946 : decode cL_law 946 = .ok (.aload_n 0, 1) := by decide +kernel
theorem dL_law_947 : decode cL_law 947 = .ok (.iload_n 3, 1) := by decide +kernel
theorem dL_law_948 : decode cL_law 948 = .ok (.iconst 1, 1) := by decide +kernel
theorem dL_law_949 : decode cL_law 949 = .ok (.iadd, 1) := by decide +kernel
theorem dL_law_950 : decode cL_law 950 = .ok (.iaload, 1) := by decide +kernel
theorem dL_law_951 : decode cL_law 951 = .ok (.invokevirtual 116, 3) := by decide +kernel
theorem dL_law_954 : decode cL_law 954 = .ok (.if_icmp .eq 19, 3) := by decide +kernel
theorem dL_law_957 : decode cL_law 957 = .ok (.iconst 0, 1) := by decide +kernel
theorem dL_law_958 : decode cL_law 958 = .ok (.ireturn, 1) := by decide +kernel
theorem dL_law_959 : decode cL_law 959 = .ok (.aload_n 1, 1) := by decide +kernel
theorem dL_law_960 : decode cL_law 960 = .ok (.invokevirtual 117, 3) := by decide +kernel
theorem dL_law_963 : decode cL_law 963 = .ok (.aload_n 2, 1) := by decide +kernel
theorem dL_law_964 : decode cL_law 964 = .ok (.invokevirtual 120, 3) := by decide +kernel
theorem dL_law_967 : decode cL_law 967 = .ok (.lcmp, 1) := by decide +kernel
theorem dL_law_968 : decode cL_law 968 = .ok (.ifCond .eq 5, 3) := by decide +kernel
theorem dL_law_971 : decode cL_law 971 = .ok (.iconst 0, 1) := by decide +kernel
theorem dL_law_972 : decode cL_law 972 = .ok (.ireturn, 1) := by decide +kernel
theorem dL_law_973 : decode cL_law 973 = .ok (.iinc 3 5, 3) := by decide +kernel
theorem dL_law_976 : decode cL_law 976 = .ok (.goto (-958), 3) := by decide +kernel
theorem dL_law_979 : decode cL_law 979 = .ok (.iconst 1, 1) := by decide +kernel
theorem dL_law_980 : decode cL_law 980 = .ok (.ireturn, 1) := by decide +kernel
