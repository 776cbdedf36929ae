theorem dX8_openStatement_0 : decode cX8_openStatement 0 = .ok (.aload_n 0, 1) := by decide +kernel
theorem dX8_openStatement_1 : decode cX8_openStatement 1 = .ok (.getfield 35, 3) := by decide +kernel
theorem dX8_openStatement_4 : decode cX8_openStatement 4 = .ok (.iload_n 1, 1) := by decide +kernel
theorem dX8_openStatement_5 : decode cX8_openStatement 5 = .ok (.iaload, 1) := by decide +kernel
theorem dX8_openStatement_6 : decode cX8_openStatement 6 = .ok (.tableswitch 331 12 19 #[46, 84, 116, 149, 216, 268, 283, 323], 46) := by decide +kernel
theorem dX8_openStatement_52 : decode cX8_openStatement 52 = .ok (.aload_n 0, 1) := by decide +kernel
theorem dX8_openStatement_53 : decode cX8_openStatement 53 = .ok (.iconst 0, 1) := by decide +kernel
theorem dX8_openStatement_54 : decode cX8_openStatement 54 = .ok (.bipush 60, 2) := by decide +kernel
theorem dX8_openStatement_56 : decode cX8_openStatement 56 = .ok (.invokevirtual 462, 3) := by decide +kernel
theorem dX8_openStatement_59 : decode cX8_openStatement 59 = .ok (.aload_n 0, 1) := by decide +kernel
theorem dX8_openStatement_60 : decode cX8_openStatement 60 = .ok (.iconst 1, 1) := by decide +kernel
theorem dX8_openStatement_61 : decode cX8_openStatement 61 = .ok (.aload_n 0, 1) := by decide +kernel
theorem dX8_openStatement_62 : decode cX8_openStatement 62 = .ok (.iload_n 1, 1) := by decide +kernel
theorem dX8_openStatement_63 : decode cX8_openStatement 63 = .ok (.invokevirtual 465, 3) := by decide +kernel
theorem dX8_openStatement_66 : decode cX8_openStatement 66 = .ok (.invokevirtual 462, 3) := by decide +kernel
theorem dX8_openStatement_69 : decode cX8_openStatement 69 = .ok (.aload_n 0, 1) := by decide +kernel
theorem dX8_openStatement_70 : decode cX8_openStatement 70 = .ok (.iconst 0, 1) := by decide +kernel
theorem dX8_openStatement_71 : decode cX8_openStatement 71 = .ok (.bipush 50, 2) := by decide +kernel
theorem dX8_openStatement_73 : decode cX8_openStatement 73 = .ok (.invokevirtual 462, 3) := by decide +kernel
theorem dX8_openStatement_76 : decode cX8_openStatement 76 = .ok (.aload_n 0, 1) := by decide +kernel
theorem dX8_openStatement_77 : decode cX8_openStatement 77 = .ok (.iconst 1, 1) := by decide +kernel
theorem dX8_openStatement_78 : decode cX8_openStatement 78 = .ok (.aload_n 0, 1) := by decide +kernel
theorem dX8_openStatement_79 : decode cX8_openStatement 79 = .ok (.getfield 47, 3) := by decide +kernel
theorem dX8_openStatement_82 : decode cX8_openStatement 82 = .ok (.iload_n 1, 1) := by decide +kernel
theorem dX8_openStatement_83 : decode cX8_openStatement 83 = .ok (.iaload, 1) := by decide +kernel
theorem dX8_openStatement_84 : decode cX8_openStatement 84 = .ok (.invokevirtual 462, 3) := by decide +kernel
theorem dX8_openStatement_87 : decode cX8_openStatement 87 = .ok (.goto 280, 3) := by decide +kernel
theorem dX8_openStatement_90 : decode cX8_openStatement 90 = .ok (.aload_n 0, 1) := by decide +kernel
theorem dX8_openStatement_91 : decode cX8_openStatement 91 = .ok (.iconst 0, 1) := by decide +kernel
theorem dX8_openStatement_92 : decode cX8_openStatement 92 = .ok (.bipush 60, 2) := by decide +kernel
theorem dX8_openStatement_94 : decode cX8_openStatement 94 = .ok (.invokevirtual 462, 3) := by decide +kernel
theorem dX8_openStatement_97 : decode cX8_openStatement 97 = .ok (.aload_n 0, 1) := by decide +kernel
theorem dX8_openStatement_98 : decode cX8_openStatement 98 = .ok (.bipush 56, 2) := by decide +kernel
theorem dX8_openStatement_100 : decode cX8_openStatement 100 = .ok (.iconst 3, 1) := by decide +kernel
theorem dX8_openStatement_101 : decode cX8_openStatement 101 = .ok (.iload_n 1, 1) := by decide +kernel
theorem dX8_openStatement_102 : decode cX8_openStatement 102 = .ok (.bipush 55, 2) := by decide +kernel
theorem dX8_openStatement_104 : decode cX8_openStatement 104 = .ok (.invokevirtual 468, 3) := by decide +kernel
theorem dX8_openStatement_107 : decode cX8_openStatement 107 = .ok (.aload_n 0, 1) := by decide +kernel
theorem dX8_openStatement_108 : decode cX8_openStatement 108 = .ok (.bipush 8, 2) := by decide +kernel
theorem dX8_openStatement_110 : decode cX8_openStatement 110 = .ok (.aload_n 0, 1) := by decide +kernel
theorem dX8_openStatement_111 : decode cX8_openStatement 111 = .ok (.getfield 41, 3) := by decide +kernel
theorem dX8_openStatement_114 : decode cX8_openStatement 114 = .ok (.iload_n 1, 1) := by decide +kernel
theorem dX8_openStatement_115 : decode cX8_openStatement 115 = .ok (.iaload, 1) := by decide +kernel
theorem dX8_openStatement_116 : decode cX8_openStatement 116 = .ok (.invokevirtual 462, 3) := by decide +kernel
theorem dX8_openStatement_119 : decode cX8_openStatement 119 = .ok (.goto 248, 3) := by decide +kernel
theorem dX8_openStatement_122 : decode cX8_openStatement 122 = .ok (.aload_n 0, 1) := by decide +kernel
theorem dX8_openStatement_123 : decode cX8_openStatement 123 = .ok (.iconst 1, 1) := by decide +kernel
theorem dX8_openStatement_124 : decode cX8_openStatement 124 = .ok (.aload_n 0, 1) := by decide +kernel
theorem dX8_openStatement_125 : decode cX8_openStatement 125 = .ok (.getfield 47, 3) := by decide +kernel
theorem dX8_openStatement_128 : decode cX8_openStatement 128 = .ok (.iload_n 1, 1) := by decide +kernel
theorem dX8_openStatement_129 : decode cX8_openStatement 129 = .ok (.iaload, 1) := by decide +kernel
theorem dX8_openStatement_130 : decode cX8_openStatement 130 = .ok (.invokevirtual 462, 3) := by decide +kernel
theorem dX8_openStatement_133 : decode cX8_openStatement 133 = .ok (.aload_n 0, 1) := by decide +kernel
theorem dX8_openStatement_134 : decode cX8_openStatement 134 = .ok (.iconst 0, 1) := by decide +kernel
theorem dX8_openStatement_135 : decode cX8_openStatement 135 = .ok (.bipush 50, 2) := by decide +kernel
theorem dX8_openStatement_137 : decode cX8_openStatement 137 = .ok (.invokevirtual 462, 3) := by decide +kernel
theorem dX8_openStatement_140 : decode cX8_openStatement 140 = .ok (.aload_n 0, 1) := by decide +kernel
theorem dX8_openStatement_141 : decode cX8_openStatement 141 = .ok (.bipush 8, 2) := by decide +kernel
theorem dX8_openStatement_143 : decode cX8_openStatement 143 = .ok (.aload_n 0, 1) := by decide +kernel
theorem dX8_openStatement_144 : decode cX8_openStatement 144 = .ok (.getfield 41, 3) := by decide +kernel
theorem dX8_openStatement_147 : decode cX8_openStatement 147 = .ok (.iload_n 1, 1) := by decide +kernel
theorem dX8_openStatement_148 : decode cX8_openStatement 148 = .ok (.iaload, 1) := by decide +kernel
theorem dX8_openStatement_149 : decode cX8_openStatement 149 = .ok (.invokevirtual 462, 3) := by decide +kernel
theorem dX8_openStatement_152 : decode cX8_openStatement 152 = .ok (.goto 215, 3) := by decide +kernel
theorem dX8_openStatement_155 : decode cX8_openStatement 155 = .ok (.aload_n 0, 1) := by decide +kernel
theorem dX8_openStatement_156 : decode cX8_openStatement 156 = .ok (.iconst 0, 1) := by decide +kernel
theorem dX8_openStatement_157 : decode cX8_openStatement 157 = .ok (.bipush 60, 2) := by decide +kernel
theorem dX8_openStatement_159 : decode cX8_openStatement 159 = .ok (.invokevirtual 462, 3) := by decide +kernel
theorem dX8_openStatement_162 : decode cX8_openStatement 162 = .ok (.aload_n 0, 1) := by decide +kernel
theorem dX8_openStatement_163 : decode cX8_openStatement 163 = .ok (.iconst 0, 1) := by decide +kernel
theorem dX8_openStatement_164 : decode cX8_openStatement 164 = .ok (.bipush 20, 2) := by decide +kernel
theorem dX8_openStatement_166 : decode cX8_openStatement 166 = .ok (.invokevirtual 462, 3) := by decide +kernel
theorem dX8_openStatement_169 : decode cX8_openStatement 169 = .ok (.aload_n 0, 1) := by decide +kernel
theorem dX8_openStatement_170 : decode cX8_openStatement 170 = .ok (.iconst 4, 1) := by decide +kernel
theorem dX8_openStatement_171 : decode cX8_openStatement 171 = .ok (.aload_n 0, 1) := by decide +kernel
theorem dX8_openStatement_172 : decode cX8_openStatement 172 = .ok (.getfield 53, 3) := by decide +kernel
theorem dX8_openStatement_175 : decode cX8_openStatement 175 = .ok (.aload_n 0, 1) := by decide +kernel
theorem dX8_openStatement_176 : decode cX8_openStatement 176 = .ok (.iload_n 1, 1) := by decide +kernel
theorem dX8_openStatement_177 : decode cX8_openStatement 177 = .ok (.invokevirtual 465, 3) := by decide +kernel
theorem dX8_openStatement_180 : decode cX8_openStatement 180 = .ok (.iaload, 1) := by decide +kernel
theorem dX8_openStatement_181 : decode cX8_openStatement 181 = .ok (.invokevirtual 462, 3) := by decide +kernel
theorem dX8_openStatement_184 : decode cX8_openStatement 184 = .ok (.aload_n 0, 1) := by decide +kernel
theorem dX8_openStatement_185 : decode cX8_openStatement 185 = .ok (.iconst 1, 1) := by decide +kernel
theorem dX8_openStatement_186 : decode cX8_openStatement 186 = .ok (.aload_n 0, 1) := by decide +kernel
theorem dX8_openStatement_187 : decode cX8_openStatement 187 = .ok (.iload_n 1, 1) := by decide +kernel
theorem dX8_openStatement_188 : decode cX8_openStatement 188 = .ok (.invokevirtual 465, 3) := by decide +kernel
theorem dX8_openStatement_191 : decode cX8_openStatement 191 = .ok (.invokevirtual 462, 3) := by decide +kernel
theorem dX8_openStatement_194 : decode cX8_openStatement 194 = .ok (.aload_n 0, 1) := by decide +kernel
theorem dX8_openStatement_195 : decode cX8_openStatement 195 = .ok (.iconst 0, 1) := by decide +kernel
theorem dX8_openStatement_196 : decode cX8_openStatement 196 = .ok (.bipush 17, 2) := by decide +kernel
theorem dX8_openStatement_198 : decode cX8_openStatement 198 = .ok (.invokevirtual 462, 3) := by decide +kernel
theorem dX8_openStatement_201 : decode cX8_openStatement 201 = .ok (.aload_n 0, 1) := by decide +kernel
theorem dX8_openStatement_202 : decode cX8_openStatement 202 = .ok (.iconst 1, 1) := by decide +kernel
theorem dX8_openStatement_203 : decode cX8_openStatement 203 = .ok (.aload_n 0, 1) := by decide +kernel
theorem dX8_openStatement_204 : decode cX8_openStatement 204 = .ok (.getfield 47, 3) := by decide +kernel
theorem dX8_openStatement_207 : decode cX8_openStatement 207 = .ok (.iload_n 1, 1) := by decide +kernel
theorem dX8_openStatement_208 : decode cX8_openStatement 208 = .ok (.iaload, 1) := by decide +kernel
theorem dX8_openStatement_209 : decode cX8_openStatement 209 = .ok (.invokevirtual 462, 3) := by decide +kernel
theorem dX8_openStatement_212 : decode cX8_openStatement 212 = .ok (.aload_n 0, 1) := by decide +kernel
theorem dX8_openStatement_213 : decode cX8_openStatement 213 = .ok (.iconst 0, 1) := by decide +kernel
theorem dX8_openStatement_214 : decode cX8_openStatement 214 = .ok (.bipush 16, 2) := by decide +kernel
theorem dX8_openStatement_216 : decode cX8_openStatement 216 = .ok (.invokevirtual 462, 3) := by decide +kernel
theorem dX8_openStatement_219 : decode cX8_openStatement 219 = .ok (.goto 148, 3) := by decide +kernel
theorem dX8_openStatement_222 : decode cX8_openStatement 222 = .ok (.aload_n 0, 1) := by decide +kernel
theorem dX8_openStatement_223 : decode cX8_openStatement 223 = .ok (.iconst 0, 1) := by decide +kernel
theorem dX8_openStatement_224 : decode cX8_openStatement 224 = .ok (.bipush 60, 2) := by decide +kernel
theorem dX8_openStatement_226 : decode cX8_openStatement 226 = .ok (.invokevirtual 462, 3) := by decide +kernel
theorem dX8_openStatement_229 : decode cX8_openStatement 229 = .ok (.aload_n 0, 1) := by decide +kernel
theorem dX8_openStatement_230 : decode cX8_openStatement 230 = .ok (.iconst 0, 1) := by decide +kernel
theorem dX8_openStatement_231 : decode cX8_openStatement 231 = .ok (.bipush 22, 2) := by decide +kernel
theorem dX8_openStatement_233 : decode cX8_openStatement 233 = .ok (.invokevirtual 462, 3) := by decide +kernel
theorem dX8_openStatement_236 : decode cX8_openStatement 236 = .ok (.aload_n 0, 1) := by decide +kernel
theorem dX8_openStatement_237 : decode cX8_openStatement 237 = .ok (.iconst 5, 1) := by decide +kernel
theorem dX8_openStatement_238 : decode cX8_openStatement 238 = .ok (.aload_n 0, 1) := by decide +kernel
theorem dX8_openStatement_239 : decode cX8_openStatement 239 = .ok (.iload_n 1, 1) := by decide +kernel
theorem dX8_openStatement_240 : decode cX8_openStatement 240 = .ok (.invokevirtual 465, 3) := by decide +kernel
theorem dX8_openStatement_243 : decode cX8_openStatement 243 = .ok (.invokevirtual 462, 3) := by decide +kernel
theorem dX8_openStatement_246 : decode cX8_openStatement 246 = .ok (.aload_n 0, 1) := by decide +kernel
theorem dX8_openStatement_247 : decode cX8_openStatement 247 = .ok (.iconst 0, 1) := by decide +kernel
theorem dX8_openStatement_248 : decode cX8_openStatement 248 = .ok (.bipush 15, 2) := by decide +kernel
theorem dX8_openStatement_250 : decode cX8_openStatement 250 = .ok (.invokevirtual 462, 3) := by decide +kernel
theorem dX8_openStatement_253 : decode cX8_openStatement 253 = .ok (.aload_n 0, 1) := by decide +kernel
theorem dX8_openStatement_254 : decode cX8_openStatement 254 = .ok (.iconst 1, 1) := by decide +kernel
theorem dX8_openStatement_255 : decode cX8_openStatement 255 = .ok (.aload_n 0, 1) := by decide +kernel
theorem dX8_openStatement_256 : decode cX8_openStatement 256 = .ok (.getfield 47, 3) := by decide +kernel
theorem dX8_openStatement_259 : decode cX8_openStatement 259 = .ok (.iload_n 1, 1) := by decide +kernel
theorem dX8_openStatement_260 : decode cX8_openStatement 260 = .ok (.iaload, 1) := by decide +kernel
theorem dX8_openStatement_261 : decode cX8_openStatement 261 = .ok (.invokevirtual 462, 3) := by decide +kernel
theorem dX8_openStatement_264 : decode cX8_openStatement 264 = .ok (.aload_n 0, 1) := by decide +kernel
theorem dX8_openStatement_265 : decode cX8_openStatement 265 = .ok (.iconst 0, 1) := by decide +kernel
theorem dX8_openStatement_266 : decode cX8_openStatement 266 = .ok (.bipush 21, 2) := by decide +kernel
theorem dX8_openStatement_268 : decode cX8_openStatement 268 = .ok (.invokevirtual 462, 3) := by decide +kernel
theorem dX8_openStatement_271 : decode cX8_openStatement 271 = .ok (.goto 96, 3) := by decide +kernel
theorem dX8_openStatement_274 : decode cX8_openStatement 274 = .ok (.aload_n 0, 1) := by decide +kernel
theorem dX8_openStatement_275 : decode cX8_openStatement 275 = .ok (.bipush 6, 2) := by decide +kernel
theorem dX8_openStatement_277 : decode cX8_openStatement 277 = .ok (.aload_n 0, 1) := by decide +kernel
theorem dX8_openStatement_278 : decode cX8_openStatement 278 = .ok (.getfield 47, 3) := by decide +kernel
theorem dX8_openStatement_281 : decode cX8_openStatement 281 = .ok (.iload_n 1, 1) := by decide +kernel
theorem dX8_openStatement_282 : decode cX8_openStatement 282 = .ok (.iaload, 1) := by decide +kernel
theorem dX8_openStatement_283 : decode cX8_openStatement 283 = .ok (.invokevirtual 462, 3) := by decide +kernel
theorem dX8_openStatement_286 : decode cX8_openStatement 286 = .ok (.goto 81, 3) := by decide +kernel
theorem dX8_openStatement_289 : decode cX8_openStatement 289 = .ok (.aload_n 0, 1) := by decide +kernel
theorem dX8_openStatement_290 : decode cX8_openStatement 290 = .ok (.iload_n 1, 1) := by decide +kernel
theorem dX8_openStatement_291 : decode cX8_openStatement 291 = .ok (.invokevirtual 465, 3) := by decide +kernel
theorem dX8_openStatement_294 : decode cX8_openStatement 294 = .ok (.iconst (-1), 1) := by decide +kernel
theorem dX8_openStatement_295 : decode cX8_openStatement 295 = .ok (.if_icmp .eq 20, 3) := by decide +kernel
theorem dX8_openStatement_298 : decode cX8_openStatement 298 = .ok (.aload_n 0, 1) := by decide +kernel
theorem dX8_openStatement_299 : decode cX8_openStatement 299 = .ok (.iconst 1, 1) := by decide +kernel
theorem dX8_openStatement_300 : decode cX8_openStatement 300 = .ok (.aload_n 0, 1) := by decide +kernel
theorem dX8_openStatement_301 : decode cX8_openStatement 301 = .ok (.iload_n 1, 1) := by decide +kernel
theorem dX8_openStatement_302 : decode cX8_openStatement 302 = .ok (.invokevirtual 465, 3) := by decide +kernel
theorem dX8_openStatement_305 : decode cX8_openStatement 305 = .ok (.invokevirtual 462, 3) := by decide +kernel
theorem dX8_openStatement_308 : decode cX8_openStatement 308 = .ok (.aload_n 0, 1) := by decide +kernel
theorem dX8_openStatement_309 : decode cX8_openStatement 309 = .ok (.iconst 0, 1) := by decide +kernel
theorem dX8_openStatement_310 : decode cX8_openStatement 310 = .ok (.bipush 51, 2) := by decide +kernel
theorem dX8_openStatement_312 : decode cX8_openStatement 312 = .ok (.invokevirtual 462, 3) := by decide +kernel
theorem dX8_openStatement_315 : decode cX8_openStatement 315 = .ok (.aload_n 0, 1) := by decide +kernel
theorem dX8_openStatement_316 : decode cX8_openStatement 316 = .ok (.iconst 1, 1) := by decide +kernel
theorem dX8_openStatement_317 : decode cX8_openStatement 317 = .ok (.aload_n 0, 1) := by decide +kernel
theorem dX8_openStatement_318 : decode cX8_openStatement 318 = .ok (.getfield 47, 3) := by decide +kernel
theorem dX8_openStatement_321 : decode cX8_openStatement 321 = .ok (.iload_n 1, 1) := by decide +kernel
theorem dX8_openStatement_322 : decode cX8_openStatement 322 = .ok (.iaload, 1) := by decide +kernel
theorem dX8_openStatement_323 : decode cX8_openStatement 323 = .ok (.invokevirtual 462, 3) := by decide +kernel
theorem dX8_openStatement_326 : decode cX8_openStatement 326 = .ok (.goto 41, 3) := by decide +kernel
theorem dX8_openStatement_329 : decode cX8_openStatement 329 = .ok (.aload_n 0, 1) := by decide +kernel
theorem dX8_openStatement_330 : decode cX8_openStatement 330 = .ok (.iload_n 1, 1) := by decide +kernel
theorem dX8_openStatement_331 : decode cX8_openStatement 331 = .ok (.invokevirtual 471, 3) := by decide +kernel
theorem dX8_openStatement_334 : decode cX8_openStatement 334 = .ok (.goto 33, 3) := by decide +kernel
theorem dX8_openStatement_337 : decode cX8_openStatement 337 = .ok (.aload_n 0, 1) := by decide +kernel
theorem dX8_openStatement_338 : decode cX8_openStatement 338 = .ok (.iconst 0, 1) := by decide +kernel
theorem dX8_openStatement_339 : decode cX8_openStatement 339 = .ok (.bipush 60, 2) := by decide +kernel
theorem dX8_openStatement_341 : decode cX8_openStatement 341 = .ok (.invokevirtual 462, 3) := by decide +kernel
theorem dX8_openStatement_344 : decode cX8_openStatement 344 = .ok (.aload_n 0, 1) := by decide +kernel
theorem dX8_openStatement_345 : decode cX8_openStatement 345 = .ok (.iconst 0, 1) := by decide +kernel
theorem dX8_openStatement_346 : decode cX8_openStatement 346 = .ok (.aload_n 0, 1) := by decide +kernel
theorem dX8_openStatement_347 : decode cX8_openStatement 347 = .ok (.getfield 35, 3) := by decide +kernel
theorem dX8_openStatement_350 : decode cX8_openStatement 350 = .ok (.iload_n 1, 1) := by decide +kernel
theorem dX8_openStatement_351 : decode cX8_openStatement 351 = .ok (.iaload, 1) := by decide +kernel
theorem dX8_openStatement_352 : decode cX8_openStatement 352 = .ok (.bipush 20, 2) := by decide +kernel
theorem dX8_openStatement_354 : decode cX8_openStatement 354 = .ok (.if_icmp .ne 8, 3) := by decide +kernel
theorem dX8_openStatement_357 : decode cX8_openStatement 357 = .ok (.bipush 28, 2) := by decide +kernel
theorem dX8_openStatement_359 : decode cX8_openStatement 359 = .ok (.goto 5, 3) := by decide +kernel
theorem dX8_openStatement_362 : decode cX8_openStatement 362 = .ok (.bipush 29, 2) := by decide +kernel
theorem dX8_openStatement_364 : decode cX8_openStatement 364 = .ok (.invokevirtual 462, 3) := by decide +kernel
theorem dX8_openStatement_367 : decode cX8_openStatement 367 = .ok (.return_, 1) := by decide +kernel

theorem dX8_openOperand_0 : decode cX8_openOperand 0 = .ok (.aload_n 0, 1) := by decide +kernel
theorem dX8_openOperand_1 : decode cX8_openOperand 1 = .ok (.getfield 35, 3) := by decide +kernel
theorem dX8_openOperand_4 : decode cX8_openOperand 4 = .ok (.iload_n 1, 1) := by decide +kernel
theorem dX8_openOperand_5 : decode cX8_openOperand 5 = .ok (.iaload, 1) := by decide +kernel
theorem dX8_openOperand_6 : decode cX8_openOperand 6 = .ok (.tableswitch 189 30 35 #[38, 51, 75, 100, 124, 149], 38) := by decide +kernel
theorem dX8_openOperand_44 : decode cX8_openOperand 44 = .ok (.aload_n 0, 1) := by decide +kernel
theorem dX8_openOperand_45 : decode cX8_openOperand 45 = .ok (.aload_n 0, 1) := by decide +kernel
theorem dX8_openOperand_46 : decode cX8_openOperand 46 = .ok (.getfield 41, 3) := by decide +kernel
theorem dX8_openOperand_49 : decode cX8_openOperand 49 = .ok (.iload_n 1, 1) := by decide +kernel
theorem dX8_openOperand_50 : decode cX8_openOperand 50 = .ok (.iaload, 1) := by decide +kernel
theorem dX8_openOperand_51 : decode cX8_openOperand 51 = .ok (.invokevirtual 474, 3) := by decide +kernel
theorem dX8_openOperand_54 : decode cX8_openOperand 54 = .ok (.goto 174, 3) := by decide +kernel
theorem dX8_openOperand_57 : decode cX8_openOperand 57 = .ok (.aload_n 0, 1) := by decide +kernel
theorem dX8_openOperand_58 : decode cX8_openOperand 58 = .ok (.aload_n 0, 1) := by decide +kernel
theorem dX8_openOperand_59 : decode cX8_openOperand 59 = .ok (.getfield 41, 3) := by decide +kernel
theorem dX8_openOperand_62 : decode cX8_openOperand 62 = .ok (.iload_n 1, 1) := by decide +kernel
theorem dX8_openOperand_63 : decode cX8_openOperand 63 = .ok (.iaload, 1) := by decide +kernel
theorem dX8_openOperand_64 : decode cX8_openOperand 64 = .ok (.iconst 1, 1) := by decide +kernel
theorem dX8_openOperand_65 : decode cX8_openOperand 65 = .ok (.if_icmp .ne 8, 3) := by decide +kernel
theorem dX8_openOperand_68 : decode cX8_openOperand 68 = .ok (.bipush 35, 2) := by decide +kernel
theorem dX8_openOperand_70 : decode cX8_openOperand 70 = .ok (.goto 5, 3) := by decide +kernel
theorem dX8_openOperand_73 : decode cX8_openOperand 73 = .ok (.bipush 36, 2) := by decide +kernel
theorem dX8_openOperand_75 : decode cX8_openOperand 75 = .ok (.invokevirtual 477, 3) := by decide +kernel
theorem dX8_openOperand_78 : decode cX8_openOperand 78 = .ok (.goto 150, 3) := by decide +kernel
theorem dX8_openOperand_81 : decode cX8_openOperand 81 = .ok (.aload_n 0, 1) := by decide +kernel
theorem dX8_openOperand_82 : decode cX8_openOperand 82 = .ok (.bipush 58, 2) := by decide +kernel
theorem dX8_openOperand_84 : decode cX8_openOperand 84 = .ok (.iconst 1, 1) := by decide +kernel
theorem dX8_openOperand_85 : decode cX8_openOperand 85 = .ok (.iload_n 1, 1) := by decide +kernel
theorem dX8_openOperand_86 : decode cX8_openOperand 86 = .ok (.bipush 57, 2) := by decide +kernel
theorem dX8_openOperand_88 : decode cX8_openOperand 88 = .ok (.invokevirtual 468, 3) := by decide +kernel
theorem dX8_openOperand_91 : decode cX8_openOperand 91 = .ok (.aload_n 0, 1) := by decide +kernel
theorem dX8_openOperand_92 : decode cX8_openOperand 92 = .ok (.bipush 8, 2) := by decide +kernel
theorem dX8_openOperand_94 : decode cX8_openOperand 94 = .ok (.aload_n 0, 1) := by decide +kernel
theorem dX8_openOperand_95 : decode cX8_openOperand 95 = .ok (.getfield 41, 3) := by decide +kernel
theorem dX8_openOperand_98 : decode cX8_openOperand 98 = .ok (.iload_n 1, 1) := by decide +kernel
theorem dX8_openOperand_99 : decode cX8_openOperand 99 = .ok (.iaload, 1) := by decide +kernel
theorem dX8_openOperand_100 : decode cX8_openOperand 100 = .ok (.invokevirtual 462, 3) := by decide +kernel
theorem dX8_openOperand_103 : decode cX8_openOperand 103 = .ok (.goto 125, 3) := by decide +kernel
theorem dX8_openOperand_106 : decode cX8_openOperand 106 = .ok (.aload_n 0, 1) := by decide +kernel
theorem dX8_openOperand_107 : decode cX8_openOperand 107 = .ok (.iconst (-1), 1) := by decide +kernel
theorem dX8_openOperand_108 : decode cX8_openOperand 108 = .ok (.iconst 1, 1) := by decide +kernel
theorem dX8_openOperand_109 : decode cX8_openOperand 109 = .ok (.iload_n 1, 1) := by decide +kernel
theorem dX8_openOperand_110 : decode cX8_openOperand 110 = .ok (.bipush 62, 2) := by decide +kernel
theorem dX8_openOperand_112 : decode cX8_openOperand 112 = .ok (.invokevirtual 468, 3) := by decide +kernel
theorem dX8_openOperand_115 : decode cX8_openOperand 115 = .ok (.aload_n 0, 1) := by decide +kernel
theorem dX8_openOperand_116 : decode cX8_openOperand 116 = .ok (.bipush 8, 2) := by decide +kernel
theorem dX8_openOperand_118 : decode cX8_openOperand 118 = .ok (.aload_n 0, 1) := by decide +kernel
theorem dX8_openOperand_119 : decode cX8_openOperand 119 = .ok (.getfield 41, 3) := by decide +kernel
theorem dX8_openOperand_122 : decode cX8_openOperand 122 = .ok (.iload_n 1, 1) := by decide +kernel
theorem dX8_openOperand_123 : decode cX8_openOperand 123 = .ok (.iaload, 1) := by decide +kernel
theorem dX8_openOperand_124 : decode cX8_openOperand 124 = .ok (.invokevirtual 462, 3) := by decide +kernel
theorem dX8_openOperand_127 : decode cX8_openOperand 127 = .ok (.goto 101, 3) := by decide +kernel
theorem dX8_openOperand_130 : decode cX8_openOperand 130 = .ok (.aload_n 0, 1) := by decide +kernel
theorem dX8_openOperand_131 : decode cX8_openOperand 131 = .ok (.bipush 56, 2) := by decide +kernel
theorem dX8_openOperand_133 : decode cX8_openOperand 133 = .ok (.iconst 3, 1) := by decide +kernel
theorem dX8_openOperand_134 : decode cX8_openOperand 134 = .ok (.iload_n 1, 1) := by decide +kernel
theorem dX8_openOperand_135 : decode cX8_openOperand 135 = .ok (.bipush 55, 2) := by decide +kernel
theorem dX8_openOperand_137 : decode cX8_openOperand 137 = .ok (.invokevirtual 468, 3) := by decide +kernel
theorem dX8_openOperand_140 : decode cX8_openOperand 140 = .ok (.aload_n 0, 1) := by decide +kernel
theorem dX8_openOperand_141 : decode cX8_openOperand 141 = .ok (.bipush 8, 2) := by decide +kernel
theorem dX8_openOperand_143 : decode cX8_openOperand 143 = .ok (.aload_n 0, 1) := by decide +kernel
theorem dX8_openOperand_144 : decode cX8_openOperand 144 = .ok (.getfield 41, 3) := by decide +kernel
theorem dX8_openOperand_147 : decode cX8_openOperand 147 = .ok (.iload_n 1, 1) := by decide +kernel
theorem dX8_openOperand_148 : decode cX8_openOperand 148 = .ok (.iaload, 1) := by decide +kernel
theorem dX8_openOperand_149 : decode cX8_openOperand 149 = .ok (.invokevirtual 462, 3) := by decide +kernel
theorem dX8_openOperand_152 : decode cX8_openOperand 152 = .ok (.goto 76, 3) := by decide +kernel
theorem dX8_openOperand_155 : decode cX8_openOperand 155 = .ok (.aload_n 0, 1) := by decide +kernel
theorem dX8_openOperand_156 : decode cX8_openOperand 156 = .ok (.aload_n 0, 1) := by decide +kernel
theorem dX8_openOperand_157 : decode cX8_openOperand 157 = .ok (.iload_n 1, 1) := by decide +kernel
theorem dX8_openOperand_158 : decode cX8_openOperand 158 = .ok (.invokevirtual 465, 3) := by decide +kernel
theorem dX8_openOperand_161 : decode cX8_openOperand 161 = .ok (.iload_n 1, 1) := by decide +kernel
theorem dX8_openOperand_162 : decode cX8_openOperand 162 = .ok (.iconst 1, 1) := by decide +kernel
theorem dX8_openOperand_163 : decode cX8_openOperand 163 = .ok (.invokevirtual 480, 3) := by decide +kernel
theorem dX8_openOperand_166 : decode cX8_openOperand 166 = .ok (.aload_n 0, 1) := by decide +kernel
theorem dX8_openOperand_167 : decode cX8_openOperand 167 = .ok (.iconst 0, 1) := by decide +kernel
theorem dX8_openOperand_168 : decode cX8_openOperand 168 = .ok (.aload_n 0, 1) := by decide +kernel
theorem dX8_openOperand_169 : decode cX8_openOperand 169 = .ok (.getfield 41, 3) := by decide +kernel
theorem dX8_openOperand_172 : decode cX8_openOperand 172 = .ok (.iload_n 1, 1) := by decide +kernel
theorem dX8_openOperand_173 : decode cX8_openOperand 173 = .ok (.iaload, 1) := by decide +kernel
theorem dX8_openOperand_174 : decode cX8_openOperand 174 = .ok (.invokestatic 484, 3) := by decide +kernel
theorem dX8_openOperand_177 : decode cX8_openOperand 177 = .ok (.invokevirtual 462, 3) := by decide +kernel
theorem dX8_openOperand_180 : decode cX8_openOperand 180 = .ok (.aload_n 0, 1) := by decide +kernel
theorem dX8_openOperand_181 : decode cX8_openOperand 181 = .ok (.aload_n 0, 1) := by decide +kernel
theorem dX8_openOperand_182 : decode cX8_openOperand 182 = .ok (.getfield 47, 3) := by decide +kernel
theorem dX8_openOperand_185 : decode cX8_openOperand 185 = .ok (.iload_n 1, 1) := by decide +kernel
theorem dX8_openOperand_186 : decode cX8_openOperand 186 = .ok (.iaload, 1) := by decide +kernel
theorem dX8_openOperand_187 : decode cX8_openOperand 187 = .ok (.iload_n 1, 1) := by decide +kernel
theorem dX8_openOperand_188 : decode cX8_openOperand 188 = .ok (.iconst 0, 1) := by decide +kernel
theorem dX8_openOperand_189 : decode cX8_openOperand 189 = .ok (.invokevirtual 480, 3) := by decide +kernel
theorem dX8_openOperand_192 : decode cX8_openOperand 192 = .ok (.goto 36, 3) := by decide +kernel
theorem dX8_openOperand_195 : decode cX8_openOperand 195 = .ok (.aload_n 0, 1) := by decide +kernel
theorem dX8_openOperand_196 : decode cX8_openOperand 196 = .ok (.aload_n 0, 1) := by decide +kernel
theorem dX8_openOperand_197 : decode cX8_openOperand 197 = .ok (.getfield 47, 3) := by decide +kernel
theorem dX8_openOperand_200 : decode cX8_openOperand 200 = .ok (.iload_n 1, 1) := by decide +kernel
theorem dX8_openOperand_201 : decode cX8_openOperand 201 = .ok (.iaload, 1) := by decide +kernel
theorem dX8_openOperand_202 : decode cX8_openOperand 202 = .ok (.iload_n 1, 1) := by decide +kernel
theorem dX8_openOperand_203 : decode cX8_openOperand 203 = .ok (.iconst 0, 1) := by decide +kernel
theorem dX8_openOperand_204 : decode cX8_openOperand 204 = .ok (.invokevirtual 480, 3) := by decide +kernel
theorem dX8_openOperand_207 : decode cX8_openOperand 207 = .ok (.aload_n 0, 1) := by decide +kernel
theorem dX8_openOperand_208 : decode cX8_openOperand 208 = .ok (.iconst 0, 1) := by decide +kernel
theorem dX8_openOperand_209 : decode cX8_openOperand 209 = .ok (.aload_n 0, 1) := by decide +kernel
theorem dX8_openOperand_210 : decode cX8_openOperand 210 = .ok (.getfield 41, 3) := by decide +kernel
theorem dX8_openOperand_213 : decode cX8_openOperand 213 = .ok (.iload_n 1, 1) := by decide +kernel
theorem dX8_openOperand_214 : decode cX8_openOperand 214 = .ok (.iaload, 1) := by decide +kernel
theorem dX8_openOperand_215 : decode cX8_openOperand 215 = .ok (.ifCond .ne 8, 3) := by decide +kernel
theorem dX8_openOperand_218 : decode cX8_openOperand 218 = .ok (.bipush 64, 2) := by decide +kernel
theorem dX8_openOperand_220 : decode cX8_openOperand 220 = .ok (.goto 5, 3) := by decide +kernel
theorem dX8_openOperand_223 : decode cX8_openOperand 223 = .ok (.bipush 34, 2) := by decide +kernel
theorem dX8_openOperand_225 : decode cX8_openOperand 225 = .ok (.invokevirtual 462, 3) := by decide +kernel
theorem dX8_openOperand_228 : decode cX8_openOperand 228 = .ok (.return_, 1) := by decide +kernel

theorem dX8_openRung_0 : decode cX8_openRung 0 = .ok (.aload_n 0, 1) := by decide +kernel
theorem dX8_openRung_1 : decode cX8_openRung 1 = .ok (.getfield 41, 3) := by decide +kernel
theorem dX8_openRung_4 : decode cX8_openRung 4 = .ok (.iload_n 1, 1) := by decide +kernel
theorem dX8_openRung_5 : decode cX8_openRung 5 = .ok (.iaload, 1) := by decide +kernel
theorem dX8_openRung_6 : decode cX8_openRung 6 = .ok (.istore_n 2, 1) := by decide +kernel
theorem dX8_openRung_7 : decode cX8_openRung 7 = .ok (.aload_n 0, 1) := by decide +kernel
theorem dX8_openRung_8 : decode cX8_openRung 8 = .ok (.getfield 35, 3) := by decide +kernel
theorem dX8_openRung_11 : decode cX8_openRung 11 = .ok (.iload_n 1, 1) := by decide +kernel
theorem dX8_openRung_12 : decode cX8_openRung 12 = .ok (.iaload, 1) := by decide +kernel
theorem dX8_openRung_13 : decode cX8_openRung 13 = .ok (.tableswitch 187 22 28 #[43, 56, 69, 81, 121, 130, 139], 43) := by decide +kernel
theorem dX8_openRung_56 : decode cX8_openRung 56 = .ok (.aload_n 0, 1) := by decide +kernel
theorem dX8_openRung_57 : decode cX8_openRung 57 = .ok (.bipush 38, 2) := by decide +kernel
theorem dX8_openRung_59 : decode cX8_openRung 59 = .ok (.iconst 2, 1) := by decide +kernel
theorem dX8_openRung_60 : decode cX8_openRung 60 = .ok (.iload_n 1, 1) := by decide +kernel
theorem dX8_openRung_61 : decode cX8_openRung 61 = .ok (.bipush 37, 2) := by decide +kernel
theorem dX8_openRung_63 : decode cX8_openRung 63 = .ok (.invokevirtual 468, 3) := by decide +kernel
theorem dX8_openRung_66 : decode cX8_openRung 66 = .ok (.goto 140, 3) := by decide +kernel
theorem dX8_openRung_69 : decode cX8_openRung 69 = .ok (.aload_n 0, 1) := by decide +kernel
theorem dX8_openRung_70 : decode cX8_openRung 70 = .ok (.bipush 40, 2) := by decide +kernel
theorem dX8_openRung_72 : decode cX8_openRung 72 = .ok (.iconst 2, 1) := by decide +kernel
theorem dX8_openRung_73 : decode cX8_openRung 73 = .ok (.iload_n 1, 1) := by decide +kernel
theorem dX8_openRung_74 : decode cX8_openRung 74 = .ok (.bipush 39, 2) := by decide +kernel
theorem dX8_openRung_76 : decode cX8_openRung 76 = .ok (.invokevirtual 468, 3) := by decide +kernel
theorem dX8_openRung_79 : decode cX8_openRung 79 = .ok (.goto 127, 3) := by decide +kernel
theorem dX8_openRung_82 : decode cX8_openRung 82 = .ok (.aload_n 0, 1) := by decide +kernel
theorem dX8_openRung_83 : decode cX8_openRung 83 = .ok (.bipush 60, 2) := by decide +kernel
theorem dX8_openRung_85 : decode cX8_openRung 85 = .ok (.iconst 2, 1) := by decide +kernel
theorem dX8_openRung_86 : decode cX8_openRung 86 = .ok (.iload_n 1, 1) := by decide +kernel
theorem dX8_openRung_87 : decode cX8_openRung 87 = .ok (.iconst (-1), 1) := by decide +kernel
theorem dX8_openRung_88 : decode cX8_openRung 88 = .ok (.invokevirtual 468, 3) := by decide +kernel
theorem dX8_openRung_91 : decode cX8_openRung 91 = .ok (.goto 115, 3) := by decide +kernel
theorem dX8_openRung_94 : decode cX8_openRung 94 = .ok (.aload_n 0, 1) := by decide +kernel
theorem dX8_openRung_95 : decode cX8_openRung 95 = .ok (.iconst (-1), 1) := by decide +kernel
theorem dX8_openRung_96 : decode cX8_openRung 96 = .ok (.iconst 1, 1) := by decide +kernel
theorem dX8_openRung_97 : decode cX8_openRung 97 = .ok (.iload_n 1, 1) := by decide +kernel
theorem dX8_openRung_98 : decode cX8_openRung 98 = .ok (.iload_n 2, 1) := by decide +kernel
theorem dX8_openRung_99 : decode cX8_openRung 99 = .ok (.ifCond .ne 7, 3) := by decide +kernel
theorem dX8_openRung_102 : decode cX8_openRung 102 = .ok (.iconst (-1), 1) := by decide +kernel
theorem dX8_openRung_103 : decode cX8_openRung 103 = .ok (.goto 25, 3) := by decide +kernel
theorem dX8_openRung_106 : decode cX8_openRung 106 = .ok (.iload_n 2, 1) := by decide +kernel
theorem dX8_openRung_107 : decode cX8_openRung 107 = .ok (.iconst 1, 1) := by decide +kernel
theorem dX8_openRung_108 : decode cX8_openRung 108 = .ok (.if_icmp .ne 8, 3) := by decide +kernel
theorem dX8_openRung_111 : decode cX8_openRung 111 = .ok (.bipush 66, 2) := by decide +kernel
theorem dX8_openRung_113 : decode cX8_openRung 113 = .ok (.goto 15, 3) := by decide +kernel
theorem dX8_openRung_116 : decode cX8_openRung 116 = .ok (.iload_n 2, 1) := by decide +kernel
theorem dX8_openRung_117 : decode cX8_openRung 117 = .ok (.iconst 2, 1) := by decide +kernel
theorem dX8_openRung_118 : decode cX8_openRung 118 = .ok (.if_icmp .ne 8, 3) := by decide +kernel
theorem dX8_openRung_121 : decode cX8_openRung 121 = .ok (.bipush 69, 2) := by decide +kernel
theorem dX8_openRung_123 : decode cX8_openRung 123 = .ok (.goto 5, 3) := by decide +kernel
theorem dX8_openRung_126 : decode cX8_openRung 126 = .ok (.bipush 68, 2) := by decide +kernel
theorem dX8_openRung_128 : decode cX8_openRung 128 = .ok (.invokevirtual 468, 3) := by decide +kernel
theorem dX8_openRung_131 : decode cX8_openRung 131 = .ok (.goto 75, 3) := by decide +kernel
theorem dX8_openRung_134 : decode cX8_openRung 134 = .ok (.aload_n 0, 1) := by decide +kernel
theorem dX8_openRung_135 : decode cX8_openRung 135 = .ok (.bipush 64, 2) := by decide +kernel
theorem dX8_openRung_137 : decode cX8_openRung 137 = .ok (.invokevirtual 477, 3) := by decide +kernel
theorem dX8_openRung_140 : decode cX8_openRung 140 = .ok (.goto 66, 3) := by decide +kernel
theorem dX8_openRung_143 : decode cX8_openRung 143 = .ok (.aload_n 0, 1) := by decide +kernel
theorem dX8_openRung_144 : decode cX8_openRung 144 = .ok (.bipush 65, 2) := by decide +kernel
theorem dX8_openRung_146 : decode cX8_openRung 146 = .ok (.invokevirtual 477, 3) := by decide +kernel
theorem dX8_openRung_149 : decode cX8_openRung 149 = .ok (.goto 57, 3) := by decide +kernel
theorem dX8_openRung_152 : decode cX8_openRung 152 = .ok (.aload_n 0, 1) := by decide +kernel
theorem dX8_openRung_153 : decode cX8_openRung 153 = .ok (.bipush 56, 2) := by decide +kernel
theorem dX8_openRung_155 : decode cX8_openRung 155 = .ok (.iconst 1, 1) := by decide +kernel
theorem dX8_openRung_156 : decode cX8_openRung 156 = .ok (.iload_n 1, 1) := by decide +kernel
theorem dX8_openRung_157 : decode cX8_openRung 157 = .ok (.iload_n 2, 1) := by decide +kernel
theorem dX8_openRung_158 : decode cX8_openRung 158 = .ok (.ifCond .ne 7, 3) := by decide +kernel
theorem dX8_openRung_161 : decode cX8_openRung 161 = .ok (.iconst (-1), 1) := by decide +kernel
theorem dX8_openRung_162 : decode cX8_openRung 162 = .ok (.goto 25, 3) := by decide +kernel
theorem dX8_openRung_165 : decode cX8_openRung 165 = .ok (.iload_n 2, 1) := by decide +kernel
theorem dX8_openRung_166 : decode cX8_openRung 166 = .ok (.iconst 1, 1) := by decide +kernel
theorem dX8_openRung_167 : decode cX8_openRung 167 = .ok (.if_icmp .ne 8, 3) := by decide +kernel
theorem dX8_openRung_170 : decode cX8_openRung 170 = .ok (.bipush 66, 2) := by decide +kernel
theorem dX8_openRung_172 : decode cX8_openRung 172 = .ok (.goto 15, 3) := by decide +kernel
theorem dX8_openRung_175 : decode cX8_openRung 175 = .ok (.iload_n 2, 1) := by decide +kernel
theorem dX8_openRung_176 : decode cX8_openRung 176 = .ok (.iconst 2, 1) := by decide +kernel
theorem dX8_openRung_177 : decode cX8_openRung 177 = .ok (.if_icmp .ne 8, 3) := by decide +kernel
theorem dX8_openRung_180 : decode cX8_openRung 180 = .ok (.bipush 63, 2) := by decide +kernel
theorem dX8_openRung_182 : decode cX8_openRung 182 = .ok (.goto 5, 3) := by decide +kernel
theorem dX8_openRung_185 : decode cX8_openRung 185 = .ok (.bipush 64, 2) := by decide +kernel
theorem dX8_openRung_187 : decode cX8_openRung 187 = .ok (.invokevirtual 468, 3) := by decide +kernel
theorem dX8_openRung_190 : decode cX8_openRung 190 = .ok (.aload_n 0, 1) := by decide +kernel
theorem dX8_openRung_191 : decode cX8_openRung 191 = .ok (.iconst 0, 1) := by decide +kernel
theorem dX8_openRung_192 : decode cX8_openRung 192 = .ok (.bipush 55, 2) := by decide +kernel
theorem dX8_openRung_194 : decode cX8_openRung 194 = .ok (.invokevirtual 462, 3) := by decide +kernel
theorem dX8_openRung_197 : decode cX8_openRung 197 = .ok (.goto 9, 3) := by decide +kernel
theorem dX8_openRung_200 : decode cX8_openRung 200 = .ok (.aload_n 0, 1) := by decide +kernel
theorem dX8_openRung_201 : decode cX8_openRung 201 = .ok (.bipush 71, 2) := by decide +kernel
theorem dX8_openRung_203 : decode cX8_openRung 203 = .ok (.invokevirtual 477, 3) := by decide +kernel
theorem dX8_openRung_206 : decode cX8_openRung 206 = .ok (.return_, 1) := by decide +kernel

theorem dX8_openBlock_0 : decode cX8_openBlock 0 = .ok (.aload_n 0, 1) := by decide +kernel
theorem dX8_openBlock_1 : decode cX8_openBlock 1 = .ok (.getfield 35, 3) := by decide +kernel
theorem dX8_openBlock_4 : decode cX8_openBlock 4 = .ok (.iload_n 1, 1) := by decide +kernel
theorem dX8_openBlock_5 : decode cX8_openBlock 5 = .ok (.iaload, 1) := by decide +kernel
theorem dX8_openBlock_6 : decode cX8_openBlock 6 = .ok (.tableswitch 185 1 10 #[54, 64, 74, 84, 104, 172, 135, 148, 164, 172], 54) := by decide +kernel
theorem dX8_openBlock_60 : decode cX8_openBlock 60 = .ok (.aload_n 0, 1) := by decide +kernel
theorem dX8_openBlock_61 : decode cX8_openBlock 61 = .ok (.iload_n 1, 1) := by decide +kernel
theorem dX8_openBlock_62 : decode cX8_openBlock 62 = .ok (.iconst 0, 1) := by decide +kernel
theorem dX8_openBlock_63 : decode cX8_openBlock 63 = .ok (.iconst 1, 1) := by decide +kernel
theorem dX8_openBlock_64 : decode cX8_openBlock 64 = .ok (.invokevirtual 487, 3) := by decide +kernel
theorem dX8_openBlock_67 : decode cX8_openBlock 67 = .ok (.goto 132, 3) := by decide +kernel
theorem dX8_openBlock_70 : decode cX8_openBlock 70 = .ok (.aload_n 0, 1) := by decide +kernel
theorem dX8_openBlock_71 : decode cX8_openBlock 71 = .ok (.iload_n 1, 1) := by decide +kernel
theorem dX8_openBlock_72 : decode cX8_openBlock 72 = .ok (.iconst 2, 1) := by decide +kernel
theorem dX8_openBlock_73 : decode cX8_openBlock 73 = .ok (.iconst 3, 1) := by decide +kernel
theorem dX8_openBlock_74 : decode cX8_openBlock 74 = .ok (.invokevirtual 487, 3) := by decide +kernel
theorem dX8_openBlock_77 : decode cX8_openBlock 77 = .ok (.goto 122, 3) := by decide +kernel
theorem dX8_openBlock_80 : decode cX8_openBlock 80 = .ok (.aload_n 0, 1) := by decide +kernel
theorem dX8_openBlock_81 : decode cX8_openBlock 81 = .ok (.iload_n 1, 1) := by decide +kernel
theorem dX8_openBlock_82 : decode cX8_openBlock 82 = .ok (.iconst 4, 1) := by decide +kernel
theorem dX8_openBlock_83 : decode cX8_openBlock 83 = .ok (.iconst 5, 1) := by decide +kernel
theorem dX8_openBlock_84 : decode cX8_openBlock 84 = .ok (.invokevirtual 487, 3) := by decide +kernel
theorem dX8_openBlock_87 : decode cX8_openBlock 87 = .ok (.goto 112, 3) := by decide +kernel
theorem dX8_openBlock_90 : decode cX8_openBlock 90 = .ok (.aload_n 0, 1) := by decide +kernel
theorem dX8_openBlock_91 : decode cX8_openBlock 91 = .ok (.bipush 9, 2) := by decide +kernel
theorem dX8_openBlock_93 : decode cX8_openBlock 93 = .ok (.iconst 2, 1) := by decide +kernel
theorem dX8_openBlock_94 : decode cX8_openBlock 94 = .ok (.iload_n 1, 1) := by decide +kernel
theorem dX8_openBlock_95 : decode cX8_openBlock 95 = .ok (.bipush 6, 2) := by decide +kernel
theorem dX8_openBlock_97 : decode cX8_openBlock 97 = .ok (.aload_n 0, 1) := by decide +kernel
theorem dX8_openBlock_98 : decode cX8_openBlock 98 = .ok (.getfield 41, 3) := by decide +kernel
theorem dX8_openBlock_101 : decode cX8_openBlock 101 = .ok (.iload_n 1, 1) := by decide +kernel
theorem dX8_openBlock_102 : decode cX8_openBlock 102 = .ok (.iaload, 1) := by decide +kernel
theorem dX8_openBlock_103 : decode cX8_openBlock 103 = .ok (.iadd, 1) := by decide +kernel
theorem dX8_openBlock_104 : decode cX8_openBlock 104 = .ok (.invokevirtual 468, 3) := by decide +kernel
theorem dX8_openBlock_107 : decode cX8_openBlock 107 = .ok (.goto 92, 3) := by decide +kernel
theorem dX8_openBlock_110 : decode cX8_openBlock 110 = .ok (.aload_n 0, 1) := by decide +kernel
theorem dX8_openBlock_111 : decode cX8_openBlock 111 = .ok (.bipush 7, 2) := by decide +kernel
theorem dX8_openBlock_113 : decode cX8_openBlock 113 = .ok (.aload_n 0, 1) := by decide +kernel
theorem dX8_openBlock_114 : decode cX8_openBlock 114 = .ok (.getfield 53, 3) := by decide +kernel
theorem dX8_openBlock_117 : decode cX8_openBlock 117 = .ok (.aload_n 0, 1) := by decide +kernel
theorem dX8_openBlock_118 : decode cX8_openBlock 118 = .ok (.getfield 47, 3) := by decide +kernel
theorem dX8_openBlock_121 : decode cX8_openBlock 121 = .ok (.iload_n 1, 1) := by decide +kernel
theorem dX8_openBlock_122 : decode cX8_openBlock 122 = .ok (.iaload, 1) := by decide +kernel
theorem dX8_openBlock_123 : decode cX8_openBlock 123 = .ok (.iaload, 1) := by decide +kernel
theorem dX8_openBlock_124 : decode cX8_openBlock 124 = .ok (.invokevirtual 462, 3) := by decide +kernel
theorem dX8_openBlock_127 : decode cX8_openBlock 127 = .ok (.aload_n 0, 1) := by decide +kernel
theorem dX8_openBlock_128 : decode cX8_openBlock 128 = .ok (.iconst 1, 1) := by decide +kernel
theorem dX8_openBlock_129 : decode cX8_openBlock 129 = .ok (.aload_n 0, 1) := by decide +kernel
theorem dX8_openBlock_130 : decode cX8_openBlock 130 = .ok (.getfield 47, 3) := by decide +kernel
theorem dX8_openBlock_133 : decode cX8_openBlock 133 = .ok (.iload_n 1, 1) := by decide +kernel
theorem dX8_openBlock_134 : decode cX8_openBlock 134 = .ok (.iaload, 1) := by decide +kernel
theorem dX8_openBlock_135 : decode cX8_openBlock 135 = .ok (.invokevirtual 462, 3) := by decide +kernel
theorem dX8_openBlock_138 : decode cX8_openBlock 138 = .ok (.goto 61, 3) := by decide +kernel
theorem dX8_openBlock_141 : decode cX8_openBlock 141 = .ok (.aload_n 0, 1) := by decide +kernel
theorem dX8_openBlock_142 : decode cX8_openBlock 142 = .ok (.aload_n 0, 1) := by decide +kernel
theorem dX8_openBlock_143 : decode cX8_openBlock 143 = .ok (.getfield 41, 3) := by decide +kernel
theorem dX8_openBlock_146 : decode cX8_openBlock 146 = .ok (.iload_n 1, 1) := by decide +kernel
theorem dX8_openBlock_147 : decode cX8_openBlock 147 = .ok (.iaload, 1) := by decide +kernel
theorem dX8_openBlock_148 : decode cX8_openBlock 148 = .ok (.invokevirtual 490, 3) := by decide +kernel
theorem dX8_openBlock_151 : decode cX8_openBlock 151 = .ok (.goto 48, 3) := by decide +kernel
theorem dX8_openBlock_154 : decode cX8_openBlock 154 = .ok (.aload_n 0, 1) := by decide +kernel
theorem dX8_openBlock_155 : decode cX8_openBlock 155 = .ok (.bipush 11, 2) := by decide +kernel
theorem dX8_openBlock_157 : decode cX8_openBlock 157 = .ok (.aload_n 0, 1) := by decide +kernel
theorem dX8_openBlock_158 : decode cX8_openBlock 158 = .ok (.getfield 41, 3) := by decide +kernel
theorem dX8_openBlock_161 : decode cX8_openBlock 161 = .ok (.iload_n 1, 1) := by decide +kernel
theorem dX8_openBlock_162 : decode cX8_openBlock 162 = .ok (.iaload, 1) := by decide +kernel
theorem dX8_openBlock_163 : decode cX8_openBlock 163 = .ok (.iadd, 1) := by decide +kernel
theorem dX8_openBlock_164 : decode cX8_openBlock 164 = .ok (.invokevirtual 477, 3) := by decide +kernel
theorem dX8_openBlock_167 : decode cX8_openBlock 167 = .ok (.goto 32, 3) := by decide +kernel
theorem dX8_openBlock_170 : decode cX8_openBlock 170 = .ok (.aload_n 0, 1) := by decide +kernel
theorem dX8_openBlock_171 : decode cX8_openBlock 171 = .ok (.iload_n 1, 1) := by decide +kernel
theorem dX8_openBlock_172 : decode cX8_openBlock 172 = .ok (.invokevirtual 493, 3) := by decide +kernel
theorem dX8_openBlock_175 : decode cX8_openBlock 175 = .ok (.goto 24, 3) := by decide +kernel
theorem dX8_openBlock_178 : decode cX8_openBlock 178 = .ok (.aload_n 0, 1) := by decide +kernel
theorem dX8_openBlock_179 : decode cX8_openBlock 179 = .ok (.aload_n 0, 1) := by decide +kernel
theorem dX8_openBlock_180 : decode cX8_openBlock 180 = .ok (.getfield 41, 3) := by decide +kernel
theorem dX8_openBlock_183 : decode cX8_openBlock 183 = .ok (.iload_n 1, 1) := by decide +kernel
theorem dX8_openBlock_184 : decode cX8_openBlock 184 = .ok (.iaload, 1) := by decide +kernel
theorem dX8_openBlock_185 : decode cX8_openBlock 185 = .ok (.invokevirtual 496, 3) := by decide +kernel
theorem dX8_openBlock_188 : decode cX8_openBlock 188 = .ok (.goto 11, 3) := by decide +kernel
theorem dX8_openBlock_191 : decode cX8_openBlock 191 = .ok (.aload_n 0, 1) := by decide +kernel
theorem dX8_openBlock_192 : decode cX8_openBlock 192 = .ok (.iconst (-1), 1) := by decide +kernel
theorem dX8_openBlock_193 : decode cX8_openBlock 193 = .ok (.iconst 2, 1) := by decide +kernel
theorem dX8_openBlock_194 : decode cX8_openBlock 194 = .ok (.iload_n 1, 1) := by decide +kernel
theorem dX8_openBlock_195 : decode cX8_openBlock 195 = .ok (.iconst (-1), 1) := by decide +kernel
theorem dX8_openBlock_196 : decode cX8_openBlock 196 = .ok (.invokevirtual 468, 3) := by decide +kernel
theorem dX8_openBlock_199 : decode cX8_openBlock 199 = .ok (.return_, 1) := by decide +kernel

theorem dX8_openNode_0 : decode cX8_openNode 0 = .ok (.aload_n 0, 1) := by decide +kernel
theorem dX8_openNode_1 : decode cX8_openNode 1 = .ok (.getfield 35, 3) := by decide +kernel
theorem dX8_openNode_4 : decode cX8_openNode 4 = .ok (.iload_n 1, 1) := by decide +kernel
theorem dX8_openNode_5 : decode cX8_openNode 5 = .ok (.iaload, 1) := by decide +kernel
theorem dX8_openNode_6 : decode cX8_openNode 6 = .ok (.bipush 12, 2) := by decide +kernel
theorem dX8_openNode_8 : decode cX8_openNode 8 = .ok (.if_icmp .ge 11, 3) := by decide +kernel
theorem dX8_openNode_11 : decode cX8_openNode 11 = .ok (.aload_n 0, 1) := by decide +kernel
theorem dX8_openNode_12 : decode cX8_openNode 12 = .ok (.iload_n 1, 1) := by decide +kernel
theorem dX8_openNode_13 : decode cX8_openNode 13 = .ok (.invokevirtual 499, 3) := by decide +kernel
theorem dX8_openNode_16 : decode cX8_openNode 16 = .ok (.goto 46, 3) := by decide +kernel
theorem dX8_openNode_19 : decode cX8_openNode 19 = .ok (.aload_n 0, 1) := by decide +kernel
theorem dX8_openNode_20 : decode cX8_openNode 20 = .ok (.getfield 35, 3) := by decide +kernel
theorem dX8_openNode_23 : decode cX8_openNode 23 = .ok (.iload_n 1, 1) := by decide +kernel
theorem dX8_openNode_24 : decode cX8_openNode 24 = .ok (.iaload, 1) := by decide +kernel
theorem dX8_openNode_25 : decode cX8_openNode 25 = .ok (.bipush 22, 2) := by decide +kernel
theorem dX8_openNode_27 : decode cX8_openNode 27 = .ok (.if_icmp .ge 11, 3) := by decide +kernel
theorem dX8_openNode_30 : decode cX8_openNode 30 = .ok (.aload_n 0, 1) := by decide +kernel
theorem dX8_openNode_31 : decode cX8_openNode 31 = .ok (.iload_n 1, 1) := by decide +kernel
theorem dX8_openNode_32 : decode cX8_openNode 32 = .ok (.invokevirtual 502, 3) := by decide +kernel
theorem dX8_openNode_35 : decode cX8_openNode 35 = .ok (.goto 27, 3) := by decide +kernel
theorem dX8_openNode_38 : decode cX8_openNode 38 = .ok (.aload_n 0, 1) := by decide +kernel
theorem dX8_openNode_39 : decode cX8_openNode 39 = .ok (.getfield 35, 3) := by decide +kernel
theorem dX8_openNode_42 : decode cX8_openNode 42 = .ok (.iload_n 1, 1) := by decide +kernel
theorem dX8_openNode_43 : decode cX8_openNode 43 = .ok (.iaload, 1) := by decide +kernel
theorem dX8_openNode_44 : decode cX8_openNode 44 = .ok (.bipush 30, 2) := by decide +kernel
theorem dX8_openNode_46 : decode cX8_openNode 46 = .ok (.if_icmp .ge 11, 3) := by decide +kernel
theorem dX8_openNode_49 : decode cX8_openNode 49 = .ok (.aload_n 0, 1) := by decide +kernel
theorem dX8_openNode_50 : decode cX8_openNode 50 = .ok (.iload_n 1, 1) := by decide +kernel
theorem dX8_openNode_51 : decode cX8_openNode 51 = .ok (.invokevirtual 505, 3) := by decide +kernel
theorem dX8_openNode_54 : decode cX8_openNode 54 = .ok (.goto 8, 3) := by decide +kernel
theorem dX8_openNode_57 : decode cX8_openNode 57 = .ok (.aload_n 0, 1) := by decide +kernel
theorem dX8_openNode_58 : decode cX8_openNode 58 = .ok (.iload_n 1, 1) := by decide +kernel
theorem dX8_openNode_59 : decode cX8_openNode 59 = .ok (.invokevirtual 508, 3) := by decide +kernel
theorem dX8_openNode_62 : decode cX8_openNode 62 = .ok (.return_, 1) := by decide +kernel

theorem dX8_openParts_0 : decode cX8_openParts 0 = .ok (.iload_n 1, 1) := by decide +kernel
theorem dX8_openParts_1 : decode cX8_openParts 1 = .ok (.iconst (-1), 1) := by decide +kernel
theorem dX8_openParts_2 : decode cX8_openParts 2 = .ok (.if_icmp .ne 10, 3) := by decide +kernel
theorem dX8_openParts_5 : decode cX8_openParts 5 = .ok (.aload_n 0, 1) := by decide +kernel
theorem dX8_openParts_6 : decode cX8_openParts 6 = .ok (.bipush 60, 2) := by decide +kernel
theorem dX8_openParts_8 : decode cX8_openParts 8 = .ok (.invokevirtual 477, 3) := by decide +kernel
theorem dX8_openParts_11 : decode cX8_openParts 11 = .ok (.return_, 1) := by decide +kernel
theorem dX8_openParts_12 : decode cX8_openParts 12 = .ok (.aload_n 0, 1) := by decide +kernel
theorem dX8_openParts_13 : decode cX8_openParts 13 = .ok (.getfield 35, 3) := by decide +kernel
theorem dX8_openParts_16 : decode cX8_openParts 16 = .ok (.iload_n 1, 1) := by decide +kernel
theorem dX8_openParts_17 : decode cX8_openParts 17 = .ok (.iaload, 1) := by decide +kernel
theorem dX8_openParts_18 : decode cX8_openParts 18 = .ok (.istore_n 2, 1) := by decide +kernel
theorem dX8_openParts_19 : decode cX8_openParts 19 = .ok (.aload_n 0, 1) := by decide +kernel
theorem dX8_openParts_20 : decode cX8_openParts 20 = .ok (.bipush 7, 2) := by decide +kernel
theorem dX8_openParts_22 : decode cX8_openParts 22 = .ok (.aload_n 0, 1) := by decide +kernel
theorem dX8_openParts_23 : decode cX8_openParts 23 = .ok (.getfield 53, 3) := by decide +kernel
theorem dX8_openParts_26 : decode cX8_openParts 26 = .ok (.iload_n 1, 1) := by decide +kernel
theorem dX8_openParts_27 : decode cX8_openParts 27 = .ok (.iaload, 1) := by decide +kernel
theorem dX8_openParts_28 : decode cX8_openParts 28 = .ok (.invokevirtual 462, 3) := by decide +kernel
theorem dX8_openParts_31 : decode cX8_openParts 31 = .ok (.aload_n 0, 1) := by decide +kernel
theorem dX8_openParts_32 : decode cX8_openParts 32 = .ok (.iconst 1, 1) := by decide +kernel
theorem dX8_openParts_33 : decode cX8_openParts 33 = .ok (.iload_n 1, 1) := by decide +kernel
theorem dX8_openParts_34 : decode cX8_openParts 34 = .ok (.invokevirtual 462, 3) := by decide +kernel
theorem dX8_openParts_37 : decode cX8_openParts 37 = .ok (.aload_n 0, 1) := by decide +kernel
theorem dX8_openParts_38 : decode cX8_openParts 38 = .ok (.iconst 0, 1) := by decide +kernel
theorem dX8_openParts_39 : decode cX8_openParts 39 = .ok (.iload_n 2, 1) := by decide +kernel
theorem dX8_openParts_40 : decode cX8_openParts 40 = .ok (.bipush 6, 2) := by decide +kernel
theorem dX8_openParts_42 : decode cX8_openParts 42 = .ok (.if_icmp .ne 8, 3) := by decide +kernel
theorem dX8_openParts_45 : decode cX8_openParts 45 = .ok (.bipush 59, 2) := by decide +kernel
theorem dX8_openParts_47 : decode cX8_openParts 47 = .ok (.goto 27, 3) := by decide +kernel
theorem dX8_openParts_50 : decode cX8_openParts 50 = .ok (.iload_n 2, 1) := by decide +kernel
theorem dX8_openParts_51 : decode cX8_openParts 51 = .ok (.bipush 7, 2) := by decide +kernel
theorem dX8_openParts_53 : decode cX8_openParts 53 = .ok (.if_icmp .ne 8, 3) := by decide +kernel
theorem dX8_openParts_56 : decode cX8_openParts 56 = .ok (.bipush 10, 2) := by decide +kernel
theorem dX8_openParts_58 : decode cX8_openParts 58 = .ok (.goto 16, 3) := by decide +kernel
theorem dX8_openParts_61 : decode cX8_openParts 61 = .ok (.iload_n 2, 1) := by decide +kernel
theorem dX8_openParts_62 : decode cX8_openParts 62 = .ok (.bipush 11, 2) := by decide +kernel
theorem dX8_openParts_64 : decode cX8_openParts 64 = .ok (.if_icmp .ge 8, 3) := by decide +kernel
theorem dX8_openParts_67 : decode cX8_openParts 67 = .ok (.bipush 61, 2) := by decide +kernel
theorem dX8_openParts_69 : decode cX8_openParts 69 = .ok (.goto 5, 3) := by decide +kernel
theorem dX8_openParts_72 : decode cX8_openParts 72 = .ok (.bipush 50, 2) := by decide +kernel
theorem dX8_openParts_74 : decode cX8_openParts 74 = .ok (.invokevirtual 462, 3) := by decide +kernel
theorem dX8_openParts_77 : decode cX8_openParts 77 = .ok (.return_, 1) := by decide +kernel

theorem dX8_openIf_0 : decode cX8_openIf 0 = .ok (.aload_n 0, 1) := by decide +kernel
theorem dX8_openIf_1 : decode cX8_openIf 1 = .ok (.getfield 35, 3) := by decide +kernel
theorem dX8_openIf_4 : decode cX8_openIf 4 = .ok (.iload_n 1, 1) := by decide +kernel
theorem dX8_openIf_5 : decode cX8_openIf 5 = .ok (.iaload, 1) := by decide +kernel
theorem dX8_openIf_6 : decode cX8_openIf 6 = .ok (.bipush 11, 2) := by decide +kernel
theorem dX8_openIf_8 : decode cX8_openIf 8 = .ok (.if_icmp .ne 17, 3) := by decide +kernel
theorem dX8_openIf_11 : decode cX8_openIf 11 = .ok (.aload_n 0, 1) := by decide +kernel
theorem dX8_openIf_12 : decode cX8_openIf 12 = .ok (.iconst 1, 1) := by decide +kernel
theorem dX8_openIf_13 : decode cX8_openIf 13 = .ok (.iload_n 1, 1) := by decide +kernel
theorem dX8_openIf_14 : decode cX8_openIf 14 = .ok (.invokevirtual 462, 3) := by decide +kernel
theorem dX8_openIf_17 : decode cX8_openIf 17 = .ok (.aload_n 0, 1) := by decide +kernel
theorem dX8_openIf_18 : decode cX8_openIf 18 = .ok (.iconst 0, 1) := by decide +kernel
theorem dX8_openIf_19 : decode cX8_openIf 19 = .ok (.bipush 19, 2) := by decide +kernel
theorem dX8_openIf_21 : decode cX8_openIf 21 = .ok (.invokevirtual 462, 3) := by decide +kernel
theorem dX8_openIf_24 : decode cX8_openIf 24 = .ok (.return_, 1) := by decide +kernel
theorem dX8_openIf_25 : decode cX8_openIf 25 = .ok (.aload_n 0, 1) := by decide +kernel
theorem dX8_openIf_26 : decode cX8_openIf 26 = .ok (.getfield 53, 3) := by decide +kernel
theorem dX8_openIf_29 : decode cX8_openIf 29 = .ok (.iload_n 1, 1) := by decide +kernel
theorem dX8_openIf_30 : decode cX8_openIf 30 = .ok (.iaload, 1) := by decide +kernel
theorem dX8_openIf_31 : decode cX8_openIf 31 = .ok (.istore_n 2, 1) := by decide +kernel
theorem dX8_openIf_32 : decode cX8_openIf 32 = .ok (.aload_n 0, 1) := by decide +kernel
theorem dX8_openIf_33 : decode cX8_openIf 33 = .ok (.iconst 4, 1) := by decide +kernel
theorem dX8_openIf_34 : decode cX8_openIf 34 = .ok (.aload_n 0, 1) := by decide +kernel
theorem dX8_openIf_35 : decode cX8_openIf 35 = .ok (.getfield 53, 3) := by decide +kernel
theorem dX8_openIf_38 : decode cX8_openIf 38 = .ok (.iload_n 2, 1) := by decide +kernel
theorem dX8_openIf_39 : decode cX8_openIf 39 = .ok (.iaload, 1) := by decide +kernel
theorem dX8_openIf_40 : decode cX8_openIf 40 = .ok (.invokevirtual 462, 3) := by decide +kernel
theorem dX8_openIf_43 : decode cX8_openIf 43 = .ok (.aload_n 0, 1) := by decide +kernel
theorem dX8_openIf_44 : decode cX8_openIf 44 = .ok (.iconst 1, 1) := by decide +kernel
theorem dX8_openIf_45 : decode cX8_openIf 45 = .ok (.iload_n 2, 1) := by decide +kernel
theorem dX8_openIf_46 : decode cX8_openIf 46 = .ok (.invokevirtual 462, 3) := by decide +kernel
theorem dX8_openIf_49 : decode cX8_openIf 49 = .ok (.aload_n 0, 1) := by decide +kernel
theorem dX8_openIf_50 : decode cX8_openIf 50 = .ok (.iconst 0, 1) := by decide +kernel
theorem dX8_openIf_51 : decode cX8_openIf 51 = .ok (.bipush 17, 2) := by decide +kernel
theorem dX8_openIf_53 : decode cX8_openIf 53 = .ok (.invokevirtual 462, 3) := by decide +kernel
theorem dX8_openIf_56 : decode cX8_openIf 56 = .ok (.aload_n 0, 1) := by decide +kernel
theorem dX8_openIf_57 : decode cX8_openIf 57 = .ok (.iconst 1, 1) := by decide +kernel
theorem dX8_openIf_58 : decode cX8_openIf 58 = .ok (.iload_n 1, 1) := by decide +kernel
theorem dX8_openIf_59 : decode cX8_openIf 59 = .ok (.invokevirtual 462, 3) := by decide +kernel
theorem dX8_openIf_62 : decode cX8_openIf 62 = .ok (.aload_n 0, 1) := by decide +kernel
theorem dX8_openIf_63 : decode cX8_openIf 63 = .ok (.iconst 0, 1) := by decide +kernel
theorem dX8_openIf_64 : decode cX8_openIf 64 = .ok (.bipush 18, 2) := by decide +kernel
theorem dX8_openIf_66 : decode cX8_openIf 66 = .ok (.invokevirtual 462, 3) := by decide +kernel
theorem dX8_openIf_69 : decode cX8_openIf 69 = .ok (.return_, 1) := by decide +kernel

theorem dX8_openCase_0 : decode cX8_openCase 0 = .ok (.aload_n 0, 1) := by decide +kernel
theorem dX8_openCase_1 : decode cX8_openCase 1 = .ok (.getfield 35, 3) := by decide +kernel
theorem dX8_openCase_4 : decode cX8_openCase 4 = .ok (.iload_n 1, 1) := by decide +kernel
theorem dX8_openCase_5 : decode cX8_openCase 5 = .ok (.iaload, 1) := by decide +kernel
theorem dX8_openCase_6 : decode cX8_openCase 6 = .ok (.bipush 11, 2) := by decide +kernel
theorem dX8_openCase_8 : decode cX8_openCase 8 = .ok (.if_icmp .ne 17, 3) := by decide +kernel
theorem dX8_openCase_11 : decode cX8_openCase 11 = .ok (.aload_n 0, 1) := by decide +kernel
theorem dX8_openCase_12 : decode cX8_openCase 12 = .ok (.iconst 1, 1) := by decide +kernel
theorem dX8_openCase_13 : decode cX8_openCase 13 = .ok (.iload_n 1, 1) := by decide +kernel
theorem dX8_openCase_14 : decode cX8_openCase 14 = .ok (.invokevirtual 462, 3) := by decide +kernel
theorem dX8_openCase_17 : decode cX8_openCase 17 = .ok (.aload_n 0, 1) := by decide +kernel
theorem dX8_openCase_18 : decode cX8_openCase 18 = .ok (.iconst 0, 1) := by decide +kernel
theorem dX8_openCase_19 : decode cX8_openCase 19 = .ok (.bipush 19, 2) := by decide +kernel
theorem dX8_openCase_21 : decode cX8_openCase 21 = .ok (.invokevirtual 462, 3) := by decide +kernel
theorem dX8_openCase_24 : decode cX8_openCase 24 = .ok (.return_, 1) := by decide +kernel
theorem dX8_openCase_25 : decode cX8_openCase 25 = .ok (.aload_n 0, 1) := by decide +kernel
theorem dX8_openCase_26 : decode cX8_openCase 26 = .ok (.iconst 5, 1) := by decide +kernel
theorem dX8_openCase_27 : decode cX8_openCase 27 = .ok (.aload_n 0, 1) := by decide +kernel
theorem dX8_openCase_28 : decode cX8_openCase 28 = .ok (.getfield 53, 3) := by decide +kernel
theorem dX8_openCase_31 : decode cX8_openCase 31 = .ok (.iload_n 1, 1) := by decide +kernel
theorem dX8_openCase_32 : decode cX8_openCase 32 = .ok (.iaload, 1) := by decide +kernel
theorem dX8_openCase_33 : decode cX8_openCase 33 = .ok (.invokevirtual 462, 3) := by decide +kernel
theorem dX8_openCase_36 : decode cX8_openCase 36 = .ok (.aload_n 0, 1) := by decide +kernel
theorem dX8_openCase_37 : decode cX8_openCase 37 = .ok (.iconst 1, 1) := by decide +kernel
theorem dX8_openCase_38 : decode cX8_openCase 38 = .ok (.iload_n 1, 1) := by decide +kernel
theorem dX8_openCase_39 : decode cX8_openCase 39 = .ok (.invokevirtual 462, 3) := by decide +kernel
theorem dX8_openCase_42 : decode cX8_openCase 42 = .ok (.return_, 1) := by decide +kernel

theorem dX8_openRow_0 : decode cX8_openRow 0 = .ok (.aload_n 0, 1) := by decide +kernel
theorem dX8_openRow_1 : decode cX8_openRow 1 = .ok (.getfield 53, 3) := by decide +kernel
theorem dX8_openRow_4 : decode cX8_openRow 4 = .ok (.iload_n 2, 1) := by decide +kernel
theorem dX8_openRow_5 : decode cX8_openRow 5 = .ok (.iaload, 1) := by decide +kernel
theorem dX8_openRow_6 : decode cX8_openRow 6 = .ok (.istore_n 3, 1) := by decide +kernel
theorem dX8_openRow_7 : decode cX8_openRow 7 = .ok (.iload_n 3, 1) := by decide +kernel
theorem dX8_openRow_8 : decode cX8_openRow 8 = .ok (.iconst (-1), 1) := by decide +kernel
theorem dX8_openRow_9 : decode cX8_openRow 9 = .ok (.if_icmp .eq 17, 3) := by decide +kernel
theorem dX8_openRow_12 : decode cX8_openRow 12 = .ok (.iload_n 1, 1) := by decide +kernel
theorem dX8_openRow_13 : decode cX8_openRow 13 = .ok (.iconst 2, 1) := by decide +kernel
theorem dX8_openRow_14 : decode cX8_openRow 14 = .ok (.if_icmp .ne 12, 3) := by decide +kernel
theorem dX8_openRow_17 : decode cX8_openRow 17 = .ok (.aload_n 0, 1) := by decide +kernel
theorem dX8_openRow_18 : decode cX8_openRow 18 = .ok (.iconst 2, 1) := by decide +kernel
theorem dX8_openRow_19 : decode cX8_openRow 19 = .ok (.iload_n 3, 1) := by decide +kernel
theorem dX8_openRow_20 : decode cX8_openRow 20 = .ok (.invokevirtual 462, 3) := by decide +kernel
theorem dX8_openRow_23 : decode cX8_openRow 23 = .ok (.goto 59, 3) := by decide +kernel
theorem dX8_openRow_26 : decode cX8_openRow 26 = .ok (.iload_n 3, 1) := by decide +kernel
theorem dX8_openRow_27 : decode cX8_openRow 27 = .ok (.iconst (-1), 1) := by decide +kernel
theorem dX8_openRow_28 : decode cX8_openRow 28 = .ok (.if_icmp .eq 36, 3) := by decide +kernel
theorem dX8_openRow_31 : decode cX8_openRow 31 = .ok (.iload_n 1, 1) := by decide +kernel
theorem dX8_openRow_32 : decode cX8_openRow 32 = .ok (.bipush 6, 2) := by decide +kernel
theorem dX8_openRow_34 : decode cX8_openRow 34 = .ok (.if_icmp .ne 30, 3) := by decide +kernel
theorem dX8_openRow_37 : decode cX8_openRow 37 = .ok (.aload_n 0, 1) := by decide +kernel
theorem dX8_openRow_38 : decode cX8_openRow 38 = .ok (.getfield 35, 3) := by decide +kernel
theorem dX8_openRow_41 : decode cX8_openRow 41 = .ok (.iload_n 3, 1) := by decide +kernel
theorem dX8_openRow_42 : decode cX8_openRow 42 = .ok (.iaload, 1) := by decide +kernel
theorem dX8_openRow_43 : decode cX8_openRow 43 = .ok (.bipush 11, 2) := by decide +kernel
theorem dX8_openRow_45 : decode cX8_openRow 45 = .ok (.if_icmp .ne 19, 3) := by decide +kernel
theorem dX8_openRow_48 : decode cX8_openRow 48 = .ok (.aload_n 0, 1) := by decide +kernel
theorem dX8_openRow_49 : decode cX8_openRow 49 = .ok (.iconst 1, 1) := by decide +kernel
theorem dX8_openRow_50 : decode cX8_openRow 50 = .ok (.iload_n 3, 1) := by decide +kernel
theorem dX8_openRow_51 : decode cX8_openRow 51 = .ok (.invokevirtual 462, 3) := by decide +kernel
theorem dX8_openRow_54 : decode cX8_openRow 54 = .ok (.aload_n 0, 1) := by decide +kernel
theorem dX8_openRow_55 : decode cX8_openRow 55 = .ok (.iconst 0, 1) := by decide +kernel
theorem dX8_openRow_56 : decode cX8_openRow 56 = .ok (.bipush 61, 2) := by decide +kernel
theorem dX8_openRow_58 : decode cX8_openRow 58 = .ok (.invokevirtual 462, 3) := by decide +kernel
theorem dX8_openRow_61 : decode cX8_openRow 61 = .ok (.goto 21, 3) := by decide +kernel
theorem dX8_openRow_64 : decode cX8_openRow 64 = .ok (.iload_n 3, 1) := by decide +kernel
theorem dX8_openRow_65 : decode cX8_openRow 65 = .ok (.iconst (-1), 1) := by decide +kernel
theorem dX8_openRow_66 : decode cX8_openRow 66 = .ok (.if_icmp .eq 16, 3) := by decide +kernel
theorem dX8_openRow_69 : decode cX8_openRow 69 = .ok (.aload_n 0, 1) := by decide +kernel
theorem dX8_openRow_70 : decode cX8_openRow 70 = .ok (.iload_n 1, 1) := by decide +kernel
theorem dX8_openRow_71 : decode cX8_openRow 71 = .ok (.iload_n 3, 1) := by decide +kernel
theorem dX8_openRow_72 : decode cX8_openRow 72 = .ok (.invokevirtual 462, 3) := by decide +kernel
theorem dX8_openRow_75 : decode cX8_openRow 75 = .ok (.aload_n 0, 1) := by decide +kernel
theorem dX8_openRow_76 : decode cX8_openRow 76 = .ok (.iconst 0, 1) := by decide +kernel
theorem dX8_openRow_77 : decode cX8_openRow 77 = .ok (.bipush 59, 2) := by decide +kernel
theorem dX8_openRow_79 : decode cX8_openRow 79 = .ok (.invokevirtual 462, 3) := by decide +kernel
theorem dX8_openRow_82 : decode cX8_openRow 82 = .ok (.aload_n 0, 1) := by decide +kernel
theorem dX8_openRow_83 : decode cX8_openRow 83 = .ok (.iconst 1, 1) := by decide +kernel
theorem dX8_openRow_84 : decode cX8_openRow 84 = .ok (.iload_n 2, 1) := by decide +kernel
theorem dX8_openRow_85 : decode cX8_openRow 85 = .ok (.invokevirtual 462, 3) := by decide +kernel
theorem dX8_openRow_88 : decode cX8_openRow 88 = .ok (.return_, 1) := by decide +kernel

theorem dX8_openItem_0 : decode cX8_openItem 0 = .ok (.iload_n 1, 1) := by decide +kernel
theorem dX8_openItem_1 : decode cX8_openItem 1 = .ok (.lookupswitch 59 #[(0, 35), (7, 51), (8, 43)], 35) := by decide +kernel
theorem dX8_openItem_36 : decode cX8_openItem 36 = .ok (.aload_n 0, 1) := by decide +kernel
theorem dX8_openItem_37 : decode cX8_openItem 37 = .ok (.iload_n 2, 1) := by decide +kernel
theorem dX8_openItem_38 : decode cX8_openItem 38 = .ok (.invokevirtual 477, 3) := by decide +kernel
theorem dX8_openItem_41 : decode cX8_openItem 41 = .ok (.goto 72, 3) := by decide +kernel
theorem dX8_openItem_44 : decode cX8_openItem 44 = .ok (.aload_n 0, 1) := by decide +kernel
theorem dX8_openItem_45 : decode cX8_openItem 45 = .ok (.iload_n 2, 1) := by decide +kernel
theorem dX8_openItem_46 : decode cX8_openItem 46 = .ok (.invokevirtual 496, 3) := by decide +kernel
theorem dX8_openItem_49 : decode cX8_openItem 49 = .ok (.goto 64, 3) := by decide +kernel
theorem dX8_openItem_52 : decode cX8_openItem 52 = .ok (.aload_n 0, 1) := by decide +kernel
theorem dX8_openItem_53 : decode cX8_openItem 53 = .ok (.iload_n 2, 1) := by decide +kernel
theorem dX8_openItem_54 : decode cX8_openItem 54 = .ok (.invokevirtual 511, 3) := by decide +kernel
theorem dX8_openItem_57 : decode cX8_openItem 57 = .ok (.goto 56, 3) := by decide +kernel
theorem dX8_openItem_60 : decode cX8_openItem 60 = .ok (.iload_n 2, 1) := by decide +kernel
theorem dX8_openItem_61 : decode cX8_openItem 61 = .ok (.iconst (-1), 1) := by decide +kernel
theorem dX8_openItem_62 : decode cX8_openItem 62 = .ok (.if_icmp .ne 6, 3) := by decide +kernel
theorem dX8_openItem_65 : decode cX8_openItem 65 = .ok (.goto 48, 3) := by decide +kernel
theorem dX8_openItem_68 : decode cX8_openItem 68 = .ok (.iload_n 1, 1) := by decide +kernel
theorem dX8_openItem_69 : decode cX8_openItem 69 = .ok (.iconst 1, 1) := by decide +kernel
theorem dX8_openItem_70 : decode cX8_openItem 70 = .ok (.if_icmp .ne 11, 3) := by decide +kernel
theorem dX8_openItem_73 : decode cX8_openItem 73 = .ok (.aload_n 0, 1) := by decide +kernel
theorem dX8_openItem_74 : decode cX8_openItem 74 = .ok (.iload_n 2, 1) := by decide +kernel
theorem dX8_openItem_75 : decode cX8_openItem 75 = .ok (.invokevirtual 514, 3) := by decide +kernel
theorem dX8_openItem_78 : decode cX8_openItem 78 = .ok (.goto 35, 3) := by decide +kernel
theorem dX8_openItem_81 : decode cX8_openItem 81 = .ok (.iload_n 1, 1) := by decide +kernel
theorem dX8_openItem_82 : decode cX8_openItem 82 = .ok (.iconst 4, 1) := by decide +kernel
theorem dX8_openItem_83 : decode cX8_openItem 83 = .ok (.if_icmp .ne 11, 3) := by decide +kernel
theorem dX8_openItem_86 : decode cX8_openItem 86 = .ok (.aload_n 0, 1) := by decide +kernel
theorem dX8_openItem_87 : decode cX8_openItem 87 = .ok (.iload_n 2, 1) := by decide +kernel
theorem dX8_openItem_88 : decode cX8_openItem 88 = .ok (.invokevirtual 517, 3) := by decide +kernel
theorem dX8_openItem_91 : decode cX8_openItem 91 = .ok (.goto 22, 3) := by decide +kernel
theorem dX8_openItem_94 : decode cX8_openItem 94 = .ok (.iload_n 1, 1) := by decide +kernel
theorem dX8_openItem_95 : decode cX8_openItem 95 = .ok (.iconst 5, 1) := by decide +kernel
theorem dX8_openItem_96 : decode cX8_openItem 96 = .ok (.if_icmp .ne 11, 3) := by decide +kernel
theorem dX8_openItem_99 : decode cX8_openItem 99 = .ok (.aload_n 0, 1) := by decide +kernel
theorem dX8_openItem_100 : decode cX8_openItem 100 = .ok (.iload_n 2, 1) := by decide +kernel
theorem dX8_openItem_101 : decode cX8_openItem 101 = .ok (.invokevirtual 520, 3) := by decide +kernel
theorem dX8_openItem_104 : decode cX8_openItem 104 = .ok (.goto 9, 3) := by decide +kernel
theorem dX8_openItem_107 : decode cX8_openItem 107 = .ok (.aload_n 0, 1) := by decide +kernel
theorem dX8_openItem_108 : decode cX8_openItem 108 = .ok (.iload_n 1, 1) := by decide +kernel
theorem dX8_openItem_109 : decode cX8_openItem 109 = .ok (.iload_n 2, 1) := by decide +kernel
theorem dX8_openItem_110 : decode cX8_openItem 110 = .ok (.invokevirtual 523, 3) := by decide +kernel
theorem dX8_openItem_113 : decode cX8_openItem 113 = .ok (.return_, 1) := by decide +kernel

theorem dX8_write_0 : decode cX8_write 0 = .ok (.aload_n 0, 1) := by decide +kernel
theorem dX8_write_1 : decode cX8_write 1 = .ok (.getfield 428, 3) := by decide +kernel
theorem dX8_write_4 : decode cX8_write 4 = .ok (.ifCond .ne 5, 3) := by decide +kernel
theorem dX8_write_7 : decode cX8_write 7 = .ok (.iconst (-1), 1) := by decide +kernel
theorem dX8_write_8 : decode cX8_write 8 = .ok (.ireturn, 1) := by decide +kernel
theorem dX8_write_9 : decode cX8_write 9 = .ok (.aload_n 0, 1) := by decide +kernel
theorem dX8_write_10 : decode cX8_write 10 = .ok (.iconst 0, 1) := by decide +kernel
theorem dX8_write_11 : decode cX8_write 11 = .ok (.putfield 440, 3) := by decide +kernel
theorem dX8_write_14 : decode cX8_write 14 = .ok (.aload_n 0, 1) := by decide +kernel
theorem dX8_write_15 : decode cX8_write 15 = .ok (.iconst 0, 1) := by decide +kernel
theorem dX8_write_16 : decode cX8_write 16 = .ok (.putfield 446, 3) := by decide +kernel
theorem dX8_write_19 : decode cX8_write 19 = .ok (.aload_n 0, 1) := by decide +kernel
theorem dX8_write_20 : decode cX8_write 20 = .ok (.iconst 1, 1) := by decide +kernel
theorem dX8_write_21 : decode cX8_write 21 = .ok (.iconst 0, 1) := by decide +kernel
theorem dX8_write_22 : decode cX8_write 22 = .ok (.invokevirtual 462, 3) := by decide +kernel
theorem dX8_write_25 : decode cX8_write 25 = .ok (.aload_n 0, 1) := by decide +kernel
theorem dX8_write_26 : decode cX8_write 26 = .ok (.getfield 446, 3) := by decide +kernel
theorem dX8_write_29 : decode cX8_write 29 = .ok (.ifCond .le 38, 3) := by decide +kernel
theorem dX8_write_32 : decode cX8_write 32 = .ok (.aload_n 0, 1) := by decide +kernel
theorem dX8_write_33 : decode cX8_write 33 = .ok (.dup, 1) := by decide +kernel
theorem dX8_write_34 : decode cX8_write 34 = .ok (.getfield 446, 3) := by decide +kernel
theorem dX8_write_37 : decode cX8_write 37 = .ok (.iconst 1, 1) := by decide +kernel
theorem dX8_write_38 : decode cX8_write 38 = .ok (.isub, 1) := by decide +kernel
theorem dX8_write_39 : decode cX8_write 39 = .ok (.putfield 446, 3) := by decide +kernel
theorem dX8_write_42 : decode cX8_write 42 = .ok (.aload_n 0, 1) := by decide +kernel
theorem dX8_write_43 : decode cX8_write 43 = .ok (.aload_n 0, 1) := by decide +kernel
theorem dX8_write_44 : decode cX8_write 44 = .ok (.getfield 80, 3) := by decide +kernel
theorem dX8_write_47 : decode cX8_write 47 = .ok (.aload_n 0, 1) := by decide +kernel
theorem dX8_write_48 : decode cX8_write 48 = .ok (.getfield 446, 3) := by decide +kernel
theorem dX8_write_51 : decode cX8_write 51 = .ok (.iaload, 1) := by decide +kernel
theorem dX8_write_52 : decode cX8_write 52 = .ok (.aload_n 0, 1) := by decide +kernel
theorem dX8_write_53 : decode cX8_write 53 = .ok (.getfield 83, 3) := by decide +kernel
theorem dX8_write_56 : decode cX8_write 56 = .ok (.aload_n 0, 1) := by decide +kernel
theorem dX8_write_57 : decode cX8_write 57 = .ok (.getfield 446, 3) := by decide +kernel
theorem dX8_write_60 : decode cX8_write 60 = .ok (.iaload, 1) := by decide +kernel
theorem dX8_write_61 : decode cX8_write 61 = .ok (.invokevirtual 526, 3) := by decide +kernel
theorem dX8_write_64 : decode cX8_write 64 = .ok (.goto (-39), 3) := by decide +kernel
theorem dX8_write_67 : decode cX8_write 67 = .ok (.aload_n 0, 1) := by decide +kernel
theorem dX8_write_68 : decode cX8_write 68 = .ok (.getfield 440, 3) := by decide +kernel
theorem dX8_write_71 : decode cX8_write 71 = .ok (.ireturn, 1) := by decide +kernel

theorem dX8_byteAt_0 : decode cX8_byteAt 0 = .ok (.iload_n 1, 1) := by decide +kernel
theorem dX8_byteAt_1 : decode cX8_byteAt 1 = .ok (.ifCond .lt 11, 3) := by decide +kernel
theorem dX8_byteAt_4 : decode cX8_byteAt 4 = .ok (.iload_n 1, 1) := by decide +kernel
theorem dX8_byteAt_5 : decode cX8_byteAt 5 = .ok (.aload_n 0, 1) := by decide +kernel
theorem dX8_byteAt_6 : decode cX8_byteAt 6 = .ok (.getfield 440, 3) := by decide +kernel
theorem dX8_byteAt_9 : decode cX8_byteAt 9 = .ok (.if_icmp .lt 7, 3) := by decide +kernel
theorem dX8_byteAt_12 : decode cX8_byteAt 12 = .ok (.iconst (-1), 1) := by decide +kernel
theorem dX8_byteAt_13 : decode cX8_byteAt 13 = .ok (.goto 9, 3) := by decide +kernel
theorem dX8_byteAt_16 : decode cX8_byteAt 16 = .ok (.aload_n 0, 1) := by decide +kernel
theorem dX8_byteAt_17 : decode cX8_byteAt 17 = .ok (.getfield 77, 3) := by decide +kernel
theorem dX8_byteAt_20 : decode cX8_byteAt 20 = .ok (.iload_n 1, 1) := by decide +kernel
theorem dX8_byteAt_21 : decode cX8_byteAt 21 = .ok (.iaload, 1) := by decide +kernel
theorem dX8_byteAt_22 : decode cX8_byteAt 22 = .ok (.ireturn, 1) := by decide +kernel

theorem dX8_back_0 : decode cX8_back 0 = .ok (.aload_n 0, 1) := by decide +kernel
theorem dX8_back_1 : decode cX8_back 1 = .ok (.getfield 440, 3) := by decide +kernel
theorem dX8_back_4 : decode cX8_back 4 = .ok (.ifCond .eq 13, 3) := by decide +kernel
theorem dX8_back_7 : decode cX8_back 7 = .ok (.aload_n 0, 1) := by decide +kernel
theorem dX8_back_8 : decode cX8_back 8 = .ok (.getfield 440, 3) := by decide +kernel
theorem dX8_back_11 : decode cX8_back 11 = .ok (.sipush 8192, 3) := by decide +kernel
theorem dX8_back_14 : decode cX8_back 14 = .ok (.if_icmp .le 5, 3) := by decide +kernel
theorem dX8_back_17 : decode cX8_back 17 = .ok (.iconst (-1), 1) := by decide +kernel
theorem dX8_back_18 : decode cX8_back 18 = .ok (.ireturn, 1) := by decide +kernel
theorem dX8_back_19 : decode cX8_back 19 = .ok (.iconst 0, 1) := by decide +kernel
theorem dX8_back_20 : decode cX8_back 20 = .ok (.istore_n 1, 1) := by decide +kernel
theorem dX8_back_21 : decode cX8_back 21 = .ok (.iload_n 1, 1) := by decide +kernel
theorem dX8_back_22 : decode cX8_back 22 = .ok (.aload_n 0, 1) := by decide +kernel
theorem dX8_back_23 : decode cX8_back 23 = .ok (.getfield 440, 3) := by decide +kernel
theorem dX8_back_26 : decode cX8_back 26 = .ok (.if_icmp .ge 21, 3) := by decide +kernel
theorem dX8_back_29 : decode cX8_back 29 = .ok (.aload_n 0, 1) := by decide +kernel
theorem dX8_back_30 : decode cX8_back 30 = .ok (.getfield 22, 3) := by decide +kernel
theorem dX8_back_33 : decode cX8_back 33 = .ok (.iload_n 1, 1) := by decide +kernel
theorem dX8_back_34 : decode cX8_back 34 = .ok (.aload_n 0, 1) := by decide +kernel
theorem dX8_back_35 : decode cX8_back 35 = .ok (.getfield 77, 3) := by decide +kernel
theorem dX8_back_38 : decode cX8_back 38 = .ok (.iload_n 1, 1) := by decide +kernel
theorem dX8_back_39 : decode cX8_back 39 = .ok (.iaload, 1) := by decide +kernel
theorem dX8_back_40 : decode cX8_back 40 = .ok (.iastore, 1) := by decide +kernel
theorem dX8_back_41 : decode cX8_back 41 = .ok (.iinc 1 1, 3) := by decide +kernel
theorem dX8_back_44 : decode cX8_back 44 = .ok (.goto (-23), 3) := by decide +kernel
theorem dX8_back_47 : decode cX8_back 47 = .ok (.aload_n 0, 1) := by decide +kernel
theorem dX8_back_48 : decode cX8_back 48 = .ok (.aload_n 0, 1) := by decide +kernel
theorem dX8_back_49 : decode cX8_back 49 = .ok (.getfield 440, 3) := by decide +kernel
theorem dX8_back_52 : decode cX8_back 52 = .ok (.putfield 86, 3) := by decide +kernel
theorem dX8_back_55 : decode cX8_back 55 = .ok (.aload_n 0, 1) := by decide +kernel
theorem dX8_back_56 : decode cX8_back 56 = .ok (.getfield 86, 3) := by decide +kernel
theorem dX8_back_59 : decode cX8_back 59 = .ok (.ireturn, 1) := by decide +kernel
