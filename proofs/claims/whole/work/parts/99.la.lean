/-! The law, call by call. -/
theorem mvX6_clear : MV yX6_clear cX6_clear 2 (Option.some Jvm.ClassFile.FieldType.int) 0 := ⟨q475, q476, q173, q477, by decide +kernel, by decide +kernel, by decide +kernel⟩
theorem mvX8_clear : MV yX8_clear cX8_clear 2 (Option.some Jvm.ClassFile.FieldType.int) 0 := ⟨q1124, q1125, q184, q1126, by decide +kernel, by decide +kernel, by decide +kernel⟩
theorem mvX6_feed : MV yX6_feed cX6_feed 6 (Option.some Jvm.ClassFile.FieldType.int) 5 := ⟨q483, q484, q173, q485, by decide +kernel, by decide +kernel, by decide +kernel⟩
theorem mvX8_feed : MV yX8_feed cX8_feed 8 (Option.some Jvm.ClassFile.FieldType.int) 5 := ⟨q1128, q1129, q184, q1130, by decide +kernel, by decide +kernel, by decide +kernel⟩
theorem mvX6_end : MV yX6_end cX6_end 2 (Option.some Jvm.ClassFile.FieldType.int) 1 := ⟨q495, q496, q173, q497, by decide +kernel, by decide +kernel, by decide +kernel⟩
theorem mvX8_end : MV yX8_end cX8_end 2 (Option.some Jvm.ClassFile.FieldType.int) 1 := ⟨q1132, q1133, q184, q1134, by decide +kernel, by decide +kernel, by decide +kernel⟩
theorem mvX6_change : MV yX6_change cX6_change 3 (Option.some Jvm.ClassFile.FieldType.int) 2 := ⟨q499, q500, q173, q501, by decide +kernel, by decide +kernel, by decide +kernel⟩
theorem mvX8_change : MV yX8_change cX8_change 4 (Option.some Jvm.ClassFile.FieldType.int) 2 := ⟨q1136, q1137, q184, q1138, by decide +kernel, by decide +kernel, by decide +kernel⟩
theorem mvX6_read : MV yX6_read cX6_read 1 (Option.some Jvm.ClassFile.FieldType.int) 0 := ⟨q511, q512, q173, q513, by decide +kernel, by decide +kernel, by decide +kernel⟩
theorem mvX8_read : MV yX8_read cX8_read 1 (Option.some Jvm.ClassFile.FieldType.int) 0 := ⟨q1140, q1141, q184, q1142, by decide +kernel, by decide +kernel, by decide +kernel⟩
theorem mvX6_count : MV yX6_count cX6_count 2 (Option.some Jvm.ClassFile.FieldType.int) 1 := ⟨q817, q818, q173, q819, by decide +kernel, by decide +kernel, by decide +kernel⟩
theorem mvX8_count : MV yX8_count cX8_count 2 (Option.some Jvm.ClassFile.FieldType.int) 1 := ⟨q1493, q1494, q184, q1495, by decide +kernel, by decide +kernel, by decide +kernel⟩
theorem mvX6_node : MV yX6_node cX6_node 3 (Option.some Jvm.ClassFile.FieldType.int) 2 := ⟨q821, q822, q173, q823, by decide +kernel, by decide +kernel, by decide +kernel⟩
theorem mvX8_node : MV yX8_node cX8_node 4 (Option.some Jvm.ClassFile.FieldType.int) 2 := ⟨q1497, q1498, q184, q1499, by decide +kernel, by decide +kernel, by decide +kernel⟩
theorem mvX6_nameByte : MV yX6_nameByte cX6_nameByte 3 (Option.some Jvm.ClassFile.FieldType.int) 2 := ⟨q845, q846, q173, q847, by decide +kernel, by decide +kernel, by decide +kernel⟩
theorem mvX8_nameByte : MV yX8_nameByte cX8_nameByte 3 (Option.some Jvm.ClassFile.FieldType.int) 2 := ⟨q1505, q1506, q184, q1507, by decide +kernel, by decide +kernel, by decide +kernel⟩
theorem mvX6_write : MV yX6_write cX6_write 1 (Option.some Jvm.ClassFile.FieldType.int) 0 := ⟨q853, q854, q173, q855, by decide +kernel, by decide +kernel, by decide +kernel⟩
theorem mvX8_write : MV yX8_write cX8_write 1 (Option.some Jvm.ClassFile.FieldType.int) 0 := ⟨q1509, q1510, q184, q1511, by decide +kernel, by decide +kernel, by decide +kernel⟩
theorem mvX6_byteAt : MV yX6_byteAt cX6_byteAt 2 (Option.some Jvm.ClassFile.FieldType.int) 1 := ⟨q964, q965, q173, q966, by decide +kernel, by decide +kernel, by decide +kernel⟩
theorem mvX8_byteAt : MV yX8_byteAt cX8_byteAt 2 (Option.some Jvm.ClassFile.FieldType.int) 1 := ⟨q1613, q1614, q184, q1615, by decide +kernel, by decide +kernel, by decide +kernel⟩
theorem mvX6_back : MV yX6_back cX6_back 2 (Option.some Jvm.ClassFile.FieldType.int) 0 := ⟨q969, q970, q173, q971, by decide +kernel, by decide +kernel, by decide +kernel⟩
theorem mvX8_back : MV yX8_back cX8_back 2 (Option.some Jvm.ClassFile.FieldType.int) 0 := ⟨q1617, q1618, q184, q1619, by decide +kernel, by decide +kernel, by decide +kernel⟩
theorem dlaw_0 : decode code 0 = .ok (.new 7, 3) := by decide +kernel
theorem dlaw_3 : decode code 3 = .ok (.dup, 1) := by decide +kernel
theorem dlaw_4 : decode code 4 = .ok (.invokespecial 9, 3) := by decide +kernel
theorem dlaw_7 : decode code 7 = .ok (.astore_n 1, 1) := by decide +kernel
theorem dlaw_8 : decode code 8 = .ok (.new 10, 3) := by decide +kernel
theorem dlaw_11 : decode code 11 = .ok (.dup, 1) := by decide +kernel
theorem dlaw_12 : decode code 12 = .ok (.invokespecial 12, 3) := by decide +kernel
theorem dlaw_15 : decode code 15 = .ok (.astore_n 2, 1) := by decide +kernel
theorem dlaw_16 : decode code 16 = .ok (.iconst 0, 1) := by decide +kernel
theorem dlaw_17 : decode code 17 = .ok (.istore_n 3, 1) := by decide +kernel
theorem dlaw_18 : decode code 18 = .ok (.iload_n 3, 1) := by decide +kernel
theorem dlaw_19 : decode code 19 = .ok (.aload_n 0, 1) := by decide +kernel
theorem dlaw_20 : decode code 20 = .ok (.arraylength, 1) := by decide +kernel
theorem dlaw_21 : decode code 21 = .ok (.bipush 6, 2) := by decide +kernel
theorem dlaw_23 : decode code 23 = .ok (.isub, 1) := by decide +kernel
theorem dlaw_24 : decode code 24 = .ok (.if_icmp .gt 357, 3) := by decide +kernel
theorem dlaw_27 : decode code 27 = .ok (.aload_n 0, 1) := by decide +kernel
theorem dlaw_28 : decode code 28 = .ok (.iload_n 3, 1) := by decide +kernel
theorem dlaw_29 : decode code 29 = .ok (.iaload, 1) := by decide +kernel
theorem dlaw_30 : decode code 30 = .ok (.bipush 15, 2) := by decide +kernel
theorem dlaw_32 : decode code 32 = .ok (.iand, 1) := by decide +kernel
theorem dlaw_33 : decode code 33 = .ok (.tableswitch 342 0 10 #[59, 72, 135, 158, 191, 204, 227, 260, 293, 306, 329], 59) := by decide +kernel
theorem dlaw_92 : decode code 92 = .ok (.aload_n 1, 1) := by decide +kernel
theorem dlaw_93 : decode code 93 = .ok (.invokevirtual 13, 3) := by decide +kernel
theorem dlaw_96 : decode code 96 = .ok (.aload_n 2, 1) := by decide +kernel
theorem dlaw_97 : decode code 97 = .ok (.invokevirtual 17, 3) := by decide +kernel
theorem dlaw_100 : decode code 100 = .ok (.if_icmp .eq 275, 3) := by decide +kernel
theorem dlaw_103 : decode code 103 = .ok (.iconst 0, 1) := by decide +kernel
theorem dlaw_104 : decode code 104 = .ok (.ireturn, 1) := by decide +kernel
theorem dlaw_105 : decode code 105 = .ok (.aload_n 1, 1) := by decide +kernel
theorem dlaw_106 : decode code 106 = .ok (.aload_n 0, 1) := by decide +kernel
theorem dlaw_107 : decode code 107 = .ok (.iload_n 3, 1) := by decide +kernel
theorem dlaw_108 : decode code 108 = .ok (.iconst 1, 1) := by decide +kernel
theorem dlaw_109 : decode code 109 = .ok (.iadd, 1) := by decide +kernel
theorem dlaw_110 : decode code 110 = .ok (.iaload, 1) := by decide +kernel
theorem dlaw_111 : decode code 111 = .ok (.aload_n 0, 1) := by decide +kernel
theorem dlaw_112 : decode code 112 = .ok (.iload_n 3, 1) := by decide +kernel
theorem dlaw_113 : decode code 113 = .ok (.iconst 2, 1) := by decide +kernel
theorem dlaw_114 : decode code 114 = .ok (.iadd, 1) := by decide +kernel
theorem dlaw_115 : decode code 115 = .ok (.iaload, 1) := by decide +kernel
theorem dlaw_116 : decode code 116 = .ok (.aload_n 0, 1) := by decide +kernel
theorem dlaw_117 : decode code 117 = .ok (.iload_n 3, 1) := by decide +kernel
theorem dlaw_118 : decode code 118 = .ok (.iconst 3, 1) := by decide +kernel
theorem dlaw_119 : decode code 119 = .ok (.iadd, 1) := by decide +kernel
theorem dlaw_120 : decode code 120 = .ok (.iaload, 1) := by decide +kernel
theorem dlaw_121 : decode code 121 = .ok (.aload_n 0, 1) := by decide +kernel
theorem dlaw_122 : decode code 122 = .ok (.iload_n 3, 1) := by decide +kernel
theorem dlaw_123 : decode code 123 = .ok (.iconst 4, 1) := by decide +kernel
theorem dlaw_124 : decode code 124 = .ok (.iadd, 1) := by decide +kernel
theorem dlaw_125 : decode code 125 = .ok (.iaload, 1) := by decide +kernel
theorem dlaw_126 : decode code 126 = .ok (.aload_n 0, 1) := by decide +kernel
theorem dlaw_127 : decode code 127 = .ok (.iload_n 3, 1) := by decide +kernel
theorem dlaw_128 : decode code 128 = .ok (.iconst 5, 1) := by decide +kernel
theorem dlaw_129 : decode code 129 = .ok (.iadd, 1) := by decide +kernel
theorem dlaw_130 : decode code 130 = .ok (.iaload, 1) := by decide +kernel
theorem dlaw_131 : decode code 131 = .ok (.invokevirtual 18, 3) := by decide +kernel
theorem dlaw_134 : decode code 134 = .ok (.aload_n 2, 1) := by decide +kernel
theorem dlaw_135 : decode code 135 = .ok (.aload_n 0, 1) := by decide +kernel
theorem dlaw_136 : decode code 136 = .ok (.iload_n 3, 1) := by decide +kernel
theorem dlaw_137 : decode code 137 = .ok (.iconst 1, 1) := by decide +kernel
theorem dlaw_138 : decode code 138 = .ok (.iadd, 1) := by decide +kernel
theorem dlaw_139 : decode code 139 = .ok (.iaload, 1) := by decide +kernel
theorem dlaw_140 : decode code 140 = .ok (.aload_n 0, 1) := by decide +kernel
theorem dlaw_141 : decode code 141 = .ok (.iload_n 3, 1) := by decide +kernel
theorem dlaw_142 : decode code 142 = .ok (.iconst 2, 1) := by decide +kernel
theorem dlaw_143 : decode code 143 = .ok (.iadd, 1) := by decide +kernel
theorem dlaw_144 : decode code 144 = .ok (.iaload, 1) := by decide +kernel
theorem dlaw_145 : decode code 145 = .ok (.aload_n 0, 1) := by decide +kernel
theorem dlaw_146 : decode code 146 = .ok (.iload_n 3, 1) := by decide +kernel
theorem dlaw_147 : decode code 147 = .ok (.iconst 3, 1) := by decide +kernel
theorem dlaw_148 : decode code 148 = .ok (.iadd, 1) := by decide +kernel
theorem dlaw_149 : decode code 149 = .ok (.iaload, 1) := by decide +kernel
theorem dlaw_150 : decode code 150 = .ok (.aload_n 0, 1) := by decide +kernel
theorem dlaw_151 : decode code 151 = .ok (.iload_n 3, 1) := by decide +kernel
theorem dlaw_152 : decode code 152 = .ok (.iconst 4, 1) := by decide +kernel
theorem dlaw_153 : decode code 153 = .ok (.iadd, 1) := by decide +kernel
theorem dlaw_154 : decode code 154 = .ok (.iaload, 1) := by decide +kernel
theorem dlaw_155 : decode code 155 = .ok (.aload_n 0, 1) := by decide +kernel
theorem dlaw_156 : decode code 156 = .ok (.iload_n 3, 1) := by decide +kernel
theorem dlaw_157 : decode code 157 = .ok (.iconst 5, 1) := by decide +kernel
theorem dlaw_158 : decode code 158 = .ok (.iadd, 1) := by decide +kernel
theorem dlaw_159 : decode code 159 = .ok (.iaload, 1) := by decide +kernel
theorem dlaw_160 : decode code 160 = .ok (.invokevirtual 22, 3) := by decide +kernel
theorem dlaw_163 : decode code 163 = .ok (.if_icmp .eq 212, 3) := by decide +kernel
theorem dlaw_166 : decode code 166 = .ok (.iconst 0, 1) := by decide +kernel
theorem dlaw_167 : decode code 167 = .ok (.ireturn, 1) := by decide +kernel
theorem dlaw_168 : decode code 168 = .ok (.aload_n 1, 1) := by decide +kernel
theorem dlaw_169 : decode code 169 = .ok (.aload_n 0, 1) := by decide +kernel
theorem dlaw_170 : decode code 170 = .ok (.iload_n 3, 1) := by decide +kernel
theorem dlaw_171 : decode code 171 = .ok (.iconst 1, 1) := by decide +kernel
theorem dlaw_172 : decode code 172 = .ok (.iadd, 1) := by decide +kernel
theorem dlaw_173 : decode code 173 = .ok (.iaload, 1) := by decide +kernel
theorem dlaw_174 : decode code 174 = .ok (.invokevirtual 23, 3) := by decide +kernel
theorem dlaw_177 : decode code 177 = .ok (.aload_n 2, 1) := by decide +kernel
theorem dlaw_178 : decode code 178 = .ok (.aload_n 0, 1) := by decide +kernel
theorem dlaw_179 : decode code 179 = .ok (.iload_n 3, 1) := by decide +kernel
theorem dlaw_180 : decode code 180 = .ok (.iconst 1, 1) := by decide +kernel
theorem dlaw_181 : decode code 181 = .ok (.iadd, 1) := by decide +kernel
theorem dlaw_182 : decode code 182 = .ok (.iaload, 1) := by decide +kernel
theorem dlaw_183 : decode code 183 = .ok (.invokevirtual 27, 3) := by decide +kernel
theorem dlaw_186 : decode code 186 = .ok (.if_icmp .eq 189, 3) := by decide +kernel
theorem dlaw_189 : decode code 189 = .ok (.iconst 0, 1) := by decide +kernel
theorem dlaw_190 : decode code 190 = .ok (.ireturn, 1) := by decide +kernel
theorem dlaw_191 : decode code 191 = .ok (.aload_n 1, 1) := by decide +kernel
theorem dlaw_192 : decode code 192 = .ok (.aload_n 0, 1) := by decide +kernel
theorem dlaw_193 : decode code 193 = .ok (.iload_n 3, 1) := by decide +kernel
theorem dlaw_194 : decode code 194 = .ok (.iconst 1, 1) := by decide +kernel
theorem dlaw_195 : decode code 195 = .ok (.iadd, 1) := by decide +kernel
theorem dlaw_196 : decode code 196 = .ok (.iaload, 1) := by decide +kernel
theorem dlaw_197 : decode code 197 = .ok (.aload_n 0, 1) := by decide +kernel
theorem dlaw_198 : decode code 198 = .ok (.iload_n 3, 1) := by decide +kernel
theorem dlaw_199 : decode code 199 = .ok (.iconst 2, 1) := by decide +kernel
theorem dlaw_200 : decode code 200 = .ok (.iadd, 1) := by decide +kernel
theorem dlaw_201 : decode code 201 = .ok (.iaload, 1) := by decide +kernel
theorem dlaw_202 : decode code 202 = .ok (.invokevirtual 28, 3) := by decide +kernel
theorem dlaw_205 : decode code 205 = .ok (.aload_n 2, 1) := by decide +kernel
theorem dlaw_206 : decode code 206 = .ok (.aload_n 0, 1) := by decide +kernel
theorem dlaw_207 : decode code 207 = .ok (.iload_n 3, 1) := by decide +kernel
theorem dlaw_208 : decode code 208 = .ok (.iconst 1, 1) := by decide +kernel
theorem dlaw_209 : decode code 209 = .ok (.iadd, 1) := by decide +kernel
theorem dlaw_210 : decode code 210 = .ok (.iaload, 1) := by decide +kernel
theorem dlaw_211 : decode code 211 = .ok (.aload_n 0, 1) := by decide +kernel
theorem dlaw_212 : decode code 212 = .ok (.iload_n 3, 1) := by decide +kernel
theorem dlaw_213 : decode code 213 = .ok (.iconst 2, 1) := by decide +kernel
theorem dlaw_214 : decode code 214 = .ok (.iadd, 1) := by decide +kernel
theorem dlaw_215 : decode code 215 = .ok (.iaload, 1) := by decide +kernel
theorem dlaw_216 : decode code 216 = .ok (.invokevirtual 32, 3) := by decide +kernel
theorem dlaw_219 : decode code 219 = .ok (.if_icmp .eq 156, 3) := by decide +kernel
theorem dlaw_222 : decode code 222 = .ok (.iconst 0, 1) := by decide +kernel
theorem dlaw_223 : decode code 223 = .ok (.ireturn, 1) := by decide +kernel
theorem dlaw_224 : decode code 224 = .ok (.aload_n 1, 1) := by decide +kernel
theorem dlaw_225 : decode code 225 = .ok (.invokevirtual 33, 3) := by decide +kernel
theorem dlaw_228 : decode code 228 = .ok (.aload_n 2, 1) := by decide +kernel
theorem dlaw_229 : decode code 229 = .ok (.invokevirtual 36, 3) := by decide +kernel
theorem dlaw_232 : decode code 232 = .ok (.if_icmp .eq 143, 3) := by decide +kernel
theorem dlaw_235 : decode code 235 = .ok (.iconst 0, 1) := by decide +kernel
theorem dlaw_236 : decode code 236 = .ok (.ireturn, 1) := by decide +kernel
theorem dlaw_237 : decode code 237 = .ok (.aload_n 1, 1) := by decide +kernel
theorem dlaw_238 : decode code 238 = .ok (.aload_n 0, 1) := by decide +kernel
theorem dlaw_239 : decode code 239 = .ok (.iload_n 3, 1) := by decide +kernel
theorem dlaw_240 : decode code 240 = .ok (.iconst 1, 1) := by decide +kernel
theorem dlaw_241 : decode code 241 = .ok (.iadd, 1) := by decide +kernel
theorem dlaw_242 : decode code 242 = .ok (.iaload, 1) := by decide +kernel
theorem dlaw_243 : decode code 243 = .ok (.invokevirtual 37, 3) := by decide +kernel
theorem dlaw_246 : decode code 246 = .ok (.aload_n 2, 1) := by decide +kernel
theorem dlaw_247 : decode code 247 = .ok (.aload_n 0, 1) := by decide +kernel
theorem dlaw_248 : decode code 248 = .ok (.iload_n 3, 1) := by decide +kernel
theorem dlaw_249 : decode code 249 = .ok (.iconst 1, 1) := by decide +kernel
theorem dlaw_250 : decode code 250 = .ok (.iadd, 1) := by decide +kernel
theorem dlaw_251 : decode code 251 = .ok (.iaload, 1) := by decide +kernel
theorem dlaw_252 : decode code 252 = .ok (.invokevirtual 40, 3) := by decide +kernel
theorem dlaw_255 : decode code 255 = .ok (.if_icmp .eq 120, 3) := by decide +kernel
theorem dlaw_258 : decode code 258 = .ok (.iconst 0, 1) := by decide +kernel
theorem dlaw_259 : decode code 259 = .ok (.ireturn, 1) := by decide +kernel
theorem dlaw_260 : decode code 260 = .ok (.aload_n 1, 1) := by decide +kernel
theorem dlaw_261 : decode code 261 = .ok (.aload_n 0, 1) := by decide +kernel
theorem dlaw_262 : decode code 262 = .ok (.iload_n 3, 1) := by decide +kernel
theorem dlaw_263 : decode code 263 = .ok (.iconst 1, 1) := by decide +kernel
theorem dlaw_264 : decode code 264 = .ok (.iadd, 1) := by decide +kernel
theorem dlaw_265 : decode code 265 = .ok (.iaload, 1) := by decide +kernel
theorem dlaw_266 : decode code 266 = .ok (.aload_n 0, 1) := by decide +kernel
theorem dlaw_267 : decode code 267 = .ok (.iload_n 3, 1) := by decide +kernel
theorem dlaw_268 : decode code 268 = .ok (.iconst 2, 1) := by decide +kernel
theorem dlaw_269 : decode code 269 = .ok (.iadd, 1) := by decide +kernel
theorem dlaw_270 : decode code 270 = .ok (.iaload, 1) := by decide +kernel
theorem dlaw_271 : decode code 271 = .ok (.invokevirtual 41, 3) := by decide +kernel
theorem dlaw_274 : decode code 274 = .ok (.aload_n 2, 1) := by decide +kernel
theorem dlaw_275 : decode code 275 = .ok (.aload_n 0, 1) := by decide +kernel
theorem dlaw_276 : decode code 276 = .ok (.iload_n 3, 1) := by decide +kernel
theorem dlaw_277 : decode code 277 = .ok (.iconst 1, 1) := by decide +kernel
theorem dlaw_278 : decode code 278 = .ok (.iadd, 1) := by decide +kernel
theorem dlaw_279 : decode code 279 = .ok (.iaload, 1) := by decide +kernel
theorem dlaw_280 : decode code 280 = .ok (.aload_n 0, 1) := by decide +kernel
theorem dlaw_281 : decode code 281 = .ok (.iload_n 3, 1) := by decide +kernel
theorem dlaw_282 : decode code 282 = .ok (.iconst 2, 1) := by decide +kernel
theorem dlaw_283 : decode code 283 = .ok (.iadd, 1) := by decide +kernel
theorem dlaw_284 : decode code 284 = .ok (.iaload, 1) := by decide +kernel
theorem dlaw_285 : decode code 285 = .ok (.invokevirtual 44, 3) := by decide +kernel
theorem dlaw_288 : decode code 288 = .ok (.if_icmp .eq 87, 3) := by decide +kernel
theorem dlaw_291 : decode code 291 = .ok (.iconst 0, 1) := by decide +kernel
theorem dlaw_292 : decode code 292 = .ok (.ireturn, 1) := by decide +kernel
theorem dlaw_293 : decode code 293 = .ok (.aload_n 1, 1) := by decide +kernel
theorem dlaw_294 : decode code 294 = .ok (.aload_n 0, 1) := by decide +kernel
theorem dlaw_295 : decode code 295 = .ok (.iload_n 3, 1) := by decide +kernel
theorem dlaw_296 : decode code 296 = .ok (.iconst 1, 1) := by decide +kernel
theorem dlaw_297 : decode code 297 = .ok (.iadd, 1) := by decide +kernel
theorem dlaw_298 : decode code 298 = .ok (.iaload, 1) := by decide +kernel
theorem dlaw_299 : decode code 299 = .ok (.aload_n 0, 1) := by decide +kernel
theorem dlaw_300 : decode code 300 = .ok (.iload_n 3, 1) := by decide +kernel
theorem dlaw_301 : decode code 301 = .ok (.iconst 2, 1) := by decide +kernel
theorem dlaw_302 : decode code 302 = .ok (.iadd, 1) := by decide +kernel
theorem dlaw_303 : decode code 303 = .ok (.iaload, 1) := by decide +kernel
theorem dlaw_304 : decode code 304 = .ok (.invokevirtual 45, 3) := by decide +kernel
theorem dlaw_307 : decode code 307 = .ok (.aload_n 2, 1) := by decide +kernel
theorem dlaw_308 : decode code 308 = .ok (.aload_n 0, 1) := by decide +kernel
theorem dlaw_309 : decode code 309 = .ok (.iload_n 3, 1) := by decide +kernel
theorem dlaw_310 : decode code 310 = .ok (.iconst 1, 1) := by decide +kernel
theorem dlaw_311 : decode code 311 = .ok (.iadd, 1) := by decide +kernel
theorem dlaw_312 : decode code 312 = .ok (.iaload, 1) := by decide +kernel
theorem dlaw_313 : decode code 313 = .ok (.aload_n 0, 1) := by decide +kernel
theorem dlaw_314 : decode code 314 = .ok (.iload_n 3, 1) := by decide +kernel
theorem dlaw_315 : decode code 315 = .ok (.iconst 2, 1) := by decide +kernel
theorem dlaw_316 : decode code 316 = .ok (.iadd, 1) := by decide +kernel
theorem dlaw_317 : decode code 317 = .ok (.iaload, 1) := by decide +kernel
theorem dlaw_318 : decode code 318 = .ok (.invokevirtual 48, 3) := by decide +kernel
theorem dlaw_321 : decode code 321 = .ok (.if_icmp .eq 54, 3) := by decide +kernel
theorem dlaw_324 : decode code 324 = .ok (.iconst 0, 1) := by decide +kernel
theorem dlaw_325 : decode code 325 = .ok (.ireturn, 1) := by decide +kernel
theorem dlaw_326 : decode code 326 = .ok (.aload_n 1, 1) := by decide +kernel
theorem dlaw_327 : decode code 327 = .ok (.invokevirtual 49, 3) := by decide +kernel
theorem dlaw_330 : decode code 330 = .ok (.aload_n 2, 1) := by decide +kernel
theorem dlaw_331 : decode code 331 = .ok (.invokevirtual 52, 3) := by decide +kernel
theorem dlaw_334 : decode code 334 = .ok (.if_icmp .eq 41, 3) := by decide +kernel
theorem dlaw_337 : decode code 337 = .ok (.iconst 0, 1) := by decide +kernel
theorem dlaw_338 : decode code 338 = .ok (.ireturn, 1) := by decide +kernel
theorem dlaw_339 : decode code 339 = .ok (.aload_n 1, 1) := by decide +kernel
theorem dlaw_340 : decode code 340 = .ok (.aload_n 0, 1) := by decide +kernel
theorem dlaw_341 : decode code 341 = .ok (.iload_n 3, 1) := by decide +kernel
theorem dlaw_342 : decode code 342 = .ok (.iconst 1, 1) := by decide +kernel
theorem dlaw_343 : decode code 343 = .ok (.iadd, 1) := by decide +kernel
theorem dlaw_344 : decode code 344 = .ok (.iaload, 1) := by decide +kernel
theorem dlaw_345 : decode code 345 = .ok (.invokevirtual 53, 3) := by decide +kernel
theorem dlaw_348 : decode code 348 = .ok (.aload_n 2, 1) := by decide +kernel
theorem dlaw_349 : decode code 349 = .ok (.aload_n 0, 1) := by decide +kernel
theorem dlaw_350 : decode code 350 = .ok (.iload_n 3, 1) := by decide +kernel
theorem dlaw_351 : decode code 351 = .ok (.iconst 1, 1) := by decide +kernel
theorem dlaw_352 : decode code 352 = .ok (.iadd, 1) := by decide +kernel
theorem dlaw_353 : decode code 353 = .ok (.iaload, 1) := by decide +kernel
theorem dlaw_354 : decode code 354 = .ok (.invokevirtual 56, 3) := by decide +kernel
theorem dlaw_357 : decode code 357 = .ok (.if_icmp .eq 18, 3) := by decide +kernel
theorem dlaw_360 : decode code 360 = .ok (.iconst 0, 1) := by decide +kernel
theorem dlaw_361 : decode code 361 = .ok (.ireturn, 1) := by decide +kernel
theorem dlaw_362 : decode code 362 = .ok (.aload_n 1, 1) := by decide +kernel
theorem dlaw_363 : decode code 363 = .ok (.invokevirtual 57, 3) := by decide +kernel
theorem dlaw_366 : decode code 366 = .ok (.aload_n 2, 1) := by decide +kernel
theorem dlaw_367 : decode code 367 = .ok (.invokevirtual 60, 3) := by decide +kernel
theorem dlaw_370 : decode code 370 = .ok (.if_icmp .eq 5, 3) := by decide +kernel
theorem dlaw_373 : decode code 373 = .ok (.iconst 0, 1) := by decide +kernel
theorem dlaw_374 : decode code 374 = .ok (.ireturn, 1) := by decide +kernel
theorem dlaw_375 : decode code 375 = .ok (.iinc 3 6, 3) := by decide +kernel
theorem dlaw_378 : decode code 378 = .ok (.goto (-360), 3) := by decide +kernel
theorem dlaw_381 : decode code 381 = .ok (.iconst 1, 1) := by decide +kernel
theorem dlaw_382 : decode code 382 = .ok (.ireturn, 1) := by decide +kernel
abbrev wLW (cI : ClassId) (ad am : Nat → Nat) (x_text : S_Bytes) (x_written : S_Bytes) (x_names : S_Names) (x_tokens : S_Tokens) (x_tree : S_Tree) (x_parser : S_Parser) (xC : S_MC) (xX : S_MX) (xL : S_ML) (xN : S_MN) (xT : S_MT) (xU : S_MU) (xO : S_MO) (xE : S_ME) (xQ : S_MQ) (xV : S_MV) (xI : S_MI) : va_W := [(ad 0, .inr (6, [.ref (ad 1), .ref (ad 3), .ref (ad 5), .ref (ad 10), .ref (ad 14), .ref (ad 22), .ref (ad 23)])), (ad 1, .inr (0, [.ref (ad 2), .int x_text.1])), ((ad 2), .inl (cI, 8192, .inl x_text.2)), (ad 3, .inr (0, [.ref (ad 4), .int x_written.1])), ((ad 4), .inl (cI, 16384, .inl x_written.2)), (ad 5, .inr (1, [.ref (ad 6), .ref (ad 7), .ref (ad 8), .ref (ad 9), .int x_names.1, .int x_names.2.1])), ((ad 6), .inl (cI, 8704, .inl x_names.2.2.1)), ((ad 7), .inl (cI, 4138, .inl x_names.2.2.2.1)), ((ad 8), .inl (cI, 4137, .inl x_names.2.2.2.2.1)), ((ad 9), .inl (cI, 8192, .inl x_names.2.2.2.2.2)), (ad 10, .inr (2, [.ref (ad 1), .ref (ad 5), .ref (ad 11), .ref (ad 12), .ref (ad 13), .int x_tokens.1, .int x_tokens.2.1])), ((ad 11), .inl (cI, 8193, .inl x_tokens.2.2.1)), ((ad 12), .inl (cI, 8193, .inl x_tokens.2.2.2.1)), ((ad 13), .inl (cI, 8193, .inl x_tokens.2.2.2.2)), (ad 14, .inr (3, [.ref (ad 15), .ref (ad 16), .ref (ad 17), .ref (ad 18), .ref (ad 19), .ref (ad 20), .ref (ad 21), .int x_tree.1])), ((ad 15), .inl (cI, 16384, .inl x_tree.2.1)), ((ad 16), .inl (cI, 16384, .inl x_tree.2.2.1)), ((ad 17), .inl (cI, 16384, .inl x_tree.2.2.2.1)), ((ad 18), .inl (cI, 16384, .inl x_tree.2.2.2.2.1)), ((ad 19), .inl (cI, 16384, .inl x_tree.2.2.2.2.2.1)), ((ad 20), .inl (cI, 16384, .inl x_tree.2.2.2.2.2.2.1)), ((ad 21), .inl (cI, 16384, .inl x_tree.2.2.2.2.2.2.2)), (ad 22, .inr (4, [.ref (ad 10), .ref (ad 14), .int x_parser.1, .int x_parser.2.1, .int x_parser.2.2.1, .int x_parser.2.2.2.1, .int x_parser.2.2.2.2.1, .int x_parser.2.2.2.2.2.1, .int x_parser.2.2.2.2.2.2.1, .int x_parser.2.2.2.2.2.2.2.1, .int x_parser.2.2.2.2.2.2.2.2.1, .int x_parser.2.2.2.2.2.2.2.2.2])), (ad 23, .inr (5, [.ref (ad 14), .ref (ad 5), .ref (ad 3)])), (am 100, .inr (8, [.ref (am 101), .ref (am 102), .ref (am 103), .ref (am 104), .int xX.1, .ref (am 105), .int xL.1, .int xL.2.1, .int xL.2.2.1, .int xL.2.2.2.1, .int xL.2.2.2.2.1, .int xL.2.2.2.2.2.1, .int xL.2.2.2.2.2.2, .int xN.1, .ref (am 106), .ref (am 107), .int xT.1, .ref (am 108), .ref (am 109), .ref (am 110), .ref (am 111), .ref (am 112), .ref (am 113), .ref (am 114), .int xT.2.1, .int xU.1, .ref (am 115), .int xO.1, .int xO.2.1, .int xO.2.2.1, .int xO.2.2.2.1, .int xO.2.2.2.2.1, .int xO.2.2.2.2.2, .int xE.1, .ref (am 116), .int xE.2.1, .ref (am 117), .ref (am 118), .int xE.2.2.1, .ref (am 119), .int xQ.1, .ref (am 120), .ref (am 121), .int xV.1, .ref (am 122), .int xI.1, .ref (am 123), .ref (am 124)])), (am 101, .inl (cI, 270, .inl xC.1)), (am 102, .inl (cI, 42, .inl xC.2.1)), (am 103, .inl (cI, 44, .inl xC.2.2.1)), (am 104, .inl (cI, 12, .inl xC.2.2.2)), (am 105, .inl (cI, 8192, .inl xX.2)), (am 106, .inl (cI, 8193, .inl xN.2.1)), (am 107, .inl (cI, 8192, .inl xN.2.2)), (am 108, .inl (cI, 20000, .inl xT.2.2.1)), (am 109, .inl (cI, 20000, .inl xT.2.2.2.1)), (am 110, .inl (cI, 20000, .inl xT.2.2.2.2.1)), (am 111, .inl (cI, 20000, .inl xT.2.2.2.2.2.1)), (am 112, .inl (cI, 20000, .inl xT.2.2.2.2.2.2.1)), (am 113, .inl (cI, 20000, .inl xT.2.2.2.2.2.2.2.1)), (am 114, .inl (cI, 20000, .inl xT.2.2.2.2.2.2.2.2)), (am 115, .inl (cI, 4000, .inl xU.2)), (am 116, .inl (cI, 400, .inl xE.2.2.2.1)), (am 117, .inl (cI, 400, .inl xE.2.2.2.2.1)), (am 118, .inl (cI, 400, .inl xE.2.2.2.2.2.1)), (am 119, .inl (cI, 400, .inl xE.2.2.2.2.2.2)), (am 120, .inl (cI, 20000, .inl xQ.2.1)), (am 121, .inl (cI, 20000, .inl xQ.2.2)), (am 122, .inl (cI, 24000, .inl xV.2)), (am 123, .inl (cI, 4000, .inl xI.2.1)), (am 124, .inl (cI, 4000, .inl xI.2.2))]
theorem SIM.cn {cT o : S_Bytes} {cn : S_Names} {t : S_Tree} {p : S_Parser} {C : S_MC} {X : S_MX} {L : S_ML} {N : S_MN} {T : S_MT} {Q : S_MQ} {V : S_MV} (h : SIM cT o cn t p C X L N T Q V) : ∃ ns0, CN cn (WS ++ ns0) [] := by
  rcases h.tree with ⟨h1, _⟩ | ⟨ns, M, ch, rk, D, fo, q1, _⟩
  · exact ⟨[], by rw [List.append_nil]; exact h1⟩
  · exact ⟨ns, q1.1⟩
