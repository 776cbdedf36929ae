theorem dX5_bearsName_0 : decode cX5_bearsName 0 = .ok (.iload_n 0, 1) := by decide +kernel
theorem dX5_bearsName_1 : decode cX5_bearsName 1 = .ok (.tableswitch 153 1 34 #[151, 151, 151, 153, 153, 151, 153, 153, 153, 151, 153, 153, 151, 151, 153, 153, 153, 153, 151, 153, 153, 153, 153, 153, 153, 153, 153, 153, 153, 153, 153, 151, 151, 151], 151) := by decide +kernel
theorem dX5_bearsName_152 : decode cX5_bearsName 152 = .ok (.iconst 1, 1) := by decide +kernel
theorem dX5_bearsName_153 : decode cX5_bearsName 153 = .ok (.ireturn, 1) := by decide +kernel
theorem dX5_bearsName_154 : decode cX5_bearsName 154 = .ok (.iconst 0, 1) := by decide +kernel
theorem dX5_bearsName_155 : decode cX5_bearsName 155 = .ok (.ireturn, 1) := by decide +kernel

theorem dX5_contactSign_0 : decode cX5_contactSign 0 = .ok (.iload_n 0, 1) := by decide +kernel
theorem dX5_contactSign_1 : decode cX5_contactSign 1 = .ok (.tableswitch 36 1 3 #[27, 30, 33], 27) := by decide +kernel
theorem dX5_contactSign_28 : decode cX5_contactSign 28 = .ok (.bipush 47, 2) := by decide +kernel
theorem dX5_contactSign_30 : decode cX5_contactSign 30 = .ok (.ireturn, 1) := by decide +kernel
theorem dX5_contactSign_31 : decode cX5_contactSign 31 = .ok (.bipush 62, 2) := by decide +kernel
theorem dX5_contactSign_33 : decode cX5_contactSign 33 = .ok (.ireturn, 1) := by decide +kernel
theorem dX5_contactSign_34 : decode cX5_contactSign 34 = .ok (.bipush 60, 2) := by decide +kernel
theorem dX5_contactSign_36 : decode cX5_contactSign 36 = .ok (.ireturn, 1) := by decide +kernel
theorem dX5_contactSign_37 : decode cX5_contactSign 37 = .ok (.iconst (-1), 1) := by decide +kernel
theorem dX5_contactSign_38 : decode cX5_contactSign 38 = .ok (.ireturn, 1) := by decide +kernel

theorem dX5_firstToken_0 : decode cX5_firstToken 0 = .ok (.iload_n 0, 1) := by decide +kernel
theorem dX5_firstToken_1 : decode cX5_firstToken 1 = .ok (.tableswitch 261 1 36 #[159, 163, 167, 171, 261, 261, 261, 177, 183, 261, 261, 261, 261, 261, 187, 191, 261, 261, 195, 199, 203, 207, 211, 261, 215, 220, 223, 226, 229, 261, 232, 261, 261, 261, 261, 247], 159) := by decide +kernel
theorem dX5_firstToken_160 : decode cX5_firstToken 160 = .ok (.sipush 256, 3) := by decide +kernel
theorem dX5_firstToken_163 : decode cX5_firstToken 163 = .ok (.ireturn, 1) := by decide +kernel
theorem dX5_firstToken_164 : decode cX5_firstToken 164 = .ok (.sipush 258, 3) := by decide +kernel
theorem dX5_firstToken_167 : decode cX5_firstToken 167 = .ok (.ireturn, 1) := by decide +kernel
theorem dX5_firstToken_168 : decode cX5_firstToken 168 = .ok (.sipush 260, 3) := by decide +kernel
theorem dX5_firstToken_171 : decode cX5_firstToken 171 = .ok (.ireturn, 1) := by decide +kernel
theorem dX5_firstToken_172 : decode cX5_firstToken 172 = .ok (.sipush 262, 3) := by decide +kernel
theorem dX5_firstToken_175 : decode cX5_firstToken 175 = .ok (.iload_n 1, 1) := by decide +kernel
theorem dX5_firstToken_176 : decode cX5_firstToken 176 = .ok (.iadd, 1) := by decide +kernel
theorem dX5_firstToken_177 : decode cX5_firstToken 177 = .ok (.ireturn, 1) := by decide +kernel
theorem dX5_firstToken_178 : decode cX5_firstToken 178 = .ok (.sipush 267, 3) := by decide +kernel
theorem dX5_firstToken_181 : decode cX5_firstToken 181 = .ok (.iload_n 1, 1) := by decide +kernel
theorem dX5_firstToken_182 : decode cX5_firstToken 182 = .ok (.iadd, 1) := by decide +kernel
theorem dX5_firstToken_183 : decode cX5_firstToken 183 = .ok (.ireturn, 1) := by decide +kernel
theorem dX5_firstToken_184 : decode cX5_firstToken 184 = .ok (.sipush 270, 3) := by decide +kernel
theorem dX5_firstToken_187 : decode cX5_firstToken 187 = .ok (.ireturn, 1) := by decide +kernel
theorem dX5_firstToken_188 : decode cX5_firstToken 188 = .ok (.sipush 272, 3) := by decide +kernel
theorem dX5_firstToken_191 : decode cX5_firstToken 191 = .ok (.ireturn, 1) := by decide +kernel
theorem dX5_firstToken_192 : decode cX5_firstToken 192 = .ok (.sipush 277, 3) := by decide +kernel
theorem dX5_firstToken_195 : decode cX5_firstToken 195 = .ok (.ireturn, 1) := by decide +kernel
theorem dX5_firstToken_196 : decode cX5_firstToken 196 = .ok (.sipush 279, 3) := by decide +kernel
theorem dX5_firstToken_199 : decode cX5_firstToken 199 = .ok (.ireturn, 1) := by decide +kernel
theorem dX5_firstToken_200 : decode cX5_firstToken 200 = .ok (.sipush 284, 3) := by decide +kernel
theorem dX5_firstToken_203 : decode cX5_firstToken 203 = .ok (.ireturn, 1) := by decide +kernel
theorem dX5_firstToken_204 : decode cX5_firstToken 204 = .ok (.sipush 285, 3) := by decide +kernel
theorem dX5_firstToken_207 : decode cX5_firstToken 207 = .ok (.ireturn, 1) := by decide +kernel
theorem dX5_firstToken_208 : decode cX5_firstToken 208 = .ok (.sipush 293, 3) := by decide +kernel
theorem dX5_firstToken_211 : decode cX5_firstToken 211 = .ok (.ireturn, 1) := by decide +kernel
theorem dX5_firstToken_212 : decode cX5_firstToken 212 = .ok (.sipush 295, 3) := by decide +kernel
theorem dX5_firstToken_215 : decode cX5_firstToken 215 = .ok (.ireturn, 1) := by decide +kernel
theorem dX5_firstToken_216 : decode cX5_firstToken 216 = .ok (.iload_n 1, 1) := by decide +kernel
theorem dX5_firstToken_217 : decode cX5_firstToken 217 = .ok (.invokestatic 112, 3) := by decide +kernel
theorem dX5_firstToken_220 : decode cX5_firstToken 220 = .ok (.ireturn, 1) := by decide +kernel
theorem dX5_firstToken_221 : decode cX5_firstToken 221 = .ok (.bipush 45, 2) := by decide +kernel
theorem dX5_firstToken_223 : decode cX5_firstToken 223 = .ok (.ireturn, 1) := by decide +kernel
theorem dX5_firstToken_224 : decode cX5_firstToken 224 = .ok (.bipush 42, 2) := by decide +kernel
theorem dX5_firstToken_226 : decode cX5_firstToken 226 = .ok (.ireturn, 1) := by decide +kernel
theorem dX5_firstToken_227 : decode cX5_firstToken 227 = .ok (.bipush 40, 2) := by decide +kernel
theorem dX5_firstToken_229 : decode cX5_firstToken 229 = .ok (.ireturn, 1) := by decide +kernel
theorem dX5_firstToken_230 : decode cX5_firstToken 230 = .ok (.bipush 124, 2) := by decide +kernel
theorem dX5_firstToken_232 : decode cX5_firstToken 232 = .ok (.ireturn, 1) := by decide +kernel
theorem dX5_firstToken_233 : decode cX5_firstToken 233 = .ok (.iload_n 1, 1) := by decide +kernel
theorem dX5_firstToken_234 : decode cX5_firstToken 234 = .ok (.iconst 1, 1) := by decide +kernel
theorem dX5_firstToken_235 : decode cX5_firstToken 235 = .ok (.if_icmp .ne 9, 3) := by decide +kernel
theorem dX5_firstToken_238 : decode cX5_firstToken 238 = .ok (.sipush 291, 3) := by decide +kernel
theorem dX5_firstToken_241 : decode cX5_firstToken 241 = .ok (.goto 6, 3) := by decide +kernel
theorem dX5_firstToken_244 : decode cX5_firstToken 244 = .ok (.sipush 292, 3) := by decide +kernel
theorem dX5_firstToken_247 : decode cX5_firstToken 247 = .ok (.ireturn, 1) := by decide +kernel
theorem dX5_firstToken_248 : decode cX5_firstToken 248 = .ok (.iload_n 1, 1) := by decide +kernel
theorem dX5_firstToken_249 : decode cX5_firstToken 249 = .ok (.iconst 1, 1) := by decide +kernel
theorem dX5_firstToken_250 : decode cX5_firstToken 250 = .ok (.if_icmp .ne 9, 3) := by decide +kernel
theorem dX5_firstToken_253 : decode cX5_firstToken 253 = .ok (.sipush 290, 3) := by decide +kernel
theorem dX5_firstToken_256 : decode cX5_firstToken 256 = .ok (.goto 5, 3) := by decide +kernel
theorem dX5_firstToken_259 : decode cX5_firstToken 259 = .ok (.bipush 45, 2) := by decide +kernel
theorem dX5_firstToken_261 : decode cX5_firstToken 261 = .ok (.ireturn, 1) := by decide +kernel
theorem dX5_firstToken_262 : decode cX5_firstToken 262 = .ok (.iconst (-1), 1) := by decide +kernel
theorem dX5_firstToken_263 : decode cX5_firstToken 263 = .ok (.ireturn, 1) := by decide +kernel

theorem dX5_isBracketed_0 : decode cX5_isBracketed 0 = .ok (.aload_n 0, 1) := by decide +kernel
theorem dX5_isBracketed_1 : decode cX5_isBracketed 1 = .ok (.getfield 9, 3) := by decide +kernel
theorem dX5_isBracketed_4 : decode cX5_isBracketed 4 = .ok (.iload_n 1, 1) := by decide +kernel
theorem dX5_isBracketed_5 : decode cX5_isBracketed 5 = .ok (.invokevirtual 35, 3) := by decide +kernel
theorem dX5_isBracketed_8 : decode cX5_isBracketed 8 = .ok (.istore_n 2, 1) := by decide +kernel
theorem dX5_isBracketed_9 : decode cX5_isBracketed 9 = .ok (.aload_n 0, 1) := by decide +kernel
theorem dX5_isBracketed_10 : decode cX5_isBracketed 10 = .ok (.getfield 9, 3) := by decide +kernel
theorem dX5_isBracketed_13 : decode cX5_isBracketed 13 = .ok (.iload_n 2, 1) := by decide +kernel
theorem dX5_isBracketed_14 : decode cX5_isBracketed 14 = .ok (.invokevirtual 55, 3) := by decide +kernel
theorem dX5_isBracketed_17 : decode cX5_isBracketed 17 = .ok (.bipush 35, 2) := by decide +kernel
theorem dX5_isBracketed_19 : decode cX5_isBracketed 19 = .ok (.if_icmp .eq 22, 3) := by decide +kernel
theorem dX5_isBracketed_22 : decode cX5_isBracketed 22 = .ok (.aload_n 0, 1) := by decide +kernel
theorem dX5_isBracketed_23 : decode cX5_isBracketed 23 = .ok (.getfield 9, 3) := by decide +kernel
theorem dX5_isBracketed_26 : decode cX5_isBracketed 26 = .ok (.iload_n 2, 1) := by decide +kernel
theorem dX5_isBracketed_27 : decode cX5_isBracketed 27 = .ok (.invokevirtual 55, 3) := by decide +kernel
theorem dX5_isBracketed_30 : decode cX5_isBracketed 30 = .ok (.bipush 36, 2) := by decide +kernel
theorem dX5_isBracketed_32 : decode cX5_isBracketed 32 = .ok (.if_icmp .ne 7, 3) := by decide +kernel
theorem dX5_isBracketed_35 : decode cX5_isBracketed 35 = .ok (.iconst 1, 1) := by decide +kernel
theorem dX5_isBracketed_36 : decode cX5_isBracketed 36 = .ok (.goto 4, 3) := by decide +kernel
theorem dX5_isBracketed_39 : decode cX5_isBracketed 39 = .ok (.iconst 0, 1) := by decide +kernel
theorem dX5_isBracketed_40 : decode cX5_isBracketed 40 = .ok (.ireturn, 1) := by decide +kernel
theorem dX5_isBracketed_41 : decode cX5_isBracketed 41 = .ok (.aload_n 0, 1) := by decide +kernel
theorem dX5_isBracketed_42 : decode cX5_isBracketed 42 = .ok (.getfield 9, 3) := by decide +kernel
theorem dX5_isBracketed_45 : decode cX5_isBracketed 45 = .ok (.iload_n 1, 1) := by decide +kernel
theorem dX5_isBracketed_46 : decode cX5_isBracketed 46 = .ok (.invokevirtual 65, 3) := by decide +kernel
theorem dX5_isBracketed_49 : decode cX5_isBracketed 49 = .ok (.invokestatic 118, 3) := by decide +kernel
theorem dX5_isBracketed_52 : decode cX5_isBracketed 52 = .ok (.istore_n 3, 1) := by decide +kernel
theorem dX5_isBracketed_53 : decode cX5_isBracketed 53 = .ok (.aload_n 0, 1) := by decide +kernel
theorem dX5_isBracketed_54 : decode cX5_isBracketed 54 = .ok (.getfield 9, 3) := by decide +kernel
theorem dX5_isBracketed_57 : decode cX5_isBracketed 57 = .ok (.iload_n 2, 1) := by decide +kernel
theorem dX5_isBracketed_58 : decode cX5_isBracketed 58 = .ok (.invokevirtual 65, 3) := by decide +kernel
theorem dX5_isBracketed_61 : decode cX5_isBracketed 61 = .ok (.invokestatic 118, 3) := by decide +kernel
theorem dX5_isBracketed_64 : decode cX5_isBracketed 64 = .ok (.istore 4, 2) := by decide +kernel
theorem dX5_isBracketed_66 : decode cX5_isBracketed 66 = .ok (.iload 4, 2) := by decide +kernel
theorem dX5_isBracketed_68 : decode cX5_isBracketed 68 = .ok (.iload_n 3, 1) := by decide +kernel
theorem dX5_isBracketed_69 : decode cX5_isBracketed 69 = .ok (.if_icmp .gt 21, 3) := by decide +kernel
theorem dX5_isBracketed_72 : decode cX5_isBracketed 72 = .ok (.iload 4, 2) := by decide +kernel
theorem dX5_isBracketed_74 : decode cX5_isBracketed 74 = .ok (.iload_n 3, 1) := by decide +kernel
theorem dX5_isBracketed_75 : decode cX5_isBracketed 75 = .ok (.if_icmp .ne 19, 3) := by decide +kernel
theorem dX5_isBracketed_78 : decode cX5_isBracketed 78 = .ok (.aload_n 0, 1) := by decide +kernel
theorem dX5_isBracketed_79 : decode cX5_isBracketed 79 = .ok (.getfield 9, 3) := by decide +kernel
theorem dX5_isBracketed_82 : decode cX5_isBracketed 82 = .ok (.iload_n 1, 1) := by decide +kernel
theorem dX5_isBracketed_83 : decode cX5_isBracketed 83 = .ok (.invokevirtual 52, 3) := by decide +kernel
theorem dX5_isBracketed_86 : decode cX5_isBracketed 86 = .ok (.iconst 1, 1) := by decide +kernel
theorem dX5_isBracketed_87 : decode cX5_isBracketed 87 = .ok (.if_icmp .ne 7, 3) := by decide +kernel
theorem dX5_isBracketed_90 : decode cX5_isBracketed 90 = .ok (.iconst 1, 1) := by decide +kernel
theorem dX5_isBracketed_91 : decode cX5_isBracketed 91 = .ok (.goto 4, 3) := by decide +kernel
theorem dX5_isBracketed_94 : decode cX5_isBracketed 94 = .ok (.iconst 0, 1) := by decide +kernel
theorem dX5_isBracketed_95 : decode cX5_isBracketed 95 = .ok (.ireturn, 1) := by decide +kernel

theorem dX5_coilSign_0 : decode cX5_coilSign 0 = .ok (.iload_n 0, 1) := by decide +kernel
theorem dX5_coilSign_1 : decode cX5_coilSign 1 = .ok (.tableswitch 36 1 3 #[27, 30, 33], 27) := by decide +kernel
theorem dX5_coilSign_28 : decode cX5_coilSign 28 = .ok (.bipush 47, 2) := by decide +kernel
theorem dX5_coilSign_30 : decode cX5_coilSign 30 = .ok (.ireturn, 1) := by decide +kernel
theorem dX5_coilSign_31 : decode cX5_coilSign 31 = .ok (.bipush 43, 2) := by decide +kernel
theorem dX5_coilSign_33 : decode cX5_coilSign 33 = .ok (.ireturn, 1) := by decide +kernel
theorem dX5_coilSign_34 : decode cX5_coilSign 34 = .ok (.bipush 45, 2) := by decide +kernel
theorem dX5_coilSign_36 : decode cX5_coilSign 36 = .ok (.ireturn, 1) := by decide +kernel
theorem dX5_coilSign_37 : decode cX5_coilSign 37 = .ok (.iconst (-1), 1) := by decide +kernel
theorem dX5_coilSign_38 : decode cX5_coilSign 38 = .ok (.ireturn, 1) := by decide +kernel

theorem dX5_nextToken_0 : decode cX5_nextToken 0 = .ok (.iload_n 0, 1) := by decide +kernel
theorem dX5_nextToken_1 : decode cX5_nextToken 1 = .ok (.tableswitch 172 1 34 #[151, 172, 172, 172, 172, 172, 172, 172, 154, 172, 172, 172, 157, 160, 172, 172, 172, 172, 160, 172, 172, 172, 172, 172, 172, 172, 172, 164, 172, 172, 172, 154, 169, 157], 151) := by decide +kernel
theorem dX5_nextToken_152 : decode cX5_nextToken 152 = .ok (.bipush 58, 2) := by decide +kernel
theorem dX5_nextToken_154 : decode cX5_nextToken 154 = .ok (.ireturn, 1) := by decide +kernel
theorem dX5_nextToken_155 : decode cX5_nextToken 155 = .ok (.bipush 91, 2) := by decide +kernel
theorem dX5_nextToken_157 : decode cX5_nextToken 157 = .ok (.ireturn, 1) := by decide +kernel
theorem dX5_nextToken_158 : decode cX5_nextToken 158 = .ok (.bipush 40, 2) := by decide +kernel
theorem dX5_nextToken_160 : decode cX5_nextToken 160 = .ok (.ireturn, 1) := by decide +kernel
theorem dX5_nextToken_161 : decode cX5_nextToken 161 = .ok (.sipush 14909, 3) := by decide +kernel
theorem dX5_nextToken_164 : decode cX5_nextToken 164 = .ok (.ireturn, 1) := by decide +kernel
theorem dX5_nextToken_165 : decode cX5_nextToken 165 = .ok (.iload_n 1, 1) := by decide +kernel
theorem dX5_nextToken_166 : decode cX5_nextToken 166 = .ok (.invokestatic 115, 3) := by decide +kernel
theorem dX5_nextToken_169 : decode cX5_nextToken 169 = .ok (.ireturn, 1) := by decide +kernel
theorem dX5_nextToken_170 : decode cX5_nextToken 170 = .ok (.bipush 46, 2) := by decide +kernel
theorem dX5_nextToken_172 : decode cX5_nextToken 172 = .ok (.ireturn, 1) := by decide +kernel
theorem dX5_nextToken_173 : decode cX5_nextToken 173 = .ok (.iconst (-1), 1) := by decide +kernel
theorem dX5_nextToken_174 : decode cX5_nextToken 174 = .ok (.ireturn, 1) := by decide +kernel

theorem dX5_digits_0 : decode cX5_digits 0 = .ok (.ldc 156, 2) := by decide +kernel
theorem dX5_digits_2 : decode cX5_digits 2 = .ok (.istore_n 2, 1) := by decide +kernel
theorem dX5_digits_3 : decode cX5_digits 3 = .ok (.iload_n 2, 1) := by decide +kernel
theorem dX5_digits_4 : decode cX5_digits 4 = .ok (.ifCond .le 37, 3) := by decide +kernel
theorem dX5_digits_7 : decode cX5_digits 7 = .ok (.iload_n 1, 1) := by decide +kernel
theorem dX5_digits_8 : decode cX5_digits 8 = .ok (.iload_n 2, 1) := by decide +kernel
theorem dX5_digits_9 : decode cX5_digits 9 = .ok (.if_icmp .ge 8, 3) := by decide +kernel
theorem dX5_digits_12 : decode cX5_digits 12 = .ok (.iload_n 2, 1) := by decide +kernel
theorem dX5_digits_13 : decode cX5_digits 13 = .ok (.iconst 1, 1) := by decide +kernel
theorem dX5_digits_14 : decode cX5_digits 14 = .ok (.if_icmp .ne 19, 3) := by decide +kernel
theorem dX5_digits_17 : decode cX5_digits 17 = .ok (.aload_n 0, 1) := by decide +kernel
theorem dX5_digits_18 : decode cX5_digits 18 = .ok (.getfield 19, 3) := by decide +kernel
theorem dX5_digits_21 : decode cX5_digits 21 = .ok (.bipush 48, 2) := by decide +kernel
theorem dX5_digits_23 : decode cX5_digits 23 = .ok (.iload_n 1, 1) := by decide +kernel
theorem dX5_digits_24 : decode cX5_digits 24 = .ok (.iload_n 2, 1) := by decide +kernel
theorem dX5_digits_25 : decode cX5_digits 25 = .ok (.idiv, 1) := by decide +kernel
theorem dX5_digits_26 : decode cX5_digits 26 = .ok (.bipush 10, 2) := by decide +kernel
theorem dX5_digits_28 : decode cX5_digits 28 = .ok (.irem, 1) := by decide +kernel
theorem dX5_digits_29 : decode cX5_digits 29 = .ok (.iadd, 1) := by decide +kernel
theorem dX5_digits_30 : decode cX5_digits 30 = .ok (.invokevirtual 130, 3) := by decide +kernel
theorem dX5_digits_33 : decode cX5_digits 33 = .ok (.iload_n 2, 1) := by decide +kernel
theorem dX5_digits_34 : decode cX5_digits 34 = .ok (.bipush 10, 2) := by decide +kernel
theorem dX5_digits_36 : decode cX5_digits 36 = .ok (.idiv, 1) := by decide +kernel
theorem dX5_digits_37 : decode cX5_digits 37 = .ok (.istore_n 2, 1) := by decide +kernel
theorem dX5_digits_38 : decode cX5_digits 38 = .ok (.goto (-35), 3) := by decide +kernel
theorem dX5_digits_41 : decode cX5_digits 41 = .ok (.return_, 1) := by decide +kernel

theorem dX5_part_0 : decode cX5_part 0 = .ok (.aload_n 0, 1) := by decide +kernel
theorem dX5_part_1 : decode cX5_part 1 = .ok (.getfield 19, 3) := by decide +kernel
theorem dX5_part_4 : decode cX5_part 4 = .ok (.aload_n 0, 1) := by decide +kernel
theorem dX5_part_5 : decode cX5_part 5 = .ok (.getfield 19, 3) := by decide +kernel
theorem dX5_part_8 : decode cX5_part 8 = .ok (.getfield 141, 3) := by decide +kernel
theorem dX5_part_11 : decode cX5_part 11 = .ok (.iconst 1, 1) := by decide +kernel
theorem dX5_part_12 : decode cX5_part 12 = .ok (.isub, 1) := by decide +kernel
theorem dX5_part_13 : decode cX5_part 13 = .ok (.invokevirtual 142, 3) := by decide +kernel
theorem dX5_part_16 : decode cX5_part 16 = .ok (.invokestatic 145, 3) := by decide +kernel
theorem dX5_part_19 : decode cX5_part 19 = .ok (.ifCond .eq 12, 3) := by decide +kernel
theorem dX5_part_22 : decode cX5_part 22 = .ok (.aload_n 0, 1) := by decide +kernel
theorem dX5_part_23 : decode cX5_part 23 = .ok (.getfield 19, 3) := by decide +kernel
theorem dX5_part_26 : decode cX5_part 26 = .ok (.bipush 32, 2) := by decide +kernel
theorem dX5_part_28 : decode cX5_part 28 = .ok (.invokevirtual 130, 3) := by decide +kernel
theorem dX5_part_31 : decode cX5_part 31 = .ok (.return_, 1) := by decide +kernel

theorem dX5_word_0 : decode cX5_word 0 = .ok (.aload_n 0, 1) := by decide +kernel
theorem dX5_word_1 : decode cX5_word 1 = .ok (.invokevirtual 133, 3) := by decide +kernel
theorem dX5_word_4 : decode cX5_word 4 = .ok (.iconst 0, 1) := by decide +kernel
theorem dX5_word_5 : decode cX5_word 5 = .ok (.istore_n 2, 1) := by decide +kernel
theorem dX5_word_6 : decode cX5_word 6 = .ok (.iload_n 2, 1) := by decide +kernel
theorem dX5_word_7 : decode cX5_word 7 = .ok (.bipush 32, 2) := by decide +kernel
theorem dX5_word_9 : decode cX5_word 9 = .ok (.if_icmp .ge 33, 3) := by decide +kernel
theorem dX5_word_12 : decode cX5_word 12 = .ok (.aload_n 0, 1) := by decide +kernel
theorem dX5_word_13 : decode cX5_word 13 = .ok (.getfield 15, 3) := by decide +kernel
theorem dX5_word_16 : decode cX5_word 16 = .ok (.iload_n 1, 1) := by decide +kernel
theorem dX5_word_17 : decode cX5_word 17 = .ok (.iload_n 2, 1) := by decide +kernel
theorem dX5_word_18 : decode cX5_word 18 = .ok (.invokevirtual 136, 3) := by decide +kernel
theorem dX5_word_21 : decode cX5_word 21 = .ok (.istore_n 3, 1) := by decide +kernel
theorem dX5_word_22 : decode cX5_word 22 = .ok (.iload_n 3, 1) := by decide +kernel
theorem dX5_word_23 : decode cX5_word 23 = .ok (.iconst (-1), 1) := by decide +kernel
theorem dX5_word_24 : decode cX5_word 24 = .ok (.if_icmp .ne 4, 3) := by decide +kernel
theorem dX5_word_27 : decode cX5_word 27 = .ok (.return_, 1) := by decide +kernel
theorem dX5_word_28 : decode cX5_word 28 = .ok (.aload_n 0, 1) := by decide +kernel
theorem dX5_word_29 : decode cX5_word 29 = .ok (.getfield 19, 3) := by decide +kernel
theorem dX5_word_32 : decode cX5_word 32 = .ok (.iload_n 3, 1) := by decide +kernel
theorem dX5_word_33 : decode cX5_word 33 = .ok (.invokevirtual 130, 3) := by decide +kernel
theorem dX5_word_36 : decode cX5_word 36 = .ok (.iinc 2 1, 3) := by decide +kernel
theorem dX5_word_39 : decode cX5_word 39 = .ok (.goto (-33), 3) := by decide +kernel
theorem dX5_word_42 : decode cX5_word 42 = .ok (.return_, 1) := by decide +kernel

theorem dX5_token_0 : decode cX5_token 0 = .ok (.iload_n 1, 1) := by decide +kernel
theorem dX5_token_1 : decode cX5_token 1 = .ok (.sipush 256, 3) := by decide +kernel
theorem dX5_token_4 : decode cX5_token 4 = .ok (.if_icmp .lt 22, 3) := by decide +kernel
theorem dX5_token_7 : decode cX5_token 7 = .ok (.iload_n 1, 1) := by decide +kernel
theorem dX5_token_8 : decode cX5_token 8 = .ok (.sipush 297, 3) := by decide +kernel
theorem dX5_token_11 : decode cX5_token 11 = .ok (.if_icmp .ge 15, 3) := by decide +kernel
theorem dX5_token_14 : decode cX5_token 14 = .ok (.aload_n 0, 1) := by decide +kernel
theorem dX5_token_15 : decode cX5_token 15 = .ok (.iload_n 1, 1) := by decide +kernel
theorem dX5_token_16 : decode cX5_token 16 = .ok (.sipush 256, 3) := by decide +kernel
theorem dX5_token_19 : decode cX5_token 19 = .ok (.isub, 1) := by decide +kernel
theorem dX5_token_20 : decode cX5_token 20 = .ok (.invokevirtual 100, 3) := by decide +kernel
theorem dX5_token_23 : decode cX5_token 23 = .ok (.goto 48, 3) := by decide +kernel
theorem dX5_token_26 : decode cX5_token 26 = .ok (.iload_n 1, 1) := by decide +kernel
theorem dX5_token_27 : decode cX5_token 27 = .ok (.sipush 255, 3) := by decide +kernel
theorem dX5_token_30 : decode cX5_token 30 = .ok (.if_icmp .le 29, 3) := by decide +kernel
theorem dX5_token_33 : decode cX5_token 33 = .ok (.aload_n 0, 1) := by decide +kernel
theorem dX5_token_34 : decode cX5_token 34 = .ok (.getfield 19, 3) := by decide +kernel
theorem dX5_token_37 : decode cX5_token 37 = .ok (.iload_n 1, 1) := by decide +kernel
theorem dX5_token_38 : decode cX5_token 38 = .ok (.bipush 8, 2) := by decide +kernel
theorem dX5_token_40 : decode cX5_token 40 = .ok (.ishr, 1) := by decide +kernel
theorem dX5_token_41 : decode cX5_token 41 = .ok (.invokevirtual 130, 3) := by decide +kernel
theorem dX5_token_44 : decode cX5_token 44 = .ok (.aload_n 0, 1) := by decide +kernel
theorem dX5_token_45 : decode cX5_token 45 = .ok (.getfield 19, 3) := by decide +kernel
theorem dX5_token_48 : decode cX5_token 48 = .ok (.iload_n 1, 1) := by decide +kernel
theorem dX5_token_49 : decode cX5_token 49 = .ok (.sipush 255, 3) := by decide +kernel
theorem dX5_token_52 : decode cX5_token 52 = .ok (.iand, 1) := by decide +kernel
theorem dX5_token_53 : decode cX5_token 53 = .ok (.invokevirtual 130, 3) := by decide +kernel
theorem dX5_token_56 : decode cX5_token 56 = .ok (.goto 15, 3) := by decide +kernel
theorem dX5_token_59 : decode cX5_token 59 = .ok (.iload_n 1, 1) := by decide +kernel
theorem dX5_token_60 : decode cX5_token 60 = .ok (.ifCond .lt 11, 3) := by decide +kernel
theorem dX5_token_63 : decode cX5_token 63 = .ok (.aload_n 0, 1) := by decide +kernel
theorem dX5_token_64 : decode cX5_token 64 = .ok (.getfield 19, 3) := by decide +kernel
theorem dX5_token_67 : decode cX5_token 67 = .ok (.iload_n 1, 1) := by decide +kernel
theorem dX5_token_68 : decode cX5_token 68 = .ok (.invokevirtual 130, 3) := by decide +kernel
theorem dX5_token_71 : decode cX5_token 71 = .ok (.return_, 1) := by decide +kernel

theorem dX5_number_0 : decode cX5_number 0 = .ok (.iload_n 1, 1) := by decide +kernel
theorem dX5_number_1 : decode cX5_number 1 = .ok (.ifCond .ge 9, 3) := by decide +kernel
theorem dX5_number_4 : decode cX5_number 4 = .ok (.aload_n 0, 1) := by decide +kernel
theorem dX5_number_5 : decode cX5_number 5 = .ok (.bipush 45, 2) := by decide +kernel
theorem dX5_number_7 : decode cX5_number 7 = .ok (.invokevirtual 60, 3) := by decide +kernel
theorem dX5_number_10 : decode cX5_number 10 = .ok (.aload_n 0, 1) := by decide +kernel
theorem dX5_number_11 : decode cX5_number 11 = .ok (.invokevirtual 133, 3) := by decide +kernel
theorem dX5_number_14 : decode cX5_number 14 = .ok (.aload_n 0, 1) := by decide +kernel
theorem dX5_number_15 : decode cX5_number 15 = .ok (.iload_n 1, 1) := by decide +kernel
theorem dX5_number_16 : decode cX5_number 16 = .ok (.invokestatic 148, 3) := by decide +kernel
theorem dX5_number_19 : decode cX5_number 19 = .ok (.invokevirtual 153, 3) := by decide +kernel
theorem dX5_number_22 : decode cX5_number 22 = .ok (.return_, 1) := by decide +kernel

theorem dX5_place_0 : decode cX5_place 0 = .ok (.iload_n 1, 1) := by decide +kernel
theorem dX5_place_1 : decode cX5_place 1 = .ok (.bipush 8, 2) := by decide +kernel
theorem dX5_place_3 : decode cX5_place 3 = .ok (.ishr, 1) := by decide +kernel
theorem dX5_place_4 : decode cX5_place 4 = .ok (.istore_n 2, 1) := by decide +kernel
theorem dX5_place_5 : decode cX5_place 5 = .ok (.iload_n 2, 1) := by decide +kernel
theorem dX5_place_6 : decode cX5_place 6 = .ok (.iconst 3, 1) := by decide +kernel
theorem dX5_place_7 : decode cX5_place 7 = .ok (.if_icmp .ge 7, 3) := by decide +kernel
theorem dX5_place_10 : decode cX5_place 10 = .ok (.iload_n 2, 1) := by decide +kernel
theorem dX5_place_11 : decode cX5_place 11 = .ok (.goto 6, 3) := by decide +kernel
theorem dX5_place_14 : decode cX5_place 14 = .ok (.iload_n 2, 1) := by decide +kernel
theorem dX5_place_15 : decode cX5_place 15 = .ok (.iconst 3, 1) := by decide +kernel
theorem dX5_place_16 : decode cX5_place 16 = .ok (.isub, 1) := by decide +kernel
theorem dX5_place_17 : decode cX5_place 17 = .ok (.istore_n 3, 1) := by decide +kernel
theorem dX5_place_18 : decode cX5_place 18 = .ok (.aload_n 0, 1) := by decide +kernel
theorem dX5_place_19 : decode cX5_place 19 = .ok (.bipush 37, 2) := by decide +kernel
theorem dX5_place_21 : decode cX5_place 21 = .ok (.invokevirtual 60, 3) := by decide +kernel
theorem dX5_place_24 : decode cX5_place 24 = .ok (.aload_n 0, 1) := by decide +kernel
theorem dX5_place_25 : decode cX5_place 25 = .ok (.getfield 19, 3) := by decide +kernel
theorem dX5_place_28 : decode cX5_place 28 = .ok (.iload_n 3, 1) := by decide +kernel
theorem dX5_place_29 : decode cX5_place 29 = .ok (.ifCond .ne 8, 3) := by decide +kernel
theorem dX5_place_32 : decode cX5_place 32 = .ok (.bipush 73, 2) := by decide +kernel
theorem dX5_place_34 : decode cX5_place 34 = .ok (.goto 15, 3) := by decide +kernel
theorem dX5_place_37 : decode cX5_place 37 = .ok (.iload_n 3, 1) := by decide +kernel
theorem dX5_place_38 : decode cX5_place 38 = .ok (.iconst 1, 1) := by decide +kernel
theorem dX5_place_39 : decode cX5_place 39 = .ok (.if_icmp .ne 8, 3) := by decide +kernel
theorem dX5_place_42 : decode cX5_place 42 = .ok (.bipush 81, 2) := by decide +kernel
theorem dX5_place_44 : decode cX5_place 44 = .ok (.goto 5, 3) := by decide +kernel
theorem dX5_place_47 : decode cX5_place 47 = .ok (.bipush 77, 2) := by decide +kernel
theorem dX5_place_49 : decode cX5_place 49 = .ok (.invokevirtual 130, 3) := by decide +kernel
theorem dX5_place_52 : decode cX5_place 52 = .ok (.aload_n 0, 1) := by decide +kernel
theorem dX5_place_53 : decode cX5_place 53 = .ok (.getfield 19, 3) := by decide +kernel
theorem dX5_place_56 : decode cX5_place 56 = .ok (.iload_n 2, 1) := by decide +kernel
theorem dX5_place_57 : decode cX5_place 57 = .ok (.iconst 3, 1) := by decide +kernel
theorem dX5_place_58 : decode cX5_place 58 = .ok (.if_icmp .ge 8, 3) := by decide +kernel
theorem dX5_place_61 : decode cX5_place 61 = .ok (.bipush 88, 2) := by decide +kernel
theorem dX5_place_63 : decode cX5_place 63 = .ok (.goto 5, 3) := by decide +kernel
theorem dX5_place_66 : decode cX5_place 66 = .ok (.bipush 87, 2) := by decide +kernel
theorem dX5_place_68 : decode cX5_place 68 = .ok (.invokevirtual 130, 3) := by decide +kernel
theorem dX5_place_71 : decode cX5_place 71 = .ok (.aload_n 0, 1) := by decide +kernel
theorem dX5_place_72 : decode cX5_place 72 = .ok (.iload_n 1, 1) := by decide +kernel
theorem dX5_place_73 : decode cX5_place 73 = .ok (.sipush 255, 3) := by decide +kernel
theorem dX5_place_76 : decode cX5_place 76 = .ok (.iand, 1) := by decide +kernel
theorem dX5_place_77 : decode cX5_place 77 = .ok (.invokevirtual 153, 3) := by decide +kernel
theorem dX5_place_80 : decode cX5_place 80 = .ok (.return_, 1) := by decide +kernel

theorem dX5_begin_0 : decode cX5_begin 0 = .ok (.aload_n 0, 1) := by decide +kernel
theorem dX5_begin_1 : decode cX5_begin 1 = .ok (.getfield 9, 3) := by decide +kernel
theorem dX5_begin_4 : decode cX5_begin 4 = .ok (.iload_n 1, 1) := by decide +kernel
theorem dX5_begin_5 : decode cX5_begin 5 = .ok (.invokevirtual 55, 3) := by decide +kernel
theorem dX5_begin_8 : decode cX5_begin 8 = .ok (.istore_n 2, 1) := by decide +kernel
theorem dX5_begin_9 : decode cX5_begin 9 = .ok (.aload_n 0, 1) := by decide +kernel
theorem dX5_begin_10 : decode cX5_begin 10 = .ok (.getfield 9, 3) := by decide +kernel
theorem dX5_begin_13 : decode cX5_begin 13 = .ok (.iload_n 1, 1) := by decide +kernel
theorem dX5_begin_14 : decode cX5_begin 14 = .ok (.invokevirtual 65, 3) := by decide +kernel
theorem dX5_begin_17 : decode cX5_begin 17 = .ok (.istore_n 3, 1) := by decide +kernel
theorem dX5_begin_18 : decode cX5_begin 18 = .ok (.aload_n 0, 1) := by decide +kernel
theorem dX5_begin_19 : decode cX5_begin 19 = .ok (.iload_n 2, 1) := by decide +kernel
theorem dX5_begin_20 : decode cX5_begin 20 = .ok (.iload_n 3, 1) := by decide +kernel
theorem dX5_begin_21 : decode cX5_begin 21 = .ok (.invokestatic 90, 3) := by decide +kernel
theorem dX5_begin_24 : decode cX5_begin 24 = .ok (.invokevirtual 60, 3) := by decide +kernel
theorem dX5_begin_27 : decode cX5_begin 27 = .ok (.iload_n 2, 1) := by decide +kernel
theorem dX5_begin_28 : decode cX5_begin 28 = .ok (.bipush 35, 2) := by decide +kernel
theorem dX5_begin_30 : decode cX5_begin 30 = .ok (.if_icmp .ne 17, 3) := by decide +kernel
theorem dX5_begin_33 : decode cX5_begin 33 = .ok (.aload_n 0, 1) := by decide +kernel
theorem dX5_begin_34 : decode cX5_begin 34 = .ok (.iload_n 1, 1) := by decide +kernel
theorem dX5_begin_35 : decode cX5_begin 35 = .ok (.invokevirtual 93, 3) := by decide +kernel
theorem dX5_begin_38 : decode cX5_begin 38 = .ok (.ifCond .eq 9, 3) := by decide +kernel
theorem dX5_begin_41 : decode cX5_begin 41 = .ok (.aload_n 0, 1) := by decide +kernel
theorem dX5_begin_42 : decode cX5_begin 42 = .ok (.bipush 40, 2) := by decide +kernel
theorem dX5_begin_44 : decode cX5_begin 44 = .ok (.invokevirtual 60, 3) := by decide +kernel
theorem dX5_begin_47 : decode cX5_begin 47 = .ok (.iload_n 2, 1) := by decide +kernel
theorem dX5_begin_48 : decode cX5_begin 48 = .ok (.invokestatic 97, 3) := by decide +kernel
theorem dX5_begin_51 : decode cX5_begin 51 = .ok (.ifCond .eq 11, 3) := by decide +kernel
theorem dX5_begin_54 : decode cX5_begin 54 = .ok (.aload_n 0, 1) := by decide +kernel
theorem dX5_begin_55 : decode cX5_begin 55 = .ok (.bipush 41, 2) := by decide +kernel
theorem dX5_begin_57 : decode cX5_begin 57 = .ok (.iload_n 3, 1) := by decide +kernel
theorem dX5_begin_58 : decode cX5_begin 58 = .ok (.iadd, 1) := by decide +kernel
theorem dX5_begin_59 : decode cX5_begin 59 = .ok (.invokevirtual 100, 3) := by decide +kernel
theorem dX5_begin_62 : decode cX5_begin 62 = .ok (.iload_n 2, 1) := by decide +kernel
theorem dX5_begin_63 : decode cX5_begin 63 = .ok (.bipush 30, 2) := by decide +kernel
theorem dX5_begin_65 : decode cX5_begin 65 = .ok (.if_icmp .ne 8, 3) := by decide +kernel
theorem dX5_begin_68 : decode cX5_begin 68 = .ok (.aload_n 0, 1) := by decide +kernel
theorem dX5_begin_69 : decode cX5_begin 69 = .ok (.iload_n 3, 1) := by decide +kernel
theorem dX5_begin_70 : decode cX5_begin 70 = .ok (.invokevirtual 103, 3) := by decide +kernel
theorem dX5_begin_73 : decode cX5_begin 73 = .ok (.iload_n 2, 1) := by decide +kernel
theorem dX5_begin_74 : decode cX5_begin 74 = .ok (.bipush 7, 2) := by decide +kernel
theorem dX5_begin_76 : decode cX5_begin 76 = .ok (.if_icmp .ne 8, 3) := by decide +kernel
theorem dX5_begin_79 : decode cX5_begin 79 = .ok (.aload_n 0, 1) := by decide +kernel
theorem dX5_begin_80 : decode cX5_begin 80 = .ok (.iload_n 3, 1) := by decide +kernel
theorem dX5_begin_81 : decode cX5_begin 81 = .ok (.invokevirtual 106, 3) := by decide +kernel
theorem dX5_begin_84 : decode cX5_begin 84 = .ok (.aload_n 0, 1) := by decide +kernel
theorem dX5_begin_85 : decode cX5_begin 85 = .ok (.iload_n 2, 1) := by decide +kernel
theorem dX5_begin_86 : decode cX5_begin 86 = .ok (.iload_n 3, 1) := by decide +kernel
theorem dX5_begin_87 : decode cX5_begin 87 = .ok (.invokestatic 109, 3) := by decide +kernel
theorem dX5_begin_90 : decode cX5_begin 90 = .ok (.invokevirtual 60, 3) := by decide +kernel
theorem dX5_begin_93 : decode cX5_begin 93 = .ok (.return_, 1) := by decide +kernel

theorem dX5_endsBySemicolon_0 : decode cX5_endsBySemicolon 0 = .ok (.iload_n 0, 1) := by decide +kernel
theorem dX5_endsBySemicolon_1 : decode cX5_endsBySemicolon 1 = .ok (.tableswitch 97 5 24 #[95, 97, 97, 97, 97, 97, 97, 95, 95, 97, 95, 95, 97, 97, 95, 95, 95, 97, 97, 95], 95) := by decide +kernel
theorem dX5_endsBySemicolon_96 : decode cX5_endsBySemicolon 96 = .ok (.iconst 1, 1) := by decide +kernel
theorem dX5_endsBySemicolon_97 : decode cX5_endsBySemicolon 97 = .ok (.ireturn, 1) := by decide +kernel
theorem dX5_endsBySemicolon_98 : decode cX5_endsBySemicolon 98 = .ok (.iconst 0, 1) := by decide +kernel
theorem dX5_endsBySemicolon_99 : decode cX5_endsBySemicolon 99 = .ok (.ireturn, 1) := by decide +kernel

theorem dX5_lastToken_0 : decode cX5_lastToken 0 = .ok (.iload_n 0, 1) := by decide +kernel
theorem dX5_lastToken_1 : decode cX5_lastToken 1 = .ok (.tableswitch 193 1 34 #[151, 155, 159, 163, 193, 193, 193, 193, 193, 193, 193, 193, 187, 193, 167, 171, 193, 193, 175, 193, 193, 179, 183, 193, 193, 193, 193, 187, 193, 193, 193, 190, 193, 187], 151) := by decide +kernel
theorem dX5_lastToken_152 : decode cX5_lastToken 152 = .ok (.sipush 257, 3) := by decide +kernel
theorem dX5_lastToken_155 : decode cX5_lastToken 155 = .ok (.ireturn, 1) := by decide +kernel
theorem dX5_lastToken_156 : decode cX5_lastToken 156 = .ok (.sipush 259, 3) := by decide +kernel
theorem dX5_lastToken_159 : decode cX5_lastToken 159 = .ok (.ireturn, 1) := by decide +kernel
theorem dX5_lastToken_160 : decode cX5_lastToken 160 = .ok (.sipush 261, 3) := by decide +kernel
theorem dX5_lastToken_163 : decode cX5_lastToken 163 = .ok (.ireturn, 1) := by decide +kernel
theorem dX5_lastToken_164 : decode cX5_lastToken 164 = .ok (.sipush 265, 3) := by decide +kernel
theorem dX5_lastToken_167 : decode cX5_lastToken 167 = .ok (.ireturn, 1) := by decide +kernel
theorem dX5_lastToken_168 : decode cX5_lastToken 168 = .ok (.sipush 276, 3) := by decide +kernel
theorem dX5_lastToken_171 : decode cX5_lastToken 171 = .ok (.ireturn, 1) := by decide +kernel
theorem dX5_lastToken_172 : decode cX5_lastToken 172 = .ok (.sipush 278, 3) := by decide +kernel
theorem dX5_lastToken_175 : decode cX5_lastToken 175 = .ok (.ireturn, 1) := by decide +kernel
theorem dX5_lastToken_176 : decode cX5_lastToken 176 = .ok (.sipush 283, 3) := by decide +kernel
theorem dX5_lastToken_179 : decode cX5_lastToken 179 = .ok (.ireturn, 1) := by decide +kernel
theorem dX5_lastToken_180 : decode cX5_lastToken 180 = .ok (.sipush 294, 3) := by decide +kernel
theorem dX5_lastToken_183 : decode cX5_lastToken 183 = .ok (.ireturn, 1) := by decide +kernel
theorem dX5_lastToken_184 : decode cX5_lastToken 184 = .ok (.sipush 296, 3) := by decide +kernel
theorem dX5_lastToken_187 : decode cX5_lastToken 187 = .ok (.ireturn, 1) := by decide +kernel
theorem dX5_lastToken_188 : decode cX5_lastToken 188 = .ok (.bipush 41, 2) := by decide +kernel
theorem dX5_lastToken_190 : decode cX5_lastToken 190 = .ok (.ireturn, 1) := by decide +kernel
theorem dX5_lastToken_191 : decode cX5_lastToken 191 = .ok (.bipush 93, 2) := by decide +kernel
theorem dX5_lastToken_193 : decode cX5_lastToken 193 = .ok (.ireturn, 1) := by decide +kernel
theorem dX5_lastToken_194 : decode cX5_lastToken 194 = .ok (.iconst (-1), 1) := by decide +kernel
theorem dX5_lastToken_195 : decode cX5_lastToken 195 = .ok (.ireturn, 1) := by decide +kernel

theorem dX5_finish_0 : decode cX5_finish 0 = .ok (.aload_n 0, 1) := by decide +kernel
theorem dX5_finish_1 : decode cX5_finish 1 = .ok (.getfield 9, 3) := by decide +kernel
theorem dX5_finish_4 : decode cX5_finish 4 = .ok (.iload_n 1, 1) := by decide +kernel
theorem dX5_finish_5 : decode cX5_finish 5 = .ok (.invokevirtual 55, 3) := by decide +kernel
theorem dX5_finish_8 : decode cX5_finish 8 = .ok (.istore_n 2, 1) := by decide +kernel
theorem dX5_finish_9 : decode cX5_finish 9 = .ok (.iload_n 2, 1) := by decide +kernel
theorem dX5_finish_10 : decode cX5_finish 10 = .ok (.bipush 16, 2) := by decide +kernel
theorem dX5_finish_12 : decode cX5_finish 12 = .ok (.if_icmp .ne 22, 3) := by decide +kernel
theorem dX5_finish_15 : decode cX5_finish 15 = .ok (.aload_n 0, 1) := by decide +kernel
theorem dX5_finish_16 : decode cX5_finish 16 = .ok (.getfield 9, 3) := by decide +kernel
theorem dX5_finish_19 : decode cX5_finish 19 = .ok (.iload_n 1, 1) := by decide +kernel
theorem dX5_finish_20 : decode cX5_finish 20 = .ok (.invokevirtual 121, 3) := by decide +kernel
theorem dX5_finish_23 : decode cX5_finish 23 = .ok (.iconst 1, 1) := by decide +kernel
theorem dX5_finish_24 : decode cX5_finish 24 = .ok (.if_icmp .ne 10, 3) := by decide +kernel
theorem dX5_finish_27 : decode cX5_finish 27 = .ok (.aload_n 0, 1) := by decide +kernel
theorem dX5_finish_28 : decode cX5_finish 28 = .ok (.sipush 271, 3) := by decide +kernel
theorem dX5_finish_31 : decode cX5_finish 31 = .ok (.invokevirtual 60, 3) := by decide +kernel
theorem dX5_finish_34 : decode cX5_finish 34 = .ok (.iload_n 2, 1) := by decide +kernel
theorem dX5_finish_35 : decode cX5_finish 35 = .ok (.bipush 35, 2) := by decide +kernel
theorem dX5_finish_37 : decode cX5_finish 37 = .ok (.if_icmp .ne 17, 3) := by decide +kernel
theorem dX5_finish_40 : decode cX5_finish 40 = .ok (.aload_n 0, 1) := by decide +kernel
theorem dX5_finish_41 : decode cX5_finish 41 = .ok (.iload_n 1, 1) := by decide +kernel
theorem dX5_finish_42 : decode cX5_finish 42 = .ok (.invokevirtual 93, 3) := by decide +kernel
theorem dX5_finish_45 : decode cX5_finish 45 = .ok (.ifCond .eq 9, 3) := by decide +kernel
theorem dX5_finish_48 : decode cX5_finish 48 = .ok (.aload_n 0, 1) := by decide +kernel
theorem dX5_finish_49 : decode cX5_finish 49 = .ok (.bipush 41, 2) := by decide +kernel
theorem dX5_finish_51 : decode cX5_finish 51 = .ok (.invokevirtual 60, 3) := by decide +kernel
theorem dX5_finish_54 : decode cX5_finish 54 = .ok (.aload_n 0, 1) := by decide +kernel
theorem dX5_finish_55 : decode cX5_finish 55 = .ok (.iload_n 2, 1) := by decide +kernel
theorem dX5_finish_56 : decode cX5_finish 56 = .ok (.invokestatic 124, 3) := by decide +kernel
theorem dX5_finish_59 : decode cX5_finish 59 = .ok (.invokevirtual 60, 3) := by decide +kernel
theorem dX5_finish_62 : decode cX5_finish 62 = .ok (.iload_n 2, 1) := by decide +kernel
theorem dX5_finish_63 : decode cX5_finish 63 = .ok (.invokestatic 127, 3) := by decide +kernel
theorem dX5_finish_66 : decode cX5_finish 66 = .ok (.ifCond .eq 9, 3) := by decide +kernel
theorem dX5_finish_69 : decode cX5_finish 69 = .ok (.aload_n 0, 1) := by decide +kernel
theorem dX5_finish_70 : decode cX5_finish 70 = .ok (.bipush 59, 2) := by decide +kernel
theorem dX5_finish_72 : decode cX5_finish 72 = .ok (.invokevirtual 60, 3) := by decide +kernel
theorem dX5_finish_75 : decode cX5_finish 75 = .ok (.return_, 1) := by decide +kernel

theorem dX5_finishUpTo_0 : decode cX5_finishUpTo 0 = .ok (.iload_n 1, 1) := by decide +kernel
theorem dX5_finishUpTo_1 : decode cX5_finishUpTo 1 = .ok (.istore_n 3, 1) := by decide +kernel
theorem dX5_finishUpTo_2 : decode cX5_finishUpTo 2 = .ok (.iconst 0, 1) := by decide +kernel
theorem dX5_finishUpTo_3 : decode cX5_finishUpTo 3 = .ok (.istore 4, 2) := by decide +kernel
theorem dX5_finishUpTo_5 : decode cX5_finishUpTo 5 = .ok (.iload 4, 2) := by decide +kernel
theorem dX5_finishUpTo_7 : decode cX5_finishUpTo 7 = .ok (.sipush 16384, 3) := by decide +kernel
theorem dX5_finishUpTo_10 : decode cX5_finishUpTo 10 = .ok (.if_icmp .ge 33, 3) := by decide +kernel
theorem dX5_finishUpTo_13 : decode cX5_finishUpTo 13 = .ok (.iload_n 3, 1) := by decide +kernel
theorem dX5_finishUpTo_14 : decode cX5_finishUpTo 14 = .ok (.iload_n 2, 1) := by decide +kernel
theorem dX5_finishUpTo_15 : decode cX5_finishUpTo 15 = .ok (.if_icmp .eq 28, 3) := by decide +kernel
theorem dX5_finishUpTo_18 : decode cX5_finishUpTo 18 = .ok (.iload_n 3, 1) := by decide +kernel
theorem dX5_finishUpTo_19 : decode cX5_finishUpTo 19 = .ok (.iconst (-1), 1) := by decide +kernel
theorem dX5_finishUpTo_20 : decode cX5_finishUpTo 20 = .ok (.if_icmp .eq 23, 3) := by decide +kernel
theorem dX5_finishUpTo_23 : decode cX5_finishUpTo 23 = .ok (.aload_n 0, 1) := by decide +kernel
theorem dX5_finishUpTo_24 : decode cX5_finishUpTo 24 = .ok (.iload_n 3, 1) := by decide +kernel
theorem dX5_finishUpTo_25 : decode cX5_finishUpTo 25 = .ok (.invokevirtual 49, 3) := by decide +kernel
theorem dX5_finishUpTo_28 : decode cX5_finishUpTo 28 = .ok (.aload_n 0, 1) := by decide +kernel
theorem dX5_finishUpTo_29 : decode cX5_finishUpTo 29 = .ok (.getfield 9, 3) := by decide +kernel
theorem dX5_finishUpTo_32 : decode cX5_finishUpTo 32 = .ok (.iload_n 3, 1) := by decide +kernel
theorem dX5_finishUpTo_33 : decode cX5_finishUpTo 33 = .ok (.invokevirtual 35, 3) := by decide +kernel
theorem dX5_finishUpTo_36 : decode cX5_finishUpTo 36 = .ok (.istore_n 3, 1) := by decide +kernel
theorem dX5_finishUpTo_37 : decode cX5_finishUpTo 37 = .ok (.iinc 4 1, 3) := by decide +kernel
theorem dX5_finishUpTo_40 : decode cX5_finishUpTo 40 = .ok (.goto (-35), 3) := by decide +kernel
theorem dX5_finishUpTo_43 : decode cX5_finishUpTo 43 = .ok (.return_, 1) := by decide +kernel

theorem dX5_behindFirst_0 : decode cX5_behindFirst 0 = .ok (.iload_n 0, 1) := by decide +kernel
theorem dX5_behindFirst_1 : decode cX5_behindFirst 1 = .ok (.ifCond .le 7, 3) := by decide +kernel
theorem dX5_behindFirst_4 : decode cX5_behindFirst 4 = .ok (.iload_n 1, 1) := by decide +kernel
theorem dX5_behindFirst_5 : decode cX5_behindFirst 5 = .ok (.goto 4, 3) := by decide +kernel
theorem dX5_behindFirst_8 : decode cX5_behindFirst 8 = .ok (.iconst (-1), 1) := by decide +kernel
theorem dX5_behindFirst_9 : decode cX5_behindFirst 9 = .ok (.ireturn, 1) := by decide +kernel

theorem dX5_separatorInDeclaration_0 : decode cX5_separatorInDeclaration 0 = .ok (.iload_n 0, 1) := by decide +kernel
theorem dX5_separatorInDeclaration_1 : decode cX5_separatorInDeclaration 1 = .ok (.lookupswitch 58 #[(6, 43), (7, 50), (30, 54), (31, 54)], 43) := by decide +kernel
theorem dX5_separatorInDeclaration_44 : decode cX5_separatorInDeclaration 44 = .ok (.iload_n 1, 1) := by decide +kernel
theorem dX5_separatorInDeclaration_45 : decode cX5_separatorInDeclaration 45 = .ok (.bipush 44, 2) := by decide +kernel
theorem dX5_separatorInDeclaration_47 : decode cX5_separatorInDeclaration 47 = .ok (.invokestatic 84, 3) := by decide +kernel
theorem dX5_separatorInDeclaration_50 : decode cX5_separatorInDeclaration 50 = .ok (.ireturn, 1) := by decide +kernel
theorem dX5_separatorInDeclaration_51 : decode cX5_separatorInDeclaration 51 = .ok (.sipush 266, 3) := by decide +kernel
theorem dX5_separatorInDeclaration_54 : decode cX5_separatorInDeclaration 54 = .ok (.ireturn, 1) := by decide +kernel
theorem dX5_separatorInDeclaration_55 : decode cX5_separatorInDeclaration 55 = .ok (.sipush 14909, 3) := by decide +kernel
theorem dX5_separatorInDeclaration_58 : decode cX5_separatorInDeclaration 58 = .ok (.ireturn, 1) := by decide +kernel
theorem dX5_separatorInDeclaration_59 : decode cX5_separatorInDeclaration 59 = .ok (.bipush 58, 2) := by decide +kernel
theorem dX5_separatorInDeclaration_61 : decode cX5_separatorInDeclaration 61 = .ok (.ireturn, 1) := by decide +kernel

theorem dX5_separatorInFor_0 : decode cX5_separatorInFor 0 = .ok (.iload_n 0, 1) := by decide +kernel
theorem dX5_separatorInFor_1 : decode cX5_separatorInFor 1 = .ok (.bipush 11, 2) := by decide +kernel
theorem dX5_separatorInFor_3 : decode cX5_separatorInFor 3 = .ok (.if_icmp .ne 7, 3) := by decide +kernel
theorem dX5_separatorInFor_6 : decode cX5_separatorInFor 6 = .ok (.sipush 282, 3) := by decide +kernel
theorem dX5_separatorInFor_9 : decode cX5_separatorInFor 9 = .ok (.ireturn, 1) := by decide +kernel
theorem dX5_separatorInFor_10 : decode cX5_separatorInFor 10 = .ok (.iload_n 1, 1) := by decide +kernel
theorem dX5_separatorInFor_11 : decode cX5_separatorInFor 11 = .ok (.iload_n 1, 1) := by decide +kernel
theorem dX5_separatorInFor_12 : decode cX5_separatorInFor 12 = .ok (.iconst 1, 1) := by decide +kernel
theorem dX5_separatorInFor_13 : decode cX5_separatorInFor 13 = .ok (.if_icmp .ne 9, 3) := by decide +kernel
theorem dX5_separatorInFor_16 : decode cX5_separatorInFor 16 = .ok (.sipush 280, 3) := by decide +kernel
theorem dX5_separatorInFor_19 : decode cX5_separatorInFor 19 = .ok (.goto 6, 3) := by decide +kernel
theorem dX5_separatorInFor_22 : decode cX5_separatorInFor 22 = .ok (.sipush 281, 3) := by decide +kernel
theorem dX5_separatorInFor_25 : decode cX5_separatorInFor 25 = .ok (.invokestatic 84, 3) := by decide +kernel
theorem dX5_separatorInFor_28 : decode cX5_separatorInFor 28 = .ok (.ireturn, 1) := by decide +kernel

theorem dX5_separatorInIf_0 : decode cX5_separatorInIf 0 = .ok (.iload_n 1, 1) := by decide +kernel
theorem dX5_separatorInIf_1 : decode cX5_separatorInIf 1 = .ok (.iconst 2, 1) := by decide +kernel
theorem dX5_separatorInIf_2 : decode cX5_separatorInIf 2 = .ok (.irem, 1) := by decide +kernel
theorem dX5_separatorInIf_3 : decode cX5_separatorInIf 3 = .ok (.iconst 1, 1) := by decide +kernel
theorem dX5_separatorInIf_4 : decode cX5_separatorInIf 4 = .ok (.if_icmp .ne 7, 3) := by decide +kernel
theorem dX5_separatorInIf_7 : decode cX5_separatorInIf 7 = .ok (.sipush 273, 3) := by decide +kernel
theorem dX5_separatorInIf_10 : decode cX5_separatorInIf 10 = .ok (.ireturn, 1) := by decide +kernel
theorem dX5_separatorInIf_11 : decode cX5_separatorInIf 11 = .ok (.iload_n 1, 1) := by decide +kernel
theorem dX5_separatorInIf_12 : decode cX5_separatorInIf 12 = .ok (.iload_n 0, 1) := by decide +kernel
theorem dX5_separatorInIf_13 : decode cX5_separatorInIf 13 = .ok (.bipush 11, 2) := by decide +kernel
theorem dX5_separatorInIf_15 : decode cX5_separatorInIf 15 = .ok (.if_icmp .ne 9, 3) := by decide +kernel
theorem dX5_separatorInIf_18 : decode cX5_separatorInIf 18 = .ok (.sipush 275, 3) := by decide +kernel
theorem dX5_separatorInIf_21 : decode cX5_separatorInIf 21 = .ok (.goto 6, 3) := by decide +kernel
theorem dX5_separatorInIf_24 : decode cX5_separatorInIf 24 = .ok (.sipush 274, 3) := by decide +kernel
theorem dX5_separatorInIf_27 : decode cX5_separatorInIf 27 = .ok (.invokestatic 84, 3) := by decide +kernel
theorem dX5_separatorInIf_30 : decode cX5_separatorInIf 30 = .ok (.ireturn, 1) := by decide +kernel

theorem dX5_separator_0 : decode cX5_separator 0 = .ok (.iload_n 0, 1) := by decide +kernel
theorem dX5_separator_1 : decode cX5_separator 1 = .ok (.tableswitch 231 5 34 #[135, 231, 231, 231, 141, 231, 231, 215, 208, 231, 164, 170, 184, 223, 202, 231, 231, 231, 231, 231, 231, 231, 231, 231, 231, 231, 231, 231, 231, 208], 135) := by decide +kernel
theorem dX5_separator_136 : decode cX5_separator 136 = .ok (.iload_n 1, 1) := by decide +kernel
theorem dX5_separator_137 : decode cX5_separator 137 = .ok (.iload_n 2, 1) := by decide +kernel
theorem dX5_separator_138 : decode cX5_separator 138 = .ok (.invokestatic 77, 3) := by decide +kernel
theorem dX5_separator_141 : decode cX5_separator 141 = .ok (.ireturn, 1) := by decide +kernel
theorem dX5_separator_142 : decode cX5_separator 142 = .ok (.iload_n 2, 1) := by decide +kernel
theorem dX5_separator_143 : decode cX5_separator 143 = .ok (.ifCond .ne 7, 3) := by decide +kernel
theorem dX5_separator_146 : decode cX5_separator 146 = .ok (.iconst (-1), 1) := by decide +kernel
theorem dX5_separator_147 : decode cX5_separator 147 = .ok (.goto 17, 3) := by decide +kernel
theorem dX5_separator_150 : decode cX5_separator 150 = .ok (.iload_n 2, 1) := by decide +kernel
theorem dX5_separator_151 : decode cX5_separator 151 = .ok (.iconst 1, 1) := by decide +kernel
theorem dX5_separator_152 : decode cX5_separator 152 = .ok (.if_icmp .ne 9, 3) := by decide +kernel
theorem dX5_separator_155 : decode cX5_separator 155 = .ok (.sipush 11822, 3) := by decide +kernel
theorem dX5_separator_158 : decode cX5_separator 158 = .ok (.goto 6, 3) := by decide +kernel
theorem dX5_separator_161 : decode cX5_separator 161 = .ok (.sipush 271, 3) := by decide +kernel
theorem dX5_separator_164 : decode cX5_separator 164 = .ok (.ireturn, 1) := by decide +kernel
theorem dX5_separator_165 : decode cX5_separator 165 = .ok (.iload_n 1, 1) := by decide +kernel
theorem dX5_separator_166 : decode cX5_separator 166 = .ok (.iload_n 2, 1) := by decide +kernel
theorem dX5_separator_167 : decode cX5_separator 167 = .ok (.invokestatic 81, 3) := by decide +kernel
theorem dX5_separator_170 : decode cX5_separator 170 = .ok (.ireturn, 1) := by decide +kernel
theorem dX5_separator_171 : decode cX5_separator 171 = .ok (.iload_n 1, 1) := by decide +kernel
theorem dX5_separator_172 : decode cX5_separator 172 = .ok (.bipush 11, 2) := by decide +kernel
theorem dX5_separator_174 : decode cX5_separator 174 = .ok (.if_icmp .ne 9, 3) := by decide +kernel
theorem dX5_separator_177 : decode cX5_separator 177 = .ok (.sipush 275, 3) := by decide +kernel
theorem dX5_separator_180 : decode cX5_separator 180 = .ok (.goto 4, 3) := by decide +kernel
theorem dX5_separator_183 : decode cX5_separator 183 = .ok (.iconst (-1), 1) := by decide +kernel
theorem dX5_separator_184 : decode cX5_separator 184 = .ok (.ireturn, 1) := by decide +kernel
theorem dX5_separator_185 : decode cX5_separator 185 = .ok (.iload_n 1, 1) := by decide +kernel
theorem dX5_separator_186 : decode cX5_separator 186 = .ok (.bipush 11, 2) := by decide +kernel
theorem dX5_separator_188 : decode cX5_separator 188 = .ok (.if_icmp .ne 8, 3) := by decide +kernel
theorem dX5_separator_191 : decode cX5_separator 191 = .ok (.bipush 58, 2) := by decide +kernel
theorem dX5_separator_193 : decode cX5_separator 193 = .ok (.goto 9, 3) := by decide +kernel
theorem dX5_separator_196 : decode cX5_separator 196 = .ok (.iload_n 2, 1) := by decide +kernel
theorem dX5_separator_197 : decode cX5_separator 197 = .ok (.bipush 44, 2) := by decide +kernel
theorem dX5_separator_199 : decode cX5_separator 199 = .ok (.invokestatic 84, 3) := by decide +kernel
theorem dX5_separator_202 : decode cX5_separator 202 = .ok (.ireturn, 1) := by decide +kernel
theorem dX5_separator_203 : decode cX5_separator 203 = .ok (.iload_n 1, 1) := by decide +kernel
theorem dX5_separator_204 : decode cX5_separator 204 = .ok (.iload_n 2, 1) := by decide +kernel
theorem dX5_separator_205 : decode cX5_separator 205 = .ok (.invokestatic 87, 3) := by decide +kernel
theorem dX5_separator_208 : decode cX5_separator 208 = .ok (.ireturn, 1) := by decide +kernel
theorem dX5_separator_209 : decode cX5_separator 209 = .ok (.iload_n 2, 1) := by decide +kernel
theorem dX5_separator_210 : decode cX5_separator 210 = .ok (.bipush 44, 2) := by decide +kernel
theorem dX5_separator_212 : decode cX5_separator 212 = .ok (.invokestatic 84, 3) := by decide +kernel
theorem dX5_separator_215 : decode cX5_separator 215 = .ok (.ireturn, 1) := by decide +kernel
theorem dX5_separator_216 : decode cX5_separator 216 = .ok (.iload_n 2, 1) := by decide +kernel
theorem dX5_separator_217 : decode cX5_separator 217 = .ok (.sipush 14909, 3) := by decide +kernel
theorem dX5_separator_220 : decode cX5_separator 220 = .ok (.invokestatic 84, 3) := by decide +kernel
theorem dX5_separator_223 : decode cX5_separator 223 = .ok (.ireturn, 1) := by decide +kernel
theorem dX5_separator_224 : decode cX5_separator 224 = .ok (.iload_n 2, 1) := by decide +kernel
theorem dX5_separator_225 : decode cX5_separator 225 = .ok (.sipush 11822, 3) := by decide +kernel
theorem dX5_separator_228 : decode cX5_separator 228 = .ok (.invokestatic 84, 3) := by decide +kernel
theorem dX5_separator_231 : decode cX5_separator 231 = .ok (.ireturn, 1) := by decide +kernel
theorem dX5_separator_232 : decode cX5_separator 232 = .ok (.iconst (-1), 1) := by decide +kernel
theorem dX5_separator_233 : decode cX5_separator 233 = .ok (.ireturn, 1) := by decide +kernel

theorem dX5_separate_0 : decode cX5_separate 0 = .ok (.aload_n 0, 1) := by decide +kernel
theorem dX5_separate_1 : decode cX5_separate 1 = .ok (.getfield 9, 3) := by decide +kernel
theorem dX5_separate_4 : decode cX5_separate 4 = .ok (.iload_n 1, 1) := by decide +kernel
theorem dX5_separate_5 : decode cX5_separate 5 = .ok (.invokevirtual 52, 3) := by decide +kernel
theorem dX5_separate_8 : decode cX5_separate 8 = .ok (.istore_n 2, 1) := by decide +kernel
theorem dX5_separate_9 : decode cX5_separate 9 = .ok (.aload_n 0, 1) := by decide +kernel
theorem dX5_separate_10 : decode cX5_separate 10 = .ok (.getfield 9, 3) := by decide +kernel
theorem dX5_separate_13 : decode cX5_separate 13 = .ok (.iload_n 1, 1) := by decide +kernel
theorem dX5_separate_14 : decode cX5_separate 14 = .ok (.invokevirtual 35, 3) := by decide +kernel
theorem dX5_separate_17 : decode cX5_separate 17 = .ok (.istore_n 3, 1) := by decide +kernel
theorem dX5_separate_18 : decode cX5_separate 18 = .ok (.aload_n 0, 1) := by decide +kernel
theorem dX5_separate_19 : decode cX5_separate 19 = .ok (.getfield 9, 3) := by decide +kernel
theorem dX5_separate_22 : decode cX5_separate 22 = .ok (.iload_n 3, 1) := by decide +kernel
theorem dX5_separate_23 : decode cX5_separate 23 = .ok (.invokevirtual 55, 3) := by decide +kernel
theorem dX5_separate_26 : decode cX5_separate 26 = .ok (.istore 4, 2) := by decide +kernel
theorem dX5_separate_28 : decode cX5_separate 28 = .ok (.iload 4, 2) := by decide +kernel
theorem dX5_separate_30 : decode cX5_separate 30 = .ok (.bipush 9, 2) := by decide +kernel
theorem dX5_separate_32 : decode cX5_separate 32 = .ok (.if_icmp .ne 14, 3) := by decide +kernel
theorem dX5_separate_35 : decode cX5_separate 35 = .ok (.iload_n 2, 1) := by decide +kernel
theorem dX5_separate_36 : decode cX5_separate 36 = .ok (.iconst 2, 1) := by decide +kernel
theorem dX5_separate_37 : decode cX5_separate 37 = .ok (.if_icmp .ne 9, 3) := by decide +kernel
theorem dX5_separate_40 : decode cX5_separate 40 = .ok (.aload_n 0, 1) := by decide +kernel
theorem dX5_separate_41 : decode cX5_separate 41 = .ok (.bipush 93, 2) := by decide +kernel
theorem dX5_separate_43 : decode cX5_separate 43 = .ok (.invokevirtual 60, 3) := by decide +kernel
theorem dX5_separate_46 : decode cX5_separate 46 = .ok (.iload 4, 2) := by decide +kernel
theorem dX5_separate_48 : decode cX5_separate 48 = .ok (.bipush 16, 2) := by decide +kernel
theorem dX5_separate_50 : decode cX5_separate 50 = .ok (.if_icmp .ne 15, 3) := by decide +kernel
theorem dX5_separate_53 : decode cX5_separate 53 = .ok (.iload_n 2, 1) := by decide +kernel
theorem dX5_separate_54 : decode cX5_separate 54 = .ok (.iconst 1, 1) := by decide +kernel
theorem dX5_separate_55 : decode cX5_separate 55 = .ok (.if_icmp .ne 10, 3) := by decide +kernel
theorem dX5_separate_58 : decode cX5_separate 58 = .ok (.aload_n 0, 1) := by decide +kernel
theorem dX5_separate_59 : decode cX5_separate 59 = .ok (.sipush 271, 3) := by decide +kernel
theorem dX5_separate_62 : decode cX5_separate 62 = .ok (.invokevirtual 60, 3) := by decide +kernel
theorem dX5_separate_65 : decode cX5_separate 65 = .ok (.iload 4, 2) := by decide +kernel
theorem dX5_separate_67 : decode cX5_separate 67 = .ok (.bipush 35, 2) := by decide +kernel
theorem dX5_separate_69 : decode cX5_separate 69 = .ok (.if_icmp .ne 23, 3) := by decide +kernel
theorem dX5_separate_72 : decode cX5_separate 72 = .ok (.iload_n 2, 1) := by decide +kernel
theorem dX5_separate_73 : decode cX5_separate 73 = .ok (.iconst 1, 1) := by decide +kernel
theorem dX5_separate_74 : decode cX5_separate 74 = .ok (.if_icmp .ne 18, 3) := by decide +kernel
theorem dX5_separate_77 : decode cX5_separate 77 = .ok (.aload_n 0, 1) := by decide +kernel
theorem dX5_separate_78 : decode cX5_separate 78 = .ok (.aload_n 0, 1) := by decide +kernel
theorem dX5_separate_79 : decode cX5_separate 79 = .ok (.getfield 9, 3) := by decide +kernel
theorem dX5_separate_82 : decode cX5_separate 82 = .ok (.iload_n 3, 1) := by decide +kernel
theorem dX5_separate_83 : decode cX5_separate 83 = .ok (.invokevirtual 65, 3) := by decide +kernel
theorem dX5_separate_86 : decode cX5_separate 86 = .ok (.invokestatic 68, 3) := by decide +kernel
theorem dX5_separate_89 : decode cX5_separate 89 = .ok (.invokevirtual 60, 3) := by decide +kernel
theorem dX5_separate_92 : decode cX5_separate 92 = .ok (.aload_n 0, 1) := by decide +kernel
theorem dX5_separate_93 : decode cX5_separate 93 = .ok (.iload 4, 2) := by decide +kernel
theorem dX5_separate_95 : decode cX5_separate 95 = .ok (.aload_n 0, 1) := by decide +kernel
theorem dX5_separate_96 : decode cX5_separate 96 = .ok (.getfield 9, 3) := by decide +kernel
theorem dX5_separate_99 : decode cX5_separate 99 = .ok (.iload_n 1, 1) := by decide +kernel
theorem dX5_separate_100 : decode cX5_separate 100 = .ok (.invokevirtual 55, 3) := by decide +kernel
theorem dX5_separate_103 : decode cX5_separate 103 = .ok (.iload_n 2, 1) := by decide +kernel
theorem dX5_separate_104 : decode cX5_separate 104 = .ok (.invokestatic 73, 3) := by decide +kernel
theorem dX5_separate_107 : decode cX5_separate 107 = .ok (.invokevirtual 60, 3) := by decide +kernel
theorem dX5_separate_110 : decode cX5_separate 110 = .ok (.return_, 1) := by decide +kernel

theorem dX5_writeTree_0 : decode cX5_writeTree 0 = .ok (.aload_n 0, 1) := by decide +kernel
theorem dX5_writeTree_1 : decode cX5_writeTree 1 = .ok (.getfield 19, 3) := by decide +kernel
theorem dX5_writeTree_4 : decode cX5_writeTree 4 = .ok (.iconst 0, 1) := by decide +kernel
theorem dX5_writeTree_5 : decode cX5_writeTree 5 = .ok (.invokevirtual 23, 3) := by decide +kernel
theorem dX5_writeTree_8 : decode cX5_writeTree 8 = .ok (.iconst (-1), 1) := by decide +kernel
theorem dX5_writeTree_9 : decode cX5_writeTree 9 = .ok (.istore_n 1, 1) := by decide +kernel
theorem dX5_writeTree_10 : decode cX5_writeTree 10 = .ok (.iconst 0, 1) := by decide +kernel
theorem dX5_writeTree_11 : decode cX5_writeTree 11 = .ok (.istore_n 2, 1) := by decide +kernel
theorem dX5_writeTree_12 : decode cX5_writeTree 12 = .ok (.iload_n 2, 1) := by decide +kernel
theorem dX5_writeTree_13 : decode cX5_writeTree 13 = .ok (.aload_n 0, 1) := by decide +kernel
theorem dX5_writeTree_14 : decode cX5_writeTree 14 = .ok (.getfield 9, 3) := by decide +kernel
theorem dX5_writeTree_17 : decode cX5_writeTree 17 = .ok (.getfield 29, 3) := by decide +kernel
theorem dX5_writeTree_20 : decode cX5_writeTree 20 = .ok (.if_icmp .ge 34, 3) := by decide +kernel
theorem dX5_writeTree_23 : decode cX5_writeTree 23 = .ok (.aload_n 0, 1) := by decide +kernel
theorem dX5_writeTree_24 : decode cX5_writeTree 24 = .ok (.iload_n 1, 1) := by decide +kernel
theorem dX5_writeTree_25 : decode cX5_writeTree 25 = .ok (.aload_n 0, 1) := by decide +kernel
theorem dX5_writeTree_26 : decode cX5_writeTree 26 = .ok (.getfield 9, 3) := by decide +kernel
theorem dX5_writeTree_29 : decode cX5_writeTree 29 = .ok (.iload_n 2, 1) := by decide +kernel
theorem dX5_writeTree_30 : decode cX5_writeTree 30 = .ok (.invokevirtual 35, 3) := by decide +kernel
theorem dX5_writeTree_33 : decode cX5_writeTree 33 = .ok (.invokevirtual 39, 3) := by decide +kernel
theorem dX5_writeTree_36 : decode cX5_writeTree 36 = .ok (.aload_n 0, 1) := by decide +kernel
theorem dX5_writeTree_37 : decode cX5_writeTree 37 = .ok (.iload_n 2, 1) := by decide +kernel
theorem dX5_writeTree_38 : decode cX5_writeTree 38 = .ok (.invokevirtual 43, 3) := by decide +kernel
theorem dX5_writeTree_41 : decode cX5_writeTree 41 = .ok (.aload_n 0, 1) := by decide +kernel
theorem dX5_writeTree_42 : decode cX5_writeTree 42 = .ok (.iload_n 2, 1) := by decide +kernel
theorem dX5_writeTree_43 : decode cX5_writeTree 43 = .ok (.invokevirtual 46, 3) := by decide +kernel
theorem dX5_writeTree_46 : decode cX5_writeTree 46 = .ok (.iload_n 2, 1) := by decide +kernel
theorem dX5_writeTree_47 : decode cX5_writeTree 47 = .ok (.istore_n 1, 1) := by decide +kernel
theorem dX5_writeTree_48 : decode cX5_writeTree 48 = .ok (.iinc 2 1, 3) := by decide +kernel
theorem dX5_writeTree_51 : decode cX5_writeTree 51 = .ok (.goto (-39), 3) := by decide +kernel
theorem dX5_writeTree_54 : decode cX5_writeTree 54 = .ok (.aload_n 0, 1) := by decide +kernel
theorem dX5_writeTree_55 : decode cX5_writeTree 55 = .ok (.iload_n 1, 1) := by decide +kernel
theorem dX5_writeTree_56 : decode cX5_writeTree 56 = .ok (.iconst (-1), 1) := by decide +kernel
theorem dX5_writeTree_57 : decode cX5_writeTree 57 = .ok (.invokevirtual 39, 3) := by decide +kernel
theorem dX5_writeTree_60 : decode cX5_writeTree 60 = .ok (.return_, 1) := by decide +kernel
