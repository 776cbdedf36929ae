set_option maxHeartbeats 4000000 in
set_option maxRecDepth 100000 in
theorem c_Writer_firstToken (l : Launch) (D : va_G) (cI : ClassId) (sd : Nat → Nat) (ad : Nat → Nat) (a1 : Int32) (a2 : Int32) (res : Int32) (hM : f_Writer_firstToken a1 a2 = some res) : Ctr l D cI sd yX5_firstToken (wsM yX5_firstToken cX5_firstToken 2 (Option.some Jvm.ClassFile.FieldType.int)) { frames := 1, cells := 0, slots := 0, locals := 20 } [.int a1, .int a2] (([] : va_W)) (([] : va_W)) (some (.int res)) := by
  refine Ctr.of (cc := cX5_firstToken) (maxL := 2) (own := RX5) (by decide +kernel) rfl rfl (Nat.le_of_ble_eq_true rfl) ?_
  intro p e s m below meth c A ls hx hb hr hml hown hts hlk hK hE hA hP hD hS hl
  have hl : lv_has ls 2 [(0, .int a1), (1, .int a2)] := hl
  unfold f_Writer_firstToken at hM
  refine lv_iload_n hx hb dX5_firstToken_0 rfl (lv_at hl 0 rfl) ?_
  by_cases c1 : a1 = 1
  · replace hM := if_t c1 hM
    refine lv_tableIn (tgt := 160) hx hb dX5_firstToken_1 (by rw [c1]; decide) (by rw [c1]; decide) (by rw [c1]; rfl) (by decide) ?_
    refine lv_sipush (v := 256) hx hb dX5_firstToken_160 (by decide) ?_
    cases hM
    exact rt_i hx hb hr hlk hP hD hS rfl dX5_firstToken_163
  replace hM := if_f c1 hM
  by_cases c2 : a1 = 2
  · replace hM := if_t c2 hM
    refine lv_tableIn (tgt := 164) hx hb dX5_firstToken_1 (by rw [c2]; decide) (by rw [c2]; decide) (by rw [c2]; rfl) (by decide) ?_
    refine lv_sipush (v := 258) hx hb dX5_firstToken_164 (by decide) ?_
    cases hM
    exact rt_i hx hb hr hlk hP hD hS rfl dX5_firstToken_167
  replace hM := if_f c2 hM
  by_cases c3 : a1 = 3
  · replace hM := if_t c3 hM
    refine lv_tableIn (tgt := 168) hx hb dX5_firstToken_1 (by rw [c3]; decide) (by rw [c3]; decide) (by rw [c3]; rfl) (by decide) ?_
    refine lv_sipush (v := 260) hx hb dX5_firstToken_168 (by decide) ?_
    cases hM
    exact rt_i hx hb hr hlk hP hD hS rfl dX5_firstToken_171
  replace hM := if_f c3 hM
  by_cases c4 : a1 = 4
  · replace hM := if_t c4 hM
    refine lv_tableIn (tgt := 172) hx hb dX5_firstToken_1 (by rw [c4]; decide) (by rw [c4]; decide) (by rw [c4]; rfl) (by decide) ?_
    refine lv_sipush (v := 262) hx hb dX5_firstToken_172 (by decide) ?_
    refine lv_iload_n hx hb dX5_firstToken_175 rfl (lv_at hl 1 rfl) ?_
    refine lv_iadd hx hb dX5_firstToken_176 ?_
    cases hM
    exact rt_i hx hb hr hlk hP hD hS rfl dX5_firstToken_177
  replace hM := if_f c4 hM
  by_cases c5 : a1 = 5
  · replace hM := if_t c5 hM
    refine lv_tableIn (tgt := 262) hx hb dX5_firstToken_1 (by rw [c5]; decide) (by rw [c5]; decide) (by rw [c5]; rfl) (by decide) ?_
    refine lv_iconst (v := (-1)) hx hb dX5_firstToken_262 (by decide) ?_
    cases hM
    exact rt_i hx hb hr hlk hP hD hS rfl dX5_firstToken_263
  replace hM := if_f c5 hM
  by_cases c6 : a1 = 6
  · replace hM := if_t c6 hM
    refine lv_tableIn (tgt := 262) hx hb dX5_firstToken_1 (by rw [c6]; decide) (by rw [c6]; decide) (by rw [c6]; rfl) (by decide) ?_
    refine lv_iconst (v := (-1)) hx hb dX5_firstToken_262 (by decide) ?_
    cases hM
    exact rt_i hx hb hr hlk hP hD hS rfl dX5_firstToken_263
  replace hM := if_f c6 hM
  by_cases c7 : a1 = 7
  · replace hM := if_t c7 hM
    refine lv_tableIn (tgt := 262) hx hb dX5_firstToken_1 (by rw [c7]; decide) (by rw [c7]; decide) (by rw [c7]; rfl) (by decide) ?_
    refine lv_iconst (v := (-1)) hx hb dX5_firstToken_262 (by decide) ?_
    cases hM
    exact rt_i hx hb hr hlk hP hD hS rfl dX5_firstToken_263
  replace hM := if_f c7 hM
  by_cases c8 : a1 = 8
  · replace hM := if_t c8 hM
    refine lv_tableIn (tgt := 178) hx hb dX5_firstToken_1 (by rw [c8]; decide) (by rw [c8]; decide) (by rw [c8]; rfl) (by decide) ?_
    refine lv_sipush (v := 267) hx hb dX5_firstToken_178 (by decide) ?_
    refine lv_iload_n hx hb dX5_firstToken_181 rfl (lv_at hl 1 rfl) ?_
    refine lv_iadd hx hb dX5_firstToken_182 ?_
    cases hM
    exact rt_i hx hb hr hlk hP hD hS rfl dX5_firstToken_183
  replace hM := if_f c8 hM
  by_cases c9 : a1 = 9
  · replace hM := if_t c9 hM
    refine lv_tableIn (tgt := 184) hx hb dX5_firstToken_1 (by rw [c9]; decide) (by rw [c9]; decide) (by rw [c9]; rfl) (by decide) ?_
    refine lv_sipush (v := 270) hx hb dX5_firstToken_184 (by decide) ?_
    cases hM
    exact rt_i hx hb hr hlk hP hD hS rfl dX5_firstToken_187
  replace hM := if_f c9 hM
  by_cases c10 : a1 = 10
  · replace hM := if_t c10 hM
    refine lv_tableIn (tgt := 262) hx hb dX5_firstToken_1 (by rw [c10]; decide) (by rw [c10]; decide) (by rw [c10]; rfl) (by decide) ?_
    refine lv_iconst (v := (-1)) hx hb dX5_firstToken_262 (by decide) ?_
    cases hM
    exact rt_i hx hb hr hlk hP hD hS rfl dX5_firstToken_263
  replace hM := if_f c10 hM
  by_cases c11 : a1 = 11
  · replace hM := if_t c11 hM
    refine lv_tableIn (tgt := 262) hx hb dX5_firstToken_1 (by rw [c11]; decide) (by rw [c11]; decide) (by rw [c11]; rfl) (by decide) ?_
    refine lv_iconst (v := (-1)) hx hb dX5_firstToken_262 (by decide) ?_
    cases hM
    exact rt_i hx hb hr hlk hP hD hS rfl dX5_firstToken_263
  replace hM := if_f c11 hM
  by_cases c12 : a1 = 12
  · replace hM := if_t c12 hM
    refine lv_tableIn (tgt := 262) hx hb dX5_firstToken_1 (by rw [c12]; decide) (by rw [c12]; decide) (by rw [c12]; rfl) (by decide) ?_
    refine lv_iconst (v := (-1)) hx hb dX5_firstToken_262 (by decide) ?_
    cases hM
    exact rt_i hx hb hr hlk hP hD hS rfl dX5_firstToken_263
  replace hM := if_f c12 hM
  by_cases c13 : a1 = 13
  · replace hM := if_t c13 hM
    refine lv_tableIn (tgt := 262) hx hb dX5_firstToken_1 (by rw [c13]; decide) (by rw [c13]; decide) (by rw [c13]; rfl) (by decide) ?_
    refine lv_iconst (v := (-1)) hx hb dX5_firstToken_262 (by decide) ?_
    cases hM
    exact rt_i hx hb hr hlk hP hD hS rfl dX5_firstToken_263
  replace hM := if_f c13 hM
  by_cases c14 : a1 = 14
  · replace hM := if_t c14 hM
    refine lv_tableIn (tgt := 262) hx hb dX5_firstToken_1 (by rw [c14]; decide) (by rw [c14]; decide) (by rw [c14]; rfl) (by decide) ?_
    refine lv_iconst (v := (-1)) hx hb dX5_firstToken_262 (by decide) ?_
    cases hM
    exact rt_i hx hb hr hlk hP hD hS rfl dX5_firstToken_263
  replace hM := if_f c14 hM
  by_cases c15 : a1 = 15
  · replace hM := if_t c15 hM
    refine lv_tableIn (tgt := 188) hx hb dX5_firstToken_1 (by rw [c15]; decide) (by rw [c15]; decide) (by rw [c15]; rfl) (by decide) ?_
    refine lv_sipush (v := 272) hx hb dX5_firstToken_188 (by decide) ?_
    cases hM
    exact rt_i hx hb hr hlk hP hD hS rfl dX5_firstToken_191
  replace hM := if_f c15 hM
  by_cases c16 : a1 = 16
  · replace hM := if_t c16 hM
    refine lv_tableIn (tgt := 192) hx hb dX5_firstToken_1 (by rw [c16]; decide) (by rw [c16]; decide) (by rw [c16]; rfl) (by decide) ?_
    refine lv_sipush (v := 277) hx hb dX5_firstToken_192 (by decide) ?_
    cases hM
    exact rt_i hx hb hr hlk hP hD hS rfl dX5_firstToken_195
  replace hM := if_f c16 hM
  by_cases c17 : a1 = 17
  · replace hM := if_t c17 hM
    refine lv_tableIn (tgt := 262) hx hb dX5_firstToken_1 (by rw [c17]; decide) (by rw [c17]; decide) (by rw [c17]; rfl) (by decide) ?_
    refine lv_iconst (v := (-1)) hx hb dX5_firstToken_262 (by decide) ?_
    cases hM
    exact rt_i hx hb hr hlk hP hD hS rfl dX5_firstToken_263
  replace hM := if_f c17 hM
  by_cases c18 : a1 = 18
  · replace hM := if_t c18 hM
    refine lv_tableIn (tgt := 262) hx hb dX5_firstToken_1 (by rw [c18]; decide) (by rw [c18]; decide) (by rw [c18]; rfl) (by decide) ?_
    refine lv_iconst (v := (-1)) hx hb dX5_firstToken_262 (by decide) ?_
    cases hM
    exact rt_i hx hb hr hlk hP hD hS rfl dX5_firstToken_263
  replace hM := if_f c18 hM
  by_cases c19 : a1 = 19
  · replace hM := if_t c19 hM
    refine lv_tableIn (tgt := 196) hx hb dX5_firstToken_1 (by rw [c19]; decide) (by rw [c19]; decide) (by rw [c19]; rfl) (by decide) ?_
    refine lv_sipush (v := 279) hx hb dX5_firstToken_196 (by decide) ?_
    cases hM
    exact rt_i hx hb hr hlk hP hD hS rfl dX5_firstToken_199
  replace hM := if_f c19 hM
  by_cases c20 : a1 = 20
  · replace hM := if_t c20 hM
    refine lv_tableIn (tgt := 200) hx hb dX5_firstToken_1 (by rw [c20]; decide) (by rw [c20]; decide) (by rw [c20]; rfl) (by decide) ?_
    refine lv_sipush (v := 284) hx hb dX5_firstToken_200 (by decide) ?_
    cases hM
    exact rt_i hx hb hr hlk hP hD hS rfl dX5_firstToken_203
  replace hM := if_f c20 hM
  by_cases c21 : a1 = 21
  · replace hM := if_t c21 hM
    refine lv_tableIn (tgt := 204) hx hb dX5_firstToken_1 (by rw [c21]; decide) (by rw [c21]; decide) (by rw [c21]; rfl) (by decide) ?_
    refine lv_sipush (v := 285) hx hb dX5_firstToken_204 (by decide) ?_
    cases hM
    exact rt_i hx hb hr hlk hP hD hS rfl dX5_firstToken_207
  replace hM := if_f c21 hM
  by_cases c22 : a1 = 22
  · replace hM := if_t c22 hM
    refine lv_tableIn (tgt := 208) hx hb dX5_firstToken_1 (by rw [c22]; decide) (by rw [c22]; decide) (by rw [c22]; rfl) (by decide) ?_
    refine lv_sipush (v := 293) hx hb dX5_firstToken_208 (by decide) ?_
    cases hM
    exact rt_i hx hb hr hlk hP hD hS rfl dX5_firstToken_211
  replace hM := if_f c22 hM
  by_cases c23 : a1 = 23
  · replace hM := if_t c23 hM
    refine lv_tableIn (tgt := 212) hx hb dX5_firstToken_1 (by rw [c23]; decide) (by rw [c23]; decide) (by rw [c23]; rfl) (by decide) ?_
    refine lv_sipush (v := 295) hx hb dX5_firstToken_212 (by decide) ?_
    cases hM
    exact rt_i hx hb hr hlk hP hD hS rfl dX5_firstToken_215
  replace hM := if_f c23 hM
  by_cases c24 : a1 = 24
  · replace hM := if_t c24 hM
    refine lv_tableIn (tgt := 262) hx hb dX5_firstToken_1 (by rw [c24]; decide) (by rw [c24]; decide) (by rw [c24]; rfl) (by decide) ?_
    refine lv_iconst (v := (-1)) hx hb dX5_firstToken_262 (by decide) ?_
    cases hM
    exact rt_i hx hb hr hlk hP hD hS rfl dX5_firstToken_263
  replace hM := if_f c24 hM
  by_cases c25 : a1 = 25
  · replace hM := if_t c25 hM
    refine lv_tableIn (tgt := 216) hx hb dX5_firstToken_1 (by rw [c25]; decide) (by rw [c25]; decide) (by rw [c25]; rfl) (by decide) ?_
    refine lv_iload_n hx hb dX5_firstToken_216 rfl (lv_at hl 1 rfl) ?_
    obtain ⟨r26, hcr26, hM⟩ := ob_use hM
    refine cl_S (As := [.int a2]) (rest := []) (([] : va_W)) (.int r26 :: []) ⟨hx, hb, hml, hown, hts⟩ (c_Writer_contactSign l D cI sd ad a2 r26 hcr26) (cwS2 hts q935 mvX5_contactSign rfl rfl ⟨(Nat.le_of_ble_eq_true rfl), (Nat.le_of_ble_eq_true rfl)⟩) hK hE hA hP hD hS [] rfl (by decide) rfl rfl rfl rfl rfl rfl hl.1 (Nat.le_of_ble_eq_true rfl) dX5_firstToken_217 ⟨Nat.zero_le _, Nat.zero_le _⟩ (fun H locs hP hD hS => ?_)
    cases hM
    exact rt_i hx hb hr hlk hP hD hS rfl dX5_firstToken_220
  replace hM := if_f c25 hM
  by_cases c27 : a1 = 26
  · replace hM := if_t c27 hM
    refine lv_tableIn (tgt := 221) hx hb dX5_firstToken_1 (by rw [c27]; decide) (by rw [c27]; decide) (by rw [c27]; rfl) (by decide) ?_
    refine lv_bipush (v := 45) hx hb dX5_firstToken_221 (by decide) ?_
    cases hM
    exact rt_i hx hb hr hlk hP hD hS rfl dX5_firstToken_223
  replace hM := if_f c27 hM
  by_cases c28 : a1 = 27
  · replace hM := if_t c28 hM
    refine lv_tableIn (tgt := 224) hx hb dX5_firstToken_1 (by rw [c28]; decide) (by rw [c28]; decide) (by rw [c28]; rfl) (by decide) ?_
    refine lv_bipush (v := 42) hx hb dX5_firstToken_224 (by decide) ?_
    cases hM
    exact rt_i hx hb hr hlk hP hD hS rfl dX5_firstToken_226
  replace hM := if_f c28 hM
  by_cases c29 : a1 = 28
  · replace hM := if_t c29 hM
    refine lv_tableIn (tgt := 227) hx hb dX5_firstToken_1 (by rw [c29]; decide) (by rw [c29]; decide) (by rw [c29]; rfl) (by decide) ?_
    refine lv_bipush (v := 40) hx hb dX5_firstToken_227 (by decide) ?_
    cases hM
    exact rt_i hx hb hr hlk hP hD hS rfl dX5_firstToken_229
  replace hM := if_f c29 hM
  by_cases c30 : a1 = 29
  · replace hM := if_t c30 hM
    refine lv_tableIn (tgt := 230) hx hb dX5_firstToken_1 (by rw [c30]; decide) (by rw [c30]; decide) (by rw [c30]; rfl) (by decide) ?_
    refine lv_bipush (v := 124) hx hb dX5_firstToken_230 (by decide) ?_
    cases hM
    exact rt_i hx hb hr hlk hP hD hS rfl dX5_firstToken_232
  replace hM := if_f c30 hM
  by_cases c31 : a1 = 30
  · replace hM := if_t c31 hM
    refine lv_tableIn (tgt := 262) hx hb dX5_firstToken_1 (by rw [c31]; decide) (by rw [c31]; decide) (by rw [c31]; rfl) (by decide) ?_
    refine lv_iconst (v := (-1)) hx hb dX5_firstToken_262 (by decide) ?_
    cases hM
    exact rt_i hx hb hr hlk hP hD hS rfl dX5_firstToken_263
  replace hM := if_f c31 hM
  by_cases c32 : a1 = 31
  · replace hM := if_t c32 hM
    refine lv_tableIn (tgt := 233) hx hb dX5_firstToken_1 (by rw [c32]; decide) (by rw [c32]; decide) (by rw [c32]; rfl) (by decide) ?_
    refine lv_iload_n hx hb dX5_firstToken_233 rfl (lv_at hl 1 rfl) ?_
    refine lv_iconst (v := 1) hx hb dX5_firstToken_234 (by decide) ?_
    refine lv_icmp_ne (tgt := 244) hx hb dX5_firstToken_235 (by decide) (fun c33 => ?_) (fun c33 => ?_)
    · replace hM := if_f c33 hM
      refine lv_sipush (v := 292) hx hb dX5_firstToken_244 (by decide) ?_
      cases hM
      exact rt_i hx hb hr hlk hP hD hS rfl dX5_firstToken_247
    · replace hM := if_t c33 hM
      refine lv_sipush (v := 291) hx hb dX5_firstToken_238 (by decide) ?_
      refine lv_goto (tgt := 247) hx hb dX5_firstToken_241 (by decide) ?_
      cases hM
      exact rt_i hx hb hr hlk hP hD hS rfl dX5_firstToken_247
  replace hM := if_f c32 hM
  by_cases c34 : a1 = 32
  · replace hM := if_t c34 hM
    refine lv_tableIn (tgt := 262) hx hb dX5_firstToken_1 (by rw [c34]; decide) (by rw [c34]; decide) (by rw [c34]; rfl) (by decide) ?_
    refine lv_iconst (v := (-1)) hx hb dX5_firstToken_262 (by decide) ?_
    cases hM
    exact rt_i hx hb hr hlk hP hD hS rfl dX5_firstToken_263
  replace hM := if_f c34 hM
  by_cases c35 : a1 = 33
  · replace hM := if_t c35 hM
    refine lv_tableIn (tgt := 262) hx hb dX5_firstToken_1 (by rw [c35]; decide) (by rw [c35]; decide) (by rw [c35]; rfl) (by decide) ?_
    refine lv_iconst (v := (-1)) hx hb dX5_firstToken_262 (by decide) ?_
    cases hM
    exact rt_i hx hb hr hlk hP hD hS rfl dX5_firstToken_263
  replace hM := if_f c35 hM
  by_cases c36 : a1 = 34
  · replace hM := if_t c36 hM
    refine lv_tableIn (tgt := 262) hx hb dX5_firstToken_1 (by rw [c36]; decide) (by rw [c36]; decide) (by rw [c36]; rfl) (by decide) ?_
    refine lv_iconst (v := (-1)) hx hb dX5_firstToken_262 (by decide) ?_
    cases hM
    exact rt_i hx hb hr hlk hP hD hS rfl dX5_firstToken_263
  replace hM := if_f c36 hM
  by_cases c37 : a1 = 35
  · replace hM := if_t c37 hM
    refine lv_tableIn (tgt := 262) hx hb dX5_firstToken_1 (by rw [c37]; decide) (by rw [c37]; decide) (by rw [c37]; rfl) (by decide) ?_
    refine lv_iconst (v := (-1)) hx hb dX5_firstToken_262 (by decide) ?_
    cases hM
    exact rt_i hx hb hr hlk hP hD hS rfl dX5_firstToken_263
  replace hM := if_f c37 hM
  by_cases c38 : a1 = 36
  · replace hM := if_t c38 hM
    refine lv_tableIn (tgt := 248) hx hb dX5_firstToken_1 (by rw [c38]; decide) (by rw [c38]; decide) (by rw [c38]; rfl) (by decide) ?_
    refine lv_iload_n hx hb dX5_firstToken_248 rfl (lv_at hl 1 rfl) ?_
    refine lv_iconst (v := 1) hx hb dX5_firstToken_249 (by decide) ?_
    refine lv_icmp_ne (tgt := 259) hx hb dX5_firstToken_250 (by decide) (fun c39 => ?_) (fun c39 => ?_)
    · replace hM := if_f c39 hM
      refine lv_bipush (v := 45) hx hb dX5_firstToken_259 (by decide) ?_
      cases hM
      exact rt_i hx hb hr hlk hP hD hS rfl dX5_firstToken_261
    · replace hM := if_t c39 hM
      refine lv_sipush (v := 290) hx hb dX5_firstToken_253 (by decide) ?_
      refine lv_goto (tgt := 261) hx hb dX5_firstToken_256 (by decide) ?_
      cases hM
      exact rt_i hx hb hr hlk hP hD hS rfl dX5_firstToken_261
  replace hM := if_f c38 hM
  refine lv_tableOut (tgt := 262) hx hb dX5_firstToken_1 (by have := lv_neT c1 (show (1 : Int32).toInt = 1 by decide); have := lv_neT c2 (show (2 : Int32).toInt = 2 by decide); have := lv_neT c3 (show (3 : Int32).toInt = 3 by decide); have := lv_neT c4 (show (4 : Int32).toInt = 4 by decide); have := lv_neT c5 (show (5 : Int32).toInt = 5 by decide); have := lv_neT c6 (show (6 : Int32).toInt = 6 by decide); have := lv_neT c7 (show (7 : Int32).toInt = 7 by decide); have := lv_neT c8 (show (8 : Int32).toInt = 8 by decide); have := lv_neT c9 (show (9 : Int32).toInt = 9 by decide); have := lv_neT c10 (show (10 : Int32).toInt = 10 by decide); have := lv_neT c11 (show (11 : Int32).toInt = 11 by decide); have := lv_neT c12 (show (12 : Int32).toInt = 12 by decide); have := lv_neT c13 (show (13 : Int32).toInt = 13 by decide); have := lv_neT c14 (show (14 : Int32).toInt = 14 by decide); have := lv_neT c15 (show (15 : Int32).toInt = 15 by decide); have := lv_neT c16 (show (16 : Int32).toInt = 16 by decide); have := lv_neT c17 (show (17 : Int32).toInt = 17 by decide); have := lv_neT c18 (show (18 : Int32).toInt = 18 by decide); have := lv_neT c19 (show (19 : Int32).toInt = 19 by decide); have := lv_neT c20 (show (20 : Int32).toInt = 20 by decide); have := lv_neT c21 (show (21 : Int32).toInt = 21 by decide); have := lv_neT c22 (show (22 : Int32).toInt = 22 by decide); have := lv_neT c23 (show (23 : Int32).toInt = 23 by decide); have := lv_neT c24 (show (24 : Int32).toInt = 24 by decide); have := lv_neT c25 (show (25 : Int32).toInt = 25 by decide); have := lv_neT c27 (show (26 : Int32).toInt = 26 by decide); have := lv_neT c28 (show (27 : Int32).toInt = 27 by decide); have := lv_neT c29 (show (28 : Int32).toInt = 28 by decide); have := lv_neT c30 (show (29 : Int32).toInt = 29 by decide); have := lv_neT c31 (show (30 : Int32).toInt = 30 by decide); have := lv_neT c32 (show (31 : Int32).toInt = 31 by decide); have := lv_neT c34 (show (32 : Int32).toInt = 32 by decide); have := lv_neT c35 (show (33 : Int32).toInt = 33 by decide); have := lv_neT c36 (show (34 : Int32).toInt = 34 by decide); have := lv_neT c37 (show (35 : Int32).toInt = 35 by decide); have := lv_neT c38 (show (36 : Int32).toInt = 36 by decide); omega) (by decide) ?_
  refine lv_iconst (v := (-1)) hx hb dX5_firstToken_262 (by decide) ?_
  cases hM
  exact rt_i hx hb hr hlk hP hD hS rfl dX5_firstToken_263

set_option maxHeartbeats 4000000 in
set_option maxRecDepth 100000 in
theorem c_Writer_isBracketed (l : Launch) (D : va_G) (cI : ClassId) (sd : Nat → Nat) (ad : Nat → Nat) (o_tree : S_Tree) (a1 : Int32) (res : Int32) (hM : f_Writer_isBracketed o_tree a1 = some res) : Ctr l D cI sd yX5_isBracketed (wsM yX5_isBracketed cX5_isBracketed 5 (Option.some Jvm.ClassFile.FieldType.boolean)) { frames := 2, cells := 0, slots := 0, locals := 42 } [.ref (ad 23), .int a1] (w_Writer_this_tree cI ad o_tree) (w_Writer_this_tree cI ad o_tree) (some (.int res)) := by
  refine Ctr.of (cc := cX5_isBracketed) (maxL := 5) (own := RX5) (by decide +kernel) rfl rfl (Nat.le_of_ble_eq_true rfl) ?_
  intro p e s m below meth c A ls hx hb hr hml hown hts hlk hK hE hA hP hD hS hl
  have hl : lv_has ls 5 [(0, .ref (ad 23)), (1, .int a1)] := hl
  unfold f_Writer_isBracketed at hM
  refine lv_aload_n hx hb dX5_isBracketed_0 rfl (lv_at hl 0 rfl) ?_
  refine va_get (D := D) (ci := 5) (v := .ref (ad 14)) (C := RX5) (T := TX5) (N := 3) hx hb hts layX5 hown hK hP 0 rfl rfl 0 (by decide) (hts _ (inA q442)) (fun _ h9 => h9) rfl dX5_isBracketed_1 ?_
  refine lv_iload_n hx hb dX5_isBracketed_4 rfl (lv_at hl 1 rfl) ?_
  obtain ⟨r1, hcr1, hM⟩ := ob_use hM
  refine cl_V (As := [.int a1]) (rest := []) (w_Writer_this_tree cI ad o_tree) (.int r1 :: []) ⟨hx, hb, hml, hown, hts⟩ (c_Tree_parent l D cI sd ad o_tree a1 r1 hcr1) (cwV2 hts q861 mvX3_parent rfl rfl ⟨(Nat.le_of_ble_eq_true rfl), (Nat.le_of_ble_eq_true rfl)⟩) hK hE hA hP hD hS 1 (T := TX3) (N := 8) (ci := 3) rfl rfl [1, 2, 3, 4, 5, 6, 7, 8] rfl (by decide) rfl rfl rfl rfl rfl rfl hl.1 (Nat.le_of_ble_eq_true rfl) dX5_isBracketed_5 ⟨Nat.zero_le _, Nat.zero_le _⟩ (fun H locs hP hD hS => ?_)
  refine lv_istore_n (lv' := [(2, .int r1), (0, .ref (ad 23)), (1, .int a1)]) hx hb dX5_isBracketed_8 rfl hl (by decide) rfl (fun ls hl => ?_)
  refine lv_aload_n hx hb dX5_isBracketed_9 rfl (lv_at hl 1 rfl) ?_
  refine va_get (D := D) (ci := 5) (v := .ref (ad 14)) (C := RX5) (T := TX5) (N := 3) hx hb hts layX5 hown hK hP 0 rfl rfl 0 (by decide) (hts _ (inA q442)) (fun _ h9 => h9) rfl dX5_isBracketed_10 ?_
  refine lv_iload_n hx hb dX5_isBracketed_13 rfl (lv_at hl 0 rfl) ?_
  obtain ⟨r2, hcr2, hM⟩ := ob_use hM
  refine cl_V (As := [.int r1]) (rest := []) (w_Writer_this_tree cI ad o_tree) (.int r2 :: []) ⟨hx, hb, hml, hown, hts⟩ (c_Tree_kind l D cI sd ad o_tree r1 r2 hcr2) (cwV2 hts q870 mvX3_kind rfl rfl ⟨(Nat.le_of_ble_eq_true rfl), (Nat.le_of_ble_eq_true rfl)⟩) hK hE hA hP hD hS 1 (T := TX3) (N := 8) (ci := 3) rfl rfl [1, 2, 3, 4, 5, 6, 7, 8] rfl (by decide) rfl rfl rfl rfl rfl rfl hl.1 (Nat.le_of_ble_eq_true rfl) dX5_isBracketed_14 ⟨Nat.zero_le _, Nat.zero_le _⟩ (fun H locs hP hD hS => ?_)
  refine lv_bipush (v := 35) hx hb dX5_isBracketed_17 (by decide) ?_
  refine lv_icmp_eq (tgt := 41) hx hb dX5_isBracketed_19 (by decide) (fun c3 => ?_) (fun c3 => ?_)
  · replace hM := if_t c3 hM
    refine lv_aload_n hx hb dX5_isBracketed_41 rfl (lv_at hl 1 rfl) ?_
    refine va_get (D := D) (ci := 5) (v := .ref (ad 14)) (C := RX5) (T := TX5) (N := 3) hx hb hts layX5 hown hK hP 0 rfl rfl 0 (by decide) (hts _ (inA q442)) (fun _ h9 => h9) rfl dX5_isBracketed_42 ?_
    refine lv_iload_n hx hb dX5_isBracketed_45 rfl (lv_at hl 2 rfl) ?_
    obtain ⟨r4, hcr4, hM⟩ := ob_use hM
    refine cl_V (As := [.int a1]) (rest := []) (w_Writer_this_tree cI ad o_tree) (.int r4 :: []) ⟨hx, hb, hml, hown, hts⟩ (c_Tree_value l D cI sd ad o_tree a1 r4 hcr4) (cwV2 hts q892 mvX3_value rfl rfl ⟨(Nat.le_of_ble_eq_true rfl), (Nat.le_of_ble_eq_true rfl)⟩) hK hE hA hP hD hS 1 (T := TX3) (N := 8) (ci := 3) rfl rfl [1, 2, 3, 4, 5, 6, 7, 8] rfl (by decide) rfl rfl rfl rfl rfl rfl hl.1 (Nat.le_of_ble_eq_true rfl) dX5_isBracketed_46 ⟨Nat.zero_le _, Nat.zero_le _⟩ (fun H locs hP hD hS => ?_)
    obtain ⟨r5, hcr5, hM⟩ := ob_use hM
    refine cl_S (As := [.int r4]) (rest := []) (w_Writer_this_tree cI ad o_tree) (.int r5 :: []) ⟨hx, hb, hml, hown, hts⟩ (c_Sign_binding l D cI sd ad r4 r5 hcr5) (cwS2 hts q893 mvX7_binding rfl rfl ⟨(Nat.le_of_ble_eq_true rfl), (Nat.le_of_ble_eq_true rfl)⟩) hK hE hA hP hD hS [] rfl (by decide) rfl rfl rfl rfl rfl rfl hl.1 (Nat.le_of_ble_eq_true rfl) dX5_isBracketed_49 ⟨Nat.zero_le _, Nat.zero_le _⟩ (fun H locs hP hD hS => ?_)
    refine lv_istore_n (lv' := [(3, .int r5), (2, .int r1), (0, .ref (ad 23)), (1, .int a1)]) hx hb dX5_isBracketed_52 rfl hl (by decide) rfl (fun ls hl => ?_)
    refine lv_aload_n hx hb dX5_isBracketed_53 rfl (lv_at hl 2 rfl) ?_
    refine va_get (D := D) (ci := 5) (v := .ref (ad 14)) (C := RX5) (T := TX5) (N := 3) hx hb hts layX5 hown hK hP 0 rfl rfl 0 (by decide) (hts _ (inA q442)) (fun _ h9 => h9) rfl dX5_isBracketed_54 ?_
    refine lv_iload_n hx hb dX5_isBracketed_57 rfl (lv_at hl 1 rfl) ?_
    obtain ⟨r6, hcr6, hM⟩ := ob_use hM
    refine cl_V (As := [.int r1]) (rest := []) (w_Writer_this_tree cI ad o_tree) (.int r6 :: []) ⟨hx, hb, hml, hown, hts⟩ (c_Tree_value l D cI sd ad o_tree r1 r6 hcr6) (cwV2 hts q892 mvX3_value rfl rfl ⟨(Nat.le_of_ble_eq_true rfl), (Nat.le_of_ble_eq_true rfl)⟩) hK hE hA hP hD hS 1 (T := TX3) (N := 8) (ci := 3) rfl rfl [1, 2, 3, 4, 5, 6, 7, 8] rfl (by decide) rfl rfl rfl rfl rfl rfl hl.1 (Nat.le_of_ble_eq_true rfl) dX5_isBracketed_58 ⟨Nat.zero_le _, Nat.zero_le _⟩ (fun H locs hP hD hS => ?_)
    obtain ⟨r7, hcr7, hM⟩ := ob_use hM
    refine cl_S (As := [.int r6]) (rest := []) (w_Writer_this_tree cI ad o_tree) (.int r7 :: []) ⟨hx, hb, hml, hown, hts⟩ (c_Sign_binding l D cI sd ad r6 r7 hcr7) (cwS2 hts q893 mvX7_binding rfl rfl ⟨(Nat.le_of_ble_eq_true rfl), (Nat.le_of_ble_eq_true rfl)⟩) hK hE hA hP hD hS [] rfl (by decide) rfl rfl rfl rfl rfl rfl hl.1 (Nat.le_of_ble_eq_true rfl) dX5_isBracketed_61 ⟨Nat.zero_le _, Nat.zero_le _⟩ (fun H locs hP hD hS => ?_)
    refine lv_istore (lv' := [(4, .int r7), (3, .int r5), (2, .int r1), (0, .ref (ad 23)), (1, .int a1)]) hx hb dX5_isBracketed_64 hl (by decide) rfl (fun ls hl => ?_)
    refine lv_iload hx hb dX5_isBracketed_66 (lv_at hl 0 rfl) ?_
    refine lv_iload_n hx hb dX5_isBracketed_68 rfl (lv_at hl 1 rfl) ?_
    refine lv_icmp_gt (tgt := 90) hx hb dX5_isBracketed_69 (by decide) (fun c8 => ?_) (fun c8 => ?_)
    · replace hM := if_t c8 hM
      refine lv_iconst (v := 1) hx hb dX5_isBracketed_90 (by decide) ?_
      refine lv_goto (tgt := 95) hx hb dX5_isBracketed_91 (by decide) ?_
      cases hM
      exact rt_z hx hb hr hlk (by decide) hP hD hS rfl dX5_isBracketed_95
    · replace hM := if_f c8 hM
      refine lv_iload hx hb dX5_isBracketed_72 (lv_at hl 0 rfl) ?_
      refine lv_iload_n hx hb dX5_isBracketed_74 rfl (lv_at hl 1 rfl) ?_
      refine lv_icmp_ne (tgt := 94) hx hb dX5_isBracketed_75 (by decide) (fun c9 => ?_) (fun c9 => ?_)
      · replace hM := if_f c9 hM
        refine lv_iconst (v := 0) hx hb dX5_isBracketed_94 (by decide) ?_
        cases hM
        exact rt_z hx hb hr hlk (by decide) hP hD hS rfl dX5_isBracketed_95
      · replace hM := if_t c9 hM
        refine lv_aload_n hx hb dX5_isBracketed_78 rfl (lv_at hl 3 rfl) ?_
        refine va_get (D := D) (ci := 5) (v := .ref (ad 14)) (C := RX5) (T := TX5) (N := 3) hx hb hts layX5 hown hK hP 0 rfl rfl 0 (by decide) (hts _ (inA q442)) (fun _ h9 => h9) rfl dX5_isBracketed_79 ?_
        refine lv_iload_n hx hb dX5_isBracketed_82 rfl (lv_at hl 4 rfl) ?_
        obtain ⟨r10, hcr10, hM⟩ := ob_use hM
        refine cl_V (As := [.int a1]) (rest := []) (w_Writer_this_tree cI ad o_tree) (.int r10 :: []) ⟨hx, hb, hml, hown, hts⟩ (c_Tree_rank l D cI sd ad o_tree a1 r10 hcr10) (cwV2 hts q894 mvX3_rank rfl rfl ⟨(Nat.le_of_ble_eq_true rfl), (Nat.le_of_ble_eq_true rfl)⟩) hK hE hA hP hD hS 1 (T := TX3) (N := 8) (ci := 3) rfl rfl [1, 2, 3, 4, 5, 6, 7, 8] rfl (by decide) rfl rfl rfl rfl rfl rfl hl.1 (Nat.le_of_ble_eq_true rfl) dX5_isBracketed_83 ⟨Nat.zero_le _, Nat.zero_le _⟩ (fun H locs hP hD hS => ?_)
        refine lv_iconst (v := 1) hx hb dX5_isBracketed_86 (by decide) ?_
        refine lv_icmp_ne (tgt := 94) hx hb dX5_isBracketed_87 (by decide) (fun c11 => ?_) (fun c11 => ?_)
        · replace hM := if_f c11 hM
          refine lv_iconst (v := 0) hx hb dX5_isBracketed_94 (by decide) ?_
          cases hM
          exact rt_z hx hb hr hlk (by decide) hP hD hS rfl dX5_isBracketed_95
        · replace hM := if_t c11 hM
          refine lv_iconst (v := 1) hx hb dX5_isBracketed_90 (by decide) ?_
          refine lv_goto (tgt := 95) hx hb dX5_isBracketed_91 (by decide) ?_
          cases hM
          exact rt_z hx hb hr hlk (by decide) hP hD hS rfl dX5_isBracketed_95
  · replace hM := if_f c3 hM
    refine lv_aload_n hx hb dX5_isBracketed_22 rfl (lv_at hl 1 rfl) ?_
    refine va_get (D := D) (ci := 5) (v := .ref (ad 14)) (C := RX5) (T := TX5) (N := 3) hx hb hts layX5 hown hK hP 0 rfl rfl 0 (by decide) (hts _ (inA q442)) (fun _ h9 => h9) rfl dX5_isBracketed_23 ?_
    refine lv_iload_n hx hb dX5_isBracketed_26 rfl (lv_at hl 0 rfl) ?_
    obtain ⟨r12, hcr12, hM⟩ := ob_use hM
    refine cl_V (As := [.int r1]) (rest := []) (w_Writer_this_tree cI ad o_tree) (.int r12 :: []) ⟨hx, hb, hml, hown, hts⟩ (c_Tree_kind l D cI sd ad o_tree r1 r12 hcr12) (cwV2 hts q870 mvX3_kind rfl rfl ⟨(Nat.le_of_ble_eq_true rfl), (Nat.le_of_ble_eq_true rfl)⟩) hK hE hA hP hD hS 1 (T := TX3) (N := 8) (ci := 3) rfl rfl [1, 2, 3, 4, 5, 6, 7, 8] rfl (by decide) rfl rfl rfl rfl rfl rfl hl.1 (Nat.le_of_ble_eq_true rfl) dX5_isBracketed_27 ⟨Nat.zero_le _, Nat.zero_le _⟩ (fun H locs hP hD hS => ?_)
    refine lv_bipush (v := 36) hx hb dX5_isBracketed_30 (by decide) ?_
    refine lv_icmp_ne (tgt := 39) hx hb dX5_isBracketed_32 (by decide) (fun c13 => ?_) (fun c13 => ?_)
    · replace hM := if_f c13 hM
      refine lv_iconst (v := 0) hx hb dX5_isBracketed_39 (by decide) ?_
      cases hM
      exact rt_z hx hb hr hlk (by decide) hP hD hS rfl dX5_isBracketed_40
    · replace hM := if_t c13 hM
      refine lv_iconst (v := 1) hx hb dX5_isBracketed_35 (by decide) ?_
      refine lv_goto (tgt := 40) hx hb dX5_isBracketed_36 (by decide) ?_
      cases hM
      exact rt_z hx hb hr hlk (by decide) hP hD hS rfl dX5_isBracketed_40

set_option maxHeartbeats 4000000 in
set_option maxRecDepth 100000 in
theorem c_Writer_coilSign (l : Launch) (D : va_G) (cI : ClassId) (sd : Nat → Nat) (ad : Nat → Nat) (a1 : Int32) (res : Int32) (hM : f_Writer_coilSign a1 = some res) : Ctr l D cI sd yX5_coilSign (wsM yX5_coilSign cX5_coilSign 1 (Option.some Jvm.ClassFile.FieldType.int)) { frames := 0, cells := 0, slots := 0, locals := 0 } [.int a1] (([] : va_W)) (([] : va_W)) (some (.int res)) := by
  refine Ctr.of (cc := cX5_coilSign) (maxL := 1) (own := RX5) (by decide +kernel) rfl rfl (Nat.le_of_ble_eq_true rfl) ?_
  intro p e s m below meth c A ls hx hb hr hml hown hts hlk hK hE hA hP hD hS hl
  have hl : lv_has ls 1 [(0, .int a1)] := hl
  unfold f_Writer_coilSign at hM
  refine lv_iload_n hx hb dX5_coilSign_0 rfl (lv_at hl 0 rfl) ?_
  by_cases c1 : a1 = 1
  · replace hM := if_t c1 hM
    refine lv_tableIn (tgt := 28) hx hb dX5_coilSign_1 (by rw [c1]; decide) (by rw [c1]; decide) (by rw [c1]; rfl) (by decide) ?_
    refine lv_bipush (v := 47) hx hb dX5_coilSign_28 (by decide) ?_
    cases hM
    exact rt_i hx hb hr hlk hP hD hS rfl dX5_coilSign_30
  replace hM := if_f c1 hM
  by_cases c2 : a1 = 2
  · replace hM := if_t c2 hM
    refine lv_tableIn (tgt := 31) hx hb dX5_coilSign_1 (by rw [c2]; decide) (by rw [c2]; decide) (by rw [c2]; rfl) (by decide) ?_
    refine lv_bipush (v := 43) hx hb dX5_coilSign_31 (by decide) ?_
    cases hM
    exact rt_i hx hb hr hlk hP hD hS rfl dX5_coilSign_33
  replace hM := if_f c2 hM
  by_cases c3 : a1 = 3
  · replace hM := if_t c3 hM
    refine lv_tableIn (tgt := 34) hx hb dX5_coilSign_1 (by rw [c3]; decide) (by rw [c3]; decide) (by rw [c3]; rfl) (by decide) ?_
    refine lv_bipush (v := 45) hx hb dX5_coilSign_34 (by decide) ?_
    cases hM
    exact rt_i hx hb hr hlk hP hD hS rfl dX5_coilSign_36
  replace hM := if_f c3 hM
  refine lv_tableOut (tgt := 37) hx hb dX5_coilSign_1 (by have := lv_neT c1 (show (1 : Int32).toInt = 1 by decide); have := lv_neT c2 (show (2 : Int32).toInt = 2 by decide); have := lv_neT c3 (show (3 : Int32).toInt = 3 by decide); omega) (by decide) ?_
  refine lv_iconst (v := (-1)) hx hb dX5_coilSign_37 (by decide) ?_
  cases hM
  exact rt_i hx hb hr hlk hP hD hS rfl dX5_coilSign_38
