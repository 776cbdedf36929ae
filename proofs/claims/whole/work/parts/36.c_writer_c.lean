set_option maxHeartbeats 4000000 in
set_option maxRecDepth 100000 in
theorem c_Writer_nextToken (l : Launch) (D : va_G) (cI : ClassId) (sd : Nat → Nat) (ad : Nat → Nat) (a1 : Int32) (a2 : Int32) (res : Int32) (hM : f_Writer_nextToken a1 a2 = some res) : Ctr l D cI sd yX5_nextToken (wsM yX5_nextToken cX5_nextToken 2 (Option.some Jvm.ClassFile.FieldType.int)) { frames := 1, cells := 0, slots := 0, locals := 20 } [.int a1, .int a2] (([] : va_W)) (([] : va_W)) (some (.int res)) := by
  refine Ctr.of (cc := cX5_nextToken) (maxL := 2) (own := RX5) (by decide +kernel) rfl rfl (Nat.le_of_ble_eq_true rfl) ?_
  intro p e s m below meth c A ls hx hb hr hml hown hts hlk hK hE hA hP hD hS hl
  have hl : lv_has ls 2 [(0, .int a1), (1, .int a2)] := hl
  unfold f_Writer_nextToken at hM
  refine lv_iload_n hx hb dX5_nextToken_0 rfl (lv_at hl 0 rfl) ?_
  by_cases c1 : a1 = 1
  · replace hM := if_t c1 hM
    refine lv_tableIn (tgt := 152) hx hb dX5_nextToken_1 (by rw [c1]; decide) (by rw [c1]; decide) (by rw [c1]; rfl) (by decide) ?_
    refine lv_bipush (v := 58) hx hb dX5_nextToken_152 (by decide) ?_
    cases hM
    exact rt_i hx hb hr hlk hP hD hS rfl dX5_nextToken_154
  replace hM := if_f c1 hM
  by_cases c2 : a1 = 2
  · replace hM := if_t c2 hM
    refine lv_tableIn (tgt := 173) hx hb dX5_nextToken_1 (by rw [c2]; decide) (by rw [c2]; decide) (by rw [c2]; rfl) (by decide) ?_
    refine lv_iconst (v := (-1)) hx hb dX5_nextToken_173 (by decide) ?_
    cases hM
    exact rt_i hx hb hr hlk hP hD hS rfl dX5_nextToken_174
  replace hM := if_f c2 hM
  by_cases c3 : a1 = 3
  · replace hM := if_t c3 hM
    refine lv_tableIn (tgt := 173) hx hb dX5_nextToken_1 (by rw [c3]; decide) (by rw [c3]; decide) (by rw [c3]; rfl) (by decide) ?_
    refine lv_iconst (v := (-1)) hx hb dX5_nextToken_173 (by decide) ?_
    cases hM
    exact rt_i hx hb hr hlk hP hD hS rfl dX5_nextToken_174
  replace hM := if_f c3 hM
  by_cases c4 : a1 = 4
  · replace hM := if_t c4 hM
    refine lv_tableIn (tgt := 173) hx hb dX5_nextToken_1 (by rw [c4]; decide) (by rw [c4]; decide) (by rw [c4]; rfl) (by decide) ?_
    refine lv_iconst (v := (-1)) hx hb dX5_nextToken_173 (by decide) ?_
    cases hM
    exact rt_i hx hb hr hlk hP hD hS rfl dX5_nextToken_174
  replace hM := if_f c4 hM
  by_cases c5 : a1 = 5
  · replace hM := if_t c5 hM
    refine lv_tableIn (tgt := 173) hx hb dX5_nextToken_1 (by rw [c5]; decide) (by rw [c5]; decide) (by rw [c5]; rfl) (by decide) ?_
    refine lv_iconst (v := (-1)) hx hb dX5_nextToken_173 (by decide) ?_
    cases hM
    exact rt_i hx hb hr hlk hP hD hS rfl dX5_nextToken_174
  replace hM := if_f c5 hM
  by_cases c6 : a1 = 6
  · replace hM := if_t c6 hM
    refine lv_tableIn (tgt := 173) hx hb dX5_nextToken_1 (by rw [c6]; decide) (by rw [c6]; decide) (by rw [c6]; rfl) (by decide) ?_
    refine lv_iconst (v := (-1)) hx hb dX5_nextToken_173 (by decide) ?_
    cases hM
    exact rt_i hx hb hr hlk hP hD hS rfl dX5_nextToken_174
  replace hM := if_f c6 hM
  by_cases c7 : a1 = 7
  · replace hM := if_t c7 hM
    refine lv_tableIn (tgt := 173) hx hb dX5_nextToken_1 (by rw [c7]; decide) (by rw [c7]; decide) (by rw [c7]; rfl) (by decide) ?_
    refine lv_iconst (v := (-1)) hx hb dX5_nextToken_173 (by decide) ?_
    cases hM
    exact rt_i hx hb hr hlk hP hD hS rfl dX5_nextToken_174
  replace hM := if_f c7 hM
  by_cases c8 : a1 = 8
  · replace hM := if_t c8 hM
    refine lv_tableIn (tgt := 173) hx hb dX5_nextToken_1 (by rw [c8]; decide) (by rw [c8]; decide) (by rw [c8]; rfl) (by decide) ?_
    refine lv_iconst (v := (-1)) hx hb dX5_nextToken_173 (by decide) ?_
    cases hM
    exact rt_i hx hb hr hlk hP hD hS rfl dX5_nextToken_174
  replace hM := if_f c8 hM
  by_cases c9 : a1 = 9
  · replace hM := if_t c9 hM
    refine lv_tableIn (tgt := 155) hx hb dX5_nextToken_1 (by rw [c9]; decide) (by rw [c9]; decide) (by rw [c9]; rfl) (by decide) ?_
    refine lv_bipush (v := 91) hx hb dX5_nextToken_155 (by decide) ?_
    cases hM
    exact rt_i hx hb hr hlk hP hD hS rfl dX5_nextToken_157
  replace hM := if_f c9 hM
  by_cases c10 : a1 = 10
  · replace hM := if_t c10 hM
    refine lv_tableIn (tgt := 173) hx hb dX5_nextToken_1 (by rw [c10]; decide) (by rw [c10]; decide) (by rw [c10]; rfl) (by decide) ?_
    refine lv_iconst (v := (-1)) hx hb dX5_nextToken_173 (by decide) ?_
    cases hM
    exact rt_i hx hb hr hlk hP hD hS rfl dX5_nextToken_174
  replace hM := if_f c10 hM
  by_cases c11 : a1 = 11
  · replace hM := if_t c11 hM
    refine lv_tableIn (tgt := 173) hx hb dX5_nextToken_1 (by rw [c11]; decide) (by rw [c11]; decide) (by rw [c11]; rfl) (by decide) ?_
    refine lv_iconst (v := (-1)) hx hb dX5_nextToken_173 (by decide) ?_
    cases hM
    exact rt_i hx hb hr hlk hP hD hS rfl dX5_nextToken_174
  replace hM := if_f c11 hM
  by_cases c12 : a1 = 12
  · replace hM := if_t c12 hM
    refine lv_tableIn (tgt := 173) hx hb dX5_nextToken_1 (by rw [c12]; decide) (by rw [c12]; decide) (by rw [c12]; rfl) (by decide) ?_
    refine lv_iconst (v := (-1)) hx hb dX5_nextToken_173 (by decide) ?_
    cases hM
    exact rt_i hx hb hr hlk hP hD hS rfl dX5_nextToken_174
  replace hM := if_f c12 hM
  by_cases c13 : a1 = 13
  · replace hM := if_t c13 hM
    refine lv_tableIn (tgt := 158) hx hb dX5_nextToken_1 (by rw [c13]; decide) (by rw [c13]; decide) (by rw [c13]; rfl) (by decide) ?_
    refine lv_bipush (v := 40) hx hb dX5_nextToken_158 (by decide) ?_
    cases hM
    exact rt_i hx hb hr hlk hP hD hS rfl dX5_nextToken_160
  replace hM := if_f c13 hM
  by_cases c14 : a1 = 14
  · replace hM := if_t c14 hM
    refine lv_tableIn (tgt := 161) hx hb dX5_nextToken_1 (by rw [c14]; decide) (by rw [c14]; decide) (by rw [c14]; rfl) (by decide) ?_
    refine lv_sipush (v := 14909) hx hb dX5_nextToken_161 (by decide) ?_
    cases hM
    exact rt_i hx hb hr hlk hP hD hS rfl dX5_nextToken_164
  replace hM := if_f c14 hM
  by_cases c15 : a1 = 15
  · replace hM := if_t c15 hM
    refine lv_tableIn (tgt := 173) hx hb dX5_nextToken_1 (by rw [c15]; decide) (by rw [c15]; decide) (by rw [c15]; rfl) (by decide) ?_
    refine lv_iconst (v := (-1)) hx hb dX5_nextToken_173 (by decide) ?_
    cases hM
    exact rt_i hx hb hr hlk hP hD hS rfl dX5_nextToken_174
  replace hM := if_f c15 hM
  by_cases c16 : a1 = 16
  · replace hM := if_t c16 hM
    refine lv_tableIn (tgt := 173) hx hb dX5_nextToken_1 (by rw [c16]; decide) (by rw [c16]; decide) (by rw [c16]; rfl) (by decide) ?_
    refine lv_iconst (v := (-1)) hx hb dX5_nextToken_173 (by decide) ?_
    cases hM
    exact rt_i hx hb hr hlk hP hD hS rfl dX5_nextToken_174
  replace hM := if_f c16 hM
  by_cases c17 : a1 = 17
  · replace hM := if_t c17 hM
    refine lv_tableIn (tgt := 173) hx hb dX5_nextToken_1 (by rw [c17]; decide) (by rw [c17]; decide) (by rw [c17]; rfl) (by decide) ?_
    refine lv_iconst (v := (-1)) hx hb dX5_nextToken_173 (by decide) ?_
    cases hM
    exact rt_i hx hb hr hlk hP hD hS rfl dX5_nextToken_174
  replace hM := if_f c17 hM
  by_cases c18 : a1 = 18
  · replace hM := if_t c18 hM
    refine lv_tableIn (tgt := 173) hx hb dX5_nextToken_1 (by rw [c18]; decide) (by rw [c18]; decide) (by rw [c18]; rfl) (by decide) ?_
    refine lv_iconst (v := (-1)) hx hb dX5_nextToken_173 (by decide) ?_
    cases hM
    exact rt_i hx hb hr hlk hP hD hS rfl dX5_nextToken_174
  replace hM := if_f c18 hM
  by_cases c19 : a1 = 19
  · replace hM := if_t c19 hM
    refine lv_tableIn (tgt := 161) hx hb dX5_nextToken_1 (by rw [c19]; decide) (by rw [c19]; decide) (by rw [c19]; rfl) (by decide) ?_
    refine lv_sipush (v := 14909) hx hb dX5_nextToken_161 (by decide) ?_
    cases hM
    exact rt_i hx hb hr hlk hP hD hS rfl dX5_nextToken_164
  replace hM := if_f c19 hM
  by_cases c20 : a1 = 20
  · replace hM := if_t c20 hM
    refine lv_tableIn (tgt := 173) hx hb dX5_nextToken_1 (by rw [c20]; decide) (by rw [c20]; decide) (by rw [c20]; rfl) (by decide) ?_
    refine lv_iconst (v := (-1)) hx hb dX5_nextToken_173 (by decide) ?_
    cases hM
    exact rt_i hx hb hr hlk hP hD hS rfl dX5_nextToken_174
  replace hM := if_f c20 hM
  by_cases c21 : a1 = 21
  · replace hM := if_t c21 hM
    refine lv_tableIn (tgt := 173) hx hb dX5_nextToken_1 (by rw [c21]; decide) (by rw [c21]; decide) (by rw [c21]; rfl) (by decide) ?_
    refine lv_iconst (v := (-1)) hx hb dX5_nextToken_173 (by decide) ?_
    cases hM
    exact rt_i hx hb hr hlk hP hD hS rfl dX5_nextToken_174
  replace hM := if_f c21 hM
  by_cases c22 : a1 = 22
  · replace hM := if_t c22 hM
    refine lv_tableIn (tgt := 173) hx hb dX5_nextToken_1 (by rw [c22]; decide) (by rw [c22]; decide) (by rw [c22]; rfl) (by decide) ?_
    refine lv_iconst (v := (-1)) hx hb dX5_nextToken_173 (by decide) ?_
    cases hM
    exact rt_i hx hb hr hlk hP hD hS rfl dX5_nextToken_174
  replace hM := if_f c22 hM
  by_cases c23 : a1 = 23
  · replace hM := if_t c23 hM
    refine lv_tableIn (tgt := 173) hx hb dX5_nextToken_1 (by rw [c23]; decide) (by rw [c23]; decide) (by rw [c23]; rfl) (by decide) ?_
    refine lv_iconst (v := (-1)) hx hb dX5_nextToken_173 (by decide) ?_
    cases hM
    exact rt_i hx hb hr hlk hP hD hS rfl dX5_nextToken_174
  replace hM := if_f c23 hM
  by_cases c24 : a1 = 24
  · replace hM := if_t c24 hM
    refine lv_tableIn (tgt := 173) hx hb dX5_nextToken_1 (by rw [c24]; decide) (by rw [c24]; decide) (by rw [c24]; rfl) (by decide) ?_
    refine lv_iconst (v := (-1)) hx hb dX5_nextToken_173 (by decide) ?_
    cases hM
    exact rt_i hx hb hr hlk hP hD hS rfl dX5_nextToken_174
  replace hM := if_f c24 hM
  by_cases c25 : a1 = 25
  · replace hM := if_t c25 hM
    refine lv_tableIn (tgt := 173) hx hb dX5_nextToken_1 (by rw [c25]; decide) (by rw [c25]; decide) (by rw [c25]; rfl) (by decide) ?_
    refine lv_iconst (v := (-1)) hx hb dX5_nextToken_173 (by decide) ?_
    cases hM
    exact rt_i hx hb hr hlk hP hD hS rfl dX5_nextToken_174
  replace hM := if_f c25 hM
  by_cases c26 : a1 = 26
  · replace hM := if_t c26 hM
    refine lv_tableIn (tgt := 173) hx hb dX5_nextToken_1 (by rw [c26]; decide) (by rw [c26]; decide) (by rw [c26]; rfl) (by decide) ?_
    refine lv_iconst (v := (-1)) hx hb dX5_nextToken_173 (by decide) ?_
    cases hM
    exact rt_i hx hb hr hlk hP hD hS rfl dX5_nextToken_174
  replace hM := if_f c26 hM
  by_cases c27 : a1 = 27
  · replace hM := if_t c27 hM
    refine lv_tableIn (tgt := 173) hx hb dX5_nextToken_1 (by rw [c27]; decide) (by rw [c27]; decide) (by rw [c27]; rfl) (by decide) ?_
    refine lv_iconst (v := (-1)) hx hb dX5_nextToken_173 (by decide) ?_
    cases hM
    exact rt_i hx hb hr hlk hP hD hS rfl dX5_nextToken_174
  replace hM := if_f c27 hM
  by_cases c28 : a1 = 28
  · replace hM := if_t c28 hM
    refine lv_tableIn (tgt := 165) hx hb dX5_nextToken_1 (by rw [c28]; decide) (by rw [c28]; decide) (by rw [c28]; rfl) (by decide) ?_
    refine lv_iload_n hx hb dX5_nextToken_165 rfl (lv_at hl 1 rfl) ?_
    obtain ⟨r29, hcr29, hM⟩ := ob_use hM
    refine cl_S (As := [.int a2]) (rest := []) (([] : va_W)) (.int r29 :: []) ⟨hx, hb, hml, hown, hts⟩ (c_Writer_coilSign l D cI sd ad a2 r29 hcr29) (cwS2 hts q960 mvX5_coilSign rfl rfl ⟨(Nat.le_of_ble_eq_true rfl), (Nat.le_of_ble_eq_true rfl)⟩) hK hE hA hP hD hS [] rfl (by decide) rfl rfl rfl rfl rfl rfl hl.1 (Nat.le_of_ble_eq_true rfl) dX5_nextToken_166 ⟨Nat.zero_le _, Nat.zero_le _⟩ (fun H locs hP hD hS => ?_)
    cases hM
    exact rt_i hx hb hr hlk hP hD hS rfl dX5_nextToken_169
  replace hM := if_f c28 hM
  by_cases c30 : a1 = 29
  · replace hM := if_t c30 hM
    refine lv_tableIn (tgt := 173) hx hb dX5_nextToken_1 (by rw [c30]; decide) (by rw [c30]; decide) (by rw [c30]; rfl) (by decide) ?_
    refine lv_iconst (v := (-1)) hx hb dX5_nextToken_173 (by decide) ?_
    cases hM
    exact rt_i hx hb hr hlk hP hD hS rfl dX5_nextToken_174
  replace hM := if_f c30 hM
  by_cases c31 : a1 = 30
  · replace hM := if_t c31 hM
    refine lv_tableIn (tgt := 173) hx hb dX5_nextToken_1 (by rw [c31]; decide) (by rw [c31]; decide) (by rw [c31]; rfl) (by decide) ?_
    refine lv_iconst (v := (-1)) hx hb dX5_nextToken_173 (by decide) ?_
    cases hM
    exact rt_i hx hb hr hlk hP hD hS rfl dX5_nextToken_174
  replace hM := if_f c31 hM
  by_cases c32 : a1 = 31
  · replace hM := if_t c32 hM
    refine lv_tableIn (tgt := 173) hx hb dX5_nextToken_1 (by rw [c32]; decide) (by rw [c32]; decide) (by rw [c32]; rfl) (by decide) ?_
    refine lv_iconst (v := (-1)) hx hb dX5_nextToken_173 (by decide) ?_
    cases hM
    exact rt_i hx hb hr hlk hP hD hS rfl dX5_nextToken_174
  replace hM := if_f c32 hM
  by_cases c33 : a1 = 32
  · replace hM := if_t c33 hM
    refine lv_tableIn (tgt := 155) hx hb dX5_nextToken_1 (by rw [c33]; decide) (by rw [c33]; decide) (by rw [c33]; rfl) (by decide) ?_
    refine lv_bipush (v := 91) hx hb dX5_nextToken_155 (by decide) ?_
    cases hM
    exact rt_i hx hb hr hlk hP hD hS rfl dX5_nextToken_157
  replace hM := if_f c33 hM
  by_cases c34 : a1 = 33
  · replace hM := if_t c34 hM
    refine lv_tableIn (tgt := 170) hx hb dX5_nextToken_1 (by rw [c34]; decide) (by rw [c34]; decide) (by rw [c34]; rfl) (by decide) ?_
    refine lv_bipush (v := 46) hx hb dX5_nextToken_170 (by decide) ?_
    cases hM
    exact rt_i hx hb hr hlk hP hD hS rfl dX5_nextToken_172
  replace hM := if_f c34 hM
  by_cases c35 : a1 = 34
  · replace hM := if_t c35 hM
    refine lv_tableIn (tgt := 158) hx hb dX5_nextToken_1 (by rw [c35]; decide) (by rw [c35]; decide) (by rw [c35]; rfl) (by decide) ?_
    refine lv_bipush (v := 40) hx hb dX5_nextToken_158 (by decide) ?_
    cases hM
    exact rt_i hx hb hr hlk hP hD hS rfl dX5_nextToken_160
  replace hM := if_f c35 hM
  refine lv_tableOut (tgt := 173) hx hb dX5_nextToken_1 (by have := lv_neT c1 (show (1 : Int32).toInt = 1 by decide); have := lv_neT c2 (show (2 : Int32).toInt = 2 by decide); have := lv_neT c3 (show (3 : Int32).toInt = 3 by decide); have := lv_neT c4 (show (4 : Int32).toInt = 4 by decide); have := lv_neT c5 (show (5 : Int32).toInt = 5 by decide); have := lv_neT c6 (show (6 : Int32).toInt = 6 by decide); have := lv_neT c7 (show (7 : Int32).toInt = 7 by decide); have := lv_neT c8 (show (8 : Int32).toInt = 8 by decide); have := lv_neT c9 (show (9 : Int32).toInt = 9 by decide); have := lv_neT c10 (show (10 : Int32).toInt = 10 by decide); have := lv_neT c11 (show (11 : Int32).toInt = 11 by decide); have := lv_neT c12 (show (12 : Int32).toInt = 12 by decide); have := lv_neT c13 (show (13 : Int32).toInt = 13 by decide); have := lv_neT c14 (show (14 : Int32).toInt = 14 by decide); have := lv_neT c15 (show (15 : Int32).toInt = 15 by decide); have := lv_neT c16 (show (16 : Int32).toInt = 16 by decide); have := lv_neT c17 (show (17 : Int32).toInt = 17 by decide); have := lv_neT c18 (show (18 : Int32).toInt = 18 by decide); have := lv_neT c19 (show (19 : Int32).toInt = 19 by decide); have := lv_neT c20 (show (20 : Int32).toInt = 20 by decide); have := lv_neT c21 (show (21 : Int32).toInt = 21 by decide); have := lv_neT c22 (show (22 : Int32).toInt = 22 by decide); have := lv_neT c23 (show (23 : Int32).toInt = 23 by decide); have := lv_neT c24 (show (24 : Int32).toInt = 24 by decide); have := lv_neT c25 (show (25 : Int32).toInt = 25 by decide); have := lv_neT c26 (show (26 : Int32).toInt = 26 by decide); have := lv_neT c27 (show (27 : Int32).toInt = 27 by decide); have := lv_neT c28 (show (28 : Int32).toInt = 28 by decide); have := lv_neT c30 (show (29 : Int32).toInt = 29 by decide); have := lv_neT c31 (show (30 : Int32).toInt = 30 by decide); have := lv_neT c32 (show (31 : Int32).toInt = 31 by decide); have := lv_neT c33 (show (32 : Int32).toInt = 32 by decide); have := lv_neT c34 (show (33 : Int32).toInt = 33 by decide); have := lv_neT c35 (show (34 : Int32).toInt = 34 by decide); omega) (by decide) ?_
  refine lv_iconst (v := (-1)) hx hb dX5_nextToken_173 (by decide) ?_
  cases hM
  exact rt_i hx hb hr hlk hP hD hS rfl dX5_nextToken_174

set_option maxHeartbeats 4000000 in
set_option maxRecDepth 100000 in
theorem c_Writer_digits (l : Launch) (D : va_G) (cI : ClassId) (sd : Nat → Nat) (ad : Nat → Nat) (o_out : S_Bytes) (a1 : Int32) (res : S_Bytes) (hM : f_Writer_digits o_out a1 = some res) : Ctr l D cI sd yX5_digits (wsM yX5_digits cX5_digits 3 (Option.none : Option Jvm.ClassFile.FieldType)) { frames := 1, cells := 0, slots := 0, locals := 21 } [.ref (ad 23), .int a1] (w_Writer_this_out cI ad o_out) (w_Writer_this_out cI ad res) none := by
  refine Ctr.of (cc := cX5_digits) (maxL := 3) (own := RX5) (by decide +kernel) rfl rfl (Nat.le_of_ble_eq_true rfl) ?_
  intro p e s m below meth c A ls hx hb hr hml hown hts hlk hK hE hA hP hD hS hl
  have hl : lv_has ls 3 [(0, .ref (ad 23)), (1, .int a1)] := hl
  unfold f_Writer_digits at hM
  refine lv_ldc (v := 1000000000) hx hb hown (hts _ (inA q952)) dX5_digits_0 ?_
  refine lv_istore_n (lv' := [(2, .int 1000000000), (0, .ref (ad 23)), (1, .int a1)]) hx hb dX5_digits_2 rfl hl (by decide) rfl (fun ls hl => ?_)
  have lp_L3 : ∀ (w1_L3 : Int32) (n : Nat) (v2_L3 : Int32) (o_out_L3 : S_Bytes) (out_L3 : S_Bytes) (H : Heap) (locs : List Loc) (ls : Array Slot), f_Writer_digits_L3 w1_L3 n v2_L3 o_out_L3 = some out_L3 → va_P D vwCl (w_Writer_this_out cI ad o_out_L3) H → va_D A (w_Writer_this_out cI ad o_out_L3) → va_S A s.heap H locs → lv_has ls 3 [(2, .int v2_L3), (0, .ref (ad 23)), (1, .int w1_L3)] → (∀ (H : Heap) (locs : List Loc) (ls : Array Slot), va_P D vwCl (w_Writer_this_out cI ad out_L3) H → va_D A (w_Writer_this_out cI ad out_L3) → va_S A s.heap H locs → lv_has ls 3 [(0, .ref (ad 23)), (1, .int w1_L3)] → W p l e { frames := 1, cells := 0, slots := 0, locals := 21 } s m [.ref (ad 23), .int a1].toArray below meth c H locs 0 0 (MQ below (CQ D A (w_Writer_this_out cI ad res) none) [.ref (ad 23), .int a1].toArray s 0 0 A) (F0 m 41 ls [])) → W p l e { frames := 1, cells := 0, slots := 0, locals := 21 } s m [.ref (ad 23), .int a1].toArray below meth c H locs 0 0 (MQ below (CQ D A (w_Writer_this_out cI ad res) none) [.ref (ad 23), .int a1].toArray s 0 0 A) (F0 m 3 ls []) := by
    intro w1_L3 n
    induction n with
    | zero => intro v2_L3 o_out_L3 out_L3 H locs ls hM; exact absurd (show none = some _ from hM) (by simp)
    | succ n ih_L3 =>
      intro v2_L3 o_out_L3 out_L3 H locs ls hM hP hD hS hl kx_L3
      rw [f_Writer_digits_L3] at hM
      refine lv_iload_n hx hb dX5_digits_3 rfl (lv_at hl 0 rfl) ?_
      refine lv_if_le (tgt := 41) hx hb dX5_digits_4 (by decide) (fun c1131 => ?_) (fun c1131 => ?_)
      · replace hM := if_t c1131 hM
        cases hM
        exact kx_L3 _ _ _ hP hD hS (lv_sub hl [1, 2] rfl)
      · replace hM := if_f c1131 hM
        refine lv_iload_n hx hb dX5_digits_7 rfl (lv_at hl 2 rfl) ?_
        refine lv_iload_n hx hb dX5_digits_8 rfl (lv_at hl 0 rfl) ?_
        refine lv_icmp_ge (tgt := 17) hx hb dX5_digits_9 (by decide) (fun c1132 => ?_) (fun c1132 => ?_)
        · replace hM := if_t c1132 hM
          refine lv_aload_n hx hb dX5_digits_17 rfl (lv_at hl 1 rfl) ?_
          refine va_get (D := D) (ci := 5) (v := .ref (ad 3)) (C := RX5) (T := TX5) (N := 3) hx hb hts layX5 hown hK hP 0 rfl rfl 2 (by decide) (hts _ (inA q444)) (fun _ h9 => h9) rfl dX5_digits_18 ?_
          refine lv_bipush (v := 48) hx hb dX5_digits_21 (by decide) ?_
          refine lv_iload_n hx hb dX5_digits_23 rfl (lv_at hl 2 rfl) ?_
          refine lv_iload_n hx hb dX5_digits_24 rfl (lv_at hl 0 rfl) ?_
          obtain ⟨z1133, hM⟩ := dz_use hM
          refine lv_idiv hx hb dX5_digits_25 z1133 ?_
          refine lv_bipush (v := 10) hx hb dX5_digits_26 (by decide) ?_
          refine lv_irem hx hb dX5_digits_28 (by decide) ?_
          refine lv_iadd hx hb dX5_digits_29 ?_
          obtain ⟨r1134, hcr1134, hM⟩ := ob_use hM
          refine cl_V (As := [.int (48 + ((w1_L3 / v2_L3) - (w1_L3 / v2_L3) / 10 * 10))]) (rest := []) (w_Writer_this_out cI ad r1134) [] ⟨hx, hb, hml, hown, hts⟩ (c_Bytes_put l D cI sd (ad 3) (ad 4) 16384 o_out_L3 (48 + ((w1_L3 / v2_L3) - (w1_L3 / v2_L3) / 10 * 10)) r1134 hcr1134) (cwV2 hts q886 mvX0_put rfl rfl ⟨(Nat.le_of_ble_eq_true rfl), (Nat.le_of_ble_eq_true rfl)⟩) hK hE hA hP hD hS 1 (T := TX0) (N := 2) (ci := 0) rfl rfl [1, 2] rfl (by decide) rfl rfl rfl rfl rfl rfl hl.1 (Nat.le_of_ble_eq_true rfl) dX5_digits_30 ⟨Nat.zero_le _, Nat.zero_le _⟩ (fun H locs hP hD hS => ?_)
          refine lv_iload_n hx hb dX5_digits_33 rfl (lv_at hl 0 rfl) ?_
          refine lv_bipush (v := 10) hx hb dX5_digits_34 (by decide) ?_
          refine lv_idiv hx hb dX5_digits_36 (by decide) ?_
          refine lv_istore_n (lv' := [(2, .int (v2_L3 / 10)), (0, .ref (ad 23)), (1, .int w1_L3)]) hx hb dX5_digits_37 rfl hl (by decide) rfl (fun ls hl => ?_)
          refine lv_goto (tgt := 3) hx hb dX5_digits_38 (by decide) ?_
          exact ih_L3 (v2_L3 / 10) r1134 out_L3 _ _ _ hM hP hD hS (lv_sub hl [0, 1, 2] rfl) kx_L3
        · replace hM := if_f c1132 hM
          refine lv_iload_n hx hb dX5_digits_12 rfl (lv_at hl 0 rfl) ?_
          refine lv_iconst (v := 1) hx hb dX5_digits_13 (by decide) ?_
          refine lv_icmp_ne (tgt := 33) hx hb dX5_digits_14 (by decide) (fun c1135 => ?_) (fun c1135 => ?_)
          · replace hM := if_f c1135 hM
            refine lv_iload_n hx hb dX5_digits_33 rfl (lv_at hl 0 rfl) ?_
            refine lv_bipush (v := 10) hx hb dX5_digits_34 (by decide) ?_
            refine lv_idiv hx hb dX5_digits_36 (by decide) ?_
            refine lv_istore_n (lv' := [(2, .int (v2_L3 / 10)), (0, .ref (ad 23)), (1, .int w1_L3)]) hx hb dX5_digits_37 rfl hl (by decide) rfl (fun ls hl => ?_)
            refine lv_goto (tgt := 3) hx hb dX5_digits_38 (by decide) ?_
            exact ih_L3 (v2_L3 / 10) o_out_L3 out_L3 _ _ _ hM hP hD hS (lv_sub hl [0, 1, 2] rfl) kx_L3
          · replace hM := if_t c1135 hM
            refine lv_aload_n hx hb dX5_digits_17 rfl (lv_at hl 1 rfl) ?_
            refine va_get (D := D) (ci := 5) (v := .ref (ad 3)) (C := RX5) (T := TX5) (N := 3) hx hb hts layX5 hown hK hP 0 rfl rfl 2 (by decide) (hts _ (inA q444)) (fun _ h9 => h9) rfl dX5_digits_18 ?_
            refine lv_bipush (v := 48) hx hb dX5_digits_21 (by decide) ?_
            refine lv_iload_n hx hb dX5_digits_23 rfl (lv_at hl 2 rfl) ?_
            refine lv_iload_n hx hb dX5_digits_24 rfl (lv_at hl 0 rfl) ?_
            obtain ⟨z1136, hM⟩ := dz_use hM
            refine lv_idiv hx hb dX5_digits_25 z1136 ?_
            refine lv_bipush (v := 10) hx hb dX5_digits_26 (by decide) ?_
            refine lv_irem hx hb dX5_digits_28 (by decide) ?_
            refine lv_iadd hx hb dX5_digits_29 ?_
            obtain ⟨r1137, hcr1137, hM⟩ := ob_use hM
            refine cl_V (As := [.int (48 + ((w1_L3 / v2_L3) - (w1_L3 / v2_L3) / 10 * 10))]) (rest := []) (w_Writer_this_out cI ad r1137) [] ⟨hx, hb, hml, hown, hts⟩ (c_Bytes_put l D cI sd (ad 3) (ad 4) 16384 o_out_L3 (48 + ((w1_L3 / v2_L3) - (w1_L3 / v2_L3) / 10 * 10)) r1137 hcr1137) (cwV2 hts q886 mvX0_put rfl rfl ⟨(Nat.le_of_ble_eq_true rfl), (Nat.le_of_ble_eq_true rfl)⟩) hK hE hA hP hD hS 1 (T := TX0) (N := 2) (ci := 0) rfl rfl [1, 2] rfl (by decide) rfl rfl rfl rfl rfl rfl hl.1 (Nat.le_of_ble_eq_true rfl) dX5_digits_30 ⟨Nat.zero_le _, Nat.zero_le _⟩ (fun H locs hP hD hS => ?_)
            refine lv_iload_n hx hb dX5_digits_33 rfl (lv_at hl 0 rfl) ?_
            refine lv_bipush (v := 10) hx hb dX5_digits_34 (by decide) ?_
            refine lv_idiv hx hb dX5_digits_36 (by decide) ?_
            refine lv_istore_n (lv' := [(2, .int (v2_L3 / 10)), (0, .ref (ad 23)), (1, .int w1_L3)]) hx hb dX5_digits_37 rfl hl (by decide) rfl (fun ls hl => ?_)
            refine lv_goto (tgt := 3) hx hb dX5_digits_38 (by decide) ?_
            exact ih_L3 (v2_L3 / 10) r1137 out_L3 _ _ _ hM hP hD hS (lv_sub hl [0, 1, 2] rfl) kx_L3
  obtain ⟨r1, hcr1, hM⟩ := ob_use hM
  refine lp_L3 a1 FU 1000000000 o_out r1 _ _ _ hcr1 hP hD hS (lv_sub hl [0, 1, 2] rfl) (fun H locs ls hP hD hS hl => ?_)
  cases hM
  exact rt_v hx hb hr hlk hP hD hS rfl dX5_digits_41

set_option maxHeartbeats 4000000 in
set_option maxRecDepth 100000 in
theorem c_Writer_part (l : Launch) (D : va_G) (cI : ClassId) (sd : Nat → Nat) (ad : Nat → Nat) (o_out : S_Bytes) (res : S_Bytes) (hM : f_Writer_part o_out = some res) : Ctr l D cI sd yX5_part (wsM yX5_part cX5_part 1 (Option.none : Option Jvm.ClassFile.FieldType)) { frames := 1, cells := 0, slots := 0, locals := 21 } [.ref (ad 23)] (w_Writer_this_out cI ad o_out) (w_Writer_this_out cI ad res) none := by
  refine Ctr.of (cc := cX5_part) (maxL := 1) (own := RX5) (by decide +kernel) rfl rfl (Nat.le_of_ble_eq_true rfl) ?_
  intro p e s m below meth c A ls hx hb hr hml hown hts hlk hK hE hA hP hD hS hl
  have hl : lv_has ls 1 [(0, .ref (ad 23))] := hl
  unfold f_Writer_part at hM
  refine lv_aload_n hx hb dX5_part_0 rfl (lv_at hl 0 rfl) ?_
  refine va_get (D := D) (ci := 5) (v := .ref (ad 3)) (C := RX5) (T := TX5) (N := 3) hx hb hts layX5 hown hK hP 0 rfl rfl 2 (by decide) (hts _ (inA q444)) (fun _ h9 => h9) rfl dX5_part_1 ?_
  refine lv_aload_n hx hb dX5_part_4 rfl (lv_at hl 0 rfl) ?_
  refine va_get (D := D) (ci := 5) (v := .ref (ad 3)) (C := RX5) (T := TX5) (N := 3) hx hb hts layX5 hown hK hP 0 rfl rfl 2 (by decide) (hts _ (inA q444)) (fun _ h9 => h9) rfl dX5_part_5 ?_
  refine va_getN (D := D) (ci := 0) (v := .int o_out.1) (C := RX0) (T := TX0) (N := 2) hx hb hts layX0 hown hK hP 1 rfl rfl 1 (by decide) (nfE2 hE) (fun _ h9 => h9) rfl dX5_part_8 ?_
  refine lv_iconst (v := 1) hx hb dX5_part_11 (by decide) ?_
  refine lv_isub hx hb dX5_part_12 ?_
  obtain ⟨r1, hcr1, hM⟩ := ob_use hM
  refine cl_V (As := [.int (o_out.1 - 1)]) (rest := []) (w_Writer_this_out cI ad o_out) (.int r1 :: []) ⟨hx, hb, hml, hown, hts⟩ (c_Bytes_get l D cI sd (ad 3) (ad 4) 16384 o_out (o_out.1 - 1) r1 hcr1) (cwV2 hts q884 mvX0_get rfl rfl ⟨(Nat.le_of_ble_eq_true rfl), (Nat.le_of_ble_eq_true rfl)⟩) hK hE hA hP hD hS 1 (T := TX0) (N := 2) (ci := 0) rfl rfl [1, 2] rfl (by decide) rfl rfl rfl rfl rfl rfl hl.1 (Nat.le_of_ble_eq_true rfl) dX5_part_13 ⟨Nat.zero_le _, Nat.zero_le _⟩ (fun H locs hP hD hS => ?_)
  obtain ⟨r2, hcr2, hM⟩ := ob_use hM
  refine cl_SN (As := [.int r1]) (rest := []) (w_Writer_this_out cI ad o_out) (.int r2 :: []) ⟨hx, hb, hml, hown, hts⟩ (c_Top_isNameByte l D cI sd ad r1 r2 hcr2) (cwSN2 hts (nmE5 hE) mvX6_isNameByte rfl rfl ⟨(Nat.le_of_ble_eq_true rfl), (Nat.le_of_ble_eq_true rfl)⟩) hK hE hA hP hD hS [] rfl (by decide) rfl rfl rfl rfl rfl rfl hl.1 (Nat.le_of_ble_eq_true rfl) dX5_part_16 ⟨Nat.zero_le _, Nat.zero_le _⟩ (fun H locs hP hD hS => ?_)
  refine lv_if_eq (tgt := 31) hx hb dX5_part_19 (by decide) (fun c3 => ?_) (fun c3 => ?_)
  · replace hM := if_t c3 hM
    cases hM
    exact rt_v hx hb hr hlk hP hD hS rfl dX5_part_31
  · replace hM := if_f c3 hM
    refine lv_aload_n hx hb dX5_part_22 rfl (lv_at hl 0 rfl) ?_
    refine va_get (D := D) (ci := 5) (v := .ref (ad 3)) (C := RX5) (T := TX5) (N := 3) hx hb hts layX5 hown hK hP 0 rfl rfl 2 (by decide) (hts _ (inA q444)) (fun _ h9 => h9) rfl dX5_part_23 ?_
    refine lv_bipush (v := 32) hx hb dX5_part_26 (by decide) ?_
    obtain ⟨r4, hcr4, hM⟩ := ob_use hM
    refine cl_V (As := [.int 32]) (rest := []) (w_Writer_this_out cI ad r4) [] ⟨hx, hb, hml, hown, hts⟩ (c_Bytes_put l D cI sd (ad 3) (ad 4) 16384 o_out 32 r4 hcr4) (cwV2 hts q886 mvX0_put rfl rfl ⟨(Nat.le_of_ble_eq_true rfl), (Nat.le_of_ble_eq_true rfl)⟩) hK hE hA hP hD hS 1 (T := TX0) (N := 2) (ci := 0) rfl rfl [1, 2] rfl (by decide) rfl rfl rfl rfl rfl rfl hl.1 (Nat.le_of_ble_eq_true rfl) dX5_part_28 ⟨Nat.zero_le _, Nat.zero_le _⟩ (fun H locs hP hD hS => ?_)
    cases hM
    exact rt_v hx hb hr hlk hP hD hS rfl dX5_part_31

set_option maxHeartbeats 4000000 in
set_option maxRecDepth 100000 in
theorem c_Writer_word (l : Launch) (D : va_G) (cI : ClassId) (sd : Nat → Nat) (ad : Nat → Nat) (o_names : S_Names) (o_out : S_Bytes) (a1 : Int32) (res : S_Bytes) (hM : f_Writer_word o_names o_out a1 = some res) : Ctr l D cI sd yX5_word (wsM yX5_word cX5_word 4 (Option.none : Option Jvm.ClassFile.FieldType)) { frames := 2, cells := 0, slots := 0, locals := 41 } [.ref (ad 23), .int a1] (w_Writer_this_names_out cI ad o_names o_out) (w_Writer_this_names_out cI ad o_names res) none := by
  refine Ctr.of (cc := cX5_word) (maxL := 4) (own := RX5) (by decide +kernel) rfl rfl (Nat.le_of_ble_eq_true rfl) ?_
  intro p e s m below meth c A ls hx hb hr hml hown hts hlk hK hE hA hP hD hS hl
  have hl : lv_has ls 4 [(0, .ref (ad 23)), (1, .int a1)] := hl
  unfold f_Writer_word at hM
  refine lv_aload_n hx hb dX5_word_0 rfl (lv_at hl 0 rfl) ?_
  obtain ⟨r1, hcr1, hM⟩ := ob_use hM
  refine cl_V (As := []) (rest := []) (w_Writer_this_names_out cI ad o_names r1) [] ⟨hx, hb, hml, hown, hts⟩ (c_Writer_part l D cI sd ad o_out r1 hcr1) (cwV2 hts q880 mvX5_part rfl rfl ⟨(Nat.le_of_ble_eq_true rfl), (Nat.le_of_ble_eq_true rfl)⟩) hK hE hA hP hD hS 0 (T := TX5) (N := 3) (ci := 5) rfl rfl [0, 6, 7] rfl (by decide) rfl rfl rfl rfl rfl rfl hl.1 (Nat.le_of_ble_eq_true rfl) dX5_word_1 ⟨Nat.zero_le _, Nat.zero_le _⟩ (fun H locs hP hD hS => ?_)
  refine lv_iconst (v := 0) hx hb dX5_word_4 (by decide) ?_
  refine lv_istore_n (lv' := [(2, .int 0), (0, .ref (ad 23)), (1, .int a1)]) hx hb dX5_word_5 rfl hl (by decide) rfl (fun ls hl => ?_)
  have lp_L6 : ∀ (w1_L6 : Int32) (n : Nat) (v2_L6 : Int32) (o_out_L6 : S_Bytes) (H : Heap) (locs : List Loc) (ls : Array Slot), f_Writer_word_L6 o_names w1_L6 n v2_L6 o_out_L6 = some res → va_P D vwCl (w_Writer_this_names_out cI ad o_names o_out_L6) H → va_D A (w_Writer_this_names_out cI ad o_names o_out_L6) → va_S A s.heap H locs → lv_has ls 4 [(2, .int v2_L6), (0, .ref (ad 23)), (1, .int w1_L6)] → W p l e { frames := 2, cells := 0, slots := 0, locals := 41 } s m [.ref (ad 23), .int a1].toArray below meth c H locs 0 0 (MQ below (CQ D A (w_Writer_this_names_out cI ad o_names res) none) [.ref (ad 23), .int a1].toArray s 0 0 A) (F0 m 6 ls []) := by
    intro w1_L6 n
    induction n with
    | zero => intro v2_L6 o_out_L6 H locs ls hM; exact absurd (show none = some _ from hM) (by simp)
    | succ n ih_L6 =>
      intro v2_L6 o_out_L6 H locs ls hM hP hD hS hl
      rw [f_Writer_word_L6] at hM
      refine lv_iload_n hx hb dX5_word_6 rfl (lv_at hl 0 rfl) ?_
      refine lv_bipush (v := 32) hx hb dX5_word_7 (by decide) ?_
      refine lv_icmp_ge (tgt := 42) hx hb dX5_word_9 (by decide) (fun c1161 => ?_) (fun c1161 => ?_)
      · replace hM := if_t c1161 hM
        cases hM
        exact rt_v hx hb hr hlk hP hD hS rfl dX5_word_42
      · replace hM := if_f c1161 hM
        refine lv_aload_n hx hb dX5_word_12 rfl (lv_at hl 1 rfl) ?_
        refine va_get (D := D) (ci := 5) (v := .ref (ad 5)) (C := RX5) (T := TX5) (N := 3) hx hb hts layX5 hown hK hP 0 rfl rfl 1 (by decide) (hts _ (inA q443)) (fun _ h9 => h9) rfl dX5_word_13 ?_
        refine lv_iload_n hx hb dX5_word_16 rfl (lv_at hl 2 rfl) ?_
        refine lv_iload_n hx hb dX5_word_17 rfl (lv_at hl 0 rfl) ?_
        obtain ⟨r1162, hcr1162, hM⟩ := ob_use hM
        refine cl_V (As := [.int w1_L6, .int v2_L6]) (rest := []) (w_Writer_this_names_out cI ad o_names o_out_L6) (.int r1162 :: []) ⟨hx, hb, hml, hown, hts⟩ (c_Names_letterOf l D cI sd ad o_names w1_L6 v2_L6 r1162 hcr1162) (cwV2 hts q887 mvX1_letterOf rfl rfl ⟨(Nat.le_of_ble_eq_true rfl), (Nat.le_of_ble_eq_true rfl)⟩) hK hE hA hP hD hS 1 (T := TX1) (N := 6) (ci := 1) rfl rfl [1, 2, 3, 4, 5] rfl (by decide) rfl rfl rfl rfl rfl rfl hl.1 (Nat.le_of_ble_eq_true rfl) dX5_word_18 ⟨Nat.zero_le _, Nat.zero_le _⟩ (fun H locs hP hD hS => ?_)
        refine lv_istore_n (lv' := [(3, .int r1162), (2, .int v2_L6), (0, .ref (ad 23)), (1, .int w1_L6)]) hx hb dX5_word_21 rfl hl (by decide) rfl (fun ls hl => ?_)
        refine lv_iload_n hx hb dX5_word_22 rfl (lv_at hl 0 rfl) ?_
        refine lv_iconst (v := (-1)) hx hb dX5_word_23 (by decide) ?_
        refine lv_icmp_ne (tgt := 28) hx hb dX5_word_24 (by decide) (fun c1163 => ?_) (fun c1163 => ?_)
        · replace hM := if_f c1163 hM
          refine lv_aload_n hx hb dX5_word_28 rfl (lv_at hl 2 rfl) ?_
          refine va_get (D := D) (ci := 5) (v := .ref (ad 3)) (C := RX5) (T := TX5) (N := 3) hx hb hts layX5 hown hK hP 0 rfl rfl 2 (by decide) (hts _ (inA q444)) (fun _ h9 => h9) rfl dX5_word_29 ?_
          refine lv_iload_n hx hb dX5_word_32 rfl (lv_at hl 0 rfl) ?_
          obtain ⟨r1164, hcr1164, hM⟩ := ob_use hM
          refine cl_V (As := [.int r1162]) (rest := []) (w_Writer_this_names_out cI ad o_names r1164) [] ⟨hx, hb, hml, hown, hts⟩ (c_Bytes_put l D cI sd (ad 3) (ad 4) 16384 o_out_L6 r1162 r1164 hcr1164) (cwV2 hts q886 mvX0_put rfl rfl ⟨(Nat.le_of_ble_eq_true rfl), (Nat.le_of_ble_eq_true rfl)⟩) hK hE hA hP hD hS 6 (T := TX0) (N := 2) (ci := 0) rfl rfl [6, 7] rfl (by decide) rfl rfl rfl rfl rfl rfl hl.1 (Nat.le_of_ble_eq_true rfl) dX5_word_33 ⟨Nat.zero_le _, Nat.zero_le _⟩ (fun H locs hP hD hS => ?_)
          obtain ⟨x1165, ex1165⟩ : ∃ y : Int32, y = v2_L6 + 1 := ⟨_, rfl⟩
          replace hM := nm_use ex1165 hM
          refine lv_iinc (v := x1165) (lv' := [(2, .int x1165), (3, .int r1162), (0, .ref (ad 23)), (1, .int w1_L6)]) hx hb dX5_word_36 hl (k := 1) rfl (by rw [ex1165]; rfl) (by decide) rfl (fun ls hl => ?_)
          refine lv_goto (tgt := 6) hx hb dX5_word_39 (by decide) ?_
          exact ih_L6 x1165 r1164 _ _ _ hM hP hD hS (lv_sub hl [0, 2, 3] rfl)
        · replace hM := if_t c1163 hM
          cases hM
          exact rt_v hx hb hr hlk hP hD hS rfl dX5_word_27
  exact lp_L6 a1 FU 0 r1 _ _ _ hM hP hD hS (lv_sub hl [0, 1, 2] rfl)
