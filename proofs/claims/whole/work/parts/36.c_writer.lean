set_option maxHeartbeats 4000000 in
set_option maxRecDepth 100000 in
theorem c_Writer_bearsName (l : Launch) (D : va_G) (cI : ClassId) (sd : Nat → Nat) (ad : Nat → Nat) (a1 : Int32) (res : Int32) (hM : f_Writer_bearsName a1 = some res) : Ctr l D cI sd yX5_bearsName (wsM yX5_bearsName cX5_bearsName 1 (Option.some Jvm.ClassFile.FieldType.boolean)) { frames := 0, cells := 0, slots := 0, locals := 0 } [.int a1] (([] : va_W)) (([] : va_W)) (some (.int res)) := by
  refine Ctr.of (cc := cX5_bearsName) (maxL := 1) (own := RX5) (by decide +kernel) rfl rfl (Nat.le_of_ble_eq_true rfl) ?_
  intro p e s m below meth c A ls hx hb hr hml hown hts hlk hK hE hA hP hD hS hl
  have hl : lv_has ls 1 [(0, .int a1)] := hl
  unfold f_Writer_bearsName at hM
  refine lv_iload_n hx hb dX5_bearsName_0 rfl (lv_at hl 0 rfl) ?_
  by_cases c1 : a1 = 1
  · replace hM := if_t c1 hM
    refine lv_tableIn (tgt := 152) hx hb dX5_bearsName_1 (by rw [c1]; decide) (by rw [c1]; decide) (by rw [c1]; rfl) (by decide) ?_
    refine lv_iconst (v := 1) hx hb dX5_bearsName_152 (by decide) ?_
    cases hM
    exact rt_z hx hb hr hlk (by decide) hP hD hS rfl dX5_bearsName_153
  replace hM := if_f c1 hM
  by_cases c2 : a1 = 2
  · replace hM := if_t c2 hM
    refine lv_tableIn (tgt := 152) hx hb dX5_bearsName_1 (by rw [c2]; decide) (by rw [c2]; decide) (by rw [c2]; rfl) (by decide) ?_
    refine lv_iconst (v := 1) hx hb dX5_bearsName_152 (by decide) ?_
    cases hM
    exact rt_z hx hb hr hlk (by decide) hP hD hS rfl dX5_bearsName_153
  replace hM := if_f c2 hM
  by_cases c3 : a1 = 3
  · replace hM := if_t c3 hM
    refine lv_tableIn (tgt := 152) hx hb dX5_bearsName_1 (by rw [c3]; decide) (by rw [c3]; decide) (by rw [c3]; rfl) (by decide) ?_
    refine lv_iconst (v := 1) hx hb dX5_bearsName_152 (by decide) ?_
    cases hM
    exact rt_z hx hb hr hlk (by decide) hP hD hS rfl dX5_bearsName_153
  replace hM := if_f c3 hM
  by_cases c4 : a1 = 4
  · replace hM := if_t c4 hM
    refine lv_tableIn (tgt := 154) hx hb dX5_bearsName_1 (by rw [c4]; decide) (by rw [c4]; decide) (by rw [c4]; rfl) (by decide) ?_
    refine lv_iconst (v := 0) hx hb dX5_bearsName_154 (by decide) ?_
    cases hM
    exact rt_z hx hb hr hlk (by decide) hP hD hS rfl dX5_bearsName_155
  replace hM := if_f c4 hM
  by_cases c5 : a1 = 5
  · replace hM := if_t c5 hM
    refine lv_tableIn (tgt := 154) hx hb dX5_bearsName_1 (by rw [c5]; decide) (by rw [c5]; decide) (by rw [c5]; rfl) (by decide) ?_
    refine lv_iconst (v := 0) hx hb dX5_bearsName_154 (by decide) ?_
    cases hM
    exact rt_z hx hb hr hlk (by decide) hP hD hS rfl dX5_bearsName_155
  replace hM := if_f c5 hM
  by_cases c6 : a1 = 6
  · replace hM := if_t c6 hM
    refine lv_tableIn (tgt := 152) hx hb dX5_bearsName_1 (by rw [c6]; decide) (by rw [c6]; decide) (by rw [c6]; rfl) (by decide) ?_
    refine lv_iconst (v := 1) hx hb dX5_bearsName_152 (by decide) ?_
    cases hM
    exact rt_z hx hb hr hlk (by decide) hP hD hS rfl dX5_bearsName_153
  replace hM := if_f c6 hM
  by_cases c7 : a1 = 7
  · replace hM := if_t c7 hM
    refine lv_tableIn (tgt := 154) hx hb dX5_bearsName_1 (by rw [c7]; decide) (by rw [c7]; decide) (by rw [c7]; rfl) (by decide) ?_
    refine lv_iconst (v := 0) hx hb dX5_bearsName_154 (by decide) ?_
    cases hM
    exact rt_z hx hb hr hlk (by decide) hP hD hS rfl dX5_bearsName_155
  replace hM := if_f c7 hM
  by_cases c8 : a1 = 8
  · replace hM := if_t c8 hM
    refine lv_tableIn (tgt := 154) hx hb dX5_bearsName_1 (by rw [c8]; decide) (by rw [c8]; decide) (by rw [c8]; rfl) (by decide) ?_
    refine lv_iconst (v := 0) hx hb dX5_bearsName_154 (by decide) ?_
    cases hM
    exact rt_z hx hb hr hlk (by decide) hP hD hS rfl dX5_bearsName_155
  replace hM := if_f c8 hM
  by_cases c9 : a1 = 9
  · replace hM := if_t c9 hM
    refine lv_tableIn (tgt := 154) hx hb dX5_bearsName_1 (by rw [c9]; decide) (by rw [c9]; decide) (by rw [c9]; rfl) (by decide) ?_
    refine lv_iconst (v := 0) hx hb dX5_bearsName_154 (by decide) ?_
    cases hM
    exact rt_z hx hb hr hlk (by decide) hP hD hS rfl dX5_bearsName_155
  replace hM := if_f c9 hM
  by_cases c10 : a1 = 10
  · replace hM := if_t c10 hM
    refine lv_tableIn (tgt := 152) hx hb dX5_bearsName_1 (by rw [c10]; decide) (by rw [c10]; decide) (by rw [c10]; rfl) (by decide) ?_
    refine lv_iconst (v := 1) hx hb dX5_bearsName_152 (by decide) ?_
    cases hM
    exact rt_z hx hb hr hlk (by decide) hP hD hS rfl dX5_bearsName_153
  replace hM := if_f c10 hM
  by_cases c11 : a1 = 11
  · replace hM := if_t c11 hM
    refine lv_tableIn (tgt := 154) hx hb dX5_bearsName_1 (by rw [c11]; decide) (by rw [c11]; decide) (by rw [c11]; rfl) (by decide) ?_
    refine lv_iconst (v := 0) hx hb dX5_bearsName_154 (by decide) ?_
    cases hM
    exact rt_z hx hb hr hlk (by decide) hP hD hS rfl dX5_bearsName_155
  replace hM := if_f c11 hM
  by_cases c12 : a1 = 12
  · replace hM := if_t c12 hM
    refine lv_tableIn (tgt := 154) hx hb dX5_bearsName_1 (by rw [c12]; decide) (by rw [c12]; decide) (by rw [c12]; rfl) (by decide) ?_
    refine lv_iconst (v := 0) hx hb dX5_bearsName_154 (by decide) ?_
    cases hM
    exact rt_z hx hb hr hlk (by decide) hP hD hS rfl dX5_bearsName_155
  replace hM := if_f c12 hM
  by_cases c13 : a1 = 13
  · replace hM := if_t c13 hM
    refine lv_tableIn (tgt := 152) hx hb dX5_bearsName_1 (by rw [c13]; decide) (by rw [c13]; decide) (by rw [c13]; rfl) (by decide) ?_
    refine lv_iconst (v := 1) hx hb dX5_bearsName_152 (by decide) ?_
    cases hM
    exact rt_z hx hb hr hlk (by decide) hP hD hS rfl dX5_bearsName_153
  replace hM := if_f c13 hM
  by_cases c14 : a1 = 14
  · replace hM := if_t c14 hM
    refine lv_tableIn (tgt := 152) hx hb dX5_bearsName_1 (by rw [c14]; decide) (by rw [c14]; decide) (by rw [c14]; rfl) (by decide) ?_
    refine lv_iconst (v := 1) hx hb dX5_bearsName_152 (by decide) ?_
    cases hM
    exact rt_z hx hb hr hlk (by decide) hP hD hS rfl dX5_bearsName_153
  replace hM := if_f c14 hM
  by_cases c15 : a1 = 15
  · replace hM := if_t c15 hM
    refine lv_tableIn (tgt := 154) hx hb dX5_bearsName_1 (by rw [c15]; decide) (by rw [c15]; decide) (by rw [c15]; rfl) (by decide) ?_
    refine lv_iconst (v := 0) hx hb dX5_bearsName_154 (by decide) ?_
    cases hM
    exact rt_z hx hb hr hlk (by decide) hP hD hS rfl dX5_bearsName_155
  replace hM := if_f c15 hM
  by_cases c16 : a1 = 16
  · replace hM := if_t c16 hM
    refine lv_tableIn (tgt := 154) hx hb dX5_bearsName_1 (by rw [c16]; decide) (by rw [c16]; decide) (by rw [c16]; rfl) (by decide) ?_
    refine lv_iconst (v := 0) hx hb dX5_bearsName_154 (by decide) ?_
    cases hM
    exact rt_z hx hb hr hlk (by decide) hP hD hS rfl dX5_bearsName_155
  replace hM := if_f c16 hM
  by_cases c17 : a1 = 17
  · replace hM := if_t c17 hM
    refine lv_tableIn (tgt := 154) hx hb dX5_bearsName_1 (by rw [c17]; decide) (by rw [c17]; decide) (by rw [c17]; rfl) (by decide) ?_
    refine lv_iconst (v := 0) hx hb dX5_bearsName_154 (by decide) ?_
    cases hM
    exact rt_z hx hb hr hlk (by decide) hP hD hS rfl dX5_bearsName_155
  replace hM := if_f c17 hM
  by_cases c18 : a1 = 18
  · replace hM := if_t c18 hM
    refine lv_tableIn (tgt := 154) hx hb dX5_bearsName_1 (by rw [c18]; decide) (by rw [c18]; decide) (by rw [c18]; rfl) (by decide) ?_
    refine lv_iconst (v := 0) hx hb dX5_bearsName_154 (by decide) ?_
    cases hM
    exact rt_z hx hb hr hlk (by decide) hP hD hS rfl dX5_bearsName_155
  replace hM := if_f c18 hM
  by_cases c19 : a1 = 19
  · replace hM := if_t c19 hM
    refine lv_tableIn (tgt := 152) hx hb dX5_bearsName_1 (by rw [c19]; decide) (by rw [c19]; decide) (by rw [c19]; rfl) (by decide) ?_
    refine lv_iconst (v := 1) hx hb dX5_bearsName_152 (by decide) ?_
    cases hM
    exact rt_z hx hb hr hlk (by decide) hP hD hS rfl dX5_bearsName_153
  replace hM := if_f c19 hM
  by_cases c20 : a1 = 20
  · replace hM := if_t c20 hM
    refine lv_tableIn (tgt := 154) hx hb dX5_bearsName_1 (by rw [c20]; decide) (by rw [c20]; decide) (by rw [c20]; rfl) (by decide) ?_
    refine lv_iconst (v := 0) hx hb dX5_bearsName_154 (by decide) ?_
    cases hM
    exact rt_z hx hb hr hlk (by decide) hP hD hS rfl dX5_bearsName_155
  replace hM := if_f c20 hM
  by_cases c21 : a1 = 21
  · replace hM := if_t c21 hM
    refine lv_tableIn (tgt := 154) hx hb dX5_bearsName_1 (by rw [c21]; decide) (by rw [c21]; decide) (by rw [c21]; rfl) (by decide) ?_
    refine lv_iconst (v := 0) hx hb dX5_bearsName_154 (by decide) ?_
    cases hM
    exact rt_z hx hb hr hlk (by decide) hP hD hS rfl dX5_bearsName_155
  replace hM := if_f c21 hM
  by_cases c22 : a1 = 22
  · replace hM := if_t c22 hM
    refine lv_tableIn (tgt := 154) hx hb dX5_bearsName_1 (by rw [c22]; decide) (by rw [c22]; decide) (by rw [c22]; rfl) (by decide) ?_
    refine lv_iconst (v := 0) hx hb dX5_bearsName_154 (by decide) ?_
    cases hM
    exact rt_z hx hb hr hlk (by decide) hP hD hS rfl dX5_bearsName_155
  replace hM := if_f c22 hM
  by_cases c23 : a1 = 23
  · replace hM := if_t c23 hM
    refine lv_tableIn (tgt := 154) hx hb dX5_bearsName_1 (by rw [c23]; decide) (by rw [c23]; decide) (by rw [c23]; rfl) (by decide) ?_
    refine lv_iconst (v := 0) hx hb dX5_bearsName_154 (by decide) ?_
    cases hM
    exact rt_z hx hb hr hlk (by decide) hP hD hS rfl dX5_bearsName_155
  replace hM := if_f c23 hM
  by_cases c24 : a1 = 24
  · replace hM := if_t c24 hM
    refine lv_tableIn (tgt := 154) hx hb dX5_bearsName_1 (by rw [c24]; decide) (by rw [c24]; decide) (by rw [c24]; rfl) (by decide) ?_
    refine lv_iconst (v := 0) hx hb dX5_bearsName_154 (by decide) ?_
    cases hM
    exact rt_z hx hb hr hlk (by decide) hP hD hS rfl dX5_bearsName_155
  replace hM := if_f c24 hM
  by_cases c25 : a1 = 25
  · replace hM := if_t c25 hM
    refine lv_tableIn (tgt := 154) hx hb dX5_bearsName_1 (by rw [c25]; decide) (by rw [c25]; decide) (by rw [c25]; rfl) (by decide) ?_
    refine lv_iconst (v := 0) hx hb dX5_bearsName_154 (by decide) ?_
    cases hM
    exact rt_z hx hb hr hlk (by decide) hP hD hS rfl dX5_bearsName_155
  replace hM := if_f c25 hM
  by_cases c26 : a1 = 26
  · replace hM := if_t c26 hM
    refine lv_tableIn (tgt := 154) hx hb dX5_bearsName_1 (by rw [c26]; decide) (by rw [c26]; decide) (by rw [c26]; rfl) (by decide) ?_
    refine lv_iconst (v := 0) hx hb dX5_bearsName_154 (by decide) ?_
    cases hM
    exact rt_z hx hb hr hlk (by decide) hP hD hS rfl dX5_bearsName_155
  replace hM := if_f c26 hM
  by_cases c27 : a1 = 27
  · replace hM := if_t c27 hM
    refine lv_tableIn (tgt := 154) hx hb dX5_bearsName_1 (by rw [c27]; decide) (by rw [c27]; decide) (by rw [c27]; rfl) (by decide) ?_
    refine lv_iconst (v := 0) hx hb dX5_bearsName_154 (by decide) ?_
    cases hM
    exact rt_z hx hb hr hlk (by decide) hP hD hS rfl dX5_bearsName_155
  replace hM := if_f c27 hM
  by_cases c28 : a1 = 28
  · replace hM := if_t c28 hM
    refine lv_tableIn (tgt := 154) hx hb dX5_bearsName_1 (by rw [c28]; decide) (by rw [c28]; decide) (by rw [c28]; rfl) (by decide) ?_
    refine lv_iconst (v := 0) hx hb dX5_bearsName_154 (by decide) ?_
    cases hM
    exact rt_z hx hb hr hlk (by decide) hP hD hS rfl dX5_bearsName_155
  replace hM := if_f c28 hM
  by_cases c29 : a1 = 29
  · replace hM := if_t c29 hM
    refine lv_tableIn (tgt := 154) hx hb dX5_bearsName_1 (by rw [c29]; decide) (by rw [c29]; decide) (by rw [c29]; rfl) (by decide) ?_
    refine lv_iconst (v := 0) hx hb dX5_bearsName_154 (by decide) ?_
    cases hM
    exact rt_z hx hb hr hlk (by decide) hP hD hS rfl dX5_bearsName_155
  replace hM := if_f c29 hM
  by_cases c30 : a1 = 30
  · replace hM := if_t c30 hM
    refine lv_tableIn (tgt := 154) hx hb dX5_bearsName_1 (by rw [c30]; decide) (by rw [c30]; decide) (by rw [c30]; rfl) (by decide) ?_
    refine lv_iconst (v := 0) hx hb dX5_bearsName_154 (by decide) ?_
    cases hM
    exact rt_z hx hb hr hlk (by decide) hP hD hS rfl dX5_bearsName_155
  replace hM := if_f c30 hM
  by_cases c31 : a1 = 31
  · replace hM := if_t c31 hM
    refine lv_tableIn (tgt := 154) hx hb dX5_bearsName_1 (by rw [c31]; decide) (by rw [c31]; decide) (by rw [c31]; rfl) (by decide) ?_
    refine lv_iconst (v := 0) hx hb dX5_bearsName_154 (by decide) ?_
    cases hM
    exact rt_z hx hb hr hlk (by decide) hP hD hS rfl dX5_bearsName_155
  replace hM := if_f c31 hM
  by_cases c32 : a1 = 32
  · replace hM := if_t c32 hM
    refine lv_tableIn (tgt := 152) hx hb dX5_bearsName_1 (by rw [c32]; decide) (by rw [c32]; decide) (by rw [c32]; rfl) (by decide) ?_
    refine lv_iconst (v := 1) hx hb dX5_bearsName_152 (by decide) ?_
    cases hM
    exact rt_z hx hb hr hlk (by decide) hP hD hS rfl dX5_bearsName_153
  replace hM := if_f c32 hM
  by_cases c33 : a1 = 33
  · replace hM := if_t c33 hM
    refine lv_tableIn (tgt := 152) hx hb dX5_bearsName_1 (by rw [c33]; decide) (by rw [c33]; decide) (by rw [c33]; rfl) (by decide) ?_
    refine lv_iconst (v := 1) hx hb dX5_bearsName_152 (by decide) ?_
    cases hM
    exact rt_z hx hb hr hlk (by decide) hP hD hS rfl dX5_bearsName_153
  replace hM := if_f c33 hM
  by_cases c34 : a1 = 34
  · replace hM := if_t c34 hM
    refine lv_tableIn (tgt := 152) hx hb dX5_bearsName_1 (by rw [c34]; decide) (by rw [c34]; decide) (by rw [c34]; rfl) (by decide) ?_
    refine lv_iconst (v := 1) hx hb dX5_bearsName_152 (by decide) ?_
    cases hM
    exact rt_z hx hb hr hlk (by decide) hP hD hS rfl dX5_bearsName_153
  replace hM := if_f c34 hM
  refine lv_tableOut (tgt := 154) hx hb dX5_bearsName_1 (by have := lv_neT c1 (show (1 : Int32).toInt = 1 by decide); have := lv_neT c2 (show (2 : Int32).toInt = 2 by decide); have := lv_neT c3 (show (3 : Int32).toInt = 3 by decide); have := lv_neT c4 (show (4 : Int32).toInt = 4 by decide); have := lv_neT c5 (show (5 : Int32).toInt = 5 by decide); have := lv_neT c6 (show (6 : Int32).toInt = 6 by decide); have := lv_neT c7 (show (7 : Int32).toInt = 7 by decide); have := lv_neT c8 (show (8 : Int32).toInt = 8 by decide); have := lv_neT c9 (show (9 : Int32).toInt = 9 by decide); have := lv_neT c10 (show (10 : Int32).toInt = 10 by decide); have := lv_neT c11 (show (11 : Int32).toInt = 11 by decide); have := lv_neT c12 (show (12 : Int32).toInt = 12 by decide); have := lv_neT c13 (show (13 : Int32).toInt = 13 by decide); have := lv_neT c14 (show (14 : Int32).toInt = 14 by decide); have := lv_neT c15 (show (15 : Int32).toInt = 15 by decide); have := lv_neT c16 (show (16 : Int32).toInt = 16 by decide); have := lv_neT c17 (show (17 : Int32).toInt = 17 by decide); have := lv_neT c18 (show (18 : Int32).toInt = 18 by decide); have := lv_neT c19 (show (19 : Int32).toInt = 19 by decide); have := lv_neT c20 (show (20 : Int32).toInt = 20 by decide); have := lv_neT c21 (show (21 : Int32).toInt = 21 by decide); have := lv_neT c22 (show (22 : Int32).toInt = 22 by decide); have := lv_neT c23 (show (23 : Int32).toInt = 23 by decide); have := lv_neT c24 (show (24 : Int32).toInt = 24 by decide); have := lv_neT c25 (show (25 : Int32).toInt = 25 by decide); have := lv_neT c26 (show (26 : Int32).toInt = 26 by decide); have := lv_neT c27 (show (27 : Int32).toInt = 27 by decide); have := lv_neT c28 (show (28 : Int32).toInt = 28 by decide); have := lv_neT c29 (show (29 : Int32).toInt = 29 by decide); have := lv_neT c30 (show (30 : Int32).toInt = 30 by decide); have := lv_neT c31 (show (31 : Int32).toInt = 31 by decide); have := lv_neT c32 (show (32 : Int32).toInt = 32 by decide); have := lv_neT c33 (show (33 : Int32).toInt = 33 by decide); have := lv_neT c34 (show (34 : Int32).toInt = 34 by decide); omega) (by decide) ?_
  refine lv_iconst (v := 0) hx hb dX5_bearsName_154 (by decide) ?_
  cases hM
  exact rt_z hx hb hr hlk (by decide) hP hD hS rfl dX5_bearsName_155

set_option maxHeartbeats 4000000 in
set_option maxRecDepth 100000 in
theorem c_Writer_contactSign (l : Launch) (D : va_G) (cI : ClassId) (sd : Nat → Nat) (ad : Nat → Nat) (a1 : Int32) (res : Int32) (hM : f_Writer_contactSign a1 = some res) : Ctr l D cI sd yX5_contactSign (wsM yX5_contactSign cX5_contactSign 1 (Option.some Jvm.ClassFile.FieldType.int)) { frames := 0, cells := 0, slots := 0, locals := 0 } [.int a1] (([] : va_W)) (([] : va_W)) (some (.int res)) := by
  refine Ctr.of (cc := cX5_contactSign) (maxL := 1) (own := RX5) (by decide +kernel) rfl rfl (Nat.le_of_ble_eq_true rfl) ?_
  intro p e s m below meth c A ls hx hb hr hml hown hts hlk hK hE hA hP hD hS hl
  have hl : lv_has ls 1 [(0, .int a1)] := hl
  unfold f_Writer_contactSign at hM
  refine lv_iload_n hx hb dX5_contactSign_0 rfl (lv_at hl 0 rfl) ?_
  by_cases c1 : a1 = 1
  · replace hM := if_t c1 hM
    refine lv_tableIn (tgt := 28) hx hb dX5_contactSign_1 (by rw [c1]; decide) (by rw [c1]; decide) (by rw [c1]; rfl) (by decide) ?_
    refine lv_bipush (v := 47) hx hb dX5_contactSign_28 (by decide) ?_
    cases hM
    exact rt_i hx hb hr hlk hP hD hS rfl dX5_contactSign_30
  replace hM := if_f c1 hM
  by_cases c2 : a1 = 2
  · replace hM := if_t c2 hM
    refine lv_tableIn (tgt := 31) hx hb dX5_contactSign_1 (by rw [c2]; decide) (by rw [c2]; decide) (by rw [c2]; rfl) (by decide) ?_
    refine lv_bipush (v := 62) hx hb dX5_contactSign_31 (by decide) ?_
    cases hM
    exact rt_i hx hb hr hlk hP hD hS rfl dX5_contactSign_33
  replace hM := if_f c2 hM
  by_cases c3 : a1 = 3
  · replace hM := if_t c3 hM
    refine lv_tableIn (tgt := 34) hx hb dX5_contactSign_1 (by rw [c3]; decide) (by rw [c3]; decide) (by rw [c3]; rfl) (by decide) ?_
    refine lv_bipush (v := 60) hx hb dX5_contactSign_34 (by decide) ?_
    cases hM
    exact rt_i hx hb hr hlk hP hD hS rfl dX5_contactSign_36
  replace hM := if_f c3 hM
  refine lv_tableOut (tgt := 37) hx hb dX5_contactSign_1 (by have := lv_neT c1 (show (1 : Int32).toInt = 1 by decide); have := lv_neT c2 (show (2 : Int32).toInt = 2 by decide); have := lv_neT c3 (show (3 : Int32).toInt = 3 by decide); omega) (by decide) ?_
  refine lv_iconst (v := (-1)) hx hb dX5_contactSign_37 (by decide) ?_
  cases hM
  exact rt_i hx hb hr hlk hP hD hS rfl dX5_contactSign_38

set_option maxHeartbeats 4000000 in
set_option maxRecDepth 100000 in
theorem c_Writer_firstToken (l : Launch) (D : va_G) (cI : ClassId) (sd : Nat → Nat) (ad : Nat → Nat) (a1 : Int32) (a2 : Int32) (res : Int32) (hM : f_Writer_firstToken a1 a2 = some res) : Ctr l D cI sd yX5_firstToken (wsM yX5_firstToken cX5_firstToken 2 (Option.some Jvm.ClassFile.FieldType.int)) { frames := 1, cells := 0, slots := 0, locals := 20 } [.int a1, .int a2] (([] : va_W)) (([] : va_W)) (some (.int res)) := by
  refine Ctr.of (cc := cX5_firstToken) (maxL := 2) (own := RX5) (by decide +kernel) rfl rfl (Nat.le_of_ble_eq_true rfl) ?_
  intro p e s m below meth c A ls hx hb hr hml hown hts hlk hK hE hA hP hD hS hl
  have hl : lv_has ls 2 [(0, .int a1), (1, .int a2)] := hl
  unfold f_Writer_firstToken at hM
  refine lv_iload_n hx hb dX5_firstToken_0 rfl (lv_at hl 0 rfl) ?_
  by_cases c1 : a1 = 1
  · replace hM := if_t c1 hM
    refine lv_tableIn (tgt := 160) hx hb dX5_firstToken_1 (by rw [c1]; decide) (by rw [c1]; decide) (by rw [c1]; rfl) (by decide) ?_
    refine lv_sipush (v := 256) hx hb dX5_firstToken_160 (by decide) ?_
    cases hM
    exact rt_i hx hb hr hlk hP hD hS rfl dX5_firstToken_163
  replace hM := if_f c1 hM
  by_cases c2 : a1 = 2
  · replace hM := if_t c2 hM
    refine lv_tableIn (tgt := 164) hx hb dX5_firstToken_1 (by rw [c2]; decide) (by rw [c2]; decide) (by rw [c2]; rfl) (by decide) ?_
    refine lv_sipush (v := 258) hx hb dX5_firstToken_164 (by decide) ?_
    cases hM
    exact rt_i hx hb hr hlk hP hD hS rfl dX5_firstToken_167
  replace hM := if_f c2 hM
  by_cases c3 : a1 = 3
  · replace hM := if_t c3 hM
    refine lv_tableIn (tgt := 168) hx hb dX5_firstToken_1 (by rw [c3]; decide) (by rw [c3]; decide) (by rw [c3]; rfl) (by decide) ?_
    refine lv_sipush (v := 260) hx hb dX5_firstToken_168 (by decide) ?_
    cases hM
    exact rt_i hx hb hr hlk hP hD hS rfl dX5_firstToken_171
  replace hM := if_f c3 hM
  by_cases c4 : a1 = 4
  · replace hM := if_t c4 hM
    refine lv_tableIn (tgt := 172) hx hb dX5_firstToken_1 (by rw [c4]; decide) (by rw [c4]; decide) (by rw [c4]; rfl) (by decide) ?_
    refine lv_sipush (v := 262) hx hb dX5_firstToken_172 (by decide) ?_
    refine lv_iload_n hx hb dX5_firstToken_175 rfl (lv_at hl 1 rfl) ?_
    refine lv_iadd hx hb dX5_firstToken_176 ?_
    cases hM
    exact rt_i hx hb hr hlk hP hD hS rfl dX5_firstToken_177
  replace hM := if_f c4 hM
  by_cases c5 : a1 = 5
  · replace hM := if_t c5 hM
    refine lv_tableIn (tgt := 262) hx hb dX5_firstToken_1 (by rw [c5]; decide) (by rw [c5]; decide) (by rw [c5]; rfl) (by decide) ?_
    refine lv_iconst (v := (-1)) hx hb dX5_firstToken_262 (by decide) ?_
    cases hM
    exact rt_i hx hb hr hlk hP hD hS rfl dX5_firstToken_263
  replace hM := if_f c5 hM
  by_cases c6 : a1 = 6
  · replace hM := if_t c6 hM
    refine lv_tableIn (tgt := 262) hx hb dX5_firstToken_1 (by rw [c6]; decide) (by rw [c6]; decide) (by rw [c6]; rfl) (by decide) ?_
    refine lv_iconst (v := (-1)) hx hb dX5_firstToken_262 (by decide) ?_
    cases hM
    exact rt_i hx hb hr hlk hP hD hS rfl dX5_firstToken_263
  replace hM := if_f c6 hM
  by_cases c7 : a1 = 7
  · replace hM := if_t c7 hM
    refine lv_tableIn (tgt := 262) hx hb dX5_firstToken_1 (by rw [c7]; decide) (by rw [c7]; decide) (by rw [c7]; rfl) (by decide) ?_
    refine lv_iconst (v := (-1)) hx hb dX5_firstToken_262 (by decide) ?_
    cases hM
    exact rt_i hx hb hr hlk hP hD hS rfl dX5_firstToken_263
  replace hM := if_f c7 hM
  by_cases c8 : a1 = 8
  · replace hM := if_t c8 hM
    refine lv_tableIn (tgt := 178) hx hb dX5_firstToken_1 (by rw [c8]; decide) (by rw [c8]; decide) (by rw [c8]; rfl) (by decide) ?_
    refine lv_sipush (v := 267) hx hb dX5_firstToken_178 (by decide) ?_
    refine lv_iload_n hx hb dX5_firstToken_181 rfl (lv_at hl 1 rfl) ?_
    refine lv_iadd hx hb dX5_firstToken_182 ?_
    cases hM
    exact rt_i hx hb hr hlk hP hD hS rfl dX5_firstToken_183
  replace hM := if_f c8 hM
  by_cases c9 : a1 = 9
  · replace hM := if_t c9 hM
    refine lv_tableIn (tgt := 184) hx hb dX5_firstToken_1 (by rw [c9]; decide) (by rw [c9]; decide) (by rw [c9]; rfl) (by decide) ?_
    refine lv_sipush (v := 270) hx hb dX5_firstToken_184 (by decide) ?_
    cases hM
    exact rt_i hx hb hr hlk hP hD hS rfl dX5_firstToken_187
  replace hM := if_f c9 hM
  by_cases c10 : a1 = 10
  · replace hM := if_t c10 hM
    refine lv_tableIn (tgt := 262) hx hb dX5_firstToken_1 (by rw [c10]; decide) (by rw [c10]; decide) (by rw [c10]; rfl) (by decide) ?_
    refine lv_iconst (v := (-1)) hx hb dX5_firstToken_262 (by decide) ?_
    cases hM
    exact rt_i hx hb hr hlk hP hD hS rfl dX5_firstToken_263
  replace hM := if_f c10 hM
  by_cases c11 : a1 = 11
  · replace hM := if_t c11 hM
    refine lv_tableIn (tgt := 262) hx hb dX5_firstToken_1 (by rw [c11]; decide) (by rw [c11]; decide) (by rw [c11]; rfl) (by decide) ?_
    refine lv_iconst (v := (-1)) hx hb dX5_firstToken_262 (by decide) ?_
    cases hM
    exact rt_i hx hb hr hlk hP hD hS rfl dX5_firstToken_263
  replace hM := if_f c11 hM
  by_cases c12 : a1 = 12
  · replace hM := if_t c12 hM
    refine lv_tableIn (tgt := 262) hx hb dX5_firstToken_1 (by rw [c12]; decide) (by rw [c12]; decide) (by rw [c12]; rfl) (by decide) ?_
    refine lv_iconst (v := (-1)) hx hb dX5_firstToken_262 (by decide) ?_
    cases hM
    exact rt_i hx hb hr hlk hP hD hS rfl dX5_firstToken_263
  replace hM := if_f c12 hM
  by_cases c13 : a1 = 13
  · replace hM := if_t c13 hM
    refine lv_tableIn (tgt := 262) hx hb dX5_firstToken_1 (by rw [c13]; decide) (by rw [c13]; decide) (by rw [c13]; rfl) (by decide) ?_
    refine lv_iconst (v := (-1)) hx hb dX5_firstToken_262 (by decide) ?_
    cases hM
    exact rt_i hx hb hr hlk hP hD hS rfl dX5_firstToken_263
  replace hM := if_f c13 hM
  by_cases c14 : a1 = 14
  · replace hM := if_t c14 hM
    refine lv_tableIn (tgt := 262) hx hb dX5_firstToken_1 (by rw [c14]; decide) (by rw [c14]; decide) (by rw [c14]; rfl) (by decide) ?_
    refine lv_iconst (v := (-1)) hx hb dX5_firstToken_262 (by decide) ?_
    cases hM
    exact rt_i hx hb hr hlk hP hD hS rfl dX5_firstToken_263
  replace hM := if_f c14 hM
  by_cases c15 : a1 = 15
  · replace hM := if_t c15 hM
    refine lv_tableIn (tgt := 188) hx hb dX5_firstToken_1 (by rw [c15]; decide) (by rw [c15]; decide) (by rw [c15]; rfl) (by decide) ?_
    refine lv_sipush (v := 272) hx hb dX5_firstToken_188 (by decide) ?_
    cases hM
    exact rt_i hx hb hr hlk hP hD hS rfl dX5_firstToken_191
  replace hM := if_f c15 hM
  by_cases c16 : a1 = 16
  · replace hM := if_t c16 hM
    refine lv_tableIn (tgt := 192) hx hb dX5_firstToken_1 (by rw [c16]; decide) (by rw [c16]; decide) (by rw [c16]; rfl) (by decide) ?_
    refine lv_sipush (v := 277) hx hb dX5_firstToken_192 (by decide) ?_
    cases hM
    exact rt_i hx hb hr hlk hP hD hS rfl dX5_firstToken_195
  replace hM := if_f c16 hM
  by_cases c17 : a1 = 17
  · replace hM := if_t c17 hM
    refine lv_tableIn (tgt := 262) hx hb dX5_firstToken_1 (by rw [c17]; decide) (by rw [c17]; decide) (by rw [c17]; rfl) (by decide) ?_
    refine lv_iconst (v := (-1)) hx hb dX5_firstToken_262 (by decide) ?_
    cases hM
    exact rt_i hx hb hr hlk hP hD hS rfl dX5_firstToken_263
  replace hM := if_f c17 hM
  by_cases c18 : a1 = 18
  · replace hM := if_t c18 hM
    refine lv_tableIn (tgt := 262) hx hb dX5_firstToken_1 (by rw [c18]; decide) (by rw [c18]; decide) (by rw [c18]; rfl) (by decide) ?_
    refine lv_iconst (v := (-1)) hx hb dX5_firstToken_262 (by decide) ?_
    cases hM
    exact rt_i hx hb hr hlk hP hD hS rfl dX5_firstToken_263
  replace hM := if_f c18 hM
  by_cases c19 : a1 = 19
  · replace hM := if_t c19 hM
    refine lv_tableIn (tgt := 196) hx hb dX5_firstToken_1 (by rw [c19]; decide) (by rw [c19]; decide) (by rw [c19]; rfl) (by decide) ?_
    refine lv_sipush (v := 279) hx hb dX5_firstToken_196 (by decide) ?_
    cases hM
    exact rt_i hx hb hr hlk hP hD hS rfl dX5_firstToken_199
  replace hM := if_f c19 hM
  by_cases c20 : a1 = 20
  · replace hM := if_t c20 hM
    refine lv_tableIn (tgt := 200) hx hb dX5_firstToken_1 (by rw [c20]; decide) (by rw [c20]; decide) (by rw [c20]; rfl) (by decide) ?_
    refine lv_sipush (v := 284) hx hb dX5_firstToken_200 (by decide) ?_
    cases hM
    exact rt_i hx hb hr hlk hP hD hS rfl dX5_firstToken_203
  replace hM := if_f c20 hM
  by_cases c21 : a1 = 21
  · replace hM := if_t c21 hM
    refine lv_tableIn (tgt := 204) hx hb dX5_firstToken_1 (by rw [c21]; decide) (by rw [c21]; decide) (by rw [c21]; rfl) (by decide) ?_
    refine lv_sipush (v := 285) hx hb dX5_firstToken_204 (by decide) ?_
    cases hM
    exact rt_i hx hb hr hlk hP hD hS rfl dX5_firstToken_207
  replace hM := if_f c21 hM
  by_cases c22 : a1 = 22
  · replace hM := if_t c22 hM
    refine lv_tableIn (tgt := 208) hx hb dX5_firstToken_1 (by rw [c22]; decide) (by rw [c22]; decide) (by rw [c22]; rfl) (by decide) ?_
    refine lv_sipush (v := 293) hx hb dX5_firstToken_208 (by decide) ?_
    cases hM
    exact rt_i hx hb hr hlk hP hD hS rfl dX5_firstToken_211
  replace hM := if_f c22 hM
  by_cases c23 : a1 = 23
  · replace hM := if_t c23 hM
    refine lv_tableIn (tgt := 212) hx hb dX5_firstToken_1 (by rw [c23]; decide) (by rw [c23]; decide) (by rw [c23]; rfl) (by decide) ?_
    refine lv_sipush (v := 295) hx hb dX5_firstToken_212 (by decide) ?_
    cases hM
    exact rt_i hx hb hr hlk hP hD hS rfl dX5_firstToken_215
  replace hM := if_f c23 hM
  by_cases c24 : a1 = 24
  · replace hM := if_t c24 hM
    refine lv_tableIn (tgt := 262) hx hb dX5_firstToken_1 (by rw [c24]; decide) (by rw [c24]; decide) (by rw [c24]; rfl) (by decide) ?_
    refine lv_iconst (v := (-1)) hx hb dX5_firstToken_262 (by decide) ?_
    cases hM
    exact rt_i hx hb hr hlk hP hD hS rfl dX5_firstToken_263
  replace hM := if_f c24 hM
  by_cases c25 : a1 = 25
  · replace hM := if_t c25 hM
    refine lv_tableIn (tgt := 216) hx hb dX5_firstToken_1 (by rw [c25]; decide) (by rw [c25]; decide) (by rw [c25]; rfl) (by decide) ?_
    refine lv_iload_n hx hb dX5_firstToken_216 rfl (lv_at hl 1 rfl) ?_
    obtain ⟨r26, hcr26, hM⟩ := ob_use hM
    refine cl_S (As := [.int a2]) (rest := []) (([] : va_W)) (.int r26 :: []) ⟨hx, hb, hml, hown, hts⟩ (c_Writer_contactSign l D cI sd ad a2 r26 hcr26) (cwS2 hts q935 mvX5_contactSign rfl rfl ⟨(Nat.le_of_ble_eq_true rfl), (Nat.le_of_ble_eq_true rfl)⟩) hK hE hA hP hD hS [] rfl (by decide) rfl rfl rfl rfl rfl rfl hl.1 (Nat.le_of_ble_eq_true rfl) dX5_firstToken_217 ⟨Nat.zero_le _, Nat.zero_le _⟩ (fun H locs hP hD hS => ?_)
    cases hM
    exact rt_i hx hb hr hlk hP hD hS rfl dX5_firstToken_220
  replace hM := if_f c25 hM
  by_cases c27 : a1 = 26
  · replace hM := if_t c27 hM
    refine lv_tableIn (tgt := 221) hx hb dX5_firstToken_1 (by rw [c27]; decide) (by rw [c27]; decide) (by rw [c27]; rfl) (by decide) ?_
    refine lv_bipush (v := 45) hx hb dX5_firstToken_221 (by decide) ?_
    cases hM
    exact rt_i hx hb hr hlk hP hD hS rfl dX5_firstToken_223
  replace hM := if_f c27 hM
  by_cases c28 : a1 = 27
  · replace hM := if_t c28 hM
    refine lv_tableIn (tgt := 224) hx hb dX5_firstToken_1 (by rw [c28]; decide) (by rw [c28]; decide) (by rw [c28]; rfl) (by decide) ?_
    refine lv_bipush (v := 42) hx hb dX5_firstToken_224 (by decide) ?_
    cases hM
    exact rt_i hx hb hr hlk hP hD hS rfl dX5_firstToken_226
  replace hM := if_f c28 hM
  by_cases c29 : a1 = 28
  · replace hM := if_t c29 hM
    refine lv_tableIn (tgt := 227) hx hb dX5_firstToken_1 (by rw [c29]; decide) (by rw [c29]; decide) (by rw [c29]; rfl) (by decide) ?_
    refine lv_bipush (v := 40) hx hb dX5_firstToken_227 (by decide) ?_
    cases hM
    exact rt_i hx hb hr hlk hP hD hS rfl dX5_firstToken_229
  replace hM := if_f c29 hM
  by_cases c30 : a1 = 29
  · replace hM := if_t c30 hM
    refine lv_tableIn (tgt := 230) hx hb dX5_firstToken_1 (by rw [c30]; decide) (by rw [c30]; decide) (by rw [c30]; rfl) (by decide) ?_
    refine lv_bipush (v := 124) hx hb dX5_firstToken_230 (by decide) ?_
    cases hM
    exact rt_i hx hb hr hlk hP hD hS rfl dX5_firstToken_232
  replace hM := if_f c30 hM
  by_cases c31 : a1 = 30
  · replace hM := if_t c31 hM
    refine lv_tableIn (tgt := 262) hx hb dX5_firstToken_1 (by rw [c31]; decide) (by rw [c31]; decide) (by rw [c31]; rfl) (by decide) ?_
    refine lv_iconst (v := (-1)) hx hb dX5_firstToken_262 (by decide) ?_
    cases hM
    exact rt_i hx hb hr hlk hP hD hS rfl dX5_firstToken_263
  replace hM := if_f c31 hM
  by_cases c32 : a1 = 31
  · replace hM := if_t c32 hM
    refine lv_tableIn (tgt := 233) hx hb dX5_firstToken_1 (by rw [c32]; decide) (by rw [c32]; decide) (by rw [c32]; rfl) (by decide) ?_
    refine lv_iload_n hx hb dX5_firstToken_233 rfl (lv_at hl 1 rfl) ?_
    refine lv_iconst (v := 1) hx hb dX5_firstToken_234 (by decide) ?_
    refine lv_icmp_ne (tgt := 244) hx hb dX5_firstToken_235 (by decide) (fun c33 => ?_) (fun c33 => ?_)
    · replace hM := if_f c33 hM
      refine lv_sipush (v := 292) hx hb dX5_firstToken_244 (by decide) ?_
      cases hM
      exact rt_i hx hb hr hlk hP hD hS rfl dX5_firstToken_247
    · replace hM := if_t c33 hM
      refine lv_sipush (v := 291) hx hb dX5_firstToken_238 (by decide) ?_
      refine lv_goto (tgt := 247) hx hb dX5_firstToken_241 (by decide) ?_
      cases hM
      exact rt_i hx hb hr hlk hP hD hS rfl dX5_firstToken_247
  replace hM := if_f c32 hM
  by_cases c34 : a1 = 32
  · replace hM := if_t c34 hM
    refine lv_tableIn (tgt := 262) hx hb dX5_firstToken_1 (by rw [c34]; decide) (by rw [c34]; decide) (by rw [c34]; rfl) (by decide) ?_
    refine lv_iconst (v := (-1)) hx hb dX5_firstToken_262 (by decide) ?_
    cases hM
    exact rt_i hx hb hr hlk hP hD hS rfl dX5_firstToken_263
  replace hM := if_f c34 hM
  by_cases c35 : a1 = 33
  · replace hM := if_t c35 hM
    refine lv_tableIn (tgt := 262) hx hb dX5_firstToken_1 (by rw [c35]; decide) (by rw [c35]; decide) (by rw [c35]; rfl) (by decide) ?_
    refine lv_iconst (v := (-1)) hx hb dX5_firstToken_262 (by decide) ?_
    cases hM
    exact rt_i hx hb hr hlk hP hD hS rfl dX5_firstToken_263
  replace hM := if_f c35 hM
  by_cases c36 : a1 = 34
  · replace hM := if_t c36 hM
    refine lv_tableIn (tgt := 262) hx hb dX5_firstToken_1 (by rw [c36]; decide) (by rw [c36]; decide) (by rw [c36]; rfl) (by decide) ?_
    refine lv_iconst (v := (-1)) hx hb dX5_firstToken_262 (by decide) ?_
    cases hM
    exact rt_i hx hb hr hlk hP hD hS rfl dX5_firstToken_263
  replace hM := if_f c36 hM
  by_cases c37 : a1 = 35
  · replace hM := if_t c37 hM
    refine lv_tableIn (tgt := 262) hx hb dX5_firstToken_1 (by rw [c37]; decide) (by rw [c37]; decide) (by rw [c37]; rfl) (by decide) ?_
    refine lv_iconst (v := (-1)) hx hb dX5_firstToken_262 (by decide) ?_
    cases hM
    exact rt_i hx hb hr hlk hP hD hS rfl dX5_firstToken_263
  replace hM := if_f c37 hM
  by_cases c38 : a1 = 36
  · replace hM := if_t c38 hM
    refine lv_tableIn (tgt := 248) hx hb dX5_firstToken_1 (by rw [c38]; decide) (by rw [c38]; decide) (by rw [c38]; rfl) (by decide) ?_
    refine lv_iload_n hx hb dX5_firstToken_248 rfl (lv_at hl 1 rfl) ?_
    refine lv_iconst (v := 1) hx hb dX5_firstToken_249 (by decide) ?_
    refine lv_icmp_ne (tgt := 259) hx hb dX5_firstToken_250 (by decide) (fun c39 => ?_) (fun c39 => ?_)
    · replace hM := if_f c39 hM
      refine lv_bipush (v := 45) hx hb dX5_firstToken_259 (by decide) ?_
      cases hM
      exact rt_i hx hb hr hlk hP hD hS rfl dX5_firstToken_261
    · replace hM := if_t c39 hM
      refine lv_sipush (v := 290) hx hb dX5_firstToken_253 (by decide) ?_
      refine lv_goto (tgt := 261) hx hb dX5_firstToken_256 (by decide) ?_
      cases hM
      exact rt_i hx hb hr hlk hP hD hS rfl dX5_firstToken_261
  replace hM := if_f c38 hM
  refine lv_tableOut (tgt := 262) hx hb dX5_firstToken_1 (by have := lv_neT c1 (show (1 : Int32).toInt = 1 by decide); have := lv_neT c2 (show (2 : Int32).toInt = 2 by decide); have := lv_neT c3 (show (3 : Int32).toInt = 3 by decide); have := lv_neT c4 (show (4 : Int32).toInt = 4 by decide); have := lv_neT c5 (show (5 : Int32).toInt = 5 by decide); have := lv_neT c6 (show (6 : Int32).toInt = 6 by decide); have := lv_neT c7 (show (7 : Int32).toInt = 7 by decide); have := lv_neT c8 (show (8 : Int32).toInt = 8 by decide); have := lv_neT c9 (show (9 : Int32).toInt = 9 by decide); have := lv_neT c10 (show (10 : Int32).toInt = 10 by decide); have := lv_neT c11 (show (11 : Int32).toInt = 11 by decide); have := lv_neT c12 (show (12 : Int32).toInt = 12 by decide); have := lv_neT c13 (show (13 : Int32).toInt = 13 by decide); have := lv_neT c14 (show (14 : Int32).toInt = 14 by decide); have := lv_neT c15 (show (15 : Int32).toInt = 15 by decide); have := lv_neT c16 (show (16 : Int32).toInt = 16 by decide); have := lv_neT c17 (show (17 : Int32).toInt = 17 by decide); have := lv_neT c18 (show (18 : Int32).toInt = 18 by decide); have := lv_neT c19 (show (19 : Int32).toInt = 19 by decide); have := lv_neT c20 (show (20 : Int32).toInt = 20 by decide); have := lv_neT c21 (show (21 : Int32).toInt = 21 by decide); have := lv_neT c22 (show (22 : Int32).toInt = 22 by decide); have := lv_neT c23 (show (23 : Int32).toInt = 23 by decide); have := lv_neT c24 (show (24 : Int32).toInt = 24 by decide); have := lv_neT c25 (show (25 : Int32).toInt = 25 by decide); have := lv_neT c27 (show (26 : Int32).toInt = 26 by decide); have := lv_neT c28 (show (27 : Int32).toInt = 27 by decide); have := lv_neT c29 (show (28 : Int32).toInt = 28 by decide); have := lv_neT c30 (show (29 : Int32).toInt = 29 by decide); have := lv_neT c31 (show (30 : Int32).toInt = 30 by decide); have := lv_neT c32 (show (31 : Int32).toInt = 31 by decide); have := lv_neT c34 (show (32 : Int32).toInt = 32 by decide); have := lv_neT c35 (show (33 : Int32).toInt = 33 by decide); have := lv_neT c36 (show (34 : Int32).toInt = 34 by decide); have := lv_neT c37 (show (35 : Int32).toInt = 35 by decide); have := lv_neT c38 (show (36 : Int32).toInt = 36 by decide); omega) (by decide) ?_
  refine lv_iconst (v := (-1)) hx hb dX5_firstToken_262 (by decide) ?_
  cases hM
  exact rt_i hx hb hr hlk hP hD hS rfl dX5_firstToken_263

set_option maxHeartbeats 4000000 in
set_option maxRecDepth 100000 in
theorem c_Writer_isBracketed (l : Launch) (D : va_G) (cI : ClassId) (sd : Nat → Nat) (ad : Nat → Nat) (o_tree : S_Tree) (a1 : Int32) (res : Int32) (hM : f_Writer_isBracketed o_tree a1 = some res) : Ctr l D cI sd yX5_isBracketed (wsM yX5_isBracketed cX5_isBracketed 5 (Option.some Jvm.ClassFile.FieldType.boolean)) { frames := 2, cells := 0, slots := 0, locals := 42 } [.ref (ad 23), .int a1] (wW ad ++ wT cI ad o_tree) (wW ad ++ wT cI ad o_tree) (some (.int res)) := by
  refine Ctr.of (cc := cX5_isBracketed) (maxL := 5) (own := RX5) (by decide +kernel) rfl rfl (Nat.le_of_ble_eq_true rfl) ?_
  intro p e s m below meth c A ls hx hb hr hml hown hts hlk hK hE hA hP hD hS hl
  have hl : lv_has ls 5 [(0, .ref (ad 23)), (1, .int a1)] := hl
  unfold f_Writer_isBracketed at hM
  refine lv_aload_n hx hb dX5_isBracketed_0 rfl (lv_at hl 0 rfl) ?_
  refine va_get (D := D) (ci := 5) (v := .ref (ad 14)) (C := RX5) (T := TX5) (N := 3) hx hb hts layX5 hown hK hP 0 rfl rfl 0 (by decide) (hts _ (inA q442)) (fun _ h9 => h9) rfl dX5_isBracketed_1 ?_
  refine lv_iload_n hx hb dX5_isBracketed_4 rfl (lv_at hl 1 rfl) ?_
  obtain ⟨r1, hcr1, hM⟩ := ob_use hM
  refine cl_V (As := [.int a1]) (rest := []) (wW ad ++ wT cI ad o_tree) (.int r1 :: []) ⟨hx, hb, hml, hown, hts⟩ (c_Tree_parent l D cI sd ad o_tree a1 r1 hcr1) (cwV2 hts q861 mvX3_parent rfl rfl ⟨(Nat.le_of_ble_eq_true rfl), (Nat.le_of_ble_eq_true rfl)⟩) hK hE hA hP hD hS 1 (T := TX3) (N := 8) (ci := 3) rfl rfl [1, 2, 3, 4, 5, 6, 7, 8] rfl (by decide) rfl rfl rfl rfl rfl rfl hl.1 (Nat.le_of_ble_eq_true rfl) dX5_isBracketed_5 ⟨Nat.zero_le _, Nat.zero_le _⟩ (fun H locs hP hD hS => ?_)
  refine lv_istore_n (lv' := [(2, .int r1), (0, .ref (ad 23)), (1, .int a1)]) hx hb dX5_isBracketed_8 rfl hl (by decide) rfl (fun ls hl => ?_)
  refine lv_aload_n hx hb dX5_isBracketed_9 rfl (lv_at hl 1 rfl) ?_
  refine va_get (D := D) (ci := 5) (v := .ref (ad 14)) (C := RX5) (T := TX5) (N := 3) hx hb hts layX5 hown hK hP 0 rfl rfl 0 (by decide) (hts _ (inA q442)) (fun _ h9 => h9) rfl dX5_isBracketed_10 ?_
  refine lv_iload_n hx hb dX5_isBracketed_13 rfl (lv_at hl 0 rfl) ?_
  obtain ⟨r2, hcr2, hM⟩ := ob_use hM
  refine cl_V (As := [.int r1]) (rest := []) (wW ad ++ wT cI ad o_tree) (.int r2 :: []) ⟨hx, hb, hml, hown, hts⟩ (c_Tree_kind l D cI sd ad o_tree r1 r2 hcr2) (cwV2 hts q870 mvX3_kind rfl rfl ⟨(Nat.le_of_ble_eq_true rfl), (Nat.le_of_ble_eq_true rfl)⟩) hK hE hA hP hD hS 1 (T := TX3) (N := 8) (ci := 3) rfl rfl [1, 2, 3, 4, 5, 6, 7, 8] rfl (by decide) rfl rfl rfl rfl rfl rfl hl.1 (Nat.le_of_ble_eq_true rfl) dX5_isBracketed_14 ⟨Nat.zero_le _, Nat.zero_le _⟩ (fun H locs hP hD hS => ?_)
  refine lv_bipush (v := 35) hx hb dX5_isBracketed_17 (by decide) ?_
  refine lv_icmp_eq (tgt := 41) hx hb dX5_isBracketed_19 (by decide) (fun c3 => ?_) (fun c3 => ?_)
  · replace hM := if_t c3 hM
    refine lv_aload_n hx hb dX5_isBracketed_41 rfl (lv_at hl 1 rfl) ?_
    refine va_get (D := D) (ci := 5) (v := .ref (ad 14)) (C := RX5) (T := TX5) (N := 3) hx hb hts layX5 hown hK hP 0 rfl rfl 0 (by decide) (hts _ (inA q442)) (fun _ h9 => h9) rfl dX5_isBracketed_42 ?_
    refine lv_iload_n hx hb dX5_isBracketed_45 rfl (lv_at hl 2 rfl) ?_
    obtain ⟨r4, hcr4, hM⟩ := ob_use hM
    refine cl_V (As := [.int a1]) (rest := []) (wW ad ++ wT cI ad o_tree) (.int r4 :: []) ⟨hx, hb, hml, hown, hts⟩ (c_Tree_value l D cI sd ad o_tree a1 r4 hcr4) (cwV2 hts q892 mvX3_value rfl rfl ⟨(Nat.le_of_ble_eq_true rfl), (Nat.le_of_ble_eq_true rfl)⟩) hK hE hA hP hD hS 1 (T := TX3) (N := 8) (ci := 3) rfl rfl [1, 2, 3, 4, 5, 6, 7, 8] rfl (by decide) rfl rfl rfl rfl rfl rfl hl.1 (Nat.le_of_ble_eq_true rfl) dX5_isBracketed_46 ⟨Nat.zero_le _, Nat.zero_le _⟩ (fun H locs hP hD hS => ?_)
    obtain ⟨r5, hcr5, hM⟩ := ob_use hM
    refine cl_S (As := [.int r4]) (rest := []) (wW ad ++ wT cI ad o_tree) (.int r5 :: []) ⟨hx, hb, hml, hown, hts⟩ (c_Sign_binding l D cI sd ad r4 r5 hcr5) (cwS2 hts q893 mvX7_binding rfl rfl ⟨(Nat.le_of_ble_eq_true rfl), (Nat.le_of_ble_eq_true rfl)⟩) hK hE hA hP hD hS [] rfl (by decide) rfl rfl rfl rfl rfl rfl hl.1 (Nat.le_of_ble_eq_true rfl) dX5_isBracketed_49 ⟨Nat.zero_le _, Nat.zero_le _⟩ (fun H locs hP hD hS => ?_)
    refine lv_istore_n (lv' := [(3, .int r5), (2, .int r1), (0, .ref (ad 23)), (1, .int a1)]) hx hb dX5_isBracketed_52 rfl hl (by decide) rfl (fun ls hl => ?_)
    refine lv_aload_n hx hb dX5_isBracketed_53 rfl (lv_at hl 2 rfl) ?_
    refine va_get (D := D) (ci := 5) (v := .ref (ad 14)) (C := RX5) (T := TX5) (N := 3) hx hb hts layX5 hown hK hP 0 rfl rfl 0 (by decide) (hts _ (inA q442)) (fun _ h9 => h9) rfl dX5_isBracketed_54 ?_
    refine lv_iload_n hx hb dX5_isBracketed_57 rfl (lv_at hl 1 rfl) ?_
    obtain ⟨r6, hcr6, hM⟩ := ob_use hM
    refine cl_V (As := [.int r1]) (rest := []) (wW ad ++ wT cI ad o_tree) (.int r6 :: []) ⟨hx, hb, hml, hown, hts⟩ (c_Tree_value l D cI sd ad o_tree r1 r6 hcr6) (cwV2 hts q892 mvX3_value rfl rfl ⟨(Nat.le_of_ble_eq_true rfl), (Nat.le_of_ble_eq_true rfl)⟩) hK hE hA hP hD hS 1 (T := TX3) (N := 8) (ci := 3) rfl rfl [1, 2, 3, 4, 5, 6, 7, 8] rfl (by decide) rfl rfl rfl rfl rfl rfl hl.1 (Nat.le_of_ble_eq_true rfl) dX5_isBracketed_58 ⟨Nat.zero_le _, Nat.zero_le _⟩ (fun H locs hP hD hS => ?_)
    obtain ⟨r7, hcr7, hM⟩ := ob_use hM
    refine cl_S (As := [.int r6]) (rest := []) (wW ad ++ wT cI ad o_tree) (.int r7 :: []) ⟨hx, hb, hml, hown, hts⟩ (c_Sign_binding l D cI sd ad r6 r7 hcr7) (cwS2 hts q893 mvX7_binding rfl rfl ⟨(Nat.le_of_ble_eq_true rfl), (Nat.le_of_ble_eq_true rfl)⟩) hK hE hA hP hD hS [] rfl (by decide) rfl rfl rfl rfl rfl rfl hl.1 (Nat.le_of_ble_eq_true rfl) dX5_isBracketed_61 ⟨Nat.zero_le _, Nat.zero_le _⟩ (fun H locs hP hD hS => ?_)
    refine lv_istore (lv' := [(4, .int r7), (3, .int r5), (2, .int r1), (0, .ref (ad 23)), (1, .int a1)]) hx hb dX5_isBracketed_64 hl (by decide) rfl (fun ls hl => ?_)
    refine lv_iload hx hb dX5_isBracketed_66 (lv_at hl 0 rfl) ?_
    refine lv_iload_n hx hb dX5_isBracketed_68 rfl (lv_at hl 1 rfl) ?_
    refine lv_icmp_gt (tgt := 90) hx hb dX5_isBracketed_69 (by decide) (fun c8 => ?_) (fun c8 => ?_)
    · replace hM := if_t c8 hM
      refine lv_iconst (v := 1) hx hb dX5_isBracketed_90 (by decide) ?_
      refine lv_goto (tgt := 95) hx hb dX5_isBracketed_91 (by decide) ?_
      cases hM
      exact rt_z hx hb hr hlk (by decide) hP hD hS rfl dX5_isBracketed_95
    · replace hM := if_f c8 hM
      refine lv_iload hx hb dX5_isBracketed_72 (lv_at hl 0 rfl) ?_
      refine lv_iload_n hx hb dX5_isBracketed_74 rfl (lv_at hl 1 rfl) ?_
      refine lv_icmp_ne (tgt := 94) hx hb dX5_isBracketed_75 (by decide) (fun c9 => ?_) (fun c9 => ?_)
      · replace hM := if_f c9 hM
        refine lv_iconst (v := 0) hx hb dX5_isBracketed_94 (by decide) ?_
        cases hM
        exact rt_z hx hb hr hlk (by decide) hP hD hS rfl dX5_isBracketed_95
      · replace hM := if_t c9 hM
        refine lv_aload_n hx hb dX5_isBracketed_78 rfl (lv_at hl 3 rfl) ?_
        refine va_get (D := D) (ci := 5) (v := .ref (ad 14)) (C := RX5) (T := TX5) (N := 3) hx hb hts layX5 hown hK hP 0 rfl rfl 0 (by decide) (hts _ (inA q442)) (fun _ h9 => h9) rfl dX5_isBracketed_79 ?_
        refine lv_iload_n hx hb dX5_isBracketed_82 rfl (lv_at hl 4 rfl) ?_
        obtain ⟨r10, hcr10, hM⟩ := ob_use hM
        refine cl_V (As := [.int a1]) (rest := []) (wW ad ++ wT cI ad o_tree) (.int r10 :: []) ⟨hx, hb, hml, hown, hts⟩ (c_Tree_rank l D cI sd ad o_tree a1 r10 hcr10) (cwV2 hts q894 mvX3_rank rfl rfl ⟨(Nat.le_of_ble_eq_true rfl), (Nat.le_of_ble_eq_true rfl)⟩) hK hE hA hP hD hS 1 (T := TX3) (N := 8) (ci := 3) rfl rfl [1, 2, 3, 4, 5, 6, 7, 8] rfl (by decide) rfl rfl rfl rfl rfl rfl hl.1 (Nat.le_of_ble_eq_true rfl) dX5_isBracketed_83 ⟨Nat.zero_le _, Nat.zero_le _⟩ (fun H locs hP hD hS => ?_)
        refine lv_iconst (v := 1) hx hb dX5_isBracketed_86 (by decide) ?_
        refine lv_icmp_ne (tgt := 94) hx hb dX5_isBracketed_87 (by decide) (fun c11 => ?_) (fun c11 => ?_)
        · replace hM := if_f c11 hM
          refine lv_iconst (v := 0) hx hb dX5_isBracketed_94 (by decide) ?_
          cases hM
          exact rt_z hx hb hr hlk (by decide) hP hD hS rfl dX5_isBracketed_95
        · replace hM := if_t c11 hM
          refine lv_iconst (v := 1) hx hb dX5_isBracketed_90 (by decide) ?_
          refine lv_goto (tgt := 95) hx hb dX5_isBracketed_91 (by decide) ?_
          cases hM
          exact rt_z hx hb hr hlk (by decide) hP hD hS rfl dX5_isBracketed_95
  · replace hM := if_f c3 hM
    refine lv_aload_n hx hb dX5_isBracketed_22 rfl (lv_at hl 1 rfl) ?_
    refine va_get (D := D) (ci := 5) (v := .ref (ad 14)) (C := RX5) (T := TX5) (N := 3) hx hb hts layX5 hown hK hP 0 rfl rfl 0 (by decide) (hts _ (inA q442)) (fun _ h9 => h9) rfl dX5_isBracketed_23 ?_
    refine lv_iload_n hx hb dX5_isBracketed_26 rfl (lv_at hl 0 rfl) ?_
    obtain ⟨r12, hcr12, hM⟩ := ob_use hM
    refine cl_V (As := [.int r1]) (rest := []) (wW ad ++ wT cI ad o_tree) (.int r12 :: []) ⟨hx, hb, hml, hown, hts⟩ (c_Tree_kind l D cI sd ad o_tree r1 r12 hcr12) (cwV2 hts q870 mvX3_kind rfl rfl ⟨(Nat.le_of_ble_eq_true rfl), (Nat.le_of_ble_eq_true rfl)⟩) hK hE hA hP hD hS 1 (T := TX3) (N := 8) (ci := 3) rfl rfl [1, 2, 3, 4, 5, 6, 7, 8] rfl (by decide) rfl rfl rfl rfl rfl rfl hl.1 (Nat.le_of_ble_eq_true rfl) dX5_isBracketed_27 ⟨Nat.zero_le _, Nat.zero_le _⟩ (fun H locs hP hD hS => ?_)
    refine lv_bipush (v := 36) hx hb dX5_isBracketed_30 (by decide) ?_
    refine lv_icmp_ne (tgt := 39) hx hb dX5_isBracketed_32 (by decide) (fun c13 => ?_) (fun c13 => ?_)
    · replace hM := if_f c13 hM
      refine lv_iconst (v := 0) hx hb dX5_isBracketed_39 (by decide) ?_
      cases hM
      exact rt_z hx hb hr hlk (by decide) hP hD hS rfl dX5_isBracketed_40
    · replace hM := if_t c13 hM
      refine lv_iconst (v := 1) hx hb dX5_isBracketed_35 (by decide) ?_
      refine lv_goto (tgt := 40) hx hb dX5_isBracketed_36 (by decide) ?_
      cases hM
      exact rt_z hx hb hr hlk (by decide) hP hD hS rfl dX5_isBracketed_40

set_option maxHeartbeats 4000000 in
set_option maxRecDepth 100000 in
theorem c_Writer_coilSign (l : Launch) (D : va_G) (cI : ClassId) (sd : Nat → Nat) (ad : Nat → Nat) (a1 : Int32) (res : Int32) (hM : f_Writer_coilSign a1 = some res) : Ctr l D cI sd yX5_coilSign (wsM yX5_coilSign cX5_coilSign 1 (Option.some Jvm.ClassFile.FieldType.int)) { frames := 0, cells := 0, slots := 0, locals := 0 } [.int a1] (([] : va_W)) (([] : va_W)) (some (.int res)) := by
  refine Ctr.of (cc := cX5_coilSign) (maxL := 1) (own := RX5) (by decide +kernel) rfl rfl (Nat.le_of_ble_eq_true rfl) ?_
  intro p e s m below meth c A ls hx hb hr hml hown hts hlk hK hE hA hP hD hS hl
  have hl : lv_has ls 1 [(0, .int a1)] := hl
  unfold f_Writer_coilSign at hM
  refine lv_iload_n hx hb dX5_coilSign_0 rfl (lv_at hl 0 rfl) ?_
  by_cases c1 : a1 = 1
  · replace hM := if_t c1 hM
    refine lv_tableIn (tgt := 28) hx hb dX5_coilSign_1 (by rw [c1]; decide) (by rw [c1]; decide) (by rw [c1]; rfl) (by decide) ?_
    refine lv_bipush (v := 47) hx hb dX5_coilSign_28 (by decide) ?_
    cases hM
    exact rt_i hx hb hr hlk hP hD hS rfl dX5_coilSign_30
  replace hM := if_f c1 hM
  by_cases c2 : a1 = 2
  · replace hM := if_t c2 hM
    refine lv_tableIn (tgt := 31) hx hb dX5_coilSign_1 (by rw [c2]; decide) (by rw [c2]; decide) (by rw [c2]; rfl) (by decide) ?_
    refine lv_bipush (v := 43) hx hb dX5_coilSign_31 (by decide) ?_
    cases hM
    exact rt_i hx hb hr hlk hP hD hS rfl dX5_coilSign_33
  replace hM := if_f c2 hM
  by_cases c3 : a1 = 3
  · replace hM := if_t c3 hM
    refine lv_tableIn (tgt := 34) hx hb dX5_coilSign_1 (by rw [c3]; decide) (by rw [c3]; decide) (by rw [c3]; rfl) (by decide) ?_
    refine lv_bipush (v := 45) hx hb dX5_coilSign_34 (by decide) ?_
    cases hM
    exact rt_i hx hb hr hlk hP hD hS rfl dX5_coilSign_36
  replace hM := if_f c3 hM
  refine lv_tableOut (tgt := 37) hx hb dX5_coilSign_1 (by have := lv_neT c1 (show (1 : Int32).toInt = 1 by decide); have := lv_neT c2 (show (2 : Int32).toInt = 2 by decide); have := lv_neT c3 (show (3 : Int32).toInt = 3 by decide); omega) (by decide) ?_
  refine lv_iconst (v := (-1)) hx hb dX5_coilSign_37 (by decide) ?_
  cases hM
  exact rt_i hx hb hr hlk hP hD hS rfl dX5_coilSign_38

set_option maxHeartbeats 4000000 in
set_option maxRecDepth 100000 in
theorem c_Writer_nextToken (l : Launch) (D : va_G) (cI : ClassId) (sd : Nat → Nat) (ad : Nat → Nat) (a1 : Int32) (a2 : Int32) (res : Int32) (hM : f_Writer_nextToken a1 a2 = some res) : Ctr l D cI sd yX5_nextToken (wsM yX5_nextToken cX5_nextToken 2 (Option.some Jvm.ClassFile.FieldType.int)) { frames := 1, cells := 0, slots := 0, locals := 20 } [.int a1, .int a2] (([] : va_W)) (([] : va_W)) (some (.int res)) := by
  refine Ctr.of (cc := cX5_nextToken) (maxL := 2) (own := RX5) (by decide +kernel) rfl rfl (Nat.le_of_ble_eq_true rfl) ?_
  intro p e s m below meth c A ls hx hb hr hml hown hts hlk hK hE hA hP hD hS hl
  have hl : lv_has ls 2 [(0, .int a1), (1, .int a2)] := hl
  unfold f_Writer_nextToken at hM
  refine lv_iload_n hx hb dX5_nextToken_0 rfl (lv_at hl 0 rfl) ?_
  by_cases c1 : a1 = 1
  · replace hM := if_t c1 hM
    refine lv_tableIn (tgt := 152) hx hb dX5_nextToken_1 (by rw [c1]; decide) (by rw [c1]; decide) (by rw [c1]; rfl) (by decide) ?_
    refine lv_bipush (v := 58) hx hb dX5_nextToken_152 (by decide) ?_
    cases hM
    exact rt_i hx hb hr hlk hP hD hS rfl dX5_nextToken_154
  replace hM := if_f c1 hM
  by_cases c2 : a1 = 2
  · replace hM := if_t c2 hM
    refine lv_tableIn (tgt := 173) hx hb dX5_nextToken_1 (by rw [c2]; decide) (by rw [c2]; decide) (by rw [c2]; rfl) (by decide) ?_
    refine lv_iconst (v := (-1)) hx hb dX5_nextToken_173 (by decide) ?_
    cases hM
    exact rt_i hx hb hr hlk hP hD hS rfl dX5_nextToken_174
  replace hM := if_f c2 hM
  by_cases c3 : a1 = 3
  · replace hM := if_t c3 hM
    refine lv_tableIn (tgt := 173) hx hb dX5_nextToken_1 (by rw [c3]; decide) (by rw [c3]; decide) (by rw [c3]; rfl) (by decide) ?_
    refine lv_iconst (v := (-1)) hx hb dX5_nextToken_173 (by decide) ?_
    cases hM
    exact rt_i hx hb hr hlk hP hD hS rfl dX5_nextToken_174
  replace hM := if_f c3 hM
  by_cases c4 : a1 = 4
  · replace hM := if_t c4 hM
    refine lv_tableIn (tgt := 173) hx hb dX5_nextToken_1 (by rw [c4]; decide) (by rw [c4]; decide) (by rw [c4]; rfl) (by decide) ?_
    refine lv_iconst (v := (-1)) hx hb dX5_nextToken_173 (by decide) ?_
    cases hM
    exact rt_i hx hb hr hlk hP hD hS rfl dX5_nextToken_174
  replace hM := if_f c4 hM
  by_cases c5 : a1 = 5
  · replace hM := if_t c5 hM
    refine lv_tableIn (tgt := 173) hx hb dX5_nextToken_1 (by rw [c5]; decide) (by rw [c5]; decide) (by rw [c5]; rfl) (by decide) ?_
    refine lv_iconst (v := (-1)) hx hb dX5_nextToken_173 (by decide) ?_
    cases hM
    exact rt_i hx hb hr hlk hP hD hS rfl dX5_nextToken_174
  replace hM := if_f c5 hM
  by_cases c6 : a1 = 6
  · replace hM := if_t c6 hM
    refine lv_tableIn (tgt := 173) hx hb dX5_nextToken_1 (by rw [c6]; decide) (by rw [c6]; decide) (by rw [c6]; rfl) (by decide) ?_
    refine lv_iconst (v := (-1)) hx hb dX5_nextToken_173 (by decide) ?_
    cases hM
    exact rt_i hx hb hr hlk hP hD hS rfl dX5_nextToken_174
  replace hM := if_f c6 hM
  by_cases c7 : a1 = 7
  · replace hM := if_t c7 hM
    refine lv_tableIn (tgt := 173) hx hb dX5_nextToken_1 (by rw [c7]; decide) (by rw [c7]; decide) (by rw [c7]; rfl) (by decide) ?_
    refine lv_iconst (v := (-1)) hx hb dX5_nextToken_173 (by decide) ?_
    cases hM
    exact rt_i hx hb hr hlk hP hD hS rfl dX5_nextToken_174
  replace hM := if_f c7 hM
  by_cases c8 : a1 = 8
  · replace hM := if_t c8 hM
    refine lv_tableIn (tgt := 173) hx hb dX5_nextToken_1 (by rw [c8]; decide) (by rw [c8]; decide) (by rw [c8]; rfl) (by decide) ?_
    refine lv_iconst (v := (-1)) hx hb dX5_nextToken_173 (by decide) ?_
    cases hM
    exact rt_i hx hb hr hlk hP hD hS rfl dX5_nextToken_174
  replace hM := if_f c8 hM
  by_cases c9 : a1 = 9
  · replace hM := if_t c9 hM
    refine lv_tableIn (tgt := 155) hx hb dX5_nextToken_1 (by rw [c9]; decide) (by rw [c9]; decide) (by rw [c9]; rfl) (by decide) ?_
    refine lv_bipush (v := 91) hx hb dX5_nextToken_155 (by decide) ?_
    cases hM
    exact rt_i hx hb hr hlk hP hD hS rfl dX5_nextToken_157
  replace hM := if_f c9 hM
  by_cases c10 : a1 = 10
  · replace hM := if_t c10 hM
    refine lv_tableIn (tgt := 173) hx hb dX5_nextToken_1 (by rw [c10]; decide) (by rw [c10]; decide) (by rw [c10]; rfl) (by decide) ?_
    refine lv_iconst (v := (-1)) hx hb dX5_nextToken_173 (by decide) ?_
    cases hM
    exact rt_i hx hb hr hlk hP hD hS rfl dX5_nextToken_174
  replace hM := if_f c10 hM
  by_cases c11 : a1 = 11
  · replace hM := if_t c11 hM
    refine lv_tableIn (tgt := 173) hx hb dX5_nextToken_1 (by rw [c11]; decide) (by rw [c11]; decide) (by rw [c11]; rfl) (by decide) ?_
    refine lv_iconst (v := (-1)) hx hb dX5_nextToken_173 (by decide) ?_
    cases hM
    exact rt_i hx hb hr hlk hP hD hS rfl dX5_nextToken_174
  replace hM := if_f c11 hM
  by_cases c12 : a1 = 12
  · replace hM := if_t c12 hM
    refine lv_tableIn (tgt := 173) hx hb dX5_nextToken_1 (by rw [c12]; decide) (by rw [c12]; decide) (by rw [c12]; rfl) (by decide) ?_
    refine lv_iconst (v := (-1)) hx hb dX5_nextToken_173 (by decide) ?_
    cases hM
    exact rt_i hx hb hr hlk hP hD hS rfl dX5_nextToken_174
  replace hM := if_f c12 hM
  by_cases c13 : a1 = 13
  · replace hM := if_t c13 hM
    refine lv_tableIn (tgt := 158) hx hb dX5_nextToken_1 (by rw [c13]; decide) (by rw [c13]; decide) (by rw [c13]; rfl) (by decide) ?_
    refine lv_bipush (v := 40) hx hb dX5_nextToken_158 (by decide) ?_
    cases hM
    exact rt_i hx hb hr hlk hP hD hS rfl dX5_nextToken_160
  replace hM := if_f c13 hM
  by_cases c14 : a1 = 14
  · replace hM := if_t c14 hM
    refine lv_tableIn (tgt := 161) hx hb dX5_nextToken_1 (by rw [c14]; decide) (by rw [c14]; decide) (by rw [c14]; rfl) (by decide) ?_
    refine lv_sipush (v := 14909) hx hb dX5_nextToken_161 (by decide) ?_
    cases hM
    exact rt_i hx hb hr hlk hP hD hS rfl dX5_nextToken_164
  replace hM := if_f c14 hM
  by_cases c15 : a1 = 15
  · replace hM := if_t c15 hM
    refine lv_tableIn (tgt := 173) hx hb dX5_nextToken_1 (by rw [c15]; decide) (by rw [c15]; decide) (by rw [c15]; rfl) (by decide) ?_
    refine lv_iconst (v := (-1)) hx hb dX5_nextToken_173 (by decide) ?_
    cases hM
    exact rt_i hx hb hr hlk hP hD hS rfl dX5_nextToken_174
  replace hM := if_f c15 hM
  by_cases c16 : a1 = 16
  · replace hM := if_t c16 hM
    refine lv_tableIn (tgt := 173) hx hb dX5_nextToken_1 (by rw [c16]; decide) (by rw [c16]; decide) (by rw [c16]; rfl) (by decide) ?_
    refine lv_iconst (v := (-1)) hx hb dX5_nextToken_173 (by decide) ?_
    cases hM
    exact rt_i hx hb hr hlk hP hD hS rfl dX5_nextToken_174
  replace hM := if_f c16 hM
  by_cases c17 : a1 = 17
  · replace hM := if_t c17 hM
    refine lv_tableIn (tgt := 173) hx hb dX5_nextToken_1 (by rw [c17]; decide) (by rw [c17]; decide) (by rw [c17]; rfl) (by decide) ?_
    refine lv_iconst (v := (-1)) hx hb dX5_nextToken_173 (by decide) ?_
    cases hM
    exact rt_i hx hb hr hlk hP hD hS rfl dX5_nextToken_174
  replace hM := if_f c17 hM
  by_cases c18 : a1 = 18
  · replace hM := if_t c18 hM
    refine lv_tableIn (tgt := 173) hx hb dX5_nextToken_1 (by rw [c18]; decide) (by rw [c18]; decide) (by rw [c18]; rfl) (by decide) ?_
    refine lv_iconst (v := (-1)) hx hb dX5_nextToken_173 (by decide) ?_
    cases hM
    exact rt_i hx hb hr hlk hP hD hS rfl dX5_nextToken_174
  replace hM := if_f c18 hM
  by_cases c19 : a1 = 19
  · replace hM := if_t c19 hM
    refine lv_tableIn (tgt := 161) hx hb dX5_nextToken_1 (by rw [c19]; decide) (by rw [c19]; decide) (by rw [c19]; rfl) (by decide) ?_
    refine lv_sipush (v := 14909) hx hb dX5_nextToken_161 (by decide) ?_
    cases hM
    exact rt_i hx hb hr hlk hP hD hS rfl dX5_nextToken_164
  replace hM := if_f c19 hM
  by_cases c20 : a1 = 20
  · replace hM := if_t c20 hM
    refine lv_tableIn (tgt := 173) hx hb dX5_nextToken_1 (by rw [c20]; decide) (by rw [c20]; decide) (by rw [c20]; rfl) (by decide) ?_
    refine lv_iconst (v := (-1)) hx hb dX5_nextToken_173 (by decide) ?_
    cases hM
    exact rt_i hx hb hr hlk hP hD hS rfl dX5_nextToken_174
  replace hM := if_f c20 hM
  by_cases c21 : a1 = 21
  · replace hM := if_t c21 hM
    refine lv_tableIn (tgt := 173) hx hb dX5_nextToken_1 (by rw [c21]; decide) (by rw [c21]; decide) (by rw [c21]; rfl) (by decide) ?_
    refine lv_iconst (v := (-1)) hx hb dX5_nextToken_173 (by decide) ?_
    cases hM
    exact rt_i hx hb hr hlk hP hD hS rfl dX5_nextToken_174
  replace hM := if_f c21 hM
  by_cases c22 : a1 = 22
  · replace hM := if_t c22 hM
    refine lv_tableIn (tgt := 173) hx hb dX5_nextToken_1 (by rw [c22]; decide) (by rw [c22]; decide) (by rw [c22]; rfl) (by decide) ?_
    refine lv_iconst (v := (-1)) hx hb dX5_nextToken_173 (by decide) ?_
    cases hM
    exact rt_i hx hb hr hlk hP hD hS rfl dX5_nextToken_174
  replace hM := if_f c22 hM
  by_cases c23 : a1 = 23
  · replace hM := if_t c23 hM
    refine lv_tableIn (tgt := 173) hx hb dX5_nextToken_1 (by rw [c23]; decide) (by rw [c23]; decide) (by rw [c23]; rfl) (by decide) ?_
    refine lv_iconst (v := (-1)) hx hb dX5_nextToken_173 (by decide) ?_
    cases hM
    exact rt_i hx hb hr hlk hP hD hS rfl dX5_nextToken_174
  replace hM := if_f c23 hM
  by_cases c24 : a1 = 24
  · replace hM := if_t c24 hM
    refine lv_tableIn (tgt := 173) hx hb dX5_nextToken_1 (by rw [c24]; decide) (by rw [c24]; decide) (by rw [c24]; rfl) (by decide) ?_
    refine lv_iconst (v := (-1)) hx hb dX5_nextToken_173 (by decide) ?_
    cases hM
    exact rt_i hx hb hr hlk hP hD hS rfl dX5_nextToken_174
  replace hM := if_f c24 hM
  by_cases c25 : a1 = 25
  · replace hM := if_t c25 hM
    refine lv_tableIn (tgt := 173) hx hb dX5_nextToken_1 (by rw [c25]; decide) (by rw [c25]; decide) (by rw [c25]; rfl) (by decide) ?_
    refine lv_iconst (v := (-1)) hx hb dX5_nextToken_173 (by decide) ?_
    cases hM
    exact rt_i hx hb hr hlk hP hD hS rfl dX5_nextToken_174
  replace hM := if_f c25 hM
  by_cases c26 : a1 = 26
  · replace hM := if_t c26 hM
    refine lv_tableIn (tgt := 173) hx hb dX5_nextToken_1 (by rw [c26]; decide) (by rw [c26]; decide) (by rw [c26]; rfl) (by decide) ?_
    refine lv_iconst (v := (-1)) hx hb dX5_nextToken_173 (by decide) ?_
    cases hM
    exact rt_i hx hb hr hlk hP hD hS rfl dX5_nextToken_174
  replace hM := if_f c26 hM
  by_cases c27 : a1 = 27
  · replace hM := if_t c27 hM
    refine lv_tableIn (tgt := 173) hx hb dX5_nextToken_1 (by rw [c27]; decide) (by rw [c27]; decide) (by rw [c27]; rfl) (by decide) ?_
    refine lv_iconst (v := (-1)) hx hb dX5_nextToken_173 (by decide) ?_
    cases hM
    exact rt_i hx hb hr hlk hP hD hS rfl dX5_nextToken_174
  replace hM := if_f c27 hM
  by_cases c28 : a1 = 28
  · replace hM := if_t c28 hM
    refine lv_tableIn (tgt := 165) hx hb dX5_nextToken_1 (by rw [c28]; decide) (by rw [c28]; decide) (by rw [c28]; rfl) (by decide) ?_
    refine lv_iload_n hx hb dX5_nextToken_165 rfl (lv_at hl 1 rfl) ?_
    obtain ⟨r29, hcr29, hM⟩ := ob_use hM
    refine cl_S (As := [.int a2]) (rest := []) (([] : va_W)) (.int r29 :: []) ⟨hx, hb, hml, hown, hts⟩ (c_Writer_coilSign l D cI sd ad a2 r29 hcr29) (cwS2 hts q960 mvX5_coilSign rfl rfl ⟨(Nat.le_of_ble_eq_true rfl), (Nat.le_of_ble_eq_true rfl)⟩) hK hE hA hP hD hS [] rfl (by decide) rfl rfl rfl rfl rfl rfl hl.1 (Nat.le_of_ble_eq_true rfl) dX5_nextToken_166 ⟨Nat.zero_le _, Nat.zero_le _⟩ (fun H locs hP hD hS => ?_)
    cases hM
    exact rt_i hx hb hr hlk hP hD hS rfl dX5_nextToken_169
  replace hM := if_f c28 hM
  by_cases c30 : a1 = 29
  · replace hM := if_t c30 hM
    refine lv_tableIn (tgt := 173) hx hb dX5_nextToken_1 (by rw [c30]; decide) (by rw [c30]; decide) (by rw [c30]; rfl) (by decide) ?_
    refine lv_iconst (v := (-1)) hx hb dX5_nextToken_173 (by decide) ?_
    cases hM
    exact rt_i hx hb hr hlk hP hD hS rfl dX5_nextToken_174
  replace hM := if_f c30 hM
  by_cases c31 : a1 = 30
  · replace hM := if_t c31 hM
    refine lv_tableIn (tgt := 173) hx hb dX5_nextToken_1 (by rw [c31]; decide) (by rw [c31]; decide) (by rw [c31]; rfl) (by decide) ?_
    refine lv_iconst (v := (-1)) hx hb dX5_nextToken_173 (by decide) ?_
    cases hM
    exact rt_i hx hb hr hlk hP hD hS rfl dX5_nextToken_174
  replace hM := if_f c31 hM
  by_cases c32 : a1 = 31
  · replace hM := if_t c32 hM
    refine lv_tableIn (tgt := 173) hx hb dX5_nextToken_1 (by rw [c32]; decide) (by rw [c32]; decide) (by rw [c32]; rfl) (by decide) ?_
    refine lv_iconst (v := (-1)) hx hb dX5_nextToken_173 (by decide) ?_
    cases hM
    exact rt_i hx hb hr hlk hP hD hS rfl dX5_nextToken_174
  replace hM := if_f c32 hM
  by_cases c33 : a1 = 32
  · replace hM := if_t c33 hM
    refine lv_tableIn (tgt := 155) hx hb dX5_nextToken_1 (by rw [c33]; decide) (by rw [c33]; decide) (by rw [c33]; rfl) (by decide) ?_
    refine lv_bipush (v := 91) hx hb dX5_nextToken_155 (by decide) ?_
    cases hM
    exact rt_i hx hb hr hlk hP hD hS rfl dX5_nextToken_157
  replace hM := if_f c33 hM
  by_cases c34 : a1 = 33
  · replace hM := if_t c34 hM
    refine lv_tableIn (tgt := 170) hx hb dX5_nextToken_1 (by rw [c34]; decide) (by rw [c34]; decide) (by rw [c34]; rfl) (by decide) ?_
    refine lv_bipush (v := 46) hx hb dX5_nextToken_170 (by decide) ?_
    cases hM
    exact rt_i hx hb hr hlk hP hD hS rfl dX5_nextToken_172
  replace hM := if_f c34 hM
  by_cases c35 : a1 = 34
  · replace hM := if_t c35 hM
    refine lv_tableIn (tgt := 158) hx hb dX5_nextToken_1 (by rw [c35]; decide) (by rw [c35]; decide) (by rw [c35]; rfl) (by decide) ?_
    refine lv_bipush (v := 40) hx hb dX5_nextToken_158 (by decide) ?_
    cases hM
    exact rt_i hx hb hr hlk hP hD hS rfl dX5_nextToken_160
  replace hM := if_f c35 hM
  refine lv_tableOut (tgt := 173) hx hb dX5_nextToken_1 (by have := lv_neT c1 (show (1 : Int32).toInt = 1 by decide); have := lv_neT c2 (show (2 : Int32).toInt = 2 by decide); have := lv_neT c3 (show (3 : Int32).toInt = 3 by decide); have := lv_neT c4 (show (4 : Int32).toInt = 4 by decide); have := lv_neT c5 (show (5 : Int32).toInt = 5 by decide); have := lv_neT c6 (show (6 : Int32).toInt = 6 by decide); have := lv_neT c7 (show (7 : Int32).toInt = 7 by decide); have := lv_neT c8 (show (8 : Int32).toInt = 8 by decide); have := lv_neT c9 (show (9 : Int32).toInt = 9 by decide); have := lv_neT c10 (show (10 : Int32).toInt = 10 by decide); have := lv_neT c11 (show (11 : Int32).toInt = 11 by decide); have := lv_neT c12 (show (12 : Int32).toInt = 12 by decide); have := lv_neT c13 (show (13 : Int32).toInt = 13 by decide); have := lv_neT c14 (show (14 : Int32).toInt = 14 by decide); have := lv_neT c15 (show (15 : Int32).toInt = 15 by decide); have := lv_neT c16 (show (16 : Int32).toInt = 16 by decide); have := lv_neT c17 (show (17 : Int32).toInt = 17 by decide); have := lv_neT c18 (show (18 : Int32).toInt = 18 by decide); have := lv_neT c19 (show (19 : Int32).toInt = 19 by decide); have := lv_neT c20 (show (20 : Int32).toInt = 20 by decide); have := lv_neT c21 (show (21 : Int32).toInt = 21 by decide); have := lv_neT c22 (show (22 : Int32).toInt = 22 by decide); have := lv_neT c23 (show (23 : Int32).toInt = 23 by decide); have := lv_neT c24 (show (24 : Int32).toInt = 24 by decide); have := lv_neT c25 (show (25 : Int32).toInt = 25 by decide); have := lv_neT c26 (show (26 : Int32).toInt = 26 by decide); have := lv_neT c27 (show (27 : Int32).toInt = 27 by decide); have := lv_neT c28 (show (28 : Int32).toInt = 28 by decide); have := lv_neT c30 (show (29 : Int32).toInt = 29 by decide); have := lv_neT c31 (show (30 : Int32).toInt = 30 by decide); have := lv_neT c32 (show (31 : Int32).toInt = 31 by decide); have := lv_neT c33 (show (32 : Int32).toInt = 32 by decide); have := lv_neT c34 (show (33 : Int32).toInt = 33 by decide); have := lv_neT c35 (show (34 : Int32).toInt = 34 by decide); omega) (by decide) ?_
  refine lv_iconst (v := (-1)) hx hb dX5_nextToken_173 (by decide) ?_
  cases hM
  exact rt_i hx hb hr hlk hP hD hS rfl dX5_nextToken_174

set_option maxHeartbeats 4000000 in
set_option maxRecDepth 100000 in
theorem c_Writer_digits (l : Launch) (D : va_G) (cI : ClassId) (sd : Nat → Nat) (ad : Nat → Nat) (o_out : S_Bytes) (a1 : Int32) (res : S_Bytes) (hM : f_Writer_digits o_out a1 = some res) : Ctr l D cI sd yX5_digits (wsM yX5_digits cX5_digits 3 (Option.none : Option Jvm.ClassFile.FieldType)) { frames := 1, cells := 0, slots := 0, locals := 21 } [.ref (ad 23), .int a1] (wW ad ++ wB cI (ad 3) (ad 4) 16384 o_out) (wW ad ++ wB cI (ad 3) (ad 4) 16384 res) none := by
  refine Ctr.of (cc := cX5_digits) (maxL := 3) (own := RX5) (by decide +kernel) rfl rfl (Nat.le_of_ble_eq_true rfl) ?_
  intro p e s m below meth c A ls hx hb hr hml hown hts hlk hK hE hA hP hD hS hl
  have hl : lv_has ls 3 [(0, .ref (ad 23)), (1, .int a1)] := hl
  unfold f_Writer_digits at hM
  refine lv_ldc (v := 1000000000) hx hb hown (hts _ (inA q952)) dX5_digits_0 ?_
  refine lv_istore_n (lv' := [(2, .int 1000000000), (0, .ref (ad 23)), (1, .int a1)]) hx hb dX5_digits_2 rfl hl (by decide) rfl (fun ls hl => ?_)
  have lp_L3 : ∀ (w1_L3 : Int32) (n : Nat) (v2_L3 : Int32) (o_out_L3 : S_Bytes) (out_L3 : S_Bytes) (H : Heap) (locs : List Loc) (ls : Array Slot), f_Writer_digits_L3 w1_L3 n v2_L3 o_out_L3 = some out_L3 → va_P D vwCl (wW ad ++ wB cI (ad 3) (ad 4) 16384 o_out_L3) H → va_D A (wW ad ++ wB cI (ad 3) (ad 4) 16384 o_out_L3) → va_S A s.heap H locs → lv_has ls 3 [(2, .int v2_L3), (0, .ref (ad 23)), (1, .int w1_L3)] → (∀ (H : Heap) (locs : List Loc) (ls : Array Slot), va_P D vwCl (wW ad ++ wB cI (ad 3) (ad 4) 16384 out_L3) H → va_D A (wW ad ++ wB cI (ad 3) (ad 4) 16384 out_L3) → va_S A s.heap H locs → lv_has ls 3 [(0, .ref (ad 23)), (1, .int w1_L3)] → W p l e { frames := 1, cells := 0, slots := 0, locals := 21 } s m [.ref (ad 23), .int a1].toArray below meth c H locs 0 0 (MQ below (CQ D A (wW ad ++ wB cI (ad 3) (ad 4) 16384 res) none) [.ref (ad 23), .int a1].toArray s 0 0 A) (F0 m 41 ls [])) → W p l e { frames := 1, cells := 0, slots := 0, locals := 21 } s m [.ref (ad 23), .int a1].toArray below meth c H locs 0 0 (MQ below (CQ D A (wW ad ++ wB cI (ad 3) (ad 4) 16384 res) none) [.ref (ad 23), .int a1].toArray s 0 0 A) (F0 m 3 ls []) := by
    intro w1_L3 n
    induction n with
    | zero => intro v2_L3 o_out_L3 out_L3 H locs ls hM; exact absurd (show none = some _ from hM) (by simp)
    | succ n ih_L3 =>
      intro v2_L3 o_out_L3 out_L3 H locs ls hM hP hD hS hl kx_L3
      rw [f_Writer_digits_L3] at hM
      refine lv_iload_n hx hb dX5_digits_3 rfl (lv_at hl 0 rfl) ?_
      refine lv_if_le (tgt := 41) hx hb dX5_digits_4 (by decide) (fun c1131 => ?_) (fun c1131 => ?_)
      · replace hM := if_t c1131 hM
        cases hM
        exact kx_L3 _ _ _ hP hD hS (lv_sub hl [1, 2] rfl)
      · replace hM := if_f c1131 hM
        refine lv_iload_n hx hb dX5_digits_7 rfl (lv_at hl 2 rfl) ?_
        refine lv_iload_n hx hb dX5_digits_8 rfl (lv_at hl 0 rfl) ?_
        refine lv_icmp_ge (tgt := 17) hx hb dX5_digits_9 (by decide) (fun c1132 => ?_) (fun c1132 => ?_)
        · replace hM := if_t c1132 hM
          refine lv_aload_n hx hb dX5_digits_17 rfl (lv_at hl 1 rfl) ?_
          refine va_get (D := D) (ci := 5) (v := .ref (ad 3)) (C := RX5) (T := TX5) (N := 3) hx hb hts layX5 hown hK hP 0 rfl rfl 2 (by decide) (hts _ (inA q444)) (fun _ h9 => h9) rfl dX5_digits_18 ?_
          refine lv_bipush (v := 48) hx hb dX5_digits_21 (by decide) ?_
          refine lv_iload_n hx hb dX5_digits_23 rfl (lv_at hl 2 rfl) ?_
          refine lv_iload_n hx hb dX5_digits_24 rfl (lv_at hl 0 rfl) ?_
          obtain ⟨z1133, hM⟩ := dz_use hM
          refine lv_idiv hx hb dX5_digits_25 z1133 ?_
          refine lv_bipush (v := 10) hx hb dX5_digits_26 (by decide) ?_
          refine lv_irem hx hb dX5_digits_28 (by decide) ?_
          refine lv_iadd hx hb dX5_digits_29 ?_
          obtain ⟨r1134, hcr1134, hM⟩ := ob_use hM
          refine cl_V (As := [.int (48 + ((w1_L3 / v2_L3) - (w1_L3 / v2_L3) / 10 * 10))]) (rest := []) (wW ad ++ wB cI (ad 3) (ad 4) 16384 r1134) [] ⟨hx, hb, hml, hown, hts⟩ (c_Bytes_put l D cI sd (ad 3) (ad 4) 16384 o_out_L3 (48 + ((w1_L3 / v2_L3) - (w1_L3 / v2_L3) / 10 * 10)) r1134 hcr1134) (cwV2 hts q886 mvX0_put rfl rfl ⟨(Nat.le_of_ble_eq_true rfl), (Nat.le_of_ble_eq_true rfl)⟩) hK hE hA hP hD hS 1 (T := TX0) (N := 2) (ci := 0) rfl rfl [1, 2] rfl (by decide) rfl rfl rfl rfl rfl rfl hl.1 (Nat.le_of_ble_eq_true rfl) dX5_digits_30 ⟨Nat.zero_le _, Nat.zero_le _⟩ (fun H locs hP hD hS => ?_)
          refine lv_iload_n hx hb dX5_digits_33 rfl (lv_at hl 0 rfl) ?_
          refine lv_bipush (v := 10) hx hb dX5_digits_34 (by decide) ?_
          refine lv_idiv hx hb dX5_digits_36 (by decide) ?_
          refine lv_istore_n (lv' := [(2, .int (v2_L3 / 10)), (0, .ref (ad 23)), (1, .int w1_L3)]) hx hb dX5_digits_37 rfl hl (by decide) rfl (fun ls hl => ?_)
          refine lv_goto (tgt := 3) hx hb dX5_digits_38 (by decide) ?_
          exact ih_L3 (v2_L3 / 10) r1134 out_L3 _ _ _ hM hP hD hS (lv_sub hl [0, 1, 2] rfl) kx_L3
        · replace hM := if_f c1132 hM
          refine lv_iload_n hx hb dX5_digits_12 rfl (lv_at hl 0 rfl) ?_
          refine lv_iconst (v := 1) hx hb dX5_digits_13 (by decide) ?_
          refine lv_icmp_ne (tgt := 33) hx hb dX5_digits_14 (by decide) (fun c1135 => ?_) (fun c1135 => ?_)
          · replace hM := if_f c1135 hM
            refine lv_iload_n hx hb dX5_digits_33 rfl (lv_at hl 0 rfl) ?_
            refine lv_bipush (v := 10) hx hb dX5_digits_34 (by decide) ?_
            refine lv_idiv hx hb dX5_digits_36 (by decide) ?_
            refine lv_istore_n (lv' := [(2, .int (v2_L3 / 10)), (0, .ref (ad 23)), (1, .int w1_L3)]) hx hb dX5_digits_37 rfl hl (by decide) rfl (fun ls hl => ?_)
            refine lv_goto (tgt := 3) hx hb dX5_digits_38 (by decide) ?_
            exact ih_L3 (v2_L3 / 10) o_out_L3 out_L3 _ _ _ hM hP hD hS (lv_sub hl [0, 1, 2] rfl) kx_L3
          · replace hM := if_t c1135 hM
            refine lv_aload_n hx hb dX5_digits_17 rfl (lv_at hl 1 rfl) ?_
            refine va_get (D := D) (ci := 5) (v := .ref (ad 3)) (C := RX5) (T := TX5) (N := 3) hx hb hts layX5 hown hK hP 0 rfl rfl 2 (by decide) (hts _ (inA q444)) (fun _ h9 => h9) rfl dX5_digits_18 ?_
            refine lv_bipush (v := 48) hx hb dX5_digits_21 (by decide) ?_
            refine lv_iload_n hx hb dX5_digits_23 rfl (lv_at hl 2 rfl) ?_
            refine lv_iload_n hx hb dX5_digits_24 rfl (lv_at hl 0 rfl) ?_
            obtain ⟨z1136, hM⟩ := dz_use hM
            refine lv_idiv hx hb dX5_digits_25 z1136 ?_
            refine lv_bipush (v := 10) hx hb dX5_digits_26 (by decide) ?_
            refine lv_irem hx hb dX5_digits_28 (by decide) ?_
            refine lv_iadd hx hb dX5_digits_29 ?_
            obtain ⟨r1137, hcr1137, hM⟩ := ob_use hM
            refine cl_V (As := [.int (48 + ((w1_L3 / v2_L3) - (w1_L3 / v2_L3) / 10 * 10))]) (rest := []) (wW ad ++ wB cI (ad 3) (ad 4) 16384 r1137) [] ⟨hx, hb, hml, hown, hts⟩ (c_Bytes_put l D cI sd (ad 3) (ad 4) 16384 o_out_L3 (48 + ((w1_L3 / v2_L3) - (w1_L3 / v2_L3) / 10 * 10)) r1137 hcr1137) (cwV2 hts q886 mvX0_put rfl rfl ⟨(Nat.le_of_ble_eq_true rfl), (Nat.le_of_ble_eq_true rfl)⟩) hK hE hA hP hD hS 1 (T := TX0) (N := 2) (ci := 0) rfl rfl [1, 2] rfl (by decide) rfl rfl rfl rfl rfl rfl hl.1 (Nat.le_of_ble_eq_true rfl) dX5_digits_30 ⟨Nat.zero_le _, Nat.zero_le _⟩ (fun H locs hP hD hS => ?_)
            refine lv_iload_n hx hb dX5_digits_33 rfl (lv_at hl 0 rfl) ?_
            refine lv_bipush (v := 10) hx hb dX5_digits_34 (by decide) ?_
            refine lv_idiv hx hb dX5_digits_36 (by decide) ?_
            refine lv_istore_n (lv' := [(2, .int (v2_L3 / 10)), (0, .ref (ad 23)), (1, .int w1_L3)]) hx hb dX5_digits_37 rfl hl (by decide) rfl (fun ls hl => ?_)
            refine lv_goto (tgt := 3) hx hb dX5_digits_38 (by decide) ?_
            exact ih_L3 (v2_L3 / 10) r1137 out_L3 _ _ _ hM hP hD hS (lv_sub hl [0, 1, 2] rfl) kx_L3
  obtain ⟨r1, hcr1, hM⟩ := ob_use hM
  refine lp_L3 a1 FU 1000000000 o_out r1 _ _ _ hcr1 hP hD hS (lv_sub hl [0, 1, 2] rfl) (fun H locs ls hP hD hS hl => ?_)
  cases hM
  exact rt_v hx hb hr hlk hP hD hS rfl dX5_digits_41

set_option maxHeartbeats 4000000 in
set_option maxRecDepth 100000 in
theorem c_Writer_part (l : Launch) (D : va_G) (cI : ClassId) (sd : Nat → Nat) (ad : Nat → Nat) (o_out : S_Bytes) (res : S_Bytes) (hM : f_Writer_part o_out = some res) : Ctr l D cI sd yX5_part (wsM yX5_part cX5_part 1 (Option.none : Option Jvm.ClassFile.FieldType)) { frames := 1, cells := 0, slots := 0, locals := 21 } [.ref (ad 23)] (wW ad ++ wB cI (ad 3) (ad 4) 16384 o_out) (wW ad ++ wB cI (ad 3) (ad 4) 16384 res) none := by
  refine Ctr.of (cc := cX5_part) (maxL := 1) (own := RX5) (by decide +kernel) rfl rfl (Nat.le_of_ble_eq_true rfl) ?_
  intro p e s m below meth c A ls hx hb hr hml hown hts hlk hK hE hA hP hD hS hl
  have hl : lv_has ls 1 [(0, .ref (ad 23))] := hl
  unfold f_Writer_part at hM
  refine lv_aload_n hx hb dX5_part_0 rfl (lv_at hl 0 rfl) ?_
  refine va_get (D := D) (ci := 5) (v := .ref (ad 3)) (C := RX5) (T := TX5) (N := 3) hx hb hts layX5 hown hK hP 0 rfl rfl 2 (by decide) (hts _ (inA q444)) (fun _ h9 => h9) rfl dX5_part_1 ?_
  refine lv_aload_n hx hb dX5_part_4 rfl (lv_at hl 0 rfl) ?_
  refine va_get (D := D) (ci := 5) (v := .ref (ad 3)) (C := RX5) (T := TX5) (N := 3) hx hb hts layX5 hown hK hP 0 rfl rfl 2 (by decide) (hts _ (inA q444)) (fun _ h9 => h9) rfl dX5_part_5 ?_
  refine va_getN (D := D) (ci := 0) (v := .int o_out.1) (C := RX0) (T := TX0) (N := 2) hx hb hts layX0 hown hK hP 1 rfl rfl 1 (by decide) (nfE2 hE) (fun _ h9 => h9) rfl dX5_part_8 ?_
  refine lv_iconst (v := 1) hx hb dX5_part_11 (by decide) ?_
  refine lv_isub hx hb dX5_part_12 ?_
  obtain ⟨r1, hcr1, hM⟩ := ob_use hM
  refine cl_V (As := [.int (o_out.1 - 1)]) (rest := []) (wW ad ++ wB cI (ad 3) (ad 4) 16384 o_out) (.int r1 :: []) ⟨hx, hb, hml, hown, hts⟩ (c_Bytes_get l D cI sd (ad 3) (ad 4) 16384 o_out (o_out.1 - 1) r1 hcr1) (cwV2 hts q884 mvX0_get rfl rfl ⟨(Nat.le_of_ble_eq_true rfl), (Nat.le_of_ble_eq_true rfl)⟩) hK hE hA hP hD hS 1 (T := TX0) (N := 2) (ci := 0) rfl rfl [1, 2] rfl (by decide) rfl rfl rfl rfl rfl rfl hl.1 (Nat.le_of_ble_eq_true rfl) dX5_part_13 ⟨Nat.zero_le _, Nat.zero_le _⟩ (fun H locs hP hD hS => ?_)
  obtain ⟨r2, hcr2, hM⟩ := ob_use hM
  refine cl_SN (As := [.int r1]) (rest := []) (wW ad ++ wB cI (ad 3) (ad 4) 16384 o_out) (.int r2 :: []) ⟨hx, hb, hml, hown, hts⟩ (c_Top_isNameByte l D cI sd ad r1 r2 hcr2) (cwSN2 hts (nmE5 hE) mvX6_isNameByte rfl rfl ⟨(Nat.le_of_ble_eq_true rfl), (Nat.le_of_ble_eq_true rfl)⟩) hK hE hA hP hD hS [] rfl (by decide) rfl rfl rfl rfl rfl rfl hl.1 (Nat.le_of_ble_eq_true rfl) dX5_part_16 ⟨Nat.zero_le _, Nat.zero_le _⟩ (fun H locs hP hD hS => ?_)
  refine lv_if_eq (tgt := 31) hx hb dX5_part_19 (by decide) (fun c3 => ?_) (fun c3 => ?_)
  · replace hM := if_t c3 hM
    cases hM
    exact rt_v hx hb hr hlk hP hD hS rfl dX5_part_31
  · replace hM := if_f c3 hM
    refine lv_aload_n hx hb dX5_part_22 rfl (lv_at hl 0 rfl) ?_
    refine va_get (D := D) (ci := 5) (v := .ref (ad 3)) (C := RX5) (T := TX5) (N := 3) hx hb hts layX5 hown hK hP 0 rfl rfl 2 (by decide) (hts _ (inA q444)) (fun _ h9 => h9) rfl dX5_part_23 ?_
    refine lv_bipush (v := 32) hx hb dX5_part_26 (by decide) ?_
    obtain ⟨r4, hcr4, hM⟩ := ob_use hM
    refine cl_V (As := [.int 32]) (rest := []) (wW ad ++ wB cI (ad 3) (ad 4) 16384 r4) [] ⟨hx, hb, hml, hown, hts⟩ (c_Bytes_put l D cI sd (ad 3) (ad 4) 16384 o_out 32 r4 hcr4) (cwV2 hts q886 mvX0_put rfl rfl ⟨(Nat.le_of_ble_eq_true rfl), (Nat.le_of_ble_eq_true rfl)⟩) hK hE hA hP hD hS 1 (T := TX0) (N := 2) (ci := 0) rfl rfl [1, 2] rfl (by decide) rfl rfl rfl rfl rfl rfl hl.1 (Nat.le_of_ble_eq_true rfl) dX5_part_28 ⟨Nat.zero_le _, Nat.zero_le _⟩ (fun H locs hP hD hS => ?_)
    cases hM
    exact rt_v hx hb hr hlk hP hD hS rfl dX5_part_31

set_option maxHeartbeats 4000000 in
set_option maxRecDepth 100000 in
theorem c_Writer_word (l : Launch) (D : va_G) (cI : ClassId) (sd : Nat → Nat) (ad : Nat → Nat) (o_names : S_Names) (o_out : S_Bytes) (a1 : Int32) (res : S_Bytes) (hM : f_Writer_word o_names o_out a1 = some res) : Ctr l D cI sd yX5_word (wsM yX5_word cX5_word 4 (Option.none : Option Jvm.ClassFile.FieldType)) { frames := 2, cells := 0, slots := 0, locals := 41 } [.ref (ad 23), .int a1] (wW ad ++ wN cI ad o_names ++ wB cI (ad 3) (ad 4) 16384 o_out) (wW ad ++ wN cI ad o_names ++ wB cI (ad 3) (ad 4) 16384 res) none := by
  refine Ctr.of (cc := cX5_word) (maxL := 4) (own := RX5) (by decide +kernel) rfl rfl (Nat.le_of_ble_eq_true rfl) ?_
  intro p e s m below meth c A ls hx hb hr hml hown hts hlk hK hE hA hP hD hS hl
  have hl : lv_has ls 4 [(0, .ref (ad 23)), (1, .int a1)] := hl
  unfold f_Writer_word at hM
  refine lv_aload_n hx hb dX5_word_0 rfl (lv_at hl 0 rfl) ?_
  obtain ⟨r1, hcr1, hM⟩ := ob_use hM
  refine cl_V (As := []) (rest := []) (wW ad ++ wN cI ad o_names ++ wB cI (ad 3) (ad 4) 16384 r1) [] ⟨hx, hb, hml, hown, hts⟩ (c_Writer_part l D cI sd ad o_out r1 hcr1) (cwV2 hts q880 mvX5_part rfl rfl ⟨(Nat.le_of_ble_eq_true rfl), (Nat.le_of_ble_eq_true rfl)⟩) hK hE hA hP hD hS 0 (T := TX5) (N := 3) (ci := 5) rfl rfl [0, 6, 7] rfl (by decide) rfl rfl rfl rfl rfl rfl hl.1 (Nat.le_of_ble_eq_true rfl) dX5_word_1 ⟨Nat.zero_le _, Nat.zero_le _⟩ (fun H locs hP hD hS => ?_)
  refine lv_iconst (v := 0) hx hb dX5_word_4 (by decide) ?_
  refine lv_istore_n (lv' := [(2, .int 0), (0, .ref (ad 23)), (1, .int a1)]) hx hb dX5_word_5 rfl hl (by decide) rfl (fun ls hl => ?_)
  have lp_L6 : ∀ (w1_L6 : Int32) (n : Nat) (v2_L6 : Int32) (o_out_L6 : S_Bytes) (H : Heap) (locs : List Loc) (ls : Array Slot), f_Writer_word_L6 o_names w1_L6 n v2_L6 o_out_L6 = some res → va_P D vwCl (wW ad ++ wN cI ad o_names ++ wB cI (ad 3) (ad 4) 16384 o_out_L6) H → va_D A (wW ad ++ wN cI ad o_names ++ wB cI (ad 3) (ad 4) 16384 o_out_L6) → va_S A s.heap H locs → lv_has ls 4 [(2, .int v2_L6), (0, .ref (ad 23)), (1, .int w1_L6)] → W p l e { frames := 2, cells := 0, slots := 0, locals := 41 } s m [.ref (ad 23), .int a1].toArray below meth c H locs 0 0 (MQ below (CQ D A (wW ad ++ wN cI ad o_names ++ wB cI (ad 3) (ad 4) 16384 res) none) [.ref (ad 23), .int a1].toArray s 0 0 A) (F0 m 6 ls []) := by
    intro w1_L6 n
    induction n with
    | zero => intro v2_L6 o_out_L6 H locs ls hM; exact absurd (show none = some _ from hM) (by simp)
    | succ n ih_L6 =>
      intro v2_L6 o_out_L6 H locs ls hM hP hD hS hl
      rw [f_Writer_word_L6] at hM
      refine lv_iload_n hx hb dX5_word_6 rfl (lv_at hl 0 rfl) ?_
      refine lv_bipush (v := 32) hx hb dX5_word_7 (by decide) ?_
      refine lv_icmp_ge (tgt := 42) hx hb dX5_word_9 (by decide) (fun c1161 => ?_) (fun c1161 => ?_)
      · replace hM := if_t c1161 hM
        cases hM
        exact rt_v hx hb hr hlk hP hD hS rfl dX5_word_42
      · replace hM := if_f c1161 hM
        refine lv_aload_n hx hb dX5_word_12 rfl (lv_at hl 1 rfl) ?_
        refine va_get (D := D) (ci := 5) (v := .ref (ad 5)) (C := RX5) (T := TX5) (N := 3) hx hb hts layX5 hown hK hP 0 rfl rfl 1 (by decide) (hts _ (inA q443)) (fun _ h9 => h9) rfl dX5_word_13 ?_
        refine lv_iload_n hx hb dX5_word_16 rfl (lv_at hl 2 rfl) ?_
        refine lv_iload_n hx hb dX5_word_17 rfl (lv_at hl 0 rfl) ?_
        obtain ⟨r1162, hcr1162, hM⟩ := ob_use hM
        refine cl_V (As := [.int w1_L6, .int v2_L6]) (rest := []) (wW ad ++ wN cI ad o_names ++ wB cI (ad 3) (ad 4) 16384 o_out_L6) (.int r1162 :: []) ⟨hx, hb, hml, hown, hts⟩ (c_Names_letterOf l D cI sd ad o_names w1_L6 v2_L6 r1162 hcr1162) (cwV2 hts q887 mvX1_letterOf rfl rfl ⟨(Nat.le_of_ble_eq_true rfl), (Nat.le_of_ble_eq_true rfl)⟩) hK hE hA hP hD hS 1 (T := TX1) (N := 6) (ci := 1) rfl rfl [1, 2, 3, 4, 5] rfl (by decide) rfl rfl rfl rfl rfl rfl hl.1 (Nat.le_of_ble_eq_true rfl) dX5_word_18 ⟨Nat.zero_le _, Nat.zero_le _⟩ (fun H locs hP hD hS => ?_)
        refine lv_istore_n (lv' := [(3, .int r1162), (2, .int v2_L6), (0, .ref (ad 23)), (1, .int w1_L6)]) hx hb dX5_word_21 rfl hl (by decide) rfl (fun ls hl => ?_)
        refine lv_iload_n hx hb dX5_word_22 rfl (lv_at hl 0 rfl) ?_
        refine lv_iconst (v := (-1)) hx hb dX5_word_23 (by decide) ?_
        refine lv_icmp_ne (tgt := 28) hx hb dX5_word_24 (by decide) (fun c1163 => ?_) (fun c1163 => ?_)
        · replace hM := if_f c1163 hM
          refine lv_aload_n hx hb dX5_word_28 rfl (lv_at hl 2 rfl) ?_
          refine va_get (D := D) (ci := 5) (v := .ref (ad 3)) (C := RX5) (T := TX5) (N := 3) hx hb hts layX5 hown hK hP 0 rfl rfl 2 (by decide) (hts _ (inA q444)) (fun _ h9 => h9) rfl dX5_word_29 ?_
          refine lv_iload_n hx hb dX5_word_32 rfl (lv_at hl 0 rfl) ?_
          obtain ⟨r1164, hcr1164, hM⟩ := ob_use hM
          refine cl_V (As := [.int r1162]) (rest := []) (wW ad ++ wN cI ad o_names ++ wB cI (ad 3) (ad 4) 16384 r1164) [] ⟨hx, hb, hml, hown, hts⟩ (c_Bytes_put l D cI sd (ad 3) (ad 4) 16384 o_out_L6 r1162 r1164 hcr1164) (cwV2 hts q886 mvX0_put rfl rfl ⟨(Nat.le_of_ble_eq_true rfl), (Nat.le_of_ble_eq_true rfl)⟩) hK hE hA hP hD hS 6 (T := TX0) (N := 2) (ci := 0) rfl rfl [6, 7] rfl (by decide) rfl rfl rfl rfl rfl rfl hl.1 (Nat.le_of_ble_eq_true rfl) dX5_word_33 ⟨Nat.zero_le _, Nat.zero_le _⟩ (fun H locs hP hD hS => ?_)
          obtain ⟨x1165, ex1165⟩ : ∃ y : Int32, y = v2_L6 + 1 := ⟨_, rfl⟩
          replace hM := nm_use ex1165 hM
          refine lv_iinc (v := x1165) (lv' := [(2, .int x1165), (3, .int r1162), (0, .ref (ad 23)), (1, .int w1_L6)]) hx hb dX5_word_36 hl (k := 1) rfl (by rw [ex1165]; rfl) (by decide) rfl (fun ls hl => ?_)
          refine lv_goto (tgt := 6) hx hb dX5_word_39 (by decide) ?_
          exact ih_L6 x1165 r1164 _ _ _ hM hP hD hS (lv_sub hl [0, 2, 3] rfl)
        · replace hM := if_t c1163 hM
          cases hM
          exact rt_v hx hb hr hlk hP hD hS rfl dX5_word_27
  exact lp_L6 a1 FU 0 r1 _ _ _ hM hP hD hS (lv_sub hl [0, 1, 2] rfl)

set_option maxHeartbeats 4000000 in
set_option maxRecDepth 100000 in
theorem c_Writer_token (l : Launch) (D : va_G) (cI : ClassId) (sd : Nat → Nat) (ad : Nat → Nat) (o_names : S_Names) (o_out : S_Bytes) (a1 : Int32) (res : S_Bytes) (hM : f_Writer_token o_names o_out a1 = some res) : Ctr l D cI sd yX5_token (wsM yX5_token cX5_token 2 (Option.none : Option Jvm.ClassFile.FieldType)) { frames := 3, cells := 0, slots := 0, locals := 64 } [.ref (ad 23), .int a1] (wW ad ++ wN cI ad o_names ++ wB cI (ad 3) (ad 4) 16384 o_out) (wW ad ++ wN cI ad o_names ++ wB cI (ad 3) (ad 4) 16384 res) none := by
  refine Ctr.of (cc := cX5_token) (maxL := 2) (own := RX5) (by decide +kernel) rfl rfl (Nat.le_of_ble_eq_true rfl) ?_
  intro p e s m below meth c A ls hx hb hr hml hown hts hlk hK hE hA hP hD hS hl
  have hl : lv_has ls 2 [(0, .ref (ad 23)), (1, .int a1)] := hl
  unfold f_Writer_token at hM
  refine lv_iload_n hx hb dX5_token_0 rfl (lv_at hl 1 rfl) ?_
  refine lv_sipush (v := 256) hx hb dX5_token_1 (by decide) ?_
  refine lv_icmp_lt (tgt := 26) hx hb dX5_token_4 (by decide) (fun c1 => ?_) (fun c1 => ?_)
  · replace hM := if_t c1 hM
    refine lv_iload_n hx hb dX5_token_26 rfl (lv_at hl 1 rfl) ?_
    refine lv_sipush (v := 255) hx hb dX5_token_27 (by decide) ?_
    refine lv_icmp_le (tgt := 59) hx hb dX5_token_30 (by decide) (fun c2 => ?_) (fun c2 => ?_)
    · replace hM := if_t c2 hM
      refine lv_iload_n hx hb dX5_token_59 rfl (lv_at hl 1 rfl) ?_
      refine lv_if_lt (tgt := 71) hx hb dX5_token_60 (by decide) (fun c3 => ?_) (fun c3 => ?_)
      · replace hM := if_t c3 hM
        cases hM
        exact rt_v hx hb hr hlk hP hD hS rfl dX5_token_71
      · replace hM := if_f c3 hM
        refine lv_aload_n hx hb dX5_token_63 rfl (lv_at hl 0 rfl) ?_
        refine va_get (D := D) (ci := 5) (v := .ref (ad 3)) (C := RX5) (T := TX5) (N := 3) hx hb hts layX5 hown hK hP 0 rfl rfl 2 (by decide) (hts _ (inA q444)) (fun _ h9 => h9) rfl dX5_token_64 ?_
        refine lv_iload_n hx hb dX5_token_67 rfl (lv_at hl 1 rfl) ?_
        obtain ⟨r4, hcr4, hM⟩ := ob_use hM
        refine cl_V (As := [.int a1]) (rest := []) (wW ad ++ wN cI ad o_names ++ wB cI (ad 3) (ad 4) 16384 r4) [] ⟨hx, hb, hml, hown, hts⟩ (c_Bytes_put l D cI sd (ad 3) (ad 4) 16384 o_out a1 r4 hcr4) (cwV2 hts q886 mvX0_put rfl rfl ⟨(Nat.le_of_ble_eq_true rfl), (Nat.le_of_ble_eq_true rfl)⟩) hK hE hA hP hD hS 6 (T := TX0) (N := 2) (ci := 0) rfl rfl [6, 7] rfl (by decide) rfl rfl rfl rfl rfl rfl hl.1 (Nat.le_of_ble_eq_true rfl) dX5_token_68 ⟨Nat.zero_le _, Nat.zero_le _⟩ (fun H locs hP hD hS => ?_)
        cases hM
        exact rt_v hx hb hr hlk hP hD hS rfl dX5_token_71
    · replace hM := if_f c2 hM
      refine lv_aload_n hx hb dX5_token_33 rfl (lv_at hl 0 rfl) ?_
      refine va_get (D := D) (ci := 5) (v := .ref (ad 3)) (C := RX5) (T := TX5) (N := 3) hx hb hts layX5 hown hK hP 0 rfl rfl 2 (by decide) (hts _ (inA q444)) (fun _ h9 => h9) rfl dX5_token_34 ?_
      refine lv_iload_n hx hb dX5_token_37 rfl (lv_at hl 1 rfl) ?_
      refine lv_bipush (v := 8) hx hb dX5_token_38 (by decide) ?_
      refine lv_ishr hx hb dX5_token_40 ?_
      obtain ⟨r5, hcr5, hM⟩ := ob_use hM
      refine cl_V (As := [.int (a1 >>> (8 &&& 31))]) (rest := []) (wW ad ++ wN cI ad o_names ++ wB cI (ad 3) (ad 4) 16384 r5) [] ⟨hx, hb, hml, hown, hts⟩ (c_Bytes_put l D cI sd (ad 3) (ad 4) 16384 o_out (a1 >>> (8 &&& 31)) r5 hcr5) (cwV2 hts q886 mvX0_put rfl rfl ⟨(Nat.le_of_ble_eq_true rfl), (Nat.le_of_ble_eq_true rfl)⟩) hK hE hA hP hD hS 6 (T := TX0) (N := 2) (ci := 0) rfl rfl [6, 7] rfl (by decide) rfl rfl rfl rfl rfl rfl hl.1 (Nat.le_of_ble_eq_true rfl) dX5_token_41 ⟨Nat.zero_le _, Nat.zero_le _⟩ (fun H locs hP hD hS => ?_)
      refine lv_aload_n hx hb dX5_token_44 rfl (lv_at hl 0 rfl) ?_
      refine va_get (D := D) (ci := 5) (v := .ref (ad 3)) (C := RX5) (T := TX5) (N := 3) hx hb hts layX5 hown hK hP 0 rfl rfl 2 (by decide) (hts _ (inA q444)) (fun _ h9 => h9) rfl dX5_token_45 ?_
      refine lv_iload_n hx hb dX5_token_48 rfl (lv_at hl 1 rfl) ?_
      refine lv_sipush (v := 255) hx hb dX5_token_49 (by decide) ?_
      refine lv_iand hx hb dX5_token_52 ?_
      obtain ⟨r6, hcr6, hM⟩ := ob_use hM
      refine cl_V (As := [.int (a1 &&& 255)]) (rest := []) (wW ad ++ wN cI ad o_names ++ wB cI (ad 3) (ad 4) 16384 r6) [] ⟨hx, hb, hml, hown, hts⟩ (c_Bytes_put l D cI sd (ad 3) (ad 4) 16384 r5 (a1 &&& 255) r6 hcr6) (cwV2 hts q886 mvX0_put rfl rfl ⟨(Nat.le_of_ble_eq_true rfl), (Nat.le_of_ble_eq_true rfl)⟩) hK hE hA hP hD hS 6 (T := TX0) (N := 2) (ci := 0) rfl rfl [6, 7] rfl (by decide) rfl rfl rfl rfl rfl rfl hl.1 (Nat.le_of_ble_eq_true rfl) dX5_token_53 ⟨Nat.zero_le _, Nat.zero_le _⟩ (fun H locs hP hD hS => ?_)
      refine lv_goto (tgt := 71) hx hb dX5_token_56 (by decide) ?_
      cases hM
      exact rt_v hx hb hr hlk hP hD hS rfl dX5_token_71
  · replace hM := if_f c1 hM
    refine lv_iload_n hx hb dX5_token_7 rfl (lv_at hl 1 rfl) ?_
    refine lv_sipush (v := 297) hx hb dX5_token_8 (by decide) ?_
    refine lv_icmp_ge (tgt := 26) hx hb dX5_token_11 (by decide) (fun c7 => ?_) (fun c7 => ?_)
    · replace hM := if_t c7 hM
      refine lv_iload_n hx hb dX5_token_26 rfl (lv_at hl 1 rfl) ?_
      refine lv_sipush (v := 255) hx hb dX5_token_27 (by decide) ?_
      refine lv_icmp_le (tgt := 59) hx hb dX5_token_30 (by decide) (fun c8 => ?_) (fun c8 => ?_)
      · replace hM := if_t c8 hM
        refine lv_iload_n hx hb dX5_token_59 rfl (lv_at hl 1 rfl) ?_
        refine lv_if_lt (tgt := 71) hx hb dX5_token_60 (by decide) (fun c9 => ?_) (fun c9 => ?_)
        · replace hM := if_t c9 hM
          cases hM
          exact rt_v hx hb hr hlk hP hD hS rfl dX5_token_71
        · replace hM := if_f c9 hM
          refine lv_aload_n hx hb dX5_token_63 rfl (lv_at hl 0 rfl) ?_
          refine va_get (D := D) (ci := 5) (v := .ref (ad 3)) (C := RX5) (T := TX5) (N := 3) hx hb hts layX5 hown hK hP 0 rfl rfl 2 (by decide) (hts _ (inA q444)) (fun _ h9 => h9) rfl dX5_token_64 ?_
          refine lv_iload_n hx hb dX5_token_67 rfl (lv_at hl 1 rfl) ?_
          obtain ⟨r10, hcr10, hM⟩ := ob_use hM
          refine cl_V (As := [.int a1]) (rest := []) (wW ad ++ wN cI ad o_names ++ wB cI (ad 3) (ad 4) 16384 r10) [] ⟨hx, hb, hml, hown, hts⟩ (c_Bytes_put l D cI sd (ad 3) (ad 4) 16384 o_out a1 r10 hcr10) (cwV2 hts q886 mvX0_put rfl rfl ⟨(Nat.le_of_ble_eq_true rfl), (Nat.le_of_ble_eq_true rfl)⟩) hK hE hA hP hD hS 6 (T := TX0) (N := 2) (ci := 0) rfl rfl [6, 7] rfl (by decide) rfl rfl rfl rfl rfl rfl hl.1 (Nat.le_of_ble_eq_true rfl) dX5_token_68 ⟨Nat.zero_le _, Nat.zero_le _⟩ (fun H locs hP hD hS => ?_)
          cases hM
          exact rt_v hx hb hr hlk hP hD hS rfl dX5_token_71
      · replace hM := if_f c8 hM
        refine lv_aload_n hx hb dX5_token_33 rfl (lv_at hl 0 rfl) ?_
        refine va_get (D := D) (ci := 5) (v := .ref (ad 3)) (C := RX5) (T := TX5) (N := 3) hx hb hts layX5 hown hK hP 0 rfl rfl 2 (by decide) (hts _ (inA q444)) (fun _ h9 => h9) rfl dX5_token_34 ?_
        refine lv_iload_n hx hb dX5_token_37 rfl (lv_at hl 1 rfl) ?_
        refine lv_bipush (v := 8) hx hb dX5_token_38 (by decide) ?_
        refine lv_ishr hx hb dX5_token_40 ?_
        obtain ⟨r11, hcr11, hM⟩ := ob_use hM
        refine cl_V (As := [.int (a1 >>> (8 &&& 31))]) (rest := []) (wW ad ++ wN cI ad o_names ++ wB cI (ad 3) (ad 4) 16384 r11) [] ⟨hx, hb, hml, hown, hts⟩ (c_Bytes_put l D cI sd (ad 3) (ad 4) 16384 o_out (a1 >>> (8 &&& 31)) r11 hcr11) (cwV2 hts q886 mvX0_put rfl rfl ⟨(Nat.le_of_ble_eq_true rfl), (Nat.le_of_ble_eq_true rfl)⟩) hK hE hA hP hD hS 6 (T := TX0) (N := 2) (ci := 0) rfl rfl [6, 7] rfl (by decide) rfl rfl rfl rfl rfl rfl hl.1 (Nat.le_of_ble_eq_true rfl) dX5_token_41 ⟨Nat.zero_le _, Nat.zero_le _⟩ (fun H locs hP hD hS => ?_)
        refine lv_aload_n hx hb dX5_token_44 rfl (lv_at hl 0 rfl) ?_
        refine va_get (D := D) (ci := 5) (v := .ref (ad 3)) (C := RX5) (T := TX5) (N := 3) hx hb hts layX5 hown hK hP 0 rfl rfl 2 (by decide) (hts _ (inA q444)) (fun _ h9 => h9) rfl dX5_token_45 ?_
        refine lv_iload_n hx hb dX5_token_48 rfl (lv_at hl 1 rfl) ?_
        refine lv_sipush (v := 255) hx hb dX5_token_49 (by decide) ?_
        refine lv_iand hx hb dX5_token_52 ?_
        obtain ⟨r12, hcr12, hM⟩ := ob_use hM
        refine cl_V (As := [.int (a1 &&& 255)]) (rest := []) (wW ad ++ wN cI ad o_names ++ wB cI (ad 3) (ad 4) 16384 r12) [] ⟨hx, hb, hml, hown, hts⟩ (c_Bytes_put l D cI sd (ad 3) (ad 4) 16384 r11 (a1 &&& 255) r12 hcr12) (cwV2 hts q886 mvX0_put rfl rfl ⟨(Nat.le_of_ble_eq_true rfl), (Nat.le_of_ble_eq_true rfl)⟩) hK hE hA hP hD hS 6 (T := TX0) (N := 2) (ci := 0) rfl rfl [6, 7] rfl (by decide) rfl rfl rfl rfl rfl rfl hl.1 (Nat.le_of_ble_eq_true rfl) dX5_token_53 ⟨Nat.zero_le _, Nat.zero_le _⟩ (fun H locs hP hD hS => ?_)
        refine lv_goto (tgt := 71) hx hb dX5_token_56 (by decide) ?_
        cases hM
        exact rt_v hx hb hr hlk hP hD hS rfl dX5_token_71
    · replace hM := if_f c7 hM
      refine lv_aload_n hx hb dX5_token_14 rfl (lv_at hl 0 rfl) ?_
      refine lv_iload_n hx hb dX5_token_15 rfl (lv_at hl 1 rfl) ?_
      refine lv_sipush (v := 256) hx hb dX5_token_16 (by decide) ?_
      refine lv_isub hx hb dX5_token_19 ?_
      obtain ⟨r13, hcr13, hM⟩ := ob_use hM
      refine cl_V (As := [.int (a1 - 256)]) (rest := []) (wW ad ++ wN cI ad o_names ++ wB cI (ad 3) (ad 4) 16384 r13) [] ⟨hx, hb, hml, hown, hts⟩ (c_Writer_word l D cI sd ad o_names o_out (a1 - 256) r13 hcr13) (cwV2 hts q876 mvX5_word rfl rfl ⟨(Nat.le_of_ble_eq_true rfl), (Nat.le_of_ble_eq_true rfl)⟩) hK hE hA hP hD hS 0 (T := TX5) (N := 3) (ci := 5) rfl rfl [0, 1, 2, 3, 4, 5, 6, 7] rfl (by decide) rfl rfl rfl rfl rfl rfl hl.1 (Nat.le_of_ble_eq_true rfl) dX5_token_20 ⟨Nat.zero_le _, Nat.zero_le _⟩ (fun H locs hP hD hS => ?_)
      refine lv_goto (tgt := 71) hx hb dX5_token_23 (by decide) ?_
      cases hM
      exact rt_v hx hb hr hlk hP hD hS rfl dX5_token_71

set_option maxHeartbeats 4000000 in
set_option maxRecDepth 100000 in
theorem c_Writer_number (l : Launch) (D : va_G) (cI : ClassId) (sd : Nat → Nat) (ad : Nat → Nat) (o_names : S_Names) (o_out : S_Bytes) (a1 : Int32) (res : S_Bytes) (hM : f_Writer_number o_names o_out a1 = some res) : Ctr l D cI sd yX5_number (wsM yX5_number cX5_number 2 (Option.none : Option Jvm.ClassFile.FieldType)) { frames := 4, cells := 0, slots := 0, locals := 85 } [.ref (ad 23), .int a1] (wW ad ++ wN cI ad o_names ++ wB cI (ad 3) (ad 4) 16384 o_out) (wW ad ++ wN cI ad o_names ++ wB cI (ad 3) (ad 4) 16384 res) none := by
  refine Ctr.of (cc := cX5_number) (maxL := 2) (own := RX5) (by decide +kernel) rfl rfl (Nat.le_of_ble_eq_true rfl) ?_
  intro p e s m below meth c A ls hx hb hr hml hown hts hlk hK hE hA hP hD hS hl
  have hl : lv_has ls 2 [(0, .ref (ad 23)), (1, .int a1)] := hl
  unfold f_Writer_number at hM
  refine lv_iload_n hx hb dX5_number_0 rfl (lv_at hl 1 rfl) ?_
  refine lv_if_ge (tgt := 10) hx hb dX5_number_1 (by decide) (fun c1 => ?_) (fun c1 => ?_)
  · replace hM := if_t c1 hM
    refine lv_aload_n hx hb dX5_number_10 rfl (lv_at hl 0 rfl) ?_
    obtain ⟨r2, hcr2, hM⟩ := ob_use hM
    refine cl_V (As := []) (rest := []) (wW ad ++ wN cI ad o_names ++ wB cI (ad 3) (ad 4) 16384 r2) [] ⟨hx, hb, hml, hown, hts⟩ (c_Writer_part l D cI sd ad o_out r2 hcr2) (cwV2 hts q880 mvX5_part rfl rfl ⟨(Nat.le_of_ble_eq_true rfl), (Nat.le_of_ble_eq_true rfl)⟩) hK hE hA hP hD hS 0 (T := TX5) (N := 3) (ci := 5) rfl rfl [0, 6, 7] rfl (by decide) rfl rfl rfl rfl rfl rfl hl.1 (Nat.le_of_ble_eq_true rfl) dX5_number_11 ⟨Nat.zero_le _, Nat.zero_le _⟩ (fun H locs hP hD hS => ?_)
    refine lv_aload_n hx hb dX5_number_14 rfl (lv_at hl 0 rfl) ?_
    refine lv_iload_n hx hb dX5_number_15 rfl (lv_at hl 1 rfl) ?_
    obtain ⟨r3, hcr3, hM⟩ := ob_use hM
    refine cl_S (As := [.int a1]) (rest := [.ref (ad 23)]) (wW ad ++ wN cI ad o_names ++ wB cI (ad 3) (ad 4) 16384 r2) (.int r3 :: [.ref (ad 23)]) ⟨hx, hb, hml, hown, hts⟩ (c_Math_abs l D cI sd ad a1 r3 hcr3) (cwS2 hts q945 mvX10_abs rfl rfl ⟨(Nat.le_of_ble_eq_true rfl), (Nat.le_of_ble_eq_true rfl)⟩) hK hE hA hP hD hS [] rfl (by decide) rfl rfl rfl rfl rfl rfl hl.1 (Nat.le_of_ble_eq_true rfl) dX5_number_16 ⟨Nat.zero_le _, Nat.zero_le _⟩ (fun H locs hP hD hS => ?_)
    obtain ⟨r4, hcr4, hM⟩ := ob_use hM
    refine cl_V (As := [.int r3]) (rest := []) (wW ad ++ wN cI ad o_names ++ wB cI (ad 3) (ad 4) 16384 r4) [] ⟨hx, hb, hml, hown, hts⟩ (c_Writer_digits l D cI sd ad r2 r3 r4 hcr4) (cwV2 hts q948 mvX5_digits rfl rfl ⟨(Nat.le_of_ble_eq_true rfl), (Nat.le_of_ble_eq_true rfl)⟩) hK hE hA hP hD hS 0 (T := TX5) (N := 3) (ci := 5) rfl rfl [0, 6, 7] rfl (by decide) rfl rfl rfl rfl rfl rfl hl.1 (Nat.le_of_ble_eq_true rfl) dX5_number_19 ⟨Nat.zero_le _, Nat.zero_le _⟩ (fun H locs hP hD hS => ?_)
    cases hM
    exact rt_v hx hb hr hlk hP hD hS rfl dX5_number_22
  · replace hM := if_f c1 hM
    refine lv_aload_n hx hb dX5_number_4 rfl (lv_at hl 0 rfl) ?_
    refine lv_bipush (v := 45) hx hb dX5_number_5 (by decide) ?_
    obtain ⟨r5, hcr5, hM⟩ := ob_use hM
    refine cl_V (As := [.int 45]) (rest := []) (wW ad ++ wN cI ad o_names ++ wB cI (ad 3) (ad 4) 16384 r5) [] ⟨hx, hb, hml, hown, hts⟩ (c_Writer_token l D cI sd ad o_names o_out 45 r5 hcr5) (cwV2 hts q872 mvX5_token rfl rfl ⟨(Nat.le_of_ble_eq_true rfl), (Nat.le_of_ble_eq_true rfl)⟩) hK hE hA hP hD hS 0 (T := TX5) (N := 3) (ci := 5) rfl rfl [0, 1, 2, 3, 4, 5, 6, 7] rfl (by decide) rfl rfl rfl rfl rfl rfl hl.1 (Nat.le_of_ble_eq_true rfl) dX5_number_7 ⟨Nat.zero_le _, Nat.zero_le _⟩ (fun H locs hP hD hS => ?_)
    refine lv_aload_n hx hb dX5_number_10 rfl (lv_at hl 0 rfl) ?_
    obtain ⟨r6, hcr6, hM⟩ := ob_use hM
    refine cl_V (As := []) (rest := []) (wW ad ++ wN cI ad o_names ++ wB cI (ad 3) (ad 4) 16384 r6) [] ⟨hx, hb, hml, hown, hts⟩ (c_Writer_part l D cI sd ad r5 r6 hcr6) (cwV2 hts q880 mvX5_part rfl rfl ⟨(Nat.le_of_ble_eq_true rfl), (Nat.le_of_ble_eq_true rfl)⟩) hK hE hA hP hD hS 0 (T := TX5) (N := 3) (ci := 5) rfl rfl [0, 6, 7] rfl (by decide) rfl rfl rfl rfl rfl rfl hl.1 (Nat.le_of_ble_eq_true rfl) dX5_number_11 ⟨Nat.zero_le _, Nat.zero_le _⟩ (fun H locs hP hD hS => ?_)
    refine lv_aload_n hx hb dX5_number_14 rfl (lv_at hl 0 rfl) ?_
    refine lv_iload_n hx hb dX5_number_15 rfl (lv_at hl 1 rfl) ?_
    obtain ⟨r7, hcr7, hM⟩ := ob_use hM
    refine cl_S (As := [.int a1]) (rest := [.ref (ad 23)]) (wW ad ++ wN cI ad o_names ++ wB cI (ad 3) (ad 4) 16384 r6) (.int r7 :: [.ref (ad 23)]) ⟨hx, hb, hml, hown, hts⟩ (c_Math_abs l D cI sd ad a1 r7 hcr7) (cwS2 hts q945 mvX10_abs rfl rfl ⟨(Nat.le_of_ble_eq_true rfl), (Nat.le_of_ble_eq_true rfl)⟩) hK hE hA hP hD hS [] rfl (by decide) rfl rfl rfl rfl rfl rfl hl.1 (Nat.le_of_ble_eq_true rfl) dX5_number_16 ⟨Nat.zero_le _, Nat.zero_le _⟩ (fun H locs hP hD hS => ?_)
    obtain ⟨r8, hcr8, hM⟩ := ob_use hM
    refine cl_V (As := [.int r7]) (rest := []) (wW ad ++ wN cI ad o_names ++ wB cI (ad 3) (ad 4) 16384 r8) [] ⟨hx, hb, hml, hown, hts⟩ (c_Writer_digits l D cI sd ad r6 r7 r8 hcr8) (cwV2 hts q948 mvX5_digits rfl rfl ⟨(Nat.le_of_ble_eq_true rfl), (Nat.le_of_ble_eq_true rfl)⟩) hK hE hA hP hD hS 0 (T := TX5) (N := 3) (ci := 5) rfl rfl [0, 6, 7] rfl (by decide) rfl rfl rfl rfl rfl rfl hl.1 (Nat.le_of_ble_eq_true rfl) dX5_number_19 ⟨Nat.zero_le _, Nat.zero_le _⟩ (fun H locs hP hD hS => ?_)
    cases hM
    exact rt_v hx hb hr hlk hP hD hS rfl dX5_number_22

set_option maxHeartbeats 4000000 in
set_option maxRecDepth 100000 in
theorem c_Writer_place (l : Launch) (D : va_G) (cI : ClassId) (sd : Nat → Nat) (ad : Nat → Nat) (o_names : S_Names) (o_out : S_Bytes) (a1 : Int32) (res : S_Bytes) (hM : f_Writer_place o_names o_out a1 = some res) : Ctr l D cI sd yX5_place (wsM yX5_place cX5_place 4 (Option.none : Option Jvm.ClassFile.FieldType)) { frames := 4, cells := 0, slots := 0, locals := 85 } [.ref (ad 23), .int a1] (wW ad ++ wN cI ad o_names ++ wB cI (ad 3) (ad 4) 16384 o_out) (wW ad ++ wN cI ad o_names ++ wB cI (ad 3) (ad 4) 16384 res) none := by
  refine Ctr.of (cc := cX5_place) (maxL := 4) (own := RX5) (by decide +kernel) rfl rfl (Nat.le_of_ble_eq_true rfl) ?_
  intro p e s m below meth c A ls hx hb hr hml hown hts hlk hK hE hA hP hD hS hl
  have hl : lv_has ls 4 [(0, .ref (ad 23)), (1, .int a1)] := hl
  unfold f_Writer_place at hM
  refine lv_iload_n hx hb dX5_place_0 rfl (lv_at hl 1 rfl) ?_
  refine lv_bipush (v := 8) hx hb dX5_place_1 (by decide) ?_
  refine lv_ishr hx hb dX5_place_3 ?_
  refine lv_istore_n (lv' := [(2, .int (a1 >>> (8 &&& 31))), (0, .ref (ad 23)), (1, .int a1)]) hx hb dX5_place_4 rfl hl (by decide) rfl (fun ls hl => ?_)
  refine lv_iload_n hx hb dX5_place_5 rfl (lv_at hl 0 rfl) ?_
  refine lv_iconst (v := 3) hx hb dX5_place_6 (by decide) ?_
  refine lv_icmp_ge (tgt := 14) hx hb dX5_place_7 (by decide) (fun c1 => ?_) (fun c1 => ?_)
  · replace hM := if_t c1 hM
    refine lv_iload_n hx hb dX5_place_14 rfl (lv_at hl 0 rfl) ?_
    refine lv_iconst (v := 3) hx hb dX5_place_15 (by decide) ?_
    refine lv_isub hx hb dX5_place_16 ?_
    refine lv_istore_n (lv' := [(3, .int ((a1 >>> (8 &&& 31)) - 3)), (2, .int (a1 >>> (8 &&& 31))), (0, .ref (ad 23)), (1, .int a1)]) hx hb dX5_place_17 rfl hl (by decide) rfl (fun ls hl => ?_)
    refine lv_aload_n hx hb dX5_place_18 rfl (lv_at hl 2 rfl) ?_
    refine lv_bipush (v := 37) hx hb dX5_place_19 (by decide) ?_
    obtain ⟨r2, hcr2, hM⟩ := ob_use hM
    refine cl_V (As := [.int 37]) (rest := []) (wW ad ++ wN cI ad o_names ++ wB cI (ad 3) (ad 4) 16384 r2) [] ⟨hx, hb, hml, hown, hts⟩ (c_Writer_token l D cI sd ad o_names o_out 37 r2 hcr2) (cwV2 hts q872 mvX5_token rfl rfl ⟨(Nat.le_of_ble_eq_true rfl), (Nat.le_of_ble_eq_true rfl)⟩) hK hE hA hP hD hS 0 (T := TX5) (N := 3) (ci := 5) rfl rfl [0, 1, 2, 3, 4, 5, 6, 7] rfl (by decide) rfl rfl rfl rfl rfl rfl hl.1 (Nat.le_of_ble_eq_true rfl) dX5_place_21 ⟨Nat.zero_le _, Nat.zero_le _⟩ (fun H locs hP hD hS => ?_)
    refine lv_aload_n hx hb dX5_place_24 rfl (lv_at hl 2 rfl) ?_
    refine va_get (D := D) (ci := 5) (v := .ref (ad 3)) (C := RX5) (T := TX5) (N := 3) hx hb hts layX5 hown hK hP 0 rfl rfl 2 (by decide) (hts _ (inA q444)) (fun _ h9 => h9) rfl dX5_place_25 ?_
    refine lv_iload_n hx hb dX5_place_28 rfl (lv_at hl 0 rfl) ?_
    refine lv_if_ne (tgt := 37) hx hb dX5_place_29 (by decide) (fun c3 => ?_) (fun c3 => ?_)
    · replace hM := if_f c3 hM
      refine lv_iload_n hx hb dX5_place_37 rfl (lv_at hl 0 rfl) ?_
      refine lv_iconst (v := 1) hx hb dX5_place_38 (by decide) ?_
      refine lv_icmp_ne (tgt := 47) hx hb dX5_place_39 (by decide) (fun c4 => ?_) (fun c4 => ?_)
      · replace hM := if_f c4 hM
        refine lv_bipush (v := 77) hx hb dX5_place_47 (by decide) ?_
        obtain ⟨r5, hcr5, hM⟩ := ob_use hM
        refine cl_V (As := [.int 77]) (rest := []) (wW ad ++ wN cI ad o_names ++ wB cI (ad 3) (ad 4) 16384 r5) [] ⟨hx, hb, hml, hown, hts⟩ (c_Bytes_put l D cI sd (ad 3) (ad 4) 16384 r2 77 r5 hcr5) (cwV2 hts q886 mvX0_put rfl rfl ⟨(Nat.le_of_ble_eq_true rfl), (Nat.le_of_ble_eq_true rfl)⟩) hK hE hA hP hD hS 6 (T := TX0) (N := 2) (ci := 0) rfl rfl [6, 7] rfl (by decide) rfl rfl rfl rfl rfl rfl hl.1 (Nat.le_of_ble_eq_true rfl) dX5_place_49 ⟨Nat.zero_le _, Nat.zero_le _⟩ (fun H locs hP hD hS => ?_)
        refine lv_aload_n hx hb dX5_place_52 rfl (lv_at hl 2 rfl) ?_
        refine va_get (D := D) (ci := 5) (v := .ref (ad 3)) (C := RX5) (T := TX5) (N := 3) hx hb hts layX5 hown hK hP 0 rfl rfl 2 (by decide) (hts _ (inA q444)) (fun _ h9 => h9) rfl dX5_place_53 ?_
        refine lv_iload_n hx hb dX5_place_56 rfl (lv_at hl 1 rfl) ?_
        refine lv_iconst (v := 3) hx hb dX5_place_57 (by decide) ?_
        refine lv_icmp_ge (tgt := 66) hx hb dX5_place_58 (by decide) (fun c6 => ?_) (fun c6 => ?_)
        · replace hM := if_t c6 hM
          refine lv_bipush (v := 87) hx hb dX5_place_66 (by decide) ?_
          obtain ⟨r7, hcr7, hM⟩ := ob_use hM
          refine cl_V (As := [.int 87]) (rest := []) (wW ad ++ wN cI ad o_names ++ wB cI (ad 3) (ad 4) 16384 r7) [] ⟨hx, hb, hml, hown, hts⟩ (c_Bytes_put l D cI sd (ad 3) (ad 4) 16384 r5 87 r7 hcr7) (cwV2 hts q886 mvX0_put rfl rfl ⟨(Nat.le_of_ble_eq_true rfl), (Nat.le_of_ble_eq_true rfl)⟩) hK hE hA hP hD hS 6 (T := TX0) (N := 2) (ci := 0) rfl rfl [6, 7] rfl (by decide) rfl rfl rfl rfl rfl rfl hl.1 (Nat.le_of_ble_eq_true rfl) dX5_place_68 ⟨Nat.zero_le _, Nat.zero_le _⟩ (fun H locs hP hD hS => ?_)
          refine lv_aload_n hx hb dX5_place_71 rfl (lv_at hl 2 rfl) ?_
          refine lv_iload_n hx hb dX5_place_72 rfl (lv_at hl 3 rfl) ?_
          refine lv_sipush (v := 255) hx hb dX5_place_73 (by decide) ?_
          refine lv_iand hx hb dX5_place_76 ?_
          obtain ⟨r8, hcr8, hM⟩ := ob_use hM
          refine cl_V (As := [.int (a1 &&& 255)]) (rest := []) (wW ad ++ wN cI ad o_names ++ wB cI (ad 3) (ad 4) 16384 r8) [] ⟨hx, hb, hml, hown, hts⟩ (c_Writer_digits l D cI sd ad r7 (a1 &&& 255) r8 hcr8) (cwV2 hts q948 mvX5_digits rfl rfl ⟨(Nat.le_of_ble_eq_true rfl), (Nat.le_of_ble_eq_true rfl)⟩) hK hE hA hP hD hS 0 (T := TX5) (N := 3) (ci := 5) rfl rfl [0, 6, 7] rfl (by decide) rfl rfl rfl rfl rfl rfl hl.1 (Nat.le_of_ble_eq_true rfl) dX5_place_77 ⟨Nat.zero_le _, Nat.zero_le _⟩ (fun H locs hP hD hS => ?_)
          cases hM
          exact rt_v hx hb hr hlk hP hD hS rfl dX5_place_80
        · replace hM := if_f c6 hM
          refine lv_bipush (v := 88) hx hb dX5_place_61 (by decide) ?_
          refine lv_goto (tgt := 68) hx hb dX5_place_63 (by decide) ?_
          obtain ⟨r9, hcr9, hM⟩ := ob_use hM
          refine cl_V (As := [.int 88]) (rest := []) (wW ad ++ wN cI ad o_names ++ wB cI (ad 3) (ad 4) 16384 r9) [] ⟨hx, hb, hml, hown, hts⟩ (c_Bytes_put l D cI sd (ad 3) (ad 4) 16384 r5 88 r9 hcr9) (cwV2 hts q886 mvX0_put rfl rfl ⟨(Nat.le_of_ble_eq_true rfl), (Nat.le_of_ble_eq_true rfl)⟩) hK hE hA hP hD hS 6 (T := TX0) (N := 2) (ci := 0) rfl rfl [6, 7] rfl (by decide) rfl rfl rfl rfl rfl rfl hl.1 (Nat.le_of_ble_eq_true rfl) dX5_place_68 ⟨Nat.zero_le _, Nat.zero_le _⟩ (fun H locs hP hD hS => ?_)
          refine lv_aload_n hx hb dX5_place_71 rfl (lv_at hl 2 rfl) ?_
          refine lv_iload_n hx hb dX5_place_72 rfl (lv_at hl 3 rfl) ?_
          refine lv_sipush (v := 255) hx hb dX5_place_73 (by decide) ?_
          refine lv_iand hx hb dX5_place_76 ?_
          obtain ⟨r10, hcr10, hM⟩ := ob_use hM
          refine cl_V (As := [.int (a1 &&& 255)]) (rest := []) (wW ad ++ wN cI ad o_names ++ wB cI (ad 3) (ad 4) 16384 r10) [] ⟨hx, hb, hml, hown, hts⟩ (c_Writer_digits l D cI sd ad r9 (a1 &&& 255) r10 hcr10) (cwV2 hts q948 mvX5_digits rfl rfl ⟨(Nat.le_of_ble_eq_true rfl), (Nat.le_of_ble_eq_true rfl)⟩) hK hE hA hP hD hS 0 (T := TX5) (N := 3) (ci := 5) rfl rfl [0, 6, 7] rfl (by decide) rfl rfl rfl rfl rfl rfl hl.1 (Nat.le_of_ble_eq_true rfl) dX5_place_77 ⟨Nat.zero_le _, Nat.zero_le _⟩ (fun H locs hP hD hS => ?_)
          cases hM
          exact rt_v hx hb hr hlk hP hD hS rfl dX5_place_80
      · replace hM := if_t c4 hM
        refine lv_bipush (v := 81) hx hb dX5_place_42 (by decide) ?_
        refine lv_goto (tgt := 49) hx hb dX5_place_44 (by decide) ?_
        obtain ⟨r11, hcr11, hM⟩ := ob_use hM
        refine cl_V (As := [.int 81]) (rest := []) (wW ad ++ wN cI ad o_names ++ wB cI (ad 3) (ad 4) 16384 r11) [] ⟨hx, hb, hml, hown, hts⟩ (c_Bytes_put l D cI sd (ad 3) (ad 4) 16384 r2 81 r11 hcr11) (cwV2 hts q886 mvX0_put rfl rfl ⟨(Nat.le_of_ble_eq_true rfl), (Nat.le_of_ble_eq_true rfl)⟩) hK hE hA hP hD hS 6 (T := TX0) (N := 2) (ci := 0) rfl rfl [6, 7] rfl (by decide) rfl rfl rfl rfl rfl rfl hl.1 (Nat.le_of_ble_eq_true rfl) dX5_place_49 ⟨Nat.zero_le _, Nat.zero_le _⟩ (fun H locs hP hD hS => ?_)
        refine lv_aload_n hx hb dX5_place_52 rfl (lv_at hl 2 rfl) ?_
        refine va_get (D := D) (ci := 5) (v := .ref (ad 3)) (C := RX5) (T := TX5) (N := 3) hx hb hts layX5 hown hK hP 0 rfl rfl 2 (by decide) (hts _ (inA q444)) (fun _ h9 => h9) rfl dX5_place_53 ?_
        refine lv_iload_n hx hb dX5_place_56 rfl (lv_at hl 1 rfl) ?_
        refine lv_iconst (v := 3) hx hb dX5_place_57 (by decide) ?_
        refine lv_icmp_ge (tgt := 66) hx hb dX5_place_58 (by decide) (fun c12 => ?_) (fun c12 => ?_)
        · replace hM := if_t c12 hM
          refine lv_bipush (v := 87) hx hb dX5_place_66 (by decide) ?_
          obtain ⟨r13, hcr13, hM⟩ := ob_use hM
          refine cl_V (As := [.int 87]) (rest := []) (wW ad ++ wN cI ad o_names ++ wB cI (ad 3) (ad 4) 16384 r13) [] ⟨hx, hb, hml, hown, hts⟩ (c_Bytes_put l D cI sd (ad 3) (ad 4) 16384 r11 87 r13 hcr13) (cwV2 hts q886 mvX0_put rfl rfl ⟨(Nat.le_of_ble_eq_true rfl), (Nat.le_of_ble_eq_true rfl)⟩) hK hE hA hP hD hS 6 (T := TX0) (N := 2) (ci := 0) rfl rfl [6, 7] rfl (by decide) rfl rfl rfl rfl rfl rfl hl.1 (Nat.le_of_ble_eq_true rfl) dX5_place_68 ⟨Nat.zero_le _, Nat.zero_le _⟩ (fun H locs hP hD hS => ?_)
          refine lv_aload_n hx hb dX5_place_71 rfl (lv_at hl 2 rfl) ?_
          refine lv_iload_n hx hb dX5_place_72 rfl (lv_at hl 3 rfl) ?_
          refine lv_sipush (v := 255) hx hb dX5_place_73 (by decide) ?_
          refine lv_iand hx hb dX5_place_76 ?_
          obtain ⟨r14, hcr14, hM⟩ := ob_use hM
          refine cl_V (As := [.int (a1 &&& 255)]) (rest := []) (wW ad ++ wN cI ad o_names ++ wB cI (ad 3) (ad 4) 16384 r14) [] ⟨hx, hb, hml, hown, hts⟩ (c_Writer_digits l D cI sd ad r13 (a1 &&& 255) r14 hcr14) (cwV2 hts q948 mvX5_digits rfl rfl ⟨(Nat.le_of_ble_eq_true rfl), (Nat.le_of_ble_eq_true rfl)⟩) hK hE hA hP hD hS 0 (T := TX5) (N := 3) (ci := 5) rfl rfl [0, 6, 7] rfl (by decide) rfl rfl rfl rfl rfl rfl hl.1 (Nat.le_of_ble_eq_true rfl) dX5_place_77 ⟨Nat.zero_le _, Nat.zero_le _⟩ (fun H locs hP hD hS => ?_)
          cases hM
          exact rt_v hx hb hr hlk hP hD hS rfl dX5_place_80
        · replace hM := if_f c12 hM
          refine lv_bipush (v := 88) hx hb dX5_place_61 (by decide) ?_
          refine lv_goto (tgt := 68) hx hb dX5_place_63 (by decide) ?_
          obtain ⟨r15, hcr15, hM⟩ := ob_use hM
          refine cl_V (As := [.int 88]) (rest := []) (wW ad ++ wN cI ad o_names ++ wB cI (ad 3) (ad 4) 16384 r15) [] ⟨hx, hb, hml, hown, hts⟩ (c_Bytes_put l D cI sd (ad 3) (ad 4) 16384 r11 88 r15 hcr15) (cwV2 hts q886 mvX0_put rfl rfl ⟨(Nat.le_of_ble_eq_true rfl), (Nat.le_of_ble_eq_true rfl)⟩) hK hE hA hP hD hS 6 (T := TX0) (N := 2) (ci := 0) rfl rfl [6, 7] rfl (by decide) rfl rfl rfl rfl rfl rfl hl.1 (Nat.le_of_ble_eq_true rfl) dX5_place_68 ⟨Nat.zero_le _, Nat.zero_le _⟩ (fun H locs hP hD hS => ?_)
          refine lv_aload_n hx hb dX5_place_71 rfl (lv_at hl 2 rfl) ?_
          refine lv_iload_n hx hb dX5_place_72 rfl (lv_at hl 3 rfl) ?_
          refine lv_sipush (v := 255) hx hb dX5_place_73 (by decide) ?_
          refine lv_iand hx hb dX5_place_76 ?_
          obtain ⟨r16, hcr16, hM⟩ := ob_use hM
          refine cl_V (As := [.int (a1 &&& 255)]) (rest := []) (wW ad ++ wN cI ad o_names ++ wB cI (ad 3) (ad 4) 16384 r16) [] ⟨hx, hb, hml, hown, hts⟩ (c_Writer_digits l D cI sd ad r15 (a1 &&& 255) r16 hcr16) (cwV2 hts q948 mvX5_digits rfl rfl ⟨(Nat.le_of_ble_eq_true rfl), (Nat.le_of_ble_eq_true rfl)⟩) hK hE hA hP hD hS 0 (T := TX5) (N := 3) (ci := 5) rfl rfl [0, 6, 7] rfl (by decide) rfl rfl rfl rfl rfl rfl hl.1 (Nat.le_of_ble_eq_true rfl) dX5_place_77 ⟨Nat.zero_le _, Nat.zero_le _⟩ (fun H locs hP hD hS => ?_)
          cases hM
          exact rt_v hx hb hr hlk hP hD hS rfl dX5_place_80
    · replace hM := if_t c3 hM
      refine lv_bipush (v := 73) hx hb dX5_place_32 (by decide) ?_
      refine lv_goto (tgt := 49) hx hb dX5_place_34 (by decide) ?_
      obtain ⟨r17, hcr17, hM⟩ := ob_use hM
      refine cl_V (As := [.int 73]) (rest := []) (wW ad ++ wN cI ad o_names ++ wB cI (ad 3) (ad 4) 16384 r17) [] ⟨hx, hb, hml, hown, hts⟩ (c_Bytes_put l D cI sd (ad 3) (ad 4) 16384 r2 73 r17 hcr17) (cwV2 hts q886 mvX0_put rfl rfl ⟨(Nat.le_of_ble_eq_true rfl), (Nat.le_of_ble_eq_true rfl)⟩) hK hE hA hP hD hS 6 (T := TX0) (N := 2) (ci := 0) rfl rfl [6, 7] rfl (by decide) rfl rfl rfl rfl rfl rfl hl.1 (Nat.le_of_ble_eq_true rfl) dX5_place_49 ⟨Nat.zero_le _, Nat.zero_le _⟩ (fun H locs hP hD hS => ?_)
      refine lv_aload_n hx hb dX5_place_52 rfl (lv_at hl 2 rfl) ?_
      refine va_get (D := D) (ci := 5) (v := .ref (ad 3)) (C := RX5) (T := TX5) (N := 3) hx hb hts layX5 hown hK hP 0 rfl rfl 2 (by decide) (hts _ (inA q444)) (fun _ h9 => h9) rfl dX5_place_53 ?_
      refine lv_iload_n hx hb dX5_place_56 rfl (lv_at hl 1 rfl) ?_
      refine lv_iconst (v := 3) hx hb dX5_place_57 (by decide) ?_
      refine lv_icmp_ge (tgt := 66) hx hb dX5_place_58 (by decide) (fun c18 => ?_) (fun c18 => ?_)
      · replace hM := if_t c18 hM
        refine lv_bipush (v := 87) hx hb dX5_place_66 (by decide) ?_
        obtain ⟨r19, hcr19, hM⟩ := ob_use hM
        refine cl_V (As := [.int 87]) (rest := []) (wW ad ++ wN cI ad o_names ++ wB cI (ad 3) (ad 4) 16384 r19) [] ⟨hx, hb, hml, hown, hts⟩ (c_Bytes_put l D cI sd (ad 3) (ad 4) 16384 r17 87 r19 hcr19) (cwV2 hts q886 mvX0_put rfl rfl ⟨(Nat.le_of_ble_eq_true rfl), (Nat.le_of_ble_eq_true rfl)⟩) hK hE hA hP hD hS 6 (T := TX0) (N := 2) (ci := 0) rfl rfl [6, 7] rfl (by decide) rfl rfl rfl rfl rfl rfl hl.1 (Nat.le_of_ble_eq_true rfl) dX5_place_68 ⟨Nat.zero_le _, Nat.zero_le _⟩ (fun H locs hP hD hS => ?_)
        refine lv_aload_n hx hb dX5_place_71 rfl (lv_at hl 2 rfl) ?_
        refine lv_iload_n hx hb dX5_place_72 rfl (lv_at hl 3 rfl) ?_
        refine lv_sipush (v := 255) hx hb dX5_place_73 (by decide) ?_
        refine lv_iand hx hb dX5_place_76 ?_
        obtain ⟨r20, hcr20, hM⟩ := ob_use hM
        refine cl_V (As := [.int (a1 &&& 255)]) (rest := []) (wW ad ++ wN cI ad o_names ++ wB cI (ad 3) (ad 4) 16384 r20) [] ⟨hx, hb, hml, hown, hts⟩ (c_Writer_digits l D cI sd ad r19 (a1 &&& 255) r20 hcr20) (cwV2 hts q948 mvX5_digits rfl rfl ⟨(Nat.le_of_ble_eq_true rfl), (Nat.le_of_ble_eq_true rfl)⟩) hK hE hA hP hD hS 0 (T := TX5) (N := 3) (ci := 5) rfl rfl [0, 6, 7] rfl (by decide) rfl rfl rfl rfl rfl rfl hl.1 (Nat.le_of_ble_eq_true rfl) dX5_place_77 ⟨Nat.zero_le _, Nat.zero_le _⟩ (fun H locs hP hD hS => ?_)
        cases hM
        exact rt_v hx hb hr hlk hP hD hS rfl dX5_place_80
      · replace hM := if_f c18 hM
        refine lv_bipush (v := 88) hx hb dX5_place_61 (by decide) ?_
        refine lv_goto (tgt := 68) hx hb dX5_place_63 (by decide) ?_
        obtain ⟨r21, hcr21, hM⟩ := ob_use hM
        refine cl_V (As := [.int 88]) (rest := []) (wW ad ++ wN cI ad o_names ++ wB cI (ad 3) (ad 4) 16384 r21) [] ⟨hx, hb, hml, hown, hts⟩ (c_Bytes_put l D cI sd (ad 3) (ad 4) 16384 r17 88 r21 hcr21) (cwV2 hts q886 mvX0_put rfl rfl ⟨(Nat.le_of_ble_eq_true rfl), (Nat.le_of_ble_eq_true rfl)⟩) hK hE hA hP hD hS 6 (T := TX0) (N := 2) (ci := 0) rfl rfl [6, 7] rfl (by decide) rfl rfl rfl rfl rfl rfl hl.1 (Nat.le_of_ble_eq_true rfl) dX5_place_68 ⟨Nat.zero_le _, Nat.zero_le _⟩ (fun H locs hP hD hS => ?_)
        refine lv_aload_n hx hb dX5_place_71 rfl (lv_at hl 2 rfl) ?_
        refine lv_iload_n hx hb dX5_place_72 rfl (lv_at hl 3 rfl) ?_
        refine lv_sipush (v := 255) hx hb dX5_place_73 (by decide) ?_
        refine lv_iand hx hb dX5_place_76 ?_
        obtain ⟨r22, hcr22, hM⟩ := ob_use hM
        refine cl_V (As := [.int (a1 &&& 255)]) (rest := []) (wW ad ++ wN cI ad o_names ++ wB cI (ad 3) (ad 4) 16384 r22) [] ⟨hx, hb, hml, hown, hts⟩ (c_Writer_digits l D cI sd ad r21 (a1 &&& 255) r22 hcr22) (cwV2 hts q948 mvX5_digits rfl rfl ⟨(Nat.le_of_ble_eq_true rfl), (Nat.le_of_ble_eq_true rfl)⟩) hK hE hA hP hD hS 0 (T := TX5) (N := 3) (ci := 5) rfl rfl [0, 6, 7] rfl (by decide) rfl rfl rfl rfl rfl rfl hl.1 (Nat.le_of_ble_eq_true rfl) dX5_place_77 ⟨Nat.zero_le _, Nat.zero_le _⟩ (fun H locs hP hD hS => ?_)
        cases hM
        exact rt_v hx hb hr hlk hP hD hS rfl dX5_place_80
  · replace hM := if_f c1 hM
    refine lv_iload_n hx hb dX5_place_10 rfl (lv_at hl 0 rfl) ?_
    refine lv_goto (tgt := 17) hx hb dX5_place_11 (by decide) ?_
    refine lv_istore_n (lv' := [(3, .int (a1 >>> (8 &&& 31))), (2, .int (a1 >>> (8 &&& 31))), (0, .ref (ad 23)), (1, .int a1)]) hx hb dX5_place_17 rfl hl (by decide) rfl (fun ls hl => ?_)
    refine lv_aload_n hx hb dX5_place_18 rfl (lv_at hl 2 rfl) ?_
    refine lv_bipush (v := 37) hx hb dX5_place_19 (by decide) ?_
    obtain ⟨r23, hcr23, hM⟩ := ob_use hM
    refine cl_V (As := [.int 37]) (rest := []) (wW ad ++ wN cI ad o_names ++ wB cI (ad 3) (ad 4) 16384 r23) [] ⟨hx, hb, hml, hown, hts⟩ (c_Writer_token l D cI sd ad o_names o_out 37 r23 hcr23) (cwV2 hts q872 mvX5_token rfl rfl ⟨(Nat.le_of_ble_eq_true rfl), (Nat.le_of_ble_eq_true rfl)⟩) hK hE hA hP hD hS 0 (T := TX5) (N := 3) (ci := 5) rfl rfl [0, 1, 2, 3, 4, 5, 6, 7] rfl (by decide) rfl rfl rfl rfl rfl rfl hl.1 (Nat.le_of_ble_eq_true rfl) dX5_place_21 ⟨Nat.zero_le _, Nat.zero_le _⟩ (fun H locs hP hD hS => ?_)
    refine lv_aload_n hx hb dX5_place_24 rfl (lv_at hl 2 rfl) ?_
    refine va_get (D := D) (ci := 5) (v := .ref (ad 3)) (C := RX5) (T := TX5) (N := 3) hx hb hts layX5 hown hK hP 0 rfl rfl 2 (by decide) (hts _ (inA q444)) (fun _ h9 => h9) rfl dX5_place_25 ?_
    refine lv_iload_n hx hb dX5_place_28 rfl (lv_at hl 0 rfl) ?_
    refine lv_if_ne (tgt := 37) hx hb dX5_place_29 (by decide) (fun c24 => ?_) (fun c24 => ?_)
    · replace hM := if_f c24 hM
      refine lv_iload_n hx hb dX5_place_37 rfl (lv_at hl 0 rfl) ?_
      refine lv_iconst (v := 1) hx hb dX5_place_38 (by decide) ?_
      refine lv_icmp_ne (tgt := 47) hx hb dX5_place_39 (by decide) (fun c25 => ?_) (fun c25 => ?_)
      · replace hM := if_f c25 hM
        refine lv_bipush (v := 77) hx hb dX5_place_47 (by decide) ?_
        obtain ⟨r26, hcr26, hM⟩ := ob_use hM
        refine cl_V (As := [.int 77]) (rest := []) (wW ad ++ wN cI ad o_names ++ wB cI (ad 3) (ad 4) 16384 r26) [] ⟨hx, hb, hml, hown, hts⟩ (c_Bytes_put l D cI sd (ad 3) (ad 4) 16384 r23 77 r26 hcr26) (cwV2 hts q886 mvX0_put rfl rfl ⟨(Nat.le_of_ble_eq_true rfl), (Nat.le_of_ble_eq_true rfl)⟩) hK hE hA hP hD hS 6 (T := TX0) (N := 2) (ci := 0) rfl rfl [6, 7] rfl (by decide) rfl rfl rfl rfl rfl rfl hl.1 (Nat.le_of_ble_eq_true rfl) dX5_place_49 ⟨Nat.zero_le _, Nat.zero_le _⟩ (fun H locs hP hD hS => ?_)
        refine lv_aload_n hx hb dX5_place_52 rfl (lv_at hl 2 rfl) ?_
        refine va_get (D := D) (ci := 5) (v := .ref (ad 3)) (C := RX5) (T := TX5) (N := 3) hx hb hts layX5 hown hK hP 0 rfl rfl 2 (by decide) (hts _ (inA q444)) (fun _ h9 => h9) rfl dX5_place_53 ?_
        refine lv_iload_n hx hb dX5_place_56 rfl (lv_at hl 1 rfl) ?_
        refine lv_iconst (v := 3) hx hb dX5_place_57 (by decide) ?_
        refine lv_icmp_ge (tgt := 66) hx hb dX5_place_58 (by decide) (fun c27 => ?_) (fun c27 => ?_)
        · replace hM := if_t c27 hM
          refine lv_bipush (v := 87) hx hb dX5_place_66 (by decide) ?_
          obtain ⟨r28, hcr28, hM⟩ := ob_use hM
          refine cl_V (As := [.int 87]) (rest := []) (wW ad ++ wN cI ad o_names ++ wB cI (ad 3) (ad 4) 16384 r28) [] ⟨hx, hb, hml, hown, hts⟩ (c_Bytes_put l D cI sd (ad 3) (ad 4) 16384 r26 87 r28 hcr28) (cwV2 hts q886 mvX0_put rfl rfl ⟨(Nat.le_of_ble_eq_true rfl), (Nat.le_of_ble_eq_true rfl)⟩) hK hE hA hP hD hS 6 (T := TX0) (N := 2) (ci := 0) rfl rfl [6, 7] rfl (by decide) rfl rfl rfl rfl rfl rfl hl.1 (Nat.le_of_ble_eq_true rfl) dX5_place_68 ⟨Nat.zero_le _, Nat.zero_le _⟩ (fun H locs hP hD hS => ?_)
          refine lv_aload_n hx hb dX5_place_71 rfl (lv_at hl 2 rfl) ?_
          refine lv_iload_n hx hb dX5_place_72 rfl (lv_at hl 3 rfl) ?_
          refine lv_sipush (v := 255) hx hb dX5_place_73 (by decide) ?_
          refine lv_iand hx hb dX5_place_76 ?_
          obtain ⟨r29, hcr29, hM⟩ := ob_use hM
          refine cl_V (As := [.int (a1 &&& 255)]) (rest := []) (wW ad ++ wN cI ad o_names ++ wB cI (ad 3) (ad 4) 16384 r29) [] ⟨hx, hb, hml, hown, hts⟩ (c_Writer_digits l D cI sd ad r28 (a1 &&& 255) r29 hcr29) (cwV2 hts q948 mvX5_digits rfl rfl ⟨(Nat.le_of_ble_eq_true rfl), (Nat.le_of_ble_eq_true rfl)⟩) hK hE hA hP hD hS 0 (T := TX5) (N := 3) (ci := 5) rfl rfl [0, 6, 7] rfl (by decide) rfl rfl rfl rfl rfl rfl hl.1 (Nat.le_of_ble_eq_true rfl) dX5_place_77 ⟨Nat.zero_le _, Nat.zero_le _⟩ (fun H locs hP hD hS => ?_)
          cases hM
          exact rt_v hx hb hr hlk hP hD hS rfl dX5_place_80
        · replace hM := if_f c27 hM
          refine lv_bipush (v := 88) hx hb dX5_place_61 (by decide) ?_
          refine lv_goto (tgt := 68) hx hb dX5_place_63 (by decide) ?_
          obtain ⟨r30, hcr30, hM⟩ := ob_use hM
          refine cl_V (As := [.int 88]) (rest := []) (wW ad ++ wN cI ad o_names ++ wB cI (ad 3) (ad 4) 16384 r30) [] ⟨hx, hb, hml, hown, hts⟩ (c_Bytes_put l D cI sd (ad 3) (ad 4) 16384 r26 88 r30 hcr30) (cwV2 hts q886 mvX0_put rfl rfl ⟨(Nat.le_of_ble_eq_true rfl), (Nat.le_of_ble_eq_true rfl)⟩) hK hE hA hP hD hS 6 (T := TX0) (N := 2) (ci := 0) rfl rfl [6, 7] rfl (by decide) rfl rfl rfl rfl rfl rfl hl.1 (Nat.le_of_ble_eq_true rfl) dX5_place_68 ⟨Nat.zero_le _, Nat.zero_le _⟩ (fun H locs hP hD hS => ?_)
          refine lv_aload_n hx hb dX5_place_71 rfl (lv_at hl 2 rfl) ?_
          refine lv_iload_n hx hb dX5_place_72 rfl (lv_at hl 3 rfl) ?_
          refine lv_sipush (v := 255) hx hb dX5_place_73 (by decide) ?_
          refine lv_iand hx hb dX5_place_76 ?_
          obtain ⟨r31, hcr31, hM⟩ := ob_use hM
          refine cl_V (As := [.int (a1 &&& 255)]) (rest := []) (wW ad ++ wN cI ad o_names ++ wB cI (ad 3) (ad 4) 16384 r31) [] ⟨hx, hb, hml, hown, hts⟩ (c_Writer_digits l D cI sd ad r30 (a1 &&& 255) r31 hcr31) (cwV2 hts q948 mvX5_digits rfl rfl ⟨(Nat.le_of_ble_eq_true rfl), (Nat.le_of_ble_eq_true rfl)⟩) hK hE hA hP hD hS 0 (T := TX5) (N := 3) (ci := 5) rfl rfl [0, 6, 7] rfl (by decide) rfl rfl rfl rfl rfl rfl hl.1 (Nat.le_of_ble_eq_true rfl) dX5_place_77 ⟨Nat.zero_le _, Nat.zero_le _⟩ (fun H locs hP hD hS => ?_)
          cases hM
          exact rt_v hx hb hr hlk hP hD hS rfl dX5_place_80
      · replace hM := if_t c25 hM
        refine lv_bipush (v := 81) hx hb dX5_place_42 (by decide) ?_
        refine lv_goto (tgt := 49) hx hb dX5_place_44 (by decide) ?_
        obtain ⟨r32, hcr32, hM⟩ := ob_use hM
        refine cl_V (As := [.int 81]) (rest := []) (wW ad ++ wN cI ad o_names ++ wB cI (ad 3) (ad 4) 16384 r32) [] ⟨hx, hb, hml, hown, hts⟩ (c_Bytes_put l D cI sd (ad 3) (ad 4) 16384 r23 81 r32 hcr32) (cwV2 hts q886 mvX0_put rfl rfl ⟨(Nat.le_of_ble_eq_true rfl), (Nat.le_of_ble_eq_true rfl)⟩) hK hE hA hP hD hS 6 (T := TX0) (N := 2) (ci := 0) rfl rfl [6, 7] rfl (by decide) rfl rfl rfl rfl rfl rfl hl.1 (Nat.le_of_ble_eq_true rfl) dX5_place_49 ⟨Nat.zero_le _, Nat.zero_le _⟩ (fun H locs hP hD hS => ?_)
        refine lv_aload_n hx hb dX5_place_52 rfl (lv_at hl 2 rfl) ?_
        refine va_get (D := D) (ci := 5) (v := .ref (ad 3)) (C := RX5) (T := TX5) (N := 3) hx hb hts layX5 hown hK hP 0 rfl rfl 2 (by decide) (hts _ (inA q444)) (fun _ h9 => h9) rfl dX5_place_53 ?_
        refine lv_iload_n hx hb dX5_place_56 rfl (lv_at hl 1 rfl) ?_
        refine lv_iconst (v := 3) hx hb dX5_place_57 (by decide) ?_
        refine lv_icmp_ge (tgt := 66) hx hb dX5_place_58 (by decide) (fun c33 => ?_) (fun c33 => ?_)
        · replace hM := if_t c33 hM
          refine lv_bipush (v := 87) hx hb dX5_place_66 (by decide) ?_
          obtain ⟨r34, hcr34, hM⟩ := ob_use hM
          refine cl_V (As := [.int 87]) (rest := []) (wW ad ++ wN cI ad o_names ++ wB cI (ad 3) (ad 4) 16384 r34) [] ⟨hx, hb, hml, hown, hts⟩ (c_Bytes_put l D cI sd (ad 3) (ad 4) 16384 r32 87 r34 hcr34) (cwV2 hts q886 mvX0_put rfl rfl ⟨(Nat.le_of_ble_eq_true rfl), (Nat.le_of_ble_eq_true rfl)⟩) hK hE hA hP hD hS 6 (T := TX0) (N := 2) (ci := 0) rfl rfl [6, 7] rfl (by decide) rfl rfl rfl rfl rfl rfl hl.1 (Nat.le_of_ble_eq_true rfl) dX5_place_68 ⟨Nat.zero_le _, Nat.zero_le _⟩ (fun H locs hP hD hS => ?_)
          refine lv_aload_n hx hb dX5_place_71 rfl (lv_at hl 2 rfl) ?_
          refine lv_iload_n hx hb dX5_place_72 rfl (lv_at hl 3 rfl) ?_
          refine lv_sipush (v := 255) hx hb dX5_place_73 (by decide) ?_
          refine lv_iand hx hb dX5_place_76 ?_
          obtain ⟨r35, hcr35, hM⟩ := ob_use hM
          refine cl_V (As := [.int (a1 &&& 255)]) (rest := []) (wW ad ++ wN cI ad o_names ++ wB cI (ad 3) (ad 4) 16384 r35) [] ⟨hx, hb, hml, hown, hts⟩ (c_Writer_digits l D cI sd ad r34 (a1 &&& 255) r35 hcr35) (cwV2 hts q948 mvX5_digits rfl rfl ⟨(Nat.le_of_ble_eq_true rfl), (Nat.le_of_ble_eq_true rfl)⟩) hK hE hA hP hD hS 0 (T := TX5) (N := 3) (ci := 5) rfl rfl [0, 6, 7] rfl (by decide) rfl rfl rfl rfl rfl rfl hl.1 (Nat.le_of_ble_eq_true rfl) dX5_place_77 ⟨Nat.zero_le _, Nat.zero_le _⟩ (fun H locs hP hD hS => ?_)
          cases hM
          exact rt_v hx hb hr hlk hP hD hS rfl dX5_place_80
        · replace hM := if_f c33 hM
          refine lv_bipush (v := 88) hx hb dX5_place_61 (by decide) ?_
          refine lv_goto (tgt := 68) hx hb dX5_place_63 (by decide) ?_
          obtain ⟨r36, hcr36, hM⟩ := ob_use hM
          refine cl_V (As := [.int 88]) (rest := []) (wW ad ++ wN cI ad o_names ++ wB cI (ad 3) (ad 4) 16384 r36) [] ⟨hx, hb, hml, hown, hts⟩ (c_Bytes_put l D cI sd (ad 3) (ad 4) 16384 r32 88 r36 hcr36) (cwV2 hts q886 mvX0_put rfl rfl ⟨(Nat.le_of_ble_eq_true rfl), (Nat.le_of_ble_eq_true rfl)⟩) hK hE hA hP hD hS 6 (T := TX0) (N := 2) (ci := 0) rfl rfl [6, 7] rfl (by decide) rfl rfl rfl rfl rfl rfl hl.1 (Nat.le_of_ble_eq_true rfl) dX5_place_68 ⟨Nat.zero_le _, Nat.zero_le _⟩ (fun H locs hP hD hS => ?_)
          refine lv_aload_n hx hb dX5_place_71 rfl (lv_at hl 2 rfl) ?_
          refine lv_iload_n hx hb dX5_place_72 rfl (lv_at hl 3 rfl) ?_
          refine lv_sipush (v := 255) hx hb dX5_place_73 (by decide) ?_
          refine lv_iand hx hb dX5_place_76 ?_
          obtain ⟨r37, hcr37, hM⟩ := ob_use hM
          refine cl_V (As := [.int (a1 &&& 255)]) (rest := []) (wW ad ++ wN cI ad o_names ++ wB cI (ad 3) (ad 4) 16384 r37) [] ⟨hx, hb, hml, hown, hts⟩ (c_Writer_digits l D cI sd ad r36 (a1 &&& 255) r37 hcr37) (cwV2 hts q948 mvX5_digits rfl rfl ⟨(Nat.le_of_ble_eq_true rfl), (Nat.le_of_ble_eq_true rfl)⟩) hK hE hA hP hD hS 0 (T := TX5) (N := 3) (ci := 5) rfl rfl [0, 6, 7] rfl (by decide) rfl rfl rfl rfl rfl rfl hl.1 (Nat.le_of_ble_eq_true rfl) dX5_place_77 ⟨Nat.zero_le _, Nat.zero_le _⟩ (fun H locs hP hD hS => ?_)
          cases hM
          exact rt_v hx hb hr hlk hP hD hS rfl dX5_place_80
    · replace hM := if_t c24 hM
      refine lv_bipush (v := 73) hx hb dX5_place_32 (by decide) ?_
      refine lv_goto (tgt := 49) hx hb dX5_place_34 (by decide) ?_
      obtain ⟨r38, hcr38, hM⟩ := ob_use hM
      refine cl_V (As := [.int 73]) (rest := []) (wW ad ++ wN cI ad o_names ++ wB cI (ad 3) (ad 4) 16384 r38) [] ⟨hx, hb, hml, hown, hts⟩ (c_Bytes_put l D cI sd (ad 3) (ad 4) 16384 r23 73 r38 hcr38) (cwV2 hts q886 mvX0_put rfl rfl ⟨(Nat.le_of_ble_eq_true rfl), (Nat.le_of_ble_eq_true rfl)⟩) hK hE hA hP hD hS 6 (T := TX0) (N := 2) (ci := 0) rfl rfl [6, 7] rfl (by decide) rfl rfl rfl rfl rfl rfl hl.1 (Nat.le_of_ble_eq_true rfl) dX5_place_49 ⟨Nat.zero_le _, Nat.zero_le _⟩ (fun H locs hP hD hS => ?_)
      refine lv_aload_n hx hb dX5_place_52 rfl (lv_at hl 2 rfl) ?_
      refine va_get (D := D) (ci := 5) (v := .ref (ad 3)) (C := RX5) (T := TX5) (N := 3) hx hb hts layX5 hown hK hP 0 rfl rfl 2 (by decide) (hts _ (inA q444)) (fun _ h9 => h9) rfl dX5_place_53 ?_
      refine lv_iload_n hx hb dX5_place_56 rfl (lv_at hl 1 rfl) ?_
      refine lv_iconst (v := 3) hx hb dX5_place_57 (by decide) ?_
      refine lv_icmp_ge (tgt := 66) hx hb dX5_place_58 (by decide) (fun c39 => ?_) (fun c39 => ?_)
      · replace hM := if_t c39 hM
        refine lv_bipush (v := 87) hx hb dX5_place_66 (by decide) ?_
        obtain ⟨r40, hcr40, hM⟩ := ob_use hM
        refine cl_V (As := [.int 87]) (rest := []) (wW ad ++ wN cI ad o_names ++ wB cI (ad 3) (ad 4) 16384 r40) [] ⟨hx, hb, hml, hown, hts⟩ (c_Bytes_put l D cI sd (ad 3) (ad 4) 16384 r38 87 r40 hcr40) (cwV2 hts q886 mvX0_put rfl rfl ⟨(Nat.le_of_ble_eq_true rfl), (Nat.le_of_ble_eq_true rfl)⟩) hK hE hA hP hD hS 6 (T := TX0) (N := 2) (ci := 0) rfl rfl [6, 7] rfl (by decide) rfl rfl rfl rfl rfl rfl hl.1 (Nat.le_of_ble_eq_true rfl) dX5_place_68 ⟨Nat.zero_le _, Nat.zero_le _⟩ (fun H locs hP hD hS => ?_)
        refine lv_aload_n hx hb dX5_place_71 rfl (lv_at hl 2 rfl) ?_
        refine lv_iload_n hx hb dX5_place_72 rfl (lv_at hl 3 rfl) ?_
        refine lv_sipush (v := 255) hx hb dX5_place_73 (by decide) ?_
        refine lv_iand hx hb dX5_place_76 ?_
        obtain ⟨r41, hcr41, hM⟩ := ob_use hM
        refine cl_V (As := [.int (a1 &&& 255)]) (rest := []) (wW ad ++ wN cI ad o_names ++ wB cI (ad 3) (ad 4) 16384 r41) [] ⟨hx, hb, hml, hown, hts⟩ (c_Writer_digits l D cI sd ad r40 (a1 &&& 255) r41 hcr41) (cwV2 hts q948 mvX5_digits rfl rfl ⟨(Nat.le_of_ble_eq_true rfl), (Nat.le_of_ble_eq_true rfl)⟩) hK hE hA hP hD hS 0 (T := TX5) (N := 3) (ci := 5) rfl rfl [0, 6, 7] rfl (by decide) rfl rfl rfl rfl rfl rfl hl.1 (Nat.le_of_ble_eq_true rfl) dX5_place_77 ⟨Nat.zero_le _, Nat.zero_le _⟩ (fun H locs hP hD hS => ?_)
        cases hM
        exact rt_v hx hb hr hlk hP hD hS rfl dX5_place_80
      · replace hM := if_f c39 hM
        refine lv_bipush (v := 88) hx hb dX5_place_61 (by decide) ?_
        refine lv_goto (tgt := 68) hx hb dX5_place_63 (by decide) ?_
        obtain ⟨r42, hcr42, hM⟩ := ob_use hM
        refine cl_V (As := [.int 88]) (rest := []) (wW ad ++ wN cI ad o_names ++ wB cI (ad 3) (ad 4) 16384 r42) [] ⟨hx, hb, hml, hown, hts⟩ (c_Bytes_put l D cI sd (ad 3) (ad 4) 16384 r38 88 r42 hcr42) (cwV2 hts q886 mvX0_put rfl rfl ⟨(Nat.le_of_ble_eq_true rfl), (Nat.le_of_ble_eq_true rfl)⟩) hK hE hA hP hD hS 6 (T := TX0) (N := 2) (ci := 0) rfl rfl [6, 7] rfl (by decide) rfl rfl rfl rfl rfl rfl hl.1 (Nat.le_of_ble_eq_true rfl) dX5_place_68 ⟨Nat.zero_le _, Nat.zero_le _⟩ (fun H locs hP hD hS => ?_)
        refine lv_aload_n hx hb dX5_place_71 rfl (lv_at hl 2 rfl) ?_
        refine lv_iload_n hx hb dX5_place_72 rfl (lv_at hl 3 rfl) ?_
        refine lv_sipush (v := 255) hx hb dX5_place_73 (by decide) ?_
        refine lv_iand hx hb dX5_place_76 ?_
        obtain ⟨r43, hcr43, hM⟩ := ob_use hM
        refine cl_V (As := [.int (a1 &&& 255)]) (rest := []) (wW ad ++ wN cI ad o_names ++ wB cI (ad 3) (ad 4) 16384 r43) [] ⟨hx, hb, hml, hown, hts⟩ (c_Writer_digits l D cI sd ad r42 (a1 &&& 255) r43 hcr43) (cwV2 hts q948 mvX5_digits rfl rfl ⟨(Nat.le_of_ble_eq_true rfl), (Nat.le_of_ble_eq_true rfl)⟩) hK hE hA hP hD hS 0 (T := TX5) (N := 3) (ci := 5) rfl rfl [0, 6, 7] rfl (by decide) rfl rfl rfl rfl rfl rfl hl.1 (Nat.le_of_ble_eq_true rfl) dX5_place_77 ⟨Nat.zero_le _, Nat.zero_le _⟩ (fun H locs hP hD hS => ?_)
        cases hM
        exact rt_v hx hb hr hlk hP hD hS rfl dX5_place_80

set_option maxHeartbeats 4000000 in
set_option maxRecDepth 100000 in
theorem c_Writer_begin (l : Launch) (D : va_G) (cI : ClassId) (sd : Nat → Nat) (ad : Nat → Nat) (o_tree : S_Tree) (o_names : S_Names) (o_out : S_Bytes) (a1 : Int32) (res : S_Bytes) (hM : f_Writer_begin o_tree o_names o_out a1 = some res) : Ctr l D cI sd yX5_begin (wsM yX5_begin cX5_begin 4 (Option.none : Option Jvm.ClassFile.FieldType)) { frames := 5, cells := 0, slots := 0, locals := 108 } [.ref (ad 23), .int a1] (wW ad ++ wT cI ad o_tree ++ wN cI ad o_names ++ wB cI (ad 3) (ad 4) 16384 o_out) (wW ad ++ wT cI ad o_tree ++ wN cI ad o_names ++ wB cI (ad 3) (ad 4) 16384 res) none := by
  refine Ctr.of (cc := cX5_begin) (maxL := 4) (own := RX5) (by decide +kernel) rfl rfl (Nat.le_of_ble_eq_true rfl) ?_
  intro p e s m below meth c A ls hx hb hr hml hown hts hlk hK hE hA hP hD hS hl
  have hl : lv_has ls 4 [(0, .ref (ad 23)), (1, .int a1)] := hl
  unfold f_Writer_begin at hM
  refine lv_aload_n hx hb dX5_begin_0 rfl (lv_at hl 0 rfl) ?_
  refine va_get (D := D) (ci := 5) (v := .ref (ad 14)) (C := RX5) (T := TX5) (N := 3) hx hb hts layX5 hown hK hP 0 rfl rfl 0 (by decide) (hts _ (inA q442)) (fun _ h9 => h9) rfl dX5_begin_1 ?_
  refine lv_iload_n hx hb dX5_begin_4 rfl (lv_at hl 1 rfl) ?_
  obtain ⟨r1, hcr1, hM⟩ := ob_use hM
  refine cl_V (As := [.int a1]) (rest := []) (wW ad ++ wT cI ad o_tree ++ wN cI ad o_names ++ wB cI (ad 3) (ad 4) 16384 o_out) (.int r1 :: []) ⟨hx, hb, hml, hown, hts⟩ (c_Tree_kind l D cI sd ad o_tree a1 r1 hcr1) (cwV2 hts q870 mvX3_kind rfl rfl ⟨(Nat.le_of_ble_eq_true rfl), (Nat.le_of_ble_eq_true rfl)⟩) hK hE hA hP hD hS 1 (T := TX3) (N := 8) (ci := 3) rfl rfl [1, 2, 3, 4, 5, 6, 7, 8] rfl (by decide) rfl rfl rfl rfl rfl rfl hl.1 (Nat.le_of_ble_eq_true rfl) dX5_begin_5 ⟨Nat.zero_le _, Nat.zero_le _⟩ (fun H locs hP hD hS => ?_)
  refine lv_istore_n (lv' := [(2, .int r1), (0, .ref (ad 23)), (1, .int a1)]) hx hb dX5_begin_8 rfl hl (by decide) rfl (fun ls hl => ?_)
  refine lv_aload_n hx hb dX5_begin_9 rfl (lv_at hl 1 rfl) ?_
  refine va_get (D := D) (ci := 5) (v := .ref (ad 14)) (C := RX5) (T := TX5) (N := 3) hx hb hts layX5 hown hK hP 0 rfl rfl 0 (by decide) (hts _ (inA q442)) (fun _ h9 => h9) rfl dX5_begin_10 ?_
  refine lv_iload_n hx hb dX5_begin_13 rfl (lv_at hl 2 rfl) ?_
  obtain ⟨r2, hcr2, hM⟩ := ob_use hM
  refine cl_V (As := [.int a1]) (rest := []) (wW ad ++ wT cI ad o_tree ++ wN cI ad o_names ++ wB cI (ad 3) (ad 4) 16384 o_out) (.int r2 :: []) ⟨hx, hb, hml, hown, hts⟩ (c_Tree_value l D cI sd ad o_tree a1 r2 hcr2) (cwV2 hts q892 mvX3_value rfl rfl ⟨(Nat.le_of_ble_eq_true rfl), (Nat.le_of_ble_eq_true rfl)⟩) hK hE hA hP hD hS 1 (T := TX3) (N := 8) (ci := 3) rfl rfl [1, 2, 3, 4, 5, 6, 7, 8] rfl (by decide) rfl rfl rfl rfl rfl rfl hl.1 (Nat.le_of_ble_eq_true rfl) dX5_begin_14 ⟨Nat.zero_le _, Nat.zero_le _⟩ (fun H locs hP hD hS => ?_)
  refine lv_istore_n (lv' := [(3, .int r2), (2, .int r1), (0, .ref (ad 23)), (1, .int a1)]) hx hb dX5_begin_17 rfl hl (by decide) rfl (fun ls hl => ?_)
  refine lv_aload_n hx hb dX5_begin_18 rfl (lv_at hl 2 rfl) ?_
  refine lv_iload_n hx hb dX5_begin_19 rfl (lv_at hl 1 rfl) ?_
  refine lv_iload_n hx hb dX5_begin_20 rfl (lv_at hl 0 rfl) ?_
  obtain ⟨r3, hcr3, hM⟩ := ob_use hM
  refine cl_S (As := [.int r1, .int r2]) (rest := [.ref (ad 23)]) (wW ad ++ wT cI ad o_tree ++ wN cI ad o_names ++ wB cI (ad 3) (ad 4) 16384 o_out) (.int r3 :: [.ref (ad 23)]) ⟨hx, hb, hml, hown, hts⟩ (c_Writer_firstToken l D cI sd ad r1 r2 r3 hcr3) (cwS2 hts q932 mvX5_firstToken rfl rfl ⟨(Nat.le_of_ble_eq_true rfl), (Nat.le_of_ble_eq_true rfl)⟩) hK hE hA hP hD hS [] rfl (by decide) rfl rfl rfl rfl rfl rfl hl.1 (Nat.le_of_ble_eq_true rfl) dX5_begin_21 ⟨Nat.zero_le _, Nat.zero_le _⟩ (fun H locs hP hD hS => ?_)
  obtain ⟨r4, hcr4, hM⟩ := ob_use hM
  refine cl_V (As := [.int r3]) (rest := []) (wW ad ++ wT cI ad o_tree ++ wN cI ad o_names ++ wB cI (ad 3) (ad 4) 16384 r4) [] ⟨hx, hb, hml, hown, hts⟩ (c_Writer_token l D cI sd ad o_names o_out r3 r4 hcr4) (cwV2 hts q872 mvX5_token rfl rfl ⟨(Nat.le_of_ble_eq_true rfl), (Nat.le_of_ble_eq_true rfl)⟩) hK hE hA hP hD hS 0 (T := TX5) (N := 3) (ci := 5) rfl rfl [0, 9, 10, 11, 12, 13, 14, 15] rfl (by decide) rfl rfl rfl rfl rfl rfl hl.1 (Nat.le_of_ble_eq_true rfl) dX5_begin_24 ⟨Nat.zero_le _, Nat.zero_le _⟩ (fun H locs hP hD hS => ?_)
  refine lv_iload_n hx hb dX5_begin_27 rfl (lv_at hl 1 rfl) ?_
  refine lv_bipush (v := 35) hx hb dX5_begin_28 (by decide) ?_
  refine lv_icmp_ne (tgt := 47) hx hb dX5_begin_30 (by decide) (fun c5 => ?_) (fun c5 => ?_)
  · replace hM := if_f c5 hM
    refine lv_iload_n hx hb dX5_begin_47 rfl (lv_at hl 1 rfl) ?_
    obtain ⟨r6, hcr6, hM⟩ := ob_use hM
    refine cl_S (As := [.int r1]) (rest := []) (wW ad ++ wT cI ad o_tree ++ wN cI ad o_names ++ wB cI (ad 3) (ad 4) 16384 r4) (.int r6 :: []) ⟨hx, hb, hml, hown, hts⟩ (c_Writer_bearsName l D cI sd ad r1 r6 hcr6) (cwS2 hts q938 mvX5_bearsName rfl rfl ⟨(Nat.le_of_ble_eq_true rfl), (Nat.le_of_ble_eq_true rfl)⟩) hK hE hA hP hD hS [] rfl (by decide) rfl rfl rfl rfl rfl rfl hl.1 (Nat.le_of_ble_eq_true rfl) dX5_begin_48 ⟨Nat.zero_le _, Nat.zero_le _⟩ (fun H locs hP hD hS => ?_)
    refine lv_if_eq (tgt := 62) hx hb dX5_begin_51 (by decide) (fun c7 => ?_) (fun c7 => ?_)
    · replace hM := if_t c7 hM
      refine lv_iload_n hx hb dX5_begin_62 rfl (lv_at hl 1 rfl) ?_
      refine lv_bipush (v := 30) hx hb dX5_begin_63 (by decide) ?_
      refine lv_icmp_ne (tgt := 73) hx hb dX5_begin_65 (by decide) (fun c8 => ?_) (fun c8 => ?_)
      · replace hM := if_f c8 hM
        refine lv_iload_n hx hb dX5_begin_73 rfl (lv_at hl 1 rfl) ?_
        refine lv_bipush (v := 7) hx hb dX5_begin_74 (by decide) ?_
        refine lv_icmp_ne (tgt := 84) hx hb dX5_begin_76 (by decide) (fun c9 => ?_) (fun c9 => ?_)
        · replace hM := if_f c9 hM
          refine lv_aload_n hx hb dX5_begin_84 rfl (lv_at hl 2 rfl) ?_
          refine lv_iload_n hx hb dX5_begin_85 rfl (lv_at hl 1 rfl) ?_
          refine lv_iload_n hx hb dX5_begin_86 rfl (lv_at hl 0 rfl) ?_
          obtain ⟨r10, hcr10, hM⟩ := ob_use hM
          refine cl_S (As := [.int r1, .int r2]) (rest := [.ref (ad 23)]) (wW ad ++ wT cI ad o_tree ++ wN cI ad o_names ++ wB cI (ad 3) (ad 4) 16384 r4) (.int r10 :: [.ref (ad 23)]) ⟨hx, hb, hml, hown, hts⟩ (c_Writer_nextToken l D cI sd ad r1 r2 r10 hcr10) (cwS2 hts q957 mvX5_nextToken rfl rfl ⟨(Nat.le_of_ble_eq_true rfl), (Nat.le_of_ble_eq_true rfl)⟩) hK hE hA hP hD hS [] rfl (by decide) rfl rfl rfl rfl rfl rfl hl.1 (Nat.le_of_ble_eq_true rfl) dX5_begin_87 ⟨Nat.zero_le _, Nat.zero_le _⟩ (fun H locs hP hD hS => ?_)
          obtain ⟨r11, hcr11, hM⟩ := ob_use hM
          refine cl_V (As := [.int r10]) (rest := []) (wW ad ++ wT cI ad o_tree ++ wN cI ad o_names ++ wB cI (ad 3) (ad 4) 16384 r11) [] ⟨hx, hb, hml, hown, hts⟩ (c_Writer_token l D cI sd ad o_names r4 r10 r11 hcr11) (cwV2 hts q872 mvX5_token rfl rfl ⟨(Nat.le_of_ble_eq_true rfl), (Nat.le_of_ble_eq_true rfl)⟩) hK hE hA hP hD hS 0 (T := TX5) (N := 3) (ci := 5) rfl rfl [0, 9, 10, 11, 12, 13, 14, 15] rfl (by decide) rfl rfl rfl rfl rfl rfl hl.1 (Nat.le_of_ble_eq_true rfl) dX5_begin_90 ⟨Nat.zero_le _, Nat.zero_le _⟩ (fun H locs hP hD hS => ?_)
          cases hM
          exact rt_v hx hb hr hlk hP hD hS rfl dX5_begin_93
        · replace hM := if_t c9 hM
          refine lv_aload_n hx hb dX5_begin_79 rfl (lv_at hl 2 rfl) ?_
          refine lv_iload_n hx hb dX5_begin_80 rfl (lv_at hl 0 rfl) ?_
          obtain ⟨r12, hcr12, hM⟩ := ob_use hM
          refine cl_V (As := [.int r2]) (rest := []) (wW ad ++ wT cI ad o_tree ++ wN cI ad o_names ++ wB cI (ad 3) (ad 4) 16384 r12) [] ⟨hx, hb, hml, hown, hts⟩ (c_Writer_place l D cI sd ad o_names r4 r2 r12 hcr12) (cwV2 hts q953 mvX5_place rfl rfl ⟨(Nat.le_of_ble_eq_true rfl), (Nat.le_of_ble_eq_true rfl)⟩) hK hE hA hP hD hS 0 (T := TX5) (N := 3) (ci := 5) rfl rfl [0, 9, 10, 11, 12, 13, 14, 15] rfl (by decide) rfl rfl rfl rfl rfl rfl hl.1 (Nat.le_of_ble_eq_true rfl) dX5_begin_81 ⟨Nat.zero_le _, Nat.zero_le _⟩ (fun H locs hP hD hS => ?_)
          refine lv_aload_n hx hb dX5_begin_84 rfl (lv_at hl 2 rfl) ?_
          refine lv_iload_n hx hb dX5_begin_85 rfl (lv_at hl 1 rfl) ?_
          refine lv_iload_n hx hb dX5_begin_86 rfl (lv_at hl 0 rfl) ?_
          obtain ⟨r13, hcr13, hM⟩ := ob_use hM
          refine cl_S (As := [.int r1, .int r2]) (rest := [.ref (ad 23)]) (wW ad ++ wT cI ad o_tree ++ wN cI ad o_names ++ wB cI (ad 3) (ad 4) 16384 r12) (.int r13 :: [.ref (ad 23)]) ⟨hx, hb, hml, hown, hts⟩ (c_Writer_nextToken l D cI sd ad r1 r2 r13 hcr13) (cwS2 hts q957 mvX5_nextToken rfl rfl ⟨(Nat.le_of_ble_eq_true rfl), (Nat.le_of_ble_eq_true rfl)⟩) hK hE hA hP hD hS [] rfl (by decide) rfl rfl rfl rfl rfl rfl hl.1 (Nat.le_of_ble_eq_true rfl) dX5_begin_87 ⟨Nat.zero_le _, Nat.zero_le _⟩ (fun H locs hP hD hS => ?_)
          obtain ⟨r14, hcr14, hM⟩ := ob_use hM
          refine cl_V (As := [.int r13]) (rest := []) (wW ad ++ wT cI ad o_tree ++ wN cI ad o_names ++ wB cI (ad 3) (ad 4) 16384 r14) [] ⟨hx, hb, hml, hown, hts⟩ (c_Writer_token l D cI sd ad o_names r12 r13 r14 hcr14) (cwV2 hts q872 mvX5_token rfl rfl ⟨(Nat.le_of_ble_eq_true rfl), (Nat.le_of_ble_eq_true rfl)⟩) hK hE hA hP hD hS 0 (T := TX5) (N := 3) (ci := 5) rfl rfl [0, 9, 10, 11, 12, 13, 14, 15] rfl (by decide) rfl rfl rfl rfl rfl rfl hl.1 (Nat.le_of_ble_eq_true rfl) dX5_begin_90 ⟨Nat.zero_le _, Nat.zero_le _⟩ (fun H locs hP hD hS => ?_)
          cases hM
          exact rt_v hx hb hr hlk hP hD hS rfl dX5_begin_93
      · replace hM := if_t c8 hM
        refine lv_aload_n hx hb dX5_begin_68 rfl (lv_at hl 2 rfl) ?_
        refine lv_iload_n hx hb dX5_begin_69 rfl (lv_at hl 0 rfl) ?_
        obtain ⟨r15, hcr15, hM⟩ := ob_use hM
        refine cl_V (As := [.int r2]) (rest := []) (wW ad ++ wT cI ad o_tree ++ wN cI ad o_names ++ wB cI (ad 3) (ad 4) 16384 r15) [] ⟨hx, hb, hml, hown, hts⟩ (c_Writer_number l D cI sd ad o_names r4 r2 r15 hcr15) (cwV2 hts q941 mvX5_number rfl rfl ⟨(Nat.le_of_ble_eq_true rfl), (Nat.le_of_ble_eq_true rfl)⟩) hK hE hA hP hD hS 0 (T := TX5) (N := 3) (ci := 5) rfl rfl [0, 9, 10, 11, 12, 13, 14, 15] rfl (by decide) rfl rfl rfl rfl rfl rfl hl.1 (Nat.le_of_ble_eq_true rfl) dX5_begin_70 ⟨Nat.zero_le _, Nat.zero_le _⟩ (fun H locs hP hD hS => ?_)
        refine lv_iload_n hx hb dX5_begin_73 rfl (lv_at hl 1 rfl) ?_
        refine lv_bipush (v := 7) hx hb dX5_begin_74 (by decide) ?_
        refine lv_icmp_ne (tgt := 84) hx hb dX5_begin_76 (by decide) (fun c16 => ?_) (fun c16 => ?_)
        · replace hM := if_f c16 hM
          refine lv_aload_n hx hb dX5_begin_84 rfl (lv_at hl 2 rfl) ?_
          refine lv_iload_n hx hb dX5_begin_85 rfl (lv_at hl 1 rfl) ?_
          refine lv_iload_n hx hb dX5_begin_86 rfl (lv_at hl 0 rfl) ?_
          obtain ⟨r17, hcr17, hM⟩ := ob_use hM
          refine cl_S (As := [.int r1, .int r2]) (rest := [.ref (ad 23)]) (wW ad ++ wT cI ad o_tree ++ wN cI ad o_names ++ wB cI (ad 3) (ad 4) 16384 r15) (.int r17 :: [.ref (ad 23)]) ⟨hx, hb, hml, hown, hts⟩ (c_Writer_nextToken l D cI sd ad r1 r2 r17 hcr17) (cwS2 hts q957 mvX5_nextToken rfl rfl ⟨(Nat.le_of_ble_eq_true rfl), (Nat.le_of_ble_eq_true rfl)⟩) hK hE hA hP hD hS [] rfl (by decide) rfl rfl rfl rfl rfl rfl hl.1 (Nat.le_of_ble_eq_true rfl) dX5_begin_87 ⟨Nat.zero_le _, Nat.zero_le _⟩ (fun H locs hP hD hS => ?_)
          obtain ⟨r18, hcr18, hM⟩ := ob_use hM
          refine cl_V (As := [.int r17]) (rest := []) (wW ad ++ wT cI ad o_tree ++ wN cI ad o_names ++ wB cI (ad 3) (ad 4) 16384 r18) [] ⟨hx, hb, hml, hown, hts⟩ (c_Writer_token l D cI sd ad o_names r15 r17 r18 hcr18) (cwV2 hts q872 mvX5_token rfl rfl ⟨(Nat.le_of_ble_eq_true rfl), (Nat.le_of_ble_eq_true rfl)⟩) hK hE hA hP hD hS 0 (T := TX5) (N := 3) (ci := 5) rfl rfl [0, 9, 10, 11, 12, 13, 14, 15] rfl (by decide) rfl rfl rfl rfl rfl rfl hl.1 (Nat.le_of_ble_eq_true rfl) dX5_begin_90 ⟨Nat.zero_le _, Nat.zero_le _⟩ (fun H locs hP hD hS => ?_)
          cases hM
          exact rt_v hx hb hr hlk hP hD hS rfl dX5_begin_93
        · replace hM := if_t c16 hM
          refine lv_aload_n hx hb dX5_begin_79 rfl (lv_at hl 2 rfl) ?_
          refine lv_iload_n hx hb dX5_begin_80 rfl (lv_at hl 0 rfl) ?_
          obtain ⟨r19, hcr19, hM⟩ := ob_use hM
          refine cl_V (As := [.int r2]) (rest := []) (wW ad ++ wT cI ad o_tree ++ wN cI ad o_names ++ wB cI (ad 3) (ad 4) 16384 r19) [] ⟨hx, hb, hml, hown, hts⟩ (c_Writer_place l D cI sd ad o_names r15 r2 r19 hcr19) (cwV2 hts q953 mvX5_place rfl rfl ⟨(Nat.le_of_ble_eq_true rfl), (Nat.le_of_ble_eq_true rfl)⟩) hK hE hA hP hD hS 0 (T := TX5) (N := 3) (ci := 5) rfl rfl [0, 9, 10, 11, 12, 13, 14, 15] rfl (by decide) rfl rfl rfl rfl rfl rfl hl.1 (Nat.le_of_ble_eq_true rfl) dX5_begin_81 ⟨Nat.zero_le _, Nat.zero_le _⟩ (fun H locs hP hD hS => ?_)
          refine lv_aload_n hx hb dX5_begin_84 rfl (lv_at hl 2 rfl) ?_
          refine lv_iload_n hx hb dX5_begin_85 rfl (lv_at hl 1 rfl) ?_
          refine lv_iload_n hx hb dX5_begin_86 rfl (lv_at hl 0 rfl) ?_
          obtain ⟨r20, hcr20, hM⟩ := ob_use hM
          refine cl_S (As := [.int r1, .int r2]) (rest := [.ref (ad 23)]) (wW ad ++ wT cI ad o_tree ++ wN cI ad o_names ++ wB cI (ad 3) (ad 4) 16384 r19) (.int r20 :: [.ref (ad 23)]) ⟨hx, hb, hml, hown, hts⟩ (c_Writer_nextToken l D cI sd ad r1 r2 r20 hcr20) (cwS2 hts q957 mvX5_nextToken rfl rfl ⟨(Nat.le_of_ble_eq_true rfl), (Nat.le_of_ble_eq_true rfl)⟩) hK hE hA hP hD hS [] rfl (by decide) rfl rfl rfl rfl rfl rfl hl.1 (Nat.le_of_ble_eq_true rfl) dX5_begin_87 ⟨Nat.zero_le _, Nat.zero_le _⟩ (fun H locs hP hD hS => ?_)
          obtain ⟨r21, hcr21, hM⟩ := ob_use hM
          refine cl_V (As := [.int r20]) (rest := []) (wW ad ++ wT cI ad o_tree ++ wN cI ad o_names ++ wB cI (ad 3) (ad 4) 16384 r21) [] ⟨hx, hb, hml, hown, hts⟩ (c_Writer_token l D cI sd ad o_names r19 r20 r21 hcr21) (cwV2 hts q872 mvX5_token rfl rfl ⟨(Nat.le_of_ble_eq_true rfl), (Nat.le_of_ble_eq_true rfl)⟩) hK hE hA hP hD hS 0 (T := TX5) (N := 3) (ci := 5) rfl rfl [0, 9, 10, 11, 12, 13, 14, 15] rfl (by decide) rfl rfl rfl rfl rfl rfl hl.1 (Nat.le_of_ble_eq_true rfl) dX5_begin_90 ⟨Nat.zero_le _, Nat.zero_le _⟩ (fun H locs hP hD hS => ?_)
          cases hM
          exact rt_v hx hb hr hlk hP hD hS rfl dX5_begin_93
    · replace hM := if_f c7 hM
      refine lv_aload_n hx hb dX5_begin_54 rfl (lv_at hl 2 rfl) ?_
      refine lv_bipush (v := 41) hx hb dX5_begin_55 (by decide) ?_
      refine lv_iload_n hx hb dX5_begin_57 rfl (lv_at hl 0 rfl) ?_
      refine lv_iadd hx hb dX5_begin_58 ?_
      obtain ⟨r22, hcr22, hM⟩ := ob_use hM
      refine cl_V (As := [.int (41 + r2)]) (rest := []) (wW ad ++ wT cI ad o_tree ++ wN cI ad o_names ++ wB cI (ad 3) (ad 4) 16384 r22) [] ⟨hx, hb, hml, hown, hts⟩ (c_Writer_word l D cI sd ad o_names r4 (41 + r2) r22 hcr22) (cwV2 hts q876 mvX5_word rfl rfl ⟨(Nat.le_of_ble_eq_true rfl), (Nat.le_of_ble_eq_true rfl)⟩) hK hE hA hP hD hS 0 (T := TX5) (N := 3) (ci := 5) rfl rfl [0, 9, 10, 11, 12, 13, 14, 15] rfl (by decide) rfl rfl rfl rfl rfl rfl hl.1 (Nat.le_of_ble_eq_true rfl) dX5_begin_59 ⟨Nat.zero_le _, Nat.zero_le _⟩ (fun H locs hP hD hS => ?_)
      refine lv_iload_n hx hb dX5_begin_62 rfl (lv_at hl 1 rfl) ?_
      refine lv_bipush (v := 30) hx hb dX5_begin_63 (by decide) ?_
      refine lv_icmp_ne (tgt := 73) hx hb dX5_begin_65 (by decide) (fun c23 => ?_) (fun c23 => ?_)
      · replace hM := if_f c23 hM
        refine lv_iload_n hx hb dX5_begin_73 rfl (lv_at hl 1 rfl) ?_
        refine lv_bipush (v := 7) hx hb dX5_begin_74 (by decide) ?_
        refine lv_icmp_ne (tgt := 84) hx hb dX5_begin_76 (by decide) (fun c24 => ?_) (fun c24 => ?_)
        · replace hM := if_f c24 hM
          refine lv_aload_n hx hb dX5_begin_84 rfl (lv_at hl 2 rfl) ?_
          refine lv_iload_n hx hb dX5_begin_85 rfl (lv_at hl 1 rfl) ?_
          refine lv_iload_n hx hb dX5_begin_86 rfl (lv_at hl 0 rfl) ?_
          obtain ⟨r25, hcr25, hM⟩ := ob_use hM
          refine cl_S (As := [.int r1, .int r2]) (rest := [.ref (ad 23)]) (wW ad ++ wT cI ad o_tree ++ wN cI ad o_names ++ wB cI (ad 3) (ad 4) 16384 r22) (.int r25 :: [.ref (ad 23)]) ⟨hx, hb, hml, hown, hts⟩ (c_Writer_nextToken l D cI sd ad r1 r2 r25 hcr25) (cwS2 hts q957 mvX5_nextToken rfl rfl ⟨(Nat.le_of_ble_eq_true rfl), (Nat.le_of_ble_eq_true rfl)⟩) hK hE hA hP hD hS [] rfl (by decide) rfl rfl rfl rfl rfl rfl hl.1 (Nat.le_of_ble_eq_true rfl) dX5_begin_87 ⟨Nat.zero_le _, Nat.zero_le _⟩ (fun H locs hP hD hS => ?_)
          obtain ⟨r26, hcr26, hM⟩ := ob_use hM
          refine cl_V (As := [.int r25]) (rest := []) (wW ad ++ wT cI ad o_tree ++ wN cI ad o_names ++ wB cI (ad 3) (ad 4) 16384 r26) [] ⟨hx, hb, hml, hown, hts⟩ (c_Writer_token l D cI sd ad o_names r22 r25 r26 hcr26) (cwV2 hts q872 mvX5_token rfl rfl ⟨(Nat.le_of_ble_eq_true rfl), (Nat.le_of_ble_eq_true rfl)⟩) hK hE hA hP hD hS 0 (T := TX5) (N := 3) (ci := 5) rfl rfl [0, 9, 10, 11, 12, 13, 14, 15] rfl (by decide) rfl rfl rfl rfl rfl rfl hl.1 (Nat.le_of_ble_eq_true rfl) dX5_begin_90 ⟨Nat.zero_le _, Nat.zero_le _⟩ (fun H locs hP hD hS => ?_)
          cases hM
          exact rt_v hx hb hr hlk hP hD hS rfl dX5_begin_93
        · replace hM := if_t c24 hM
          refine lv_aload_n hx hb dX5_begin_79 rfl (lv_at hl 2 rfl) ?_
          refine lv_iload_n hx hb dX5_begin_80 rfl (lv_at hl 0 rfl) ?_
          obtain ⟨r27, hcr27, hM⟩ := ob_use hM
          refine cl_V (As := [.int r2]) (rest := []) (wW ad ++ wT cI ad o_tree ++ wN cI ad o_names ++ wB cI (ad 3) (ad 4) 16384 r27) [] ⟨hx, hb, hml, hown, hts⟩ (c_Writer_place l D cI sd ad o_names r22 r2 r27 hcr27) (cwV2 hts q953 mvX5_place rfl rfl ⟨(Nat.le_of_ble_eq_true rfl), (Nat.le_of_ble_eq_true rfl)⟩) hK hE hA hP hD hS 0 (T := TX5) (N := 3) (ci := 5) rfl rfl [0, 9, 10, 11, 12, 13, 14, 15] rfl (by decide) rfl rfl rfl rfl rfl rfl hl.1 (Nat.le_of_ble_eq_true rfl) dX5_begin_81 ⟨Nat.zero_le _, Nat.zero_le _⟩ (fun H locs hP hD hS => ?_)
          refine lv_aload_n hx hb dX5_begin_84 rfl (lv_at hl 2 rfl) ?_
          refine lv_iload_n hx hb dX5_begin_85 rfl (lv_at hl 1 rfl) ?_
          refine lv_iload_n hx hb dX5_begin_86 rfl (lv_at hl 0 rfl) ?_
          obtain ⟨r28, hcr28, hM⟩ := ob_use hM
          refine cl_S (As := [.int r1, .int r2]) (rest := [.ref (ad 23)]) (wW ad ++ wT cI ad o_tree ++ wN cI ad o_names ++ wB cI (ad 3) (ad 4) 16384 r27) (.int r28 :: [.ref (ad 23)]) ⟨hx, hb, hml, hown, hts⟩ (c_Writer_nextToken l D cI sd ad r1 r2 r28 hcr28) (cwS2 hts q957 mvX5_nextToken rfl rfl ⟨(Nat.le_of_ble_eq_true rfl), (Nat.le_of_ble_eq_true rfl)⟩) hK hE hA hP hD hS [] rfl (by decide) rfl rfl rfl rfl rfl rfl hl.1 (Nat.le_of_ble_eq_true rfl) dX5_begin_87 ⟨Nat.zero_le _, Nat.zero_le _⟩ (fun H locs hP hD hS => ?_)
          obtain ⟨r29, hcr29, hM⟩ := ob_use hM
          refine cl_V (As := [.int r28]) (rest := []) (wW ad ++ wT cI ad o_tree ++ wN cI ad o_names ++ wB cI (ad 3) (ad 4) 16384 r29) [] ⟨hx, hb, hml, hown, hts⟩ (c_Writer_token l D cI sd ad o_names r27 r28 r29 hcr29) (cwV2 hts q872 mvX5_token rfl rfl ⟨(Nat.le_of_ble_eq_true rfl), (Nat.le_of_ble_eq_true rfl)⟩) hK hE hA hP hD hS 0 (T := TX5) (N := 3) (ci := 5) rfl rfl [0, 9, 10, 11, 12, 13, 14, 15] rfl (by decide) rfl rfl rfl rfl rfl rfl hl.1 (Nat.le_of_ble_eq_true rfl) dX5_begin_90 ⟨Nat.zero_le _, Nat.zero_le _⟩ (fun H locs hP hD hS => ?_)
          cases hM
          exact rt_v hx hb hr hlk hP hD hS rfl dX5_begin_93
      · replace hM := if_t c23 hM
        refine lv_aload_n hx hb dX5_begin_68 rfl (lv_at hl 2 rfl) ?_
        refine lv_iload_n hx hb dX5_begin_69 rfl (lv_at hl 0 rfl) ?_
        obtain ⟨r30, hcr30, hM⟩ := ob_use hM
        refine cl_V (As := [.int r2]) (rest := []) (wW ad ++ wT cI ad o_tree ++ wN cI ad o_names ++ wB cI (ad 3) (ad 4) 16384 r30) [] ⟨hx, hb, hml, hown, hts⟩ (c_Writer_number l D cI sd ad o_names r22 r2 r30 hcr30) (cwV2 hts q941 mvX5_number rfl rfl ⟨(Nat.le_of_ble_eq_true rfl), (Nat.le_of_ble_eq_true rfl)⟩) hK hE hA hP hD hS 0 (T := TX5) (N := 3) (ci := 5) rfl rfl [0, 9, 10, 11, 12, 13, 14, 15] rfl (by decide) rfl rfl rfl rfl rfl rfl hl.1 (Nat.le_of_ble_eq_true rfl) dX5_begin_70 ⟨Nat.zero_le _, Nat.zero_le _⟩ (fun H locs hP hD hS => ?_)
        refine lv_iload_n hx hb dX5_begin_73 rfl (lv_at hl 1 rfl) ?_
        refine lv_bipush (v := 7) hx hb dX5_begin_74 (by decide) ?_
        refine lv_icmp_ne (tgt := 84) hx hb dX5_begin_76 (by decide) (fun c31 => ?_) (fun c31 => ?_)
        · replace hM := if_f c31 hM
          refine lv_aload_n hx hb dX5_begin_84 rfl (lv_at hl 2 rfl) ?_
          refine lv_iload_n hx hb dX5_begin_85 rfl (lv_at hl 1 rfl) ?_
          refine lv_iload_n hx hb dX5_begin_86 rfl (lv_at hl 0 rfl) ?_
          obtain ⟨r32, hcr32, hM⟩ := ob_use hM
          refine cl_S (As := [.int r1, .int r2]) (rest := [.ref (ad 23)]) (wW ad ++ wT cI ad o_tree ++ wN cI ad o_names ++ wB cI (ad 3) (ad 4) 16384 r30) (.int r32 :: [.ref (ad 23)]) ⟨hx, hb, hml, hown, hts⟩ (c_Writer_nextToken l D cI sd ad r1 r2 r32 hcr32) (cwS2 hts q957 mvX5_nextToken rfl rfl ⟨(Nat.le_of_ble_eq_true rfl), (Nat.le_of_ble_eq_true rfl)⟩) hK hE hA hP hD hS [] rfl (by decide) rfl rfl rfl rfl rfl rfl hl.1 (Nat.le_of_ble_eq_true rfl) dX5_begin_87 ⟨Nat.zero_le _, Nat.zero_le _⟩ (fun H locs hP hD hS => ?_)
          obtain ⟨r33, hcr33, hM⟩ := ob_use hM
          refine cl_V (As := [.int r32]) (rest := []) (wW ad ++ wT cI ad o_tree ++ wN cI ad o_names ++ wB cI (ad 3) (ad 4) 16384 r33) [] ⟨hx, hb, hml, hown, hts⟩ (c_Writer_token l D cI sd ad o_names r30 r32 r33 hcr33) (cwV2 hts q872 mvX5_token rfl rfl ⟨(Nat.le_of_ble_eq_true rfl), (Nat.le_of_ble_eq_true rfl)⟩) hK hE hA hP hD hS 0 (T := TX5) (N := 3) (ci := 5) rfl rfl [0, 9, 10, 11, 12, 13, 14, 15] rfl (by decide) rfl rfl rfl rfl rfl rfl hl.1 (Nat.le_of_ble_eq_true rfl) dX5_begin_90 ⟨Nat.zero_le _, Nat.zero_le _⟩ (fun H locs hP hD hS => ?_)
          cases hM
          exact rt_v hx hb hr hlk hP hD hS rfl dX5_begin_93
        · replace hM := if_t c31 hM
          refine lv_aload_n hx hb dX5_begin_79 rfl (lv_at hl 2 rfl) ?_
          refine lv_iload_n hx hb dX5_begin_80 rfl (lv_at hl 0 rfl) ?_
          obtain ⟨r34, hcr34, hM⟩ := ob_use hM
          refine cl_V (As := [.int r2]) (rest := []) (wW ad ++ wT cI ad o_tree ++ wN cI ad o_names ++ wB cI (ad 3) (ad 4) 16384 r34) [] ⟨hx, hb, hml, hown, hts⟩ (c_Writer_place l D cI sd ad o_names r30 r2 r34 hcr34) (cwV2 hts q953 mvX5_place rfl rfl ⟨(Nat.le_of_ble_eq_true rfl), (Nat.le_of_ble_eq_true rfl)⟩) hK hE hA hP hD hS 0 (T := TX5) (N := 3) (ci := 5) rfl rfl [0, 9, 10, 11, 12, 13, 14, 15] rfl (by decide) rfl rfl rfl rfl rfl rfl hl.1 (Nat.le_of_ble_eq_true rfl) dX5_begin_81 ⟨Nat.zero_le _, Nat.zero_le _⟩ (fun H locs hP hD hS => ?_)
          refine lv_aload_n hx hb dX5_begin_84 rfl (lv_at hl 2 rfl) ?_
          refine lv_iload_n hx hb dX5_begin_85 rfl (lv_at hl 1 rfl) ?_
          refine lv_iload_n hx hb dX5_begin_86 rfl (lv_at hl 0 rfl) ?_
          obtain ⟨r35, hcr35, hM⟩ := ob_use hM
          refine cl_S (As := [.int r1, .int r2]) (rest := [.ref (ad 23)]) (wW ad ++ wT cI ad o_tree ++ wN cI ad o_names ++ wB cI (ad 3) (ad 4) 16384 r34) (.int r35 :: [.ref (ad 23)]) ⟨hx, hb, hml, hown, hts⟩ (c_Writer_nextToken l D cI sd ad r1 r2 r35 hcr35) (cwS2 hts q957 mvX5_nextToken rfl rfl ⟨(Nat.le_of_ble_eq_true rfl), (Nat.le_of_ble_eq_true rfl)⟩) hK hE hA hP hD hS [] rfl (by decide) rfl rfl rfl rfl rfl rfl hl.1 (Nat.le_of_ble_eq_true rfl) dX5_begin_87 ⟨Nat.zero_le _, Nat.zero_le _⟩ (fun H locs hP hD hS => ?_)
          obtain ⟨r36, hcr36, hM⟩ := ob_use hM
          refine cl_V (As := [.int r35]) (rest := []) (wW ad ++ wT cI ad o_tree ++ wN cI ad o_names ++ wB cI (ad 3) (ad 4) 16384 r36) [] ⟨hx, hb, hml, hown, hts⟩ (c_Writer_token l D cI sd ad o_names r34 r35 r36 hcr36) (cwV2 hts q872 mvX5_token rfl rfl ⟨(Nat.le_of_ble_eq_true rfl), (Nat.le_of_ble_eq_true rfl)⟩) hK hE hA hP hD hS 0 (T := TX5) (N := 3) (ci := 5) rfl rfl [0, 9, 10, 11, 12, 13, 14, 15] rfl (by decide) rfl rfl rfl rfl rfl rfl hl.1 (Nat.le_of_ble_eq_true rfl) dX5_begin_90 ⟨Nat.zero_le _, Nat.zero_le _⟩ (fun H locs hP hD hS => ?_)
          cases hM
          exact rt_v hx hb hr hlk hP hD hS rfl dX5_begin_93
  · replace hM := if_t c5 hM
    refine lv_aload_n hx hb dX5_begin_33 rfl (lv_at hl 2 rfl) ?_
    refine lv_iload_n hx hb dX5_begin_34 rfl (lv_at hl 3 rfl) ?_
    obtain ⟨r37, hcr37, hM⟩ := ob_use hM
    refine cl_V (As := [.int a1]) (rest := []) (wW ad ++ wT cI ad o_tree ++ wN cI ad o_names ++ wB cI (ad 3) (ad 4) 16384 r4) (.int r37 :: []) ⟨hx, hb, hml, hown, hts⟩ (c_Writer_isBracketed l D cI sd ad o_tree a1 r37 hcr37) (cwV2 hts q888 mvX5_isBracketed rfl rfl ⟨(Nat.le_of_ble_eq_true rfl), (Nat.le_of_ble_eq_true rfl)⟩) hK hE hA hP hD hS 0 (T := TX5) (N := 3) (ci := 5) rfl rfl [0, 1, 2, 3, 4, 5, 6, 7, 8] rfl (by decide) rfl rfl rfl rfl rfl rfl hl.1 (Nat.le_of_ble_eq_true rfl) dX5_begin_35 ⟨Nat.zero_le _, Nat.zero_le _⟩ (fun H locs hP hD hS => ?_)
    refine lv_if_eq (tgt := 47) hx hb dX5_begin_38 (by decide) (fun c38 => ?_) (fun c38 => ?_)
    · replace hM := if_t c38 hM
      refine lv_iload_n hx hb dX5_begin_47 rfl (lv_at hl 1 rfl) ?_
      obtain ⟨r39, hcr39, hM⟩ := ob_use hM
      refine cl_S (As := [.int r1]) (rest := []) (wW ad ++ wT cI ad o_tree ++ wN cI ad o_names ++ wB cI (ad 3) (ad 4) 16384 r4) (.int r39 :: []) ⟨hx, hb, hml, hown, hts⟩ (c_Writer_bearsName l D cI sd ad r1 r39 hcr39) (cwS2 hts q938 mvX5_bearsName rfl rfl ⟨(Nat.le_of_ble_eq_true rfl), (Nat.le_of_ble_eq_true rfl)⟩) hK hE hA hP hD hS [] rfl (by decide) rfl rfl rfl rfl rfl rfl hl.1 (Nat.le_of_ble_eq_true rfl) dX5_begin_48 ⟨Nat.zero_le _, Nat.zero_le _⟩ (fun H locs hP hD hS => ?_)
      refine lv_if_eq (tgt := 62) hx hb dX5_begin_51 (by decide) (fun c40 => ?_) (fun c40 => ?_)
      · replace hM := if_t c40 hM
        refine lv_iload_n hx hb dX5_begin_62 rfl (lv_at hl 1 rfl) ?_
        refine lv_bipush (v := 30) hx hb dX5_begin_63 (by decide) ?_
        refine lv_icmp_ne (tgt := 73) hx hb dX5_begin_65 (by decide) (fun c41 => ?_) (fun c41 => ?_)
        · replace hM := if_f c41 hM
          refine lv_iload_n hx hb dX5_begin_73 rfl (lv_at hl 1 rfl) ?_
          refine lv_bipush (v := 7) hx hb dX5_begin_74 (by decide) ?_
          refine lv_icmp_ne (tgt := 84) hx hb dX5_begin_76 (by decide) (fun c42 => ?_) (fun c42 => ?_)
          · replace hM := if_f c42 hM
            refine lv_aload_n hx hb dX5_begin_84 rfl (lv_at hl 2 rfl) ?_
            refine lv_iload_n hx hb dX5_begin_85 rfl (lv_at hl 1 rfl) ?_
            refine lv_iload_n hx hb dX5_begin_86 rfl (lv_at hl 0 rfl) ?_
            obtain ⟨r43, hcr43, hM⟩ := ob_use hM
            refine cl_S (As := [.int r1, .int r2]) (rest := [.ref (ad 23)]) (wW ad ++ wT cI ad o_tree ++ wN cI ad o_names ++ wB cI (ad 3) (ad 4) 16384 r4) (.int r43 :: [.ref (ad 23)]) ⟨hx, hb, hml, hown, hts⟩ (c_Writer_nextToken l D cI sd ad r1 r2 r43 hcr43) (cwS2 hts q957 mvX5_nextToken rfl rfl ⟨(Nat.le_of_ble_eq_true rfl), (Nat.le_of_ble_eq_true rfl)⟩) hK hE hA hP hD hS [] rfl (by decide) rfl rfl rfl rfl rfl rfl hl.1 (Nat.le_of_ble_eq_true rfl) dX5_begin_87 ⟨Nat.zero_le _, Nat.zero_le _⟩ (fun H locs hP hD hS => ?_)
            obtain ⟨r44, hcr44, hM⟩ := ob_use hM
            refine cl_V (As := [.int r43]) (rest := []) (wW ad ++ wT cI ad o_tree ++ wN cI ad o_names ++ wB cI (ad 3) (ad 4) 16384 r44) [] ⟨hx, hb, hml, hown, hts⟩ (c_Writer_token l D cI sd ad o_names r4 r43 r44 hcr44) (cwV2 hts q872 mvX5_token rfl rfl ⟨(Nat.le_of_ble_eq_true rfl), (Nat.le_of_ble_eq_true rfl)⟩) hK hE hA hP hD hS 0 (T := TX5) (N := 3) (ci := 5) rfl rfl [0, 9, 10, 11, 12, 13, 14, 15] rfl (by decide) rfl rfl rfl rfl rfl rfl hl.1 (Nat.le_of_ble_eq_true rfl) dX5_begin_90 ⟨Nat.zero_le _, Nat.zero_le _⟩ (fun H locs hP hD hS => ?_)
            cases hM
            exact rt_v hx hb hr hlk hP hD hS rfl dX5_begin_93
          · replace hM := if_t c42 hM
            refine lv_aload_n hx hb dX5_begin_79 rfl (lv_at hl 2 rfl) ?_
            refine lv_iload_n hx hb dX5_begin_80 rfl (lv_at hl 0 rfl) ?_
            obtain ⟨r45, hcr45, hM⟩ := ob_use hM
            refine cl_V (As := [.int r2]) (rest := []) (wW ad ++ wT cI ad o_tree ++ wN cI ad o_names ++ wB cI (ad 3) (ad 4) 16384 r45) [] ⟨hx, hb, hml, hown, hts⟩ (c_Writer_place l D cI sd ad o_names r4 r2 r45 hcr45) (cwV2 hts q953 mvX5_place rfl rfl ⟨(Nat.le_of_ble_eq_true rfl), (Nat.le_of_ble_eq_true rfl)⟩) hK hE hA hP hD hS 0 (T := TX5) (N := 3) (ci := 5) rfl rfl [0, 9, 10, 11, 12, 13, 14, 15] rfl (by decide) rfl rfl rfl rfl rfl rfl hl.1 (Nat.le_of_ble_eq_true rfl) dX5_begin_81 ⟨Nat.zero_le _, Nat.zero_le _⟩ (fun H locs hP hD hS => ?_)
            refine lv_aload_n hx hb dX5_begin_84 rfl (lv_at hl 2 rfl) ?_
            refine lv_iload_n hx hb dX5_begin_85 rfl (lv_at hl 1 rfl) ?_
            refine lv_iload_n hx hb dX5_begin_86 rfl (lv_at hl 0 rfl) ?_
            obtain ⟨r46, hcr46, hM⟩ := ob_use hM
            refine cl_S (As := [.int r1, .int r2]) (rest := [.ref (ad 23)]) (wW ad ++ wT cI ad o_tree ++ wN cI ad o_names ++ wB cI (ad 3) (ad 4) 16384 r45) (.int r46 :: [.ref (ad 23)]) ⟨hx, hb, hml, hown, hts⟩ (c_Writer_nextToken l D cI sd ad r1 r2 r46 hcr46) (cwS2 hts q957 mvX5_nextToken rfl rfl ⟨(Nat.le_of_ble_eq_true rfl), (Nat.le_of_ble_eq_true rfl)⟩) hK hE hA hP hD hS [] rfl (by decide) rfl rfl rfl rfl rfl rfl hl.1 (Nat.le_of_ble_eq_true rfl) dX5_begin_87 ⟨Nat.zero_le _, Nat.zero_le _⟩ (fun H locs hP hD hS => ?_)
            obtain ⟨r47, hcr47, hM⟩ := ob_use hM
            refine cl_V (As := [.int r46]) (rest := []) (wW ad ++ wT cI ad o_tree ++ wN cI ad o_names ++ wB cI (ad 3) (ad 4) 16384 r47) [] ⟨hx, hb, hml, hown, hts⟩ (c_Writer_token l D cI sd ad o_names r45 r46 r47 hcr47) (cwV2 hts q872 mvX5_token rfl rfl ⟨(Nat.le_of_ble_eq_true rfl), (Nat.le_of_ble_eq_true rfl)⟩) hK hE hA hP hD hS 0 (T := TX5) (N := 3) (ci := 5) rfl rfl [0, 9, 10, 11, 12, 13, 14, 15] rfl (by decide) rfl rfl rfl rfl rfl rfl hl.1 (Nat.le_of_ble_eq_true rfl) dX5_begin_90 ⟨Nat.zero_le _, Nat.zero_le _⟩ (fun H locs hP hD hS => ?_)
            cases hM
            exact rt_v hx hb hr hlk hP hD hS rfl dX5_begin_93
        · replace hM := if_t c41 hM
          refine lv_aload_n hx hb dX5_begin_68 rfl (lv_at hl 2 rfl) ?_
          refine lv_iload_n hx hb dX5_begin_69 rfl (lv_at hl 0 rfl) ?_
          obtain ⟨r48, hcr48, hM⟩ := ob_use hM
          refine cl_V (As := [.int r2]) (rest := []) (wW ad ++ wT cI ad o_tree ++ wN cI ad o_names ++ wB cI (ad 3) (ad 4) 16384 r48) [] ⟨hx, hb, hml, hown, hts⟩ (c_Writer_number l D cI sd ad o_names r4 r2 r48 hcr48) (cwV2 hts q941 mvX5_number rfl rfl ⟨(Nat.le_of_ble_eq_true rfl), (Nat.le_of_ble_eq_true rfl)⟩) hK hE hA hP hD hS 0 (T := TX5) (N := 3) (ci := 5) rfl rfl [0, 9, 10, 11, 12, 13, 14, 15] rfl (by decide) rfl rfl rfl rfl rfl rfl hl.1 (Nat.le_of_ble_eq_true rfl) dX5_begin_70 ⟨Nat.zero_le _, Nat.zero_le _⟩ (fun H locs hP hD hS => ?_)
          refine lv_iload_n hx hb dX5_begin_73 rfl (lv_at hl 1 rfl) ?_
          refine lv_bipush (v := 7) hx hb dX5_begin_74 (by decide) ?_
          refine lv_icmp_ne (tgt := 84) hx hb dX5_begin_76 (by decide) (fun c49 => ?_) (fun c49 => ?_)
          · replace hM := if_f c49 hM
            refine lv_aload_n hx hb dX5_begin_84 rfl (lv_at hl 2 rfl) ?_
            refine lv_iload_n hx hb dX5_begin_85 rfl (lv_at hl 1 rfl) ?_
            refine lv_iload_n hx hb dX5_begin_86 rfl (lv_at hl 0 rfl) ?_
            obtain ⟨r50, hcr50, hM⟩ := ob_use hM
            refine cl_S (As := [.int r1, .int r2]) (rest := [.ref (ad 23)]) (wW ad ++ wT cI ad o_tree ++ wN cI ad o_names ++ wB cI (ad 3) (ad 4) 16384 r48) (.int r50 :: [.ref (ad 23)]) ⟨hx, hb, hml, hown, hts⟩ (c_Writer_nextToken l D cI sd ad r1 r2 r50 hcr50) (cwS2 hts q957 mvX5_nextToken rfl rfl ⟨(Nat.le_of_ble_eq_true rfl), (Nat.le_of_ble_eq_true rfl)⟩) hK hE hA hP hD hS [] rfl (by decide) rfl rfl rfl rfl rfl rfl hl.1 (Nat.le_of_ble_eq_true rfl) dX5_begin_87 ⟨Nat.zero_le _, Nat.zero_le _⟩ (fun H locs hP hD hS => ?_)
            obtain ⟨r51, hcr51, hM⟩ := ob_use hM
            refine cl_V (As := [.int r50]) (rest := []) (wW ad ++ wT cI ad o_tree ++ wN cI ad o_names ++ wB cI (ad 3) (ad 4) 16384 r51) [] ⟨hx, hb, hml, hown, hts⟩ (c_Writer_token l D cI sd ad o_names r48 r50 r51 hcr51) (cwV2 hts q872 mvX5_token rfl rfl ⟨(Nat.le_of_ble_eq_true rfl), (Nat.le_of_ble_eq_true rfl)⟩) hK hE hA hP hD hS 0 (T := TX5) (N := 3) (ci := 5) rfl rfl [0, 9, 10, 11, 12, 13, 14, 15] rfl (by decide) rfl rfl rfl rfl rfl rfl hl.1 (Nat.le_of_ble_eq_true rfl) dX5_begin_90 ⟨Nat.zero_le _, Nat.zero_le _⟩ (fun H locs hP hD hS => ?_)
            cases hM
            exact rt_v hx hb hr hlk hP hD hS rfl dX5_begin_93
          · replace hM := if_t c49 hM
            refine lv_aload_n hx hb dX5_begin_79 rfl (lv_at hl 2 rfl) ?_
            refine lv_iload_n hx hb dX5_begin_80 rfl (lv_at hl 0 rfl) ?_
            obtain ⟨r52, hcr52, hM⟩ := ob_use hM
            refine cl_V (As := [.int r2]) (rest := []) (wW ad ++ wT cI ad o_tree ++ wN cI ad o_names ++ wB cI (ad 3) (ad 4) 16384 r52) [] ⟨hx, hb, hml, hown, hts⟩ (c_Writer_place l D cI sd ad o_names r48 r2 r52 hcr52) (cwV2 hts q953 mvX5_place rfl rfl ⟨(Nat.le_of_ble_eq_true rfl), (Nat.le_of_ble_eq_true rfl)⟩) hK hE hA hP hD hS 0 (T := TX5) (N := 3) (ci := 5) rfl rfl [0, 9, 10, 11, 12, 13, 14, 15] rfl (by decide) rfl rfl rfl rfl rfl rfl hl.1 (Nat.le_of_ble_eq_true rfl) dX5_begin_81 ⟨Nat.zero_le _, Nat.zero_le _⟩ (fun H locs hP hD hS => ?_)
            refine lv_aload_n hx hb dX5_begin_84 rfl (lv_at hl 2 rfl) ?_
            refine lv_iload_n hx hb dX5_begin_85 rfl (lv_at hl 1 rfl) ?_
            refine lv_iload_n hx hb dX5_begin_86 rfl (lv_at hl 0 rfl) ?_
            obtain ⟨r53, hcr53, hM⟩ := ob_use hM
            refine cl_S (As := [.int r1, .int r2]) (rest := [.ref (ad 23)]) (wW ad ++ wT cI ad o_tree ++ wN cI ad o_names ++ wB cI (ad 3) (ad 4) 16384 r52) (.int r53 :: [.ref (ad 23)]) ⟨hx, hb, hml, hown, hts⟩ (c_Writer_nextToken l D cI sd ad r1 r2 r53 hcr53) (cwS2 hts q957 mvX5_nextToken rfl rfl ⟨(Nat.le_of_ble_eq_true rfl), (Nat.le_of_ble_eq_true rfl)⟩) hK hE hA hP hD hS [] rfl (by decide) rfl rfl rfl rfl rfl rfl hl.1 (Nat.le_of_ble_eq_true rfl) dX5_begin_87 ⟨Nat.zero_le _, Nat.zero_le _⟩ (fun H locs hP hD hS => ?_)
            obtain ⟨r54, hcr54, hM⟩ := ob_use hM
            refine cl_V (As := [.int r53]) (rest := []) (wW ad ++ wT cI ad o_tree ++ wN cI ad o_names ++ wB cI (ad 3) (ad 4) 16384 r54) [] ⟨hx, hb, hml, hown, hts⟩ (c_Writer_token l D cI sd ad o_names r52 r53 r54 hcr54) (cwV2 hts q872 mvX5_token rfl rfl ⟨(Nat.le_of_ble_eq_true rfl), (Nat.le_of_ble_eq_true rfl)⟩) hK hE hA hP hD hS 0 (T := TX5) (N := 3) (ci := 5) rfl rfl [0, 9, 10, 11, 12, 13, 14, 15] rfl (by decide) rfl rfl rfl rfl rfl rfl hl.1 (Nat.le_of_ble_eq_true rfl) dX5_begin_90 ⟨Nat.zero_le _, Nat.zero_le _⟩ (fun H locs hP hD hS => ?_)
            cases hM
            exact rt_v hx hb hr hlk hP hD hS rfl dX5_begin_93
      · replace hM := if_f c40 hM
        refine lv_aload_n hx hb dX5_begin_54 rfl (lv_at hl 2 rfl) ?_
        refine lv_bipush (v := 41) hx hb dX5_begin_55 (by decide) ?_
        refine lv_iload_n hx hb dX5_begin_57 rfl (lv_at hl 0 rfl) ?_
        refine lv_iadd hx hb dX5_begin_58 ?_
        obtain ⟨r55, hcr55, hM⟩ := ob_use hM
        refine cl_V (As := [.int (41 + r2)]) (rest := []) (wW ad ++ wT cI ad o_tree ++ wN cI ad o_names ++ wB cI (ad 3) (ad 4) 16384 r55) [] ⟨hx, hb, hml, hown, hts⟩ (c_Writer_word l D cI sd ad o_names r4 (41 + r2) r55 hcr55) (cwV2 hts q876 mvX5_word rfl rfl ⟨(Nat.le_of_ble_eq_true rfl), (Nat.le_of_ble_eq_true rfl)⟩) hK hE hA hP hD hS 0 (T := TX5) (N := 3) (ci := 5) rfl rfl [0, 9, 10, 11, 12, 13, 14, 15] rfl (by decide) rfl rfl rfl rfl rfl rfl hl.1 (Nat.le_of_ble_eq_true rfl) dX5_begin_59 ⟨Nat.zero_le _, Nat.zero_le _⟩ (fun H locs hP hD hS => ?_)
        refine lv_iload_n hx hb dX5_begin_62 rfl (lv_at hl 1 rfl) ?_
        refine lv_bipush (v := 30) hx hb dX5_begin_63 (by decide) ?_
        refine lv_icmp_ne (tgt := 73) hx hb dX5_begin_65 (by decide) (fun c56 => ?_) (fun c56 => ?_)
        · replace hM := if_f c56 hM
          refine lv_iload_n hx hb dX5_begin_73 rfl (lv_at hl 1 rfl) ?_
          refine lv_bipush (v := 7) hx hb dX5_begin_74 (by decide) ?_
          refine lv_icmp_ne (tgt := 84) hx hb dX5_begin_76 (by decide) (fun c57 => ?_) (fun c57 => ?_)
          · replace hM := if_f c57 hM
            refine lv_aload_n hx hb dX5_begin_84 rfl (lv_at hl 2 rfl) ?_
            refine lv_iload_n hx hb dX5_begin_85 rfl (lv_at hl 1 rfl) ?_
            refine lv_iload_n hx hb dX5_begin_86 rfl (lv_at hl 0 rfl) ?_
            obtain ⟨r58, hcr58, hM⟩ := ob_use hM
            refine cl_S (As := [.int r1, .int r2]) (rest := [.ref (ad 23)]) (wW ad ++ wT cI ad o_tree ++ wN cI ad o_names ++ wB cI (ad 3) (ad 4) 16384 r55) (.int r58 :: [.ref (ad 23)]) ⟨hx, hb, hml, hown, hts⟩ (c_Writer_nextToken l D cI sd ad r1 r2 r58 hcr58) (cwS2 hts q957 mvX5_nextToken rfl rfl ⟨(Nat.le_of_ble_eq_true rfl), (Nat.le_of_ble_eq_true rfl)⟩) hK hE hA hP hD hS [] rfl (by decide) rfl rfl rfl rfl rfl rfl hl.1 (Nat.le_of_ble_eq_true rfl) dX5_begin_87 ⟨Nat.zero_le _, Nat.zero_le _⟩ (fun H locs hP hD hS => ?_)
            obtain ⟨r59, hcr59, hM⟩ := ob_use hM
            refine cl_V (As := [.int r58]) (rest := []) (wW ad ++ wT cI ad o_tree ++ wN cI ad o_names ++ wB cI (ad 3) (ad 4) 16384 r59) [] ⟨hx, hb, hml, hown, hts⟩ (c_Writer_token l D cI sd ad o_names r55 r58 r59 hcr59) (cwV2 hts q872 mvX5_token rfl rfl ⟨(Nat.le_of_ble_eq_true rfl), (Nat.le_of_ble_eq_true rfl)⟩) hK hE hA hP hD hS 0 (T := TX5) (N := 3) (ci := 5) rfl rfl [0, 9, 10, 11, 12, 13, 14, 15] rfl (by decide) rfl rfl rfl rfl rfl rfl hl.1 (Nat.le_of_ble_eq_true rfl) dX5_begin_90 ⟨Nat.zero_le _, Nat.zero_le _⟩ (fun H locs hP hD hS => ?_)
            cases hM
            exact rt_v hx hb hr hlk hP hD hS rfl dX5_begin_93
          · replace hM := if_t c57 hM
            refine lv_aload_n hx hb dX5_begin_79 rfl (lv_at hl 2 rfl) ?_
            refine lv_iload_n hx hb dX5_begin_80 rfl (lv_at hl 0 rfl) ?_
            obtain ⟨r60, hcr60, hM⟩ := ob_use hM
            refine cl_V (As := [.int r2]) (rest := []) (wW ad ++ wT cI ad o_tree ++ wN cI ad o_names ++ wB cI (ad 3) (ad 4) 16384 r60) [] ⟨hx, hb, hml, hown, hts⟩ (c_Writer_place l D cI sd ad o_names r55 r2 r60 hcr60) (cwV2 hts q953 mvX5_place rfl rfl ⟨(Nat.le_of_ble_eq_true rfl), (Nat.le_of_ble_eq_true rfl)⟩) hK hE hA hP hD hS 0 (T := TX5) (N := 3) (ci := 5) rfl rfl [0, 9, 10, 11, 12, 13, 14, 15] rfl (by decide) rfl rfl rfl rfl rfl rfl hl.1 (Nat.le_of_ble_eq_true rfl) dX5_begin_81 ⟨Nat.zero_le _, Nat.zero_le _⟩ (fun H locs hP hD hS => ?_)
            refine lv_aload_n hx hb dX5_begin_84 rfl (lv_at hl 2 rfl) ?_
            refine lv_iload_n hx hb dX5_begin_85 rfl (lv_at hl 1 rfl) ?_
            refine lv_iload_n hx hb dX5_begin_86 rfl (lv_at hl 0 rfl) ?_
            obtain ⟨r61, hcr61, hM⟩ := ob_use hM
            refine cl_S (As := [.int r1, .int r2]) (rest := [.ref (ad 23)]) (wW ad ++ wT cI ad o_tree ++ wN cI ad o_names ++ wB cI (ad 3) (ad 4) 16384 r60) (.int r61 :: [.ref (ad 23)]) ⟨hx, hb, hml, hown, hts⟩ (c_Writer_nextToken l D cI sd ad r1 r2 r61 hcr61) (cwS2 hts q957 mvX5_nextToken rfl rfl ⟨(Nat.le_of_ble_eq_true rfl), (Nat.le_of_ble_eq_true rfl)⟩) hK hE hA hP hD hS [] rfl (by decide) rfl rfl rfl rfl rfl rfl hl.1 (Nat.le_of_ble_eq_true rfl) dX5_begin_87 ⟨Nat.zero_le _, Nat.zero_le _⟩ (fun H locs hP hD hS => ?_)
            obtain ⟨r62, hcr62, hM⟩ := ob_use hM
            refine cl_V (As := [.int r61]) (rest := []) (wW ad ++ wT cI ad o_tree ++ wN cI ad o_names ++ wB cI (ad 3) (ad 4) 16384 r62) [] ⟨hx, hb, hml, hown, hts⟩ (c_Writer_token l D cI sd ad o_names r60 r61 r62 hcr62) (cwV2 hts q872 mvX5_token rfl rfl ⟨(Nat.le_of_ble_eq_true rfl), (Nat.le_of_ble_eq_true rfl)⟩) hK hE hA hP hD hS 0 (T := TX5) (N := 3) (ci := 5) rfl rfl [0, 9, 10, 11, 12, 13, 14, 15] rfl (by decide) rfl rfl rfl rfl rfl rfl hl.1 (Nat.le_of_ble_eq_true rfl) dX5_begin_90 ⟨Nat.zero_le _, Nat.zero_le _⟩ (fun H locs hP hD hS => ?_)
            cases hM
            exact rt_v hx hb hr hlk hP hD hS rfl dX5_begin_93
        · replace hM := if_t c56 hM
          refine lv_aload_n hx hb dX5_begin_68 rfl (lv_at hl 2 rfl) ?_
          refine lv_iload_n hx hb dX5_begin_69 rfl (lv_at hl 0 rfl) ?_
          obtain ⟨r63, hcr63, hM⟩ := ob_use hM
          refine cl_V (As := [.int r2]) (rest := []) (wW ad ++ wT cI ad o_tree ++ wN cI ad o_names ++ wB cI (ad 3) (ad 4) 16384 r63) [] ⟨hx, hb, hml, hown, hts⟩ (c_Writer_number l D cI sd ad o_names r55 r2 r63 hcr63) (cwV2 hts q941 mvX5_number rfl rfl ⟨(Nat.le_of_ble_eq_true rfl), (Nat.le_of_ble_eq_true rfl)⟩) hK hE hA hP hD hS 0 (T := TX5) (N := 3) (ci := 5) rfl rfl [0, 9, 10, 11, 12, 13, 14, 15] rfl (by decide) rfl rfl rfl rfl rfl rfl hl.1 (Nat.le_of_ble_eq_true rfl) dX5_begin_70 ⟨Nat.zero_le _, Nat.zero_le _⟩ (fun H locs hP hD hS => ?_)
          refine lv_iload_n hx hb dX5_begin_73 rfl (lv_at hl 1 rfl) ?_
          refine lv_bipush (v := 7) hx hb dX5_begin_74 (by decide) ?_
          refine lv_icmp_ne (tgt := 84) hx hb dX5_begin_76 (by decide) (fun c64 => ?_) (fun c64 => ?_)
          · replace hM := if_f c64 hM
            refine lv_aload_n hx hb dX5_begin_84 rfl (lv_at hl 2 rfl) ?_
            refine lv_iload_n hx hb dX5_begin_85 rfl (lv_at hl 1 rfl) ?_
            refine lv_iload_n hx hb dX5_begin_86 rfl (lv_at hl 0 rfl) ?_
            obtain ⟨r65, hcr65, hM⟩ := ob_use hM
            refine cl_S (As := [.int r1, .int r2]) (rest := [.ref (ad 23)]) (wW ad ++ wT cI ad o_tree ++ wN cI ad o_names ++ wB cI (ad 3) (ad 4) 16384 r63) (.int r65 :: [.ref (ad 23)]) ⟨hx, hb, hml, hown, hts⟩ (c_Writer_nextToken l D cI sd ad r1 r2 r65 hcr65) (cwS2 hts q957 mvX5_nextToken rfl rfl ⟨(Nat.le_of_ble_eq_true rfl), (Nat.le_of_ble_eq_true rfl)⟩) hK hE hA hP hD hS [] rfl (by decide) rfl rfl rfl rfl rfl rfl hl.1 (Nat.le_of_ble_eq_true rfl) dX5_begin_87 ⟨Nat.zero_le _, Nat.zero_le _⟩ (fun H locs hP hD hS => ?_)
            obtain ⟨r66, hcr66, hM⟩ := ob_use hM
            refine cl_V (As := [.int r65]) (rest := []) (wW ad ++ wT cI ad o_tree ++ wN cI ad o_names ++ wB cI (ad 3) (ad 4) 16384 r66) [] ⟨hx, hb, hml, hown, hts⟩ (c_Writer_token l D cI sd ad o_names r63 r65 r66 hcr66) (cwV2 hts q872 mvX5_token rfl rfl ⟨(Nat.le_of_ble_eq_true rfl), (Nat.le_of_ble_eq_true rfl)⟩) hK hE hA hP hD hS 0 (T := TX5) (N := 3) (ci := 5) rfl rfl [0, 9, 10, 11, 12, 13, 14, 15] rfl (by decide) rfl rfl rfl rfl rfl rfl hl.1 (Nat.le_of_ble_eq_true rfl) dX5_begin_90 ⟨Nat.zero_le _, Nat.zero_le _⟩ (fun H locs hP hD hS => ?_)
            cases hM
            exact rt_v hx hb hr hlk hP hD hS rfl dX5_begin_93
          · replace hM := if_t c64 hM
            refine lv_aload_n hx hb dX5_begin_79 rfl (lv_at hl 2 rfl) ?_
            refine lv_iload_n hx hb dX5_begin_80 rfl (lv_at hl 0 rfl) ?_
            obtain ⟨r67, hcr67, hM⟩ := ob_use hM
            refine cl_V (As := [.int r2]) (rest := []) (wW ad ++ wT cI ad o_tree ++ wN cI ad o_names ++ wB cI (ad 3) (ad 4) 16384 r67) [] ⟨hx, hb, hml, hown, hts⟩ (c_Writer_place l D cI sd ad o_names r63 r2 r67 hcr67) (cwV2 hts q953 mvX5_place rfl rfl ⟨(Nat.le_of_ble_eq_true rfl), (Nat.le_of_ble_eq_true rfl)⟩) hK hE hA hP hD hS 0 (T := TX5) (N := 3) (ci := 5) rfl rfl [0, 9, 10, 11, 12, 13, 14, 15] rfl (by decide) rfl rfl rfl rfl rfl rfl hl.1 (Nat.le_of_ble_eq_true rfl) dX5_begin_81 ⟨Nat.zero_le _, Nat.zero_le _⟩ (fun H locs hP hD hS => ?_)
            refine lv_aload_n hx hb dX5_begin_84 rfl (lv_at hl 2 rfl) ?_
            refine lv_iload_n hx hb dX5_begin_85 rfl (lv_at hl 1 rfl) ?_
            refine lv_iload_n hx hb dX5_begin_86 rfl (lv_at hl 0 rfl) ?_
            obtain ⟨r68, hcr68, hM⟩ := ob_use hM
            refine cl_S (As := [.int r1, .int r2]) (rest := [.ref (ad 23)]) (wW ad ++ wT cI ad o_tree ++ wN cI ad o_names ++ wB cI (ad 3) (ad 4) 16384 r67) (.int r68 :: [.ref (ad 23)]) ⟨hx, hb, hml, hown, hts⟩ (c_Writer_nextToken l D cI sd ad r1 r2 r68 hcr68) (cwS2 hts q957 mvX5_nextToken rfl rfl ⟨(Nat.le_of_ble_eq_true rfl), (Nat.le_of_ble_eq_true rfl)⟩) hK hE hA hP hD hS [] rfl (by decide) rfl rfl rfl rfl rfl rfl hl.1 (Nat.le_of_ble_eq_true rfl) dX5_begin_87 ⟨Nat.zero_le _, Nat.zero_le _⟩ (fun H locs hP hD hS => ?_)
            obtain ⟨r69, hcr69, hM⟩ := ob_use hM
            refine cl_V (As := [.int r68]) (rest := []) (wW ad ++ wT cI ad o_tree ++ wN cI ad o_names ++ wB cI (ad 3) (ad 4) 16384 r69) [] ⟨hx, hb, hml, hown, hts⟩ (c_Writer_token l D cI sd ad o_names r67 r68 r69 hcr69) (cwV2 hts q872 mvX5_token rfl rfl ⟨(Nat.le_of_ble_eq_true rfl), (Nat.le_of_ble_eq_true rfl)⟩) hK hE hA hP hD hS 0 (T := TX5) (N := 3) (ci := 5) rfl rfl [0, 9, 10, 11, 12, 13, 14, 15] rfl (by decide) rfl rfl rfl rfl rfl rfl hl.1 (Nat.le_of_ble_eq_true rfl) dX5_begin_90 ⟨Nat.zero_le _, Nat.zero_le _⟩ (fun H locs hP hD hS => ?_)
            cases hM
            exact rt_v hx hb hr hlk hP hD hS rfl dX5_begin_93
    · replace hM := if_f c38 hM
      refine lv_aload_n hx hb dX5_begin_41 rfl (lv_at hl 2 rfl) ?_
      refine lv_bipush (v := 40) hx hb dX5_begin_42 (by decide) ?_
      obtain ⟨r70, hcr70, hM⟩ := ob_use hM
      refine cl_V (As := [.int 40]) (rest := []) (wW ad ++ wT cI ad o_tree ++ wN cI ad o_names ++ wB cI (ad 3) (ad 4) 16384 r70) [] ⟨hx, hb, hml, hown, hts⟩ (c_Writer_token l D cI sd ad o_names r4 40 r70 hcr70) (cwV2 hts q872 mvX5_token rfl rfl ⟨(Nat.le_of_ble_eq_true rfl), (Nat.le_of_ble_eq_true rfl)⟩) hK hE hA hP hD hS 0 (T := TX5) (N := 3) (ci := 5) rfl rfl [0, 9, 10, 11, 12, 13, 14, 15] rfl (by decide) rfl rfl rfl rfl rfl rfl hl.1 (Nat.le_of_ble_eq_true rfl) dX5_begin_44 ⟨Nat.zero_le _, Nat.zero_le _⟩ (fun H locs hP hD hS => ?_)
      refine lv_iload_n hx hb dX5_begin_47 rfl (lv_at hl 1 rfl) ?_
      obtain ⟨r71, hcr71, hM⟩ := ob_use hM
      refine cl_S (As := [.int r1]) (rest := []) (wW ad ++ wT cI ad o_tree ++ wN cI ad o_names ++ wB cI (ad 3) (ad 4) 16384 r70) (.int r71 :: []) ⟨hx, hb, hml, hown, hts⟩ (c_Writer_bearsName l D cI sd ad r1 r71 hcr71) (cwS2 hts q938 mvX5_bearsName rfl rfl ⟨(Nat.le_of_ble_eq_true rfl), (Nat.le_of_ble_eq_true rfl)⟩) hK hE hA hP hD hS [] rfl (by decide) rfl rfl rfl rfl rfl rfl hl.1 (Nat.le_of_ble_eq_true rfl) dX5_begin_48 ⟨Nat.zero_le _, Nat.zero_le _⟩ (fun H locs hP hD hS => ?_)
      refine lv_if_eq (tgt := 62) hx hb dX5_begin_51 (by decide) (fun c72 => ?_) (fun c72 => ?_)
      · replace hM := if_t c72 hM
        refine lv_iload_n hx hb dX5_begin_62 rfl (lv_at hl 1 rfl) ?_
        refine lv_bipush (v := 30) hx hb dX5_begin_63 (by decide) ?_
        refine lv_icmp_ne (tgt := 73) hx hb dX5_begin_65 (by decide) (fun c73 => ?_) (fun c73 => ?_)
        · replace hM := if_f c73 hM
          refine lv_iload_n hx hb dX5_begin_73 rfl (lv_at hl 1 rfl) ?_
          refine lv_bipush (v := 7) hx hb dX5_begin_74 (by decide) ?_
          refine lv_icmp_ne (tgt := 84) hx hb dX5_begin_76 (by decide) (fun c74 => ?_) (fun c74 => ?_)
          · replace hM := if_f c74 hM
            refine lv_aload_n hx hb dX5_begin_84 rfl (lv_at hl 2 rfl) ?_
            refine lv_iload_n hx hb dX5_begin_85 rfl (lv_at hl 1 rfl) ?_
            refine lv_iload_n hx hb dX5_begin_86 rfl (lv_at hl 0 rfl) ?_
            obtain ⟨r75, hcr75, hM⟩ := ob_use hM
            refine cl_S (As := [.int r1, .int r2]) (rest := [.ref (ad 23)]) (wW ad ++ wT cI ad o_tree ++ wN cI ad o_names ++ wB cI (ad 3) (ad 4) 16384 r70) (.int r75 :: [.ref (ad 23)]) ⟨hx, hb, hml, hown, hts⟩ (c_Writer_nextToken l D cI sd ad r1 r2 r75 hcr75) (cwS2 hts q957 mvX5_nextToken rfl rfl ⟨(Nat.le_of_ble_eq_true rfl), (Nat.le_of_ble_eq_true rfl)⟩) hK hE hA hP hD hS [] rfl (by decide) rfl rfl rfl rfl rfl rfl hl.1 (Nat.le_of_ble_eq_true rfl) dX5_begin_87 ⟨Nat.zero_le _, Nat.zero_le _⟩ (fun H locs hP hD hS => ?_)
            obtain ⟨r76, hcr76, hM⟩ := ob_use hM
            refine cl_V (As := [.int r75]) (rest := []) (wW ad ++ wT cI ad o_tree ++ wN cI ad o_names ++ wB cI (ad 3) (ad 4) 16384 r76) [] ⟨hx, hb, hml, hown, hts⟩ (c_Writer_token l D cI sd ad o_names r70 r75 r76 hcr76) (cwV2 hts q872 mvX5_token rfl rfl ⟨(Nat.le_of_ble_eq_true rfl), (Nat.le_of_ble_eq_true rfl)⟩) hK hE hA hP hD hS 0 (T := TX5) (N := 3) (ci := 5) rfl rfl [0, 9, 10, 11, 12, 13, 14, 15] rfl (by decide) rfl rfl rfl rfl rfl rfl hl.1 (Nat.le_of_ble_eq_true rfl) dX5_begin_90 ⟨Nat.zero_le _, Nat.zero_le _⟩ (fun H locs hP hD hS => ?_)
            cases hM
            exact rt_v hx hb hr hlk hP hD hS rfl dX5_begin_93
          · replace hM := if_t c74 hM
            refine lv_aload_n hx hb dX5_begin_79 rfl (lv_at hl 2 rfl) ?_
            refine lv_iload_n hx hb dX5_begin_80 rfl (lv_at hl 0 rfl) ?_
            obtain ⟨r77, hcr77, hM⟩ := ob_use hM
            refine cl_V (As := [.int r2]) (rest := []) (wW ad ++ wT cI ad o_tree ++ wN cI ad o_names ++ wB cI (ad 3) (ad 4) 16384 r77) [] ⟨hx, hb, hml, hown, hts⟩ (c_Writer_place l D cI sd ad o_names r70 r2 r77 hcr77) (cwV2 hts q953 mvX5_place rfl rfl ⟨(Nat.le_of_ble_eq_true rfl), (Nat.le_of_ble_eq_true rfl)⟩) hK hE hA hP hD hS 0 (T := TX5) (N := 3) (ci := 5) rfl rfl [0, 9, 10, 11, 12, 13, 14, 15] rfl (by decide) rfl rfl rfl rfl rfl rfl hl.1 (Nat.le_of_ble_eq_true rfl) dX5_begin_81 ⟨Nat.zero_le _, Nat.zero_le _⟩ (fun H locs hP hD hS => ?_)
            refine lv_aload_n hx hb dX5_begin_84 rfl (lv_at hl 2 rfl) ?_
            refine lv_iload_n hx hb dX5_begin_85 rfl (lv_at hl 1 rfl) ?_
            refine lv_iload_n hx hb dX5_begin_86 rfl (lv_at hl 0 rfl) ?_
            obtain ⟨r78, hcr78, hM⟩ := ob_use hM
            refine cl_S (As := [.int r1, .int r2]) (rest := [.ref (ad 23)]) (wW ad ++ wT cI ad o_tree ++ wN cI ad o_names ++ wB cI (ad 3) (ad 4) 16384 r77) (.int r78 :: [.ref (ad 23)]) ⟨hx, hb, hml, hown, hts⟩ (c_Writer_nextToken l D cI sd ad r1 r2 r78 hcr78) (cwS2 hts q957 mvX5_nextToken rfl rfl ⟨(Nat.le_of_ble_eq_true rfl), (Nat.le_of_ble_eq_true rfl)⟩) hK hE hA hP hD hS [] rfl (by decide) rfl rfl rfl rfl rfl rfl hl.1 (Nat.le_of_ble_eq_true rfl) dX5_begin_87 ⟨Nat.zero_le _, Nat.zero_le _⟩ (fun H locs hP hD hS => ?_)
            obtain ⟨r79, hcr79, hM⟩ := ob_use hM
            refine cl_V (As := [.int r78]) (rest := []) (wW ad ++ wT cI ad o_tree ++ wN cI ad o_names ++ wB cI (ad 3) (ad 4) 16384 r79) [] ⟨hx, hb, hml, hown, hts⟩ (c_Writer_token l D cI sd ad o_names r77 r78 r79 hcr79) (cwV2 hts q872 mvX5_token rfl rfl ⟨(Nat.le_of_ble_eq_true rfl), (Nat.le_of_ble_eq_true rfl)⟩) hK hE hA hP hD hS 0 (T := TX5) (N := 3) (ci := 5) rfl rfl [0, 9, 10, 11, 12, 13, 14, 15] rfl (by decide) rfl rfl rfl rfl rfl rfl hl.1 (Nat.le_of_ble_eq_true rfl) dX5_begin_90 ⟨Nat.zero_le _, Nat.zero_le _⟩ (fun H locs hP hD hS => ?_)
            cases hM
            exact rt_v hx hb hr hlk hP hD hS rfl dX5_begin_93
        · replace hM := if_t c73 hM
          refine lv_aload_n hx hb dX5_begin_68 rfl (lv_at hl 2 rfl) ?_
          refine lv_iload_n hx hb dX5_begin_69 rfl (lv_at hl 0 rfl) ?_
          obtain ⟨r80, hcr80, hM⟩ := ob_use hM
          refine cl_V (As := [.int r2]) (rest := []) (wW ad ++ wT cI ad o_tree ++ wN cI ad o_names ++ wB cI (ad 3) (ad 4) 16384 r80) [] ⟨hx, hb, hml, hown, hts⟩ (c_Writer_number l D cI sd ad o_names r70 r2 r80 hcr80) (cwV2 hts q941 mvX5_number rfl rfl ⟨(Nat.le_of_ble_eq_true rfl), (Nat.le_of_ble_eq_true rfl)⟩) hK hE hA hP hD hS 0 (T := TX5) (N := 3) (ci := 5) rfl rfl [0, 9, 10, 11, 12, 13, 14, 15] rfl (by decide) rfl rfl rfl rfl rfl rfl hl.1 (Nat.le_of_ble_eq_true rfl) dX5_begin_70 ⟨Nat.zero_le _, Nat.zero_le _⟩ (fun H locs hP hD hS => ?_)
          refine lv_iload_n hx hb dX5_begin_73 rfl (lv_at hl 1 rfl) ?_
          refine lv_bipush (v := 7) hx hb dX5_begin_74 (by decide) ?_
          refine lv_icmp_ne (tgt := 84) hx hb dX5_begin_76 (by decide) (fun c81 => ?_) (fun c81 => ?_)
          · replace hM := if_f c81 hM
            refine lv_aload_n hx hb dX5_begin_84 rfl (lv_at hl 2 rfl) ?_
            refine lv_iload_n hx hb dX5_begin_85 rfl (lv_at hl 1 rfl) ?_
            refine lv_iload_n hx hb dX5_begin_86 rfl (lv_at hl 0 rfl) ?_
            obtain ⟨r82, hcr82, hM⟩ := ob_use hM
            refine cl_S (As := [.int r1, .int r2]) (rest := [.ref (ad 23)]) (wW ad ++ wT cI ad o_tree ++ wN cI ad o_names ++ wB cI (ad 3) (ad 4) 16384 r80) (.int r82 :: [.ref (ad 23)]) ⟨hx, hb, hml, hown, hts⟩ (c_Writer_nextToken l D cI sd ad r1 r2 r82 hcr82) (cwS2 hts q957 mvX5_nextToken rfl rfl ⟨(Nat.le_of_ble_eq_true rfl), (Nat.le_of_ble_eq_true rfl)⟩) hK hE hA hP hD hS [] rfl (by decide) rfl rfl rfl rfl rfl rfl hl.1 (Nat.le_of_ble_eq_true rfl) dX5_begin_87 ⟨Nat.zero_le _, Nat.zero_le _⟩ (fun H locs hP hD hS => ?_)
            obtain ⟨r83, hcr83, hM⟩ := ob_use hM
            refine cl_V (As := [.int r82]) (rest := []) (wW ad ++ wT cI ad o_tree ++ wN cI ad o_names ++ wB cI (ad 3) (ad 4) 16384 r83) [] ⟨hx, hb, hml, hown, hts⟩ (c_Writer_token l D cI sd ad o_names r80 r82 r83 hcr83) (cwV2 hts q872 mvX5_token rfl rfl ⟨(Nat.le_of_ble_eq_true rfl), (Nat.le_of_ble_eq_true rfl)⟩) hK hE hA hP hD hS 0 (T := TX5) (N := 3) (ci := 5) rfl rfl [0, 9, 10, 11, 12, 13, 14, 15] rfl (by decide) rfl rfl rfl rfl rfl rfl hl.1 (Nat.le_of_ble_eq_true rfl) dX5_begin_90 ⟨Nat.zero_le _, Nat.zero_le _⟩ (fun H locs hP hD hS => ?_)
            cases hM
            exact rt_v hx hb hr hlk hP hD hS rfl dX5_begin_93
          · replace hM := if_t c81 hM
            refine lv_aload_n hx hb dX5_begin_79 rfl (lv_at hl 2 rfl) ?_
            refine lv_iload_n hx hb dX5_begin_80 rfl (lv_at hl 0 rfl) ?_
            obtain ⟨r84, hcr84, hM⟩ := ob_use hM
            refine cl_V (As := [.int r2]) (rest := []) (wW ad ++ wT cI ad o_tree ++ wN cI ad o_names ++ wB cI (ad 3) (ad 4) 16384 r84) [] ⟨hx, hb, hml, hown, hts⟩ (c_Writer_place l D cI sd ad o_names r80 r2 r84 hcr84) (cwV2 hts q953 mvX5_place rfl rfl ⟨(Nat.le_of_ble_eq_true rfl), (Nat.le_of_ble_eq_true rfl)⟩) hK hE hA hP hD hS 0 (T := TX5) (N := 3) (ci := 5) rfl rfl [0, 9, 10, 11, 12, 13, 14, 15] rfl (by decide) rfl rfl rfl rfl rfl rfl hl.1 (Nat.le_of_ble_eq_true rfl) dX5_begin_81 ⟨Nat.zero_le _, Nat.zero_le _⟩ (fun H locs hP hD hS => ?_)
            refine lv_aload_n hx hb dX5_begin_84 rfl (lv_at hl 2 rfl) ?_
            refine lv_iload_n hx hb dX5_begin_85 rfl (lv_at hl 1 rfl) ?_
            refine lv_iload_n hx hb dX5_begin_86 rfl (lv_at hl 0 rfl) ?_
            obtain ⟨r85, hcr85, hM⟩ := ob_use hM
            refine cl_S (As := [.int r1, .int r2]) (rest := [.ref (ad 23)]) (wW ad ++ wT cI ad o_tree ++ wN cI ad o_names ++ wB cI (ad 3) (ad 4) 16384 r84) (.int r85 :: [.ref (ad 23)]) ⟨hx, hb, hml, hown, hts⟩ (c_Writer_nextToken l D cI sd ad r1 r2 r85 hcr85) (cwS2 hts q957 mvX5_nextToken rfl rfl ⟨(Nat.le_of_ble_eq_true rfl), (Nat.le_of_ble_eq_true rfl)⟩) hK hE hA hP hD hS [] rfl (by decide) rfl rfl rfl rfl rfl rfl hl.1 (Nat.le_of_ble_eq_true rfl) dX5_begin_87 ⟨Nat.zero_le _, Nat.zero_le _⟩ (fun H locs hP hD hS => ?_)
            obtain ⟨r86, hcr86, hM⟩ := ob_use hM
            refine cl_V (As := [.int r85]) (rest := []) (wW ad ++ wT cI ad o_tree ++ wN cI ad o_names ++ wB cI (ad 3) (ad 4) 16384 r86) [] ⟨hx, hb, hml, hown, hts⟩ (c_Writer_token l D cI sd ad o_names r84 r85 r86 hcr86) (cwV2 hts q872 mvX5_token rfl rfl ⟨(Nat.le_of_ble_eq_true rfl), (Nat.le_of_ble_eq_true rfl)⟩) hK hE hA hP hD hS 0 (T := TX5) (N := 3) (ci := 5) rfl rfl [0, 9, 10, 11, 12, 13, 14, 15] rfl (by decide) rfl rfl rfl rfl rfl rfl hl.1 (Nat.le_of_ble_eq_true rfl) dX5_begin_90 ⟨Nat.zero_le _, Nat.zero_le _⟩ (fun H locs hP hD hS => ?_)
            cases hM
            exact rt_v hx hb hr hlk hP hD hS rfl dX5_begin_93
      · replace hM := if_f c72 hM
        refine lv_aload_n hx hb dX5_begin_54 rfl (lv_at hl 2 rfl) ?_
        refine lv_bipush (v := 41) hx hb dX5_begin_55 (by decide) ?_
        refine lv_iload_n hx hb dX5_begin_57 rfl (lv_at hl 0 rfl) ?_
        refine lv_iadd hx hb dX5_begin_58 ?_
        obtain ⟨r87, hcr87, hM⟩ := ob_use hM
        refine cl_V (As := [.int (41 + r2)]) (rest := []) (wW ad ++ wT cI ad o_tree ++ wN cI ad o_names ++ wB cI (ad 3) (ad 4) 16384 r87) [] ⟨hx, hb, hml, hown, hts⟩ (c_Writer_word l D cI sd ad o_names r70 (41 + r2) r87 hcr87) (cwV2 hts q876 mvX5_word rfl rfl ⟨(Nat.le_of_ble_eq_true rfl), (Nat.le_of_ble_eq_true rfl)⟩) hK hE hA hP hD hS 0 (T := TX5) (N := 3) (ci := 5) rfl rfl [0, 9, 10, 11, 12, 13, 14, 15] rfl (by decide) rfl rfl rfl rfl rfl rfl hl.1 (Nat.le_of_ble_eq_true rfl) dX5_begin_59 ⟨Nat.zero_le _, Nat.zero_le _⟩ (fun H locs hP hD hS => ?_)
        refine lv_iload_n hx hb dX5_begin_62 rfl (lv_at hl 1 rfl) ?_
        refine lv_bipush (v := 30) hx hb dX5_begin_63 (by decide) ?_
        refine lv_icmp_ne (tgt := 73) hx hb dX5_begin_65 (by decide) (fun c88 => ?_) (fun c88 => ?_)
        · replace hM := if_f c88 hM
          refine lv_iload_n hx hb dX5_begin_73 rfl (lv_at hl 1 rfl) ?_
          refine lv_bipush (v := 7) hx hb dX5_begin_74 (by decide) ?_
          refine lv_icmp_ne (tgt := 84) hx hb dX5_begin_76 (by decide) (fun c89 => ?_) (fun c89 => ?_)
          · replace hM := if_f c89 hM
            refine lv_aload_n hx hb dX5_begin_84 rfl (lv_at hl 2 rfl) ?_
            refine lv_iload_n hx hb dX5_begin_85 rfl (lv_at hl 1 rfl) ?_
            refine lv_iload_n hx hb dX5_begin_86 rfl (lv_at hl 0 rfl) ?_
            obtain ⟨r90, hcr90, hM⟩ := ob_use hM
            refine cl_S (As := [.int r1, .int r2]) (rest := [.ref (ad 23)]) (wW ad ++ wT cI ad o_tree ++ wN cI ad o_names ++ wB cI (ad 3) (ad 4) 16384 r87) (.int r90 :: [.ref (ad 23)]) ⟨hx, hb, hml, hown, hts⟩ (c_Writer_nextToken l D cI sd ad r1 r2 r90 hcr90) (cwS2 hts q957 mvX5_nextToken rfl rfl ⟨(Nat.le_of_ble_eq_true rfl), (Nat.le_of_ble_eq_true rfl)⟩) hK hE hA hP hD hS [] rfl (by decide) rfl rfl rfl rfl rfl rfl hl.1 (Nat.le_of_ble_eq_true rfl) dX5_begin_87 ⟨Nat.zero_le _, Nat.zero_le _⟩ (fun H locs hP hD hS => ?_)
            obtain ⟨r91, hcr91, hM⟩ := ob_use hM
            refine cl_V (As := [.int r90]) (rest := []) (wW ad ++ wT cI ad o_tree ++ wN cI ad o_names ++ wB cI (ad 3) (ad 4) 16384 r91) [] ⟨hx, hb, hml, hown, hts⟩ (c_Writer_token l D cI sd ad o_names r87 r90 r91 hcr91) (cwV2 hts q872 mvX5_token rfl rfl ⟨(Nat.le_of_ble_eq_true rfl), (Nat.le_of_ble_eq_true rfl)⟩) hK hE hA hP hD hS 0 (T := TX5) (N := 3) (ci := 5) rfl rfl [0, 9, 10, 11, 12, 13, 14, 15] rfl (by decide) rfl rfl rfl rfl rfl rfl hl.1 (Nat.le_of_ble_eq_true rfl) dX5_begin_90 ⟨Nat.zero_le _, Nat.zero_le _⟩ (fun H locs hP hD hS => ?_)
            cases hM
            exact rt_v hx hb hr hlk hP hD hS rfl dX5_begin_93
          · replace hM := if_t c89 hM
            refine lv_aload_n hx hb dX5_begin_79 rfl (lv_at hl 2 rfl) ?_
            refine lv_iload_n hx hb dX5_begin_80 rfl (lv_at hl 0 rfl) ?_
            obtain ⟨r92, hcr92, hM⟩ := ob_use hM
            refine cl_V (As := [.int r2]) (rest := []) (wW ad ++ wT cI ad o_tree ++ wN cI ad o_names ++ wB cI (ad 3) (ad 4) 16384 r92) [] ⟨hx, hb, hml, hown, hts⟩ (c_Writer_place l D cI sd ad o_names r87 r2 r92 hcr92) (cwV2 hts q953 mvX5_place rfl rfl ⟨(Nat.le_of_ble_eq_true rfl), (Nat.le_of_ble_eq_true rfl)⟩) hK hE hA hP hD hS 0 (T := TX5) (N := 3) (ci := 5) rfl rfl [0, 9, 10, 11, 12, 13, 14, 15] rfl (by decide) rfl rfl rfl rfl rfl rfl hl.1 (Nat.le_of_ble_eq_true rfl) dX5_begin_81 ⟨Nat.zero_le _, Nat.zero_le _⟩ (fun H locs hP hD hS => ?_)
            refine lv_aload_n hx hb dX5_begin_84 rfl (lv_at hl 2 rfl) ?_
            refine lv_iload_n hx hb dX5_begin_85 rfl (lv_at hl 1 rfl) ?_
            refine lv_iload_n hx hb dX5_begin_86 rfl (lv_at hl 0 rfl) ?_
            obtain ⟨r93, hcr93, hM⟩ := ob_use hM
            refine cl_S (As := [.int r1, .int r2]) (rest := [.ref (ad 23)]) (wW ad ++ wT cI ad o_tree ++ wN cI ad o_names ++ wB cI (ad 3) (ad 4) 16384 r92) (.int r93 :: [.ref (ad 23)]) ⟨hx, hb, hml, hown, hts⟩ (c_Writer_nextToken l D cI sd ad r1 r2 r93 hcr93) (cwS2 hts q957 mvX5_nextToken rfl rfl ⟨(Nat.le_of_ble_eq_true rfl), (Nat.le_of_ble_eq_true rfl)⟩) hK hE hA hP hD hS [] rfl (by decide) rfl rfl rfl rfl rfl rfl hl.1 (Nat.le_of_ble_eq_true rfl) dX5_begin_87 ⟨Nat.zero_le _, Nat.zero_le _⟩ (fun H locs hP hD hS => ?_)
            obtain ⟨r94, hcr94, hM⟩ := ob_use hM
            refine cl_V (As := [.int r93]) (rest := []) (wW ad ++ wT cI ad o_tree ++ wN cI ad o_names ++ wB cI (ad 3) (ad 4) 16384 r94) [] ⟨hx, hb, hml, hown, hts⟩ (c_Writer_token l D cI sd ad o_names r92 r93 r94 hcr94) (cwV2 hts q872 mvX5_token rfl rfl ⟨(Nat.le_of_ble_eq_true rfl), (Nat.le_of_ble_eq_true rfl)⟩) hK hE hA hP hD hS 0 (T := TX5) (N := 3) (ci := 5) rfl rfl [0, 9, 10, 11, 12, 13, 14, 15] rfl (by decide) rfl rfl rfl rfl rfl rfl hl.1 (Nat.le_of_ble_eq_true rfl) dX5_begin_90 ⟨Nat.zero_le _, Nat.zero_le _⟩ (fun H locs hP hD hS => ?_)
            cases hM
            exact rt_v hx hb hr hlk hP hD hS rfl dX5_begin_93
        · replace hM := if_t c88 hM
          refine lv_aload_n hx hb dX5_begin_68 rfl (lv_at hl 2 rfl) ?_
          refine lv_iload_n hx hb dX5_begin_69 rfl (lv_at hl 0 rfl) ?_
          obtain ⟨r95, hcr95, hM⟩ := ob_use hM
          refine cl_V (As := [.int r2]) (rest := []) (wW ad ++ wT cI ad o_tree ++ wN cI ad o_names ++ wB cI (ad 3) (ad 4) 16384 r95) [] ⟨hx, hb, hml, hown, hts⟩ (c_Writer_number l D cI sd ad o_names r87 r2 r95 hcr95) (cwV2 hts q941 mvX5_number rfl rfl ⟨(Nat.le_of_ble_eq_true rfl), (Nat.le_of_ble_eq_true rfl)⟩) hK hE hA hP hD hS 0 (T := TX5) (N := 3) (ci := 5) rfl rfl [0, 9, 10, 11, 12, 13, 14, 15] rfl (by decide) rfl rfl rfl rfl rfl rfl hl.1 (Nat.le_of_ble_eq_true rfl) dX5_begin_70 ⟨Nat.zero_le _, Nat.zero_le _⟩ (fun H locs hP hD hS => ?_)
          refine lv_iload_n hx hb dX5_begin_73 rfl (lv_at hl 1 rfl) ?_
          refine lv_bipush (v := 7) hx hb dX5_begin_74 (by decide) ?_
          refine lv_icmp_ne (tgt := 84) hx hb dX5_begin_76 (by decide) (fun c96 => ?_) (fun c96 => ?_)
          · replace hM := if_f c96 hM
            refine lv_aload_n hx hb dX5_begin_84 rfl (lv_at hl 2 rfl) ?_
            refine lv_iload_n hx hb dX5_begin_85 rfl (lv_at hl 1 rfl) ?_
            refine lv_iload_n hx hb dX5_begin_86 rfl (lv_at hl 0 rfl) ?_
            obtain ⟨r97, hcr97, hM⟩ := ob_use hM
            refine cl_S (As := [.int r1, .int r2]) (rest := [.ref (ad 23)]) (wW ad ++ wT cI ad o_tree ++ wN cI ad o_names ++ wB cI (ad 3) (ad 4) 16384 r95) (.int r97 :: [.ref (ad 23)]) ⟨hx, hb, hml, hown, hts⟩ (c_Writer_nextToken l D cI sd ad r1 r2 r97 hcr97) (cwS2 hts q957 mvX5_nextToken rfl rfl ⟨(Nat.le_of_ble_eq_true rfl), (Nat.le_of_ble_eq_true rfl)⟩) hK hE hA hP hD hS [] rfl (by decide) rfl rfl rfl rfl rfl rfl hl.1 (Nat.le_of_ble_eq_true rfl) dX5_begin_87 ⟨Nat.zero_le _, Nat.zero_le _⟩ (fun H locs hP hD hS => ?_)
            obtain ⟨r98, hcr98, hM⟩ := ob_use hM
            refine cl_V (As := [.int r97]) (rest := []) (wW ad ++ wT cI ad o_tree ++ wN cI ad o_names ++ wB cI (ad 3) (ad 4) 16384 r98) [] ⟨hx, hb, hml, hown, hts⟩ (c_Writer_token l D cI sd ad o_names r95 r97 r98 hcr98) (cwV2 hts q872 mvX5_token rfl rfl ⟨(Nat.le_of_ble_eq_true rfl), (Nat.le_of_ble_eq_true rfl)⟩) hK hE hA hP hD hS 0 (T := TX5) (N := 3) (ci := 5) rfl rfl [0, 9, 10, 11, 12, 13, 14, 15] rfl (by decide) rfl rfl rfl rfl rfl rfl hl.1 (Nat.le_of_ble_eq_true rfl) dX5_begin_90 ⟨Nat.zero_le _, Nat.zero_le _⟩ (fun H locs hP hD hS => ?_)
            cases hM
            exact rt_v hx hb hr hlk hP hD hS rfl dX5_begin_93
          · replace hM := if_t c96 hM
            refine lv_aload_n hx hb dX5_begin_79 rfl (lv_at hl 2 rfl) ?_
            refine lv_iload_n hx hb dX5_begin_80 rfl (lv_at hl 0 rfl) ?_
            obtain ⟨r99, hcr99, hM⟩ := ob_use hM
            refine cl_V (As := [.int r2]) (rest := []) (wW ad ++ wT cI ad o_tree ++ wN cI ad o_names ++ wB cI (ad 3) (ad 4) 16384 r99) [] ⟨hx, hb, hml, hown, hts⟩ (c_Writer_place l D cI sd ad o_names r95 r2 r99 hcr99) (cwV2 hts q953 mvX5_place rfl rfl ⟨(Nat.le_of_ble_eq_true rfl), (Nat.le_of_ble_eq_true rfl)⟩) hK hE hA hP hD hS 0 (T := TX5) (N := 3) (ci := 5) rfl rfl [0, 9, 10, 11, 12, 13, 14, 15] rfl (by decide) rfl rfl rfl rfl rfl rfl hl.1 (Nat.le_of_ble_eq_true rfl) dX5_begin_81 ⟨Nat.zero_le _, Nat.zero_le _⟩ (fun H locs hP hD hS => ?_)
            refine lv_aload_n hx hb dX5_begin_84 rfl (lv_at hl 2 rfl) ?_
            refine lv_iload_n hx hb dX5_begin_85 rfl (lv_at hl 1 rfl) ?_
            refine lv_iload_n hx hb dX5_begin_86 rfl (lv_at hl 0 rfl) ?_
            obtain ⟨r100, hcr100, hM⟩ := ob_use hM
            refine cl_S (As := [.int r1, .int r2]) (rest := [.ref (ad 23)]) (wW ad ++ wT cI ad o_tree ++ wN cI ad o_names ++ wB cI (ad 3) (ad 4) 16384 r99) (.int r100 :: [.ref (ad 23)]) ⟨hx, hb, hml, hown, hts⟩ (c_Writer_nextToken l D cI sd ad r1 r2 r100 hcr100) (cwS2 hts q957 mvX5_nextToken rfl rfl ⟨(Nat.le_of_ble_eq_true rfl), (Nat.le_of_ble_eq_true rfl)⟩) hK hE hA hP hD hS [] rfl (by decide) rfl rfl rfl rfl rfl rfl hl.1 (Nat.le_of_ble_eq_true rfl) dX5_begin_87 ⟨Nat.zero_le _, Nat.zero_le _⟩ (fun H locs hP hD hS => ?_)
            obtain ⟨r101, hcr101, hM⟩ := ob_use hM
            refine cl_V (As := [.int r100]) (rest := []) (wW ad ++ wT cI ad o_tree ++ wN cI ad o_names ++ wB cI (ad 3) (ad 4) 16384 r101) [] ⟨hx, hb, hml, hown, hts⟩ (c_Writer_token l D cI sd ad o_names r99 r100 r101 hcr101) (cwV2 hts q872 mvX5_token rfl rfl ⟨(Nat.le_of_ble_eq_true rfl), (Nat.le_of_ble_eq_true rfl)⟩) hK hE hA hP hD hS 0 (T := TX5) (N := 3) (ci := 5) rfl rfl [0, 9, 10, 11, 12, 13, 14, 15] rfl (by decide) rfl rfl rfl rfl rfl rfl hl.1 (Nat.le_of_ble_eq_true rfl) dX5_begin_90 ⟨Nat.zero_le _, Nat.zero_le _⟩ (fun H locs hP hD hS => ?_)
            cases hM
            exact rt_v hx hb hr hlk hP hD hS rfl dX5_begin_93

set_option maxHeartbeats 4000000 in
set_option maxRecDepth 100000 in
theorem c_Writer_endsBySemicolon (l : Launch) (D : va_G) (cI : ClassId) (sd : Nat → Nat) (ad : Nat → Nat) (a1 : Int32) (res : Int32) (hM : f_Writer_endsBySemicolon a1 = some res) : Ctr l D cI sd yX5_endsBySemicolon (wsM yX5_endsBySemicolon cX5_endsBySemicolon 1 (Option.some Jvm.ClassFile.FieldType.boolean)) { frames := 0, cells := 0, slots := 0, locals := 0 } [.int a1] (([] : va_W)) (([] : va_W)) (some (.int res)) := by
  refine Ctr.of (cc := cX5_endsBySemicolon) (maxL := 1) (own := RX5) (by decide +kernel) rfl rfl (Nat.le_of_ble_eq_true rfl) ?_
  intro p e s m below meth c A ls hx hb hr hml hown hts hlk hK hE hA hP hD hS hl
  have hl : lv_has ls 1 [(0, .int a1)] := hl
  unfold f_Writer_endsBySemicolon at hM
  refine lv_iload_n hx hb dX5_endsBySemicolon_0 rfl (lv_at hl 0 rfl) ?_
  by_cases c1 : a1 = 5
  · replace hM := if_t c1 hM
    refine lv_tableIn (tgt := 96) hx hb dX5_endsBySemicolon_1 (by rw [c1]; decide) (by rw [c1]; decide) (by rw [c1]; rfl) (by decide) ?_
    refine lv_iconst (v := 1) hx hb dX5_endsBySemicolon_96 (by decide) ?_
    cases hM
    exact rt_z hx hb hr hlk (by decide) hP hD hS rfl dX5_endsBySemicolon_97
  replace hM := if_f c1 hM
  by_cases c2 : a1 = 6
  · replace hM := if_t c2 hM
    refine lv_tableIn (tgt := 98) hx hb dX5_endsBySemicolon_1 (by rw [c2]; decide) (by rw [c2]; decide) (by rw [c2]; rfl) (by decide) ?_
    refine lv_iconst (v := 0) hx hb dX5_endsBySemicolon_98 (by decide) ?_
    cases hM
    exact rt_z hx hb hr hlk (by decide) hP hD hS rfl dX5_endsBySemicolon_99
  replace hM := if_f c2 hM
  by_cases c3 : a1 = 7
  · replace hM := if_t c3 hM
    refine lv_tableIn (tgt := 98) hx hb dX5_endsBySemicolon_1 (by rw [c3]; decide) (by rw [c3]; decide) (by rw [c3]; rfl) (by decide) ?_
    refine lv_iconst (v := 0) hx hb dX5_endsBySemicolon_98 (by decide) ?_
    cases hM
    exact rt_z hx hb hr hlk (by decide) hP hD hS rfl dX5_endsBySemicolon_99
  replace hM := if_f c3 hM
  by_cases c4 : a1 = 8
  · replace hM := if_t c4 hM
    refine lv_tableIn (tgt := 98) hx hb dX5_endsBySemicolon_1 (by rw [c4]; decide) (by rw [c4]; decide) (by rw [c4]; rfl) (by decide) ?_
    refine lv_iconst (v := 0) hx hb dX5_endsBySemicolon_98 (by decide) ?_
    cases hM
    exact rt_z hx hb hr hlk (by decide) hP hD hS rfl dX5_endsBySemicolon_99
  replace hM := if_f c4 hM
  by_cases c5 : a1 = 9
  · replace hM := if_t c5 hM
    refine lv_tableIn (tgt := 98) hx hb dX5_endsBySemicolon_1 (by rw [c5]; decide) (by rw [c5]; decide) (by rw [c5]; rfl) (by decide) ?_
    refine lv_iconst (v := 0) hx hb dX5_endsBySemicolon_98 (by decide) ?_
    cases hM
    exact rt_z hx hb hr hlk (by decide) hP hD hS rfl dX5_endsBySemicolon_99
  replace hM := if_f c5 hM
  by_cases c6 : a1 = 10
  · replace hM := if_t c6 hM
    refine lv_tableIn (tgt := 98) hx hb dX5_endsBySemicolon_1 (by rw [c6]; decide) (by rw [c6]; decide) (by rw [c6]; rfl) (by decide) ?_
    refine lv_iconst (v := 0) hx hb dX5_endsBySemicolon_98 (by decide) ?_
    cases hM
    exact rt_z hx hb hr hlk (by decide) hP hD hS rfl dX5_endsBySemicolon_99
  replace hM := if_f c6 hM
  by_cases c7 : a1 = 11
  · replace hM := if_t c7 hM
    refine lv_tableIn (tgt := 98) hx hb dX5_endsBySemicolon_1 (by rw [c7]; decide) (by rw [c7]; decide) (by rw [c7]; rfl) (by decide) ?_
    refine lv_iconst (v := 0) hx hb dX5_endsBySemicolon_98 (by decide) ?_
    cases hM
    exact rt_z hx hb hr hlk (by decide) hP hD hS rfl dX5_endsBySemicolon_99
  replace hM := if_f c7 hM
  by_cases c8 : a1 = 12
  · replace hM := if_t c8 hM
    refine lv_tableIn (tgt := 96) hx hb dX5_endsBySemicolon_1 (by rw [c8]; decide) (by rw [c8]; decide) (by rw [c8]; rfl) (by decide) ?_
    refine lv_iconst (v := 1) hx hb dX5_endsBySemicolon_96 (by decide) ?_
    cases hM
    exact rt_z hx hb hr hlk (by decide) hP hD hS rfl dX5_endsBySemicolon_97
  replace hM := if_f c8 hM
  by_cases c9 : a1 = 13
  · replace hM := if_t c9 hM
    refine lv_tableIn (tgt := 96) hx hb dX5_endsBySemicolon_1 (by rw [c9]; decide) (by rw [c9]; decide) (by rw [c9]; rfl) (by decide) ?_
    refine lv_iconst (v := 1) hx hb dX5_endsBySemicolon_96 (by decide) ?_
    cases hM
    exact rt_z hx hb hr hlk (by decide) hP hD hS rfl dX5_endsBySemicolon_97
  replace hM := if_f c9 hM
  by_cases c10 : a1 = 14
  · replace hM := if_t c10 hM
    refine lv_tableIn (tgt := 98) hx hb dX5_endsBySemicolon_1 (by rw [c10]; decide) (by rw [c10]; decide) (by rw [c10]; rfl) (by decide) ?_
    refine lv_iconst (v := 0) hx hb dX5_endsBySemicolon_98 (by decide) ?_
    cases hM
    exact rt_z hx hb hr hlk (by decide) hP hD hS rfl dX5_endsBySemicolon_99
  replace hM := if_f c10 hM
  by_cases c11 : a1 = 15
  · replace hM := if_t c11 hM
    refine lv_tableIn (tgt := 96) hx hb dX5_endsBySemicolon_1 (by rw [c11]; decide) (by rw [c11]; decide) (by rw [c11]; rfl) (by decide) ?_
    refine lv_iconst (v := 1) hx hb dX5_endsBySemicolon_96 (by decide) ?_
    cases hM
    exact rt_z hx hb hr hlk (by decide) hP hD hS rfl dX5_endsBySemicolon_97
  replace hM := if_f c11 hM
  by_cases c12 : a1 = 16
  · replace hM := if_t c12 hM
    refine lv_tableIn (tgt := 96) hx hb dX5_endsBySemicolon_1 (by rw [c12]; decide) (by rw [c12]; decide) (by rw [c12]; rfl) (by decide) ?_
    refine lv_iconst (v := 1) hx hb dX5_endsBySemicolon_96 (by decide) ?_
    cases hM
    exact rt_z hx hb hr hlk (by decide) hP hD hS rfl dX5_endsBySemicolon_97
  replace hM := if_f c12 hM
  by_cases c13 : a1 = 17
  · replace hM := if_t c13 hM
    refine lv_tableIn (tgt := 98) hx hb dX5_endsBySemicolon_1 (by rw [c13]; decide) (by rw [c13]; decide) (by rw [c13]; rfl) (by decide) ?_
    refine lv_iconst (v := 0) hx hb dX5_endsBySemicolon_98 (by decide) ?_
    cases hM
    exact rt_z hx hb hr hlk (by decide) hP hD hS rfl dX5_endsBySemicolon_99
  replace hM := if_f c13 hM
  by_cases c14 : a1 = 18
  · replace hM := if_t c14 hM
    refine lv_tableIn (tgt := 98) hx hb dX5_endsBySemicolon_1 (by rw [c14]; decide) (by rw [c14]; decide) (by rw [c14]; rfl) (by decide) ?_
    refine lv_iconst (v := 0) hx hb dX5_endsBySemicolon_98 (by decide) ?_
    cases hM
    exact rt_z hx hb hr hlk (by decide) hP hD hS rfl dX5_endsBySemicolon_99
  replace hM := if_f c14 hM
  by_cases c15 : a1 = 19
  · replace hM := if_t c15 hM
    refine lv_tableIn (tgt := 96) hx hb dX5_endsBySemicolon_1 (by rw [c15]; decide) (by rw [c15]; decide) (by rw [c15]; rfl) (by decide) ?_
    refine lv_iconst (v := 1) hx hb dX5_endsBySemicolon_96 (by decide) ?_
    cases hM
    exact rt_z hx hb hr hlk (by decide) hP hD hS rfl dX5_endsBySemicolon_97
  replace hM := if_f c15 hM
  by_cases c16 : a1 = 20
  · replace hM := if_t c16 hM
    refine lv_tableIn (tgt := 96) hx hb dX5_endsBySemicolon_1 (by rw [c16]; decide) (by rw [c16]; decide) (by rw [c16]; rfl) (by decide) ?_
    refine lv_iconst (v := 1) hx hb dX5_endsBySemicolon_96 (by decide) ?_
    cases hM
    exact rt_z hx hb hr hlk (by decide) hP hD hS rfl dX5_endsBySemicolon_97
  replace hM := if_f c16 hM
  by_cases c17 : a1 = 21
  · replace hM := if_t c17 hM
    refine lv_tableIn (tgt := 96) hx hb dX5_endsBySemicolon_1 (by rw [c17]; decide) (by rw [c17]; decide) (by rw [c17]; rfl) (by decide) ?_
    refine lv_iconst (v := 1) hx hb dX5_endsBySemicolon_96 (by decide) ?_
    cases hM
    exact rt_z hx hb hr hlk (by decide) hP hD hS rfl dX5_endsBySemicolon_97
  replace hM := if_f c17 hM
  by_cases c18 : a1 = 22
  · replace hM := if_t c18 hM
    refine lv_tableIn (tgt := 98) hx hb dX5_endsBySemicolon_1 (by rw [c18]; decide) (by rw [c18]; decide) (by rw [c18]; rfl) (by decide) ?_
    refine lv_iconst (v := 0) hx hb dX5_endsBySemicolon_98 (by decide) ?_
    cases hM
    exact rt_z hx hb hr hlk (by decide) hP hD hS rfl dX5_endsBySemicolon_99
  replace hM := if_f c18 hM
  by_cases c19 : a1 = 23
  · replace hM := if_t c19 hM
    refine lv_tableIn (tgt := 98) hx hb dX5_endsBySemicolon_1 (by rw [c19]; decide) (by rw [c19]; decide) (by rw [c19]; rfl) (by decide) ?_
    refine lv_iconst (v := 0) hx hb dX5_endsBySemicolon_98 (by decide) ?_
    cases hM
    exact rt_z hx hb hr hlk (by decide) hP hD hS rfl dX5_endsBySemicolon_99
  replace hM := if_f c19 hM
  by_cases c20 : a1 = 24
  · replace hM := if_t c20 hM
    refine lv_tableIn (tgt := 96) hx hb dX5_endsBySemicolon_1 (by rw [c20]; decide) (by rw [c20]; decide) (by rw [c20]; rfl) (by decide) ?_
    refine lv_iconst (v := 1) hx hb dX5_endsBySemicolon_96 (by decide) ?_
    cases hM
    exact rt_z hx hb hr hlk (by decide) hP hD hS rfl dX5_endsBySemicolon_97
  replace hM := if_f c20 hM
  refine lv_tableOut (tgt := 98) hx hb dX5_endsBySemicolon_1 (by have := lv_neT c1 (show (5 : Int32).toInt = 5 by decide); have := lv_neT c2 (show (6 : Int32).toInt = 6 by decide); have := lv_neT c3 (show (7 : Int32).toInt = 7 by decide); have := lv_neT c4 (show (8 : Int32).toInt = 8 by decide); have := lv_neT c5 (show (9 : Int32).toInt = 9 by decide); have := lv_neT c6 (show (10 : Int32).toInt = 10 by decide); have := lv_neT c7 (show (11 : Int32).toInt = 11 by decide); have := lv_neT c8 (show (12 : Int32).toInt = 12 by decide); have := lv_neT c9 (show (13 : Int32).toInt = 13 by decide); have := lv_neT c10 (show (14 : Int32).toInt = 14 by decide); have := lv_neT c11 (show (15 : Int32).toInt = 15 by decide); have := lv_neT c12 (show (16 : Int32).toInt = 16 by decide); have := lv_neT c13 (show (17 : Int32).toInt = 17 by decide); have := lv_neT c14 (show (18 : Int32).toInt = 18 by decide); have := lv_neT c15 (show (19 : Int32).toInt = 19 by decide); have := lv_neT c16 (show (20 : Int32).toInt = 20 by decide); have := lv_neT c17 (show (21 : Int32).toInt = 21 by decide); have := lv_neT c18 (show (22 : Int32).toInt = 22 by decide); have := lv_neT c19 (show (23 : Int32).toInt = 23 by decide); have := lv_neT c20 (show (24 : Int32).toInt = 24 by decide); omega) (by decide) ?_
  refine lv_iconst (v := 0) hx hb dX5_endsBySemicolon_98 (by decide) ?_
  cases hM
  exact rt_z hx hb hr hlk (by decide) hP hD hS rfl dX5_endsBySemicolon_99

set_option maxHeartbeats 4000000 in
set_option maxRecDepth 100000 in
theorem c_Writer_lastToken (l : Launch) (D : va_G) (cI : ClassId) (sd : Nat → Nat) (ad : Nat → Nat) (a1 : Int32) (res : Int32) (hM : f_Writer_lastToken a1 = some res) : Ctr l D cI sd yX5_lastToken (wsM yX5_lastToken cX5_lastToken 1 (Option.some Jvm.ClassFile.FieldType.int)) { frames := 0, cells := 0, slots := 0, locals := 0 } [.int a1] (([] : va_W)) (([] : va_W)) (some (.int res)) := by
  refine Ctr.of (cc := cX5_lastToken) (maxL := 1) (own := RX5) (by decide +kernel) rfl rfl (Nat.le_of_ble_eq_true rfl) ?_
  intro p e s m below meth c A ls hx hb hr hml hown hts hlk hK hE hA hP hD hS hl
  have hl : lv_has ls 1 [(0, .int a1)] := hl
  unfold f_Writer_lastToken at hM
  refine lv_iload_n hx hb dX5_lastToken_0 rfl (lv_at hl 0 rfl) ?_
  by_cases c1 : a1 = 1
  · replace hM := if_t c1 hM
    refine lv_tableIn (tgt := 152) hx hb dX5_lastToken_1 (by rw [c1]; decide) (by rw [c1]; decide) (by rw [c1]; rfl) (by decide) ?_
    refine lv_sipush (v := 257) hx hb dX5_lastToken_152 (by decide) ?_
    cases hM
    exact rt_i hx hb hr hlk hP hD hS rfl dX5_lastToken_155
  replace hM := if_f c1 hM
  by_cases c2 : a1 = 2
  · replace hM := if_t c2 hM
    refine lv_tableIn (tgt := 156) hx hb dX5_lastToken_1 (by rw [c2]; decide) (by rw [c2]; decide) (by rw [c2]; rfl) (by decide) ?_
    refine lv_sipush (v := 259) hx hb dX5_lastToken_156 (by decide) ?_
    cases hM
    exact rt_i hx hb hr hlk hP hD hS rfl dX5_lastToken_159
  replace hM := if_f c2 hM
  by_cases c3 : a1 = 3
  · replace hM := if_t c3 hM
    refine lv_tableIn (tgt := 160) hx hb dX5_lastToken_1 (by rw [c3]; decide) (by rw [c3]; decide) (by rw [c3]; rfl) (by decide) ?_
    refine lv_sipush (v := 261) hx hb dX5_lastToken_160 (by decide) ?_
    cases hM
    exact rt_i hx hb hr hlk hP hD hS rfl dX5_lastToken_163
  replace hM := if_f c3 hM
  by_cases c4 : a1 = 4
  · replace hM := if_t c4 hM
    refine lv_tableIn (tgt := 164) hx hb dX5_lastToken_1 (by rw [c4]; decide) (by rw [c4]; decide) (by rw [c4]; rfl) (by decide) ?_
    refine lv_sipush (v := 265) hx hb dX5_lastToken_164 (by decide) ?_
    cases hM
    exact rt_i hx hb hr hlk hP hD hS rfl dX5_lastToken_167
  replace hM := if_f c4 hM
  by_cases c5 : a1 = 5
  · replace hM := if_t c5 hM
    refine lv_tableIn (tgt := 194) hx hb dX5_lastToken_1 (by rw [c5]; decide) (by rw [c5]; decide) (by rw [c5]; rfl) (by decide) ?_
    refine lv_iconst (v := (-1)) hx hb dX5_lastToken_194 (by decide) ?_
    cases hM
    exact rt_i hx hb hr hlk hP hD hS rfl dX5_lastToken_195
  replace hM := if_f c5 hM
  by_cases c6 : a1 = 6
  · replace hM := if_t c6 hM
    refine lv_tableIn (tgt := 194) hx hb dX5_lastToken_1 (by rw [c6]; decide) (by rw [c6]; decide) (by rw [c6]; rfl) (by decide) ?_
    refine lv_iconst (v := (-1)) hx hb dX5_lastToken_194 (by decide) ?_
    cases hM
    exact rt_i hx hb hr hlk hP hD hS rfl dX5_lastToken_195
  replace hM := if_f c6 hM
  by_cases c7 : a1 = 7
  · replace hM := if_t c7 hM
    refine lv_tableIn (tgt := 194) hx hb dX5_lastToken_1 (by rw [c7]; decide) (by rw [c7]; decide) (by rw [c7]; rfl) (by decide) ?_
    refine lv_iconst (v := (-1)) hx hb dX5_lastToken_194 (by decide) ?_
    cases hM
    exact rt_i hx hb hr hlk hP hD hS rfl dX5_lastToken_195
  replace hM := if_f c7 hM
  by_cases c8 : a1 = 8
  · replace hM := if_t c8 hM
    refine lv_tableIn (tgt := 194) hx hb dX5_lastToken_1 (by rw [c8]; decide) (by rw [c8]; decide) (by rw [c8]; rfl) (by decide) ?_
    refine lv_iconst (v := (-1)) hx hb dX5_lastToken_194 (by decide) ?_
    cases hM
    exact rt_i hx hb hr hlk hP hD hS rfl dX5_lastToken_195
  replace hM := if_f c8 hM
  by_cases c9 : a1 = 9
  · replace hM := if_t c9 hM
    refine lv_tableIn (tgt := 194) hx hb dX5_lastToken_1 (by rw [c9]; decide) (by rw [c9]; decide) (by rw [c9]; rfl) (by decide) ?_
    refine lv_iconst (v := (-1)) hx hb dX5_lastToken_194 (by decide) ?_
    cases hM
    exact rt_i hx hb hr hlk hP hD hS rfl dX5_lastToken_195
  replace hM := if_f c9 hM
  by_cases c10 : a1 = 10
  · replace hM := if_t c10 hM
    refine lv_tableIn (tgt := 194) hx hb dX5_lastToken_1 (by rw [c10]; decide) (by rw [c10]; decide) (by rw [c10]; rfl) (by decide) ?_
    refine lv_iconst (v := (-1)) hx hb dX5_lastToken_194 (by decide) ?_
    cases hM
    exact rt_i hx hb hr hlk hP hD hS rfl dX5_lastToken_195
  replace hM := if_f c10 hM
  by_cases c11 : a1 = 11
  · replace hM := if_t c11 hM
    refine lv_tableIn (tgt := 194) hx hb dX5_lastToken_1 (by rw [c11]; decide) (by rw [c11]; decide) (by rw [c11]; rfl) (by decide) ?_
    refine lv_iconst (v := (-1)) hx hb dX5_lastToken_194 (by decide) ?_
    cases hM
    exact rt_i hx hb hr hlk hP hD hS rfl dX5_lastToken_195
  replace hM := if_f c11 hM
  by_cases c12 : a1 = 12
  · replace hM := if_t c12 hM
    refine lv_tableIn (tgt := 194) hx hb dX5_lastToken_1 (by rw [c12]; decide) (by rw [c12]; decide) (by rw [c12]; rfl) (by decide) ?_
    refine lv_iconst (v := (-1)) hx hb dX5_lastToken_194 (by decide) ?_
    cases hM
    exact rt_i hx hb hr hlk hP hD hS rfl dX5_lastToken_195
  replace hM := if_f c12 hM
  by_cases c13 : a1 = 13
  · replace hM := if_t c13 hM
    refine lv_tableIn (tgt := 188) hx hb dX5_lastToken_1 (by rw [c13]; decide) (by rw [c13]; decide) (by rw [c13]; rfl) (by decide) ?_
    refine lv_bipush (v := 41) hx hb dX5_lastToken_188 (by decide) ?_
    cases hM
    exact rt_i hx hb hr hlk hP hD hS rfl dX5_lastToken_190
  replace hM := if_f c13 hM
  by_cases c14 : a1 = 14
  · replace hM := if_t c14 hM
    refine lv_tableIn (tgt := 194) hx hb dX5_lastToken_1 (by rw [c14]; decide) (by rw [c14]; decide) (by rw [c14]; rfl) (by decide) ?_
    refine lv_iconst (v := (-1)) hx hb dX5_lastToken_194 (by decide) ?_
    cases hM
    exact rt_i hx hb hr hlk hP hD hS rfl dX5_lastToken_195
  replace hM := if_f c14 hM
  by_cases c15 : a1 = 15
  · replace hM := if_t c15 hM
    refine lv_tableIn (tgt := 168) hx hb dX5_lastToken_1 (by rw [c15]; decide) (by rw [c15]; decide) (by rw [c15]; rfl) (by decide) ?_
    refine lv_sipush (v := 276) hx hb dX5_lastToken_168 (by decide) ?_
    cases hM
    exact rt_i hx hb hr hlk hP hD hS rfl dX5_lastToken_171
  replace hM := if_f c15 hM
  by_cases c16 : a1 = 16
  · replace hM := if_t c16 hM
    refine lv_tableIn (tgt := 172) hx hb dX5_lastToken_1 (by rw [c16]; decide) (by rw [c16]; decide) (by rw [c16]; rfl) (by decide) ?_
    refine lv_sipush (v := 278) hx hb dX5_lastToken_172 (by decide) ?_
    cases hM
    exact rt_i hx hb hr hlk hP hD hS rfl dX5_lastToken_175
  replace hM := if_f c16 hM
  by_cases c17 : a1 = 17
  · replace hM := if_t c17 hM
    refine lv_tableIn (tgt := 194) hx hb dX5_lastToken_1 (by rw [c17]; decide) (by rw [c17]; decide) (by rw [c17]; rfl) (by decide) ?_
    refine lv_iconst (v := (-1)) hx hb dX5_lastToken_194 (by decide) ?_
    cases hM
    exact rt_i hx hb hr hlk hP hD hS rfl dX5_lastToken_195
  replace hM := if_f c17 hM
  by_cases c18 : a1 = 18
  · replace hM := if_t c18 hM
    refine lv_tableIn (tgt := 194) hx hb dX5_lastToken_1 (by rw [c18]; decide) (by rw [c18]; decide) (by rw [c18]; rfl) (by decide) ?_
    refine lv_iconst (v := (-1)) hx hb dX5_lastToken_194 (by decide) ?_
    cases hM
    exact rt_i hx hb hr hlk hP hD hS rfl dX5_lastToken_195
  replace hM := if_f c18 hM
  by_cases c19 : a1 = 19
  · replace hM := if_t c19 hM
    refine lv_tableIn (tgt := 176) hx hb dX5_lastToken_1 (by rw [c19]; decide) (by rw [c19]; decide) (by rw [c19]; rfl) (by decide) ?_
    refine lv_sipush (v := 283) hx hb dX5_lastToken_176 (by decide) ?_
    cases hM
    exact rt_i hx hb hr hlk hP hD hS rfl dX5_lastToken_179
  replace hM := if_f c19 hM
  by_cases c20 : a1 = 20
  · replace hM := if_t c20 hM
    refine lv_tableIn (tgt := 194) hx hb dX5_lastToken_1 (by rw [c20]; decide) (by rw [c20]; decide) (by rw [c20]; rfl) (by decide) ?_
    refine lv_iconst (v := (-1)) hx hb dX5_lastToken_194 (by decide) ?_
    cases hM
    exact rt_i hx hb hr hlk hP hD hS rfl dX5_lastToken_195
  replace hM := if_f c20 hM
  by_cases c21 : a1 = 21
  · replace hM := if_t c21 hM
    refine lv_tableIn (tgt := 194) hx hb dX5_lastToken_1 (by rw [c21]; decide) (by rw [c21]; decide) (by rw [c21]; rfl) (by decide) ?_
    refine lv_iconst (v := (-1)) hx hb dX5_lastToken_194 (by decide) ?_
    cases hM
    exact rt_i hx hb hr hlk hP hD hS rfl dX5_lastToken_195
  replace hM := if_f c21 hM
  by_cases c22 : a1 = 22
  · replace hM := if_t c22 hM
    refine lv_tableIn (tgt := 180) hx hb dX5_lastToken_1 (by rw [c22]; decide) (by rw [c22]; decide) (by rw [c22]; rfl) (by decide) ?_
    refine lv_sipush (v := 294) hx hb dX5_lastToken_180 (by decide) ?_
    cases hM
    exact rt_i hx hb hr hlk hP hD hS rfl dX5_lastToken_183
  replace hM := if_f c22 hM
  by_cases c23 : a1 = 23
  · replace hM := if_t c23 hM
    refine lv_tableIn (tgt := 184) hx hb dX5_lastToken_1 (by rw [c23]; decide) (by rw [c23]; decide) (by rw [c23]; rfl) (by decide) ?_
    refine lv_sipush (v := 296) hx hb dX5_lastToken_184 (by decide) ?_
    cases hM
    exact rt_i hx hb hr hlk hP hD hS rfl dX5_lastToken_187
  replace hM := if_f c23 hM
  by_cases c24 : a1 = 24
  · replace hM := if_t c24 hM
    refine lv_tableIn (tgt := 194) hx hb dX5_lastToken_1 (by rw [c24]; decide) (by rw [c24]; decide) (by rw [c24]; rfl) (by decide) ?_
    refine lv_iconst (v := (-1)) hx hb dX5_lastToken_194 (by decide) ?_
    cases hM
    exact rt_i hx hb hr hlk hP hD hS rfl dX5_lastToken_195
  replace hM := if_f c24 hM
  by_cases c25 : a1 = 25
  · replace hM := if_t c25 hM
    refine lv_tableIn (tgt := 194) hx hb dX5_lastToken_1 (by rw [c25]; decide) (by rw [c25]; decide) (by rw [c25]; rfl) (by decide) ?_
    refine lv_iconst (v := (-1)) hx hb dX5_lastToken_194 (by decide) ?_
    cases hM
    exact rt_i hx hb hr hlk hP hD hS rfl dX5_lastToken_195
  replace hM := if_f c25 hM
  by_cases c26 : a1 = 26
  · replace hM := if_t c26 hM
    refine lv_tableIn (tgt := 194) hx hb dX5_lastToken_1 (by rw [c26]; decide) (by rw [c26]; decide) (by rw [c26]; rfl) (by decide) ?_
    refine lv_iconst (v := (-1)) hx hb dX5_lastToken_194 (by decide) ?_
    cases hM
    exact rt_i hx hb hr hlk hP hD hS rfl dX5_lastToken_195
  replace hM := if_f c26 hM
  by_cases c27 : a1 = 27
  · replace hM := if_t c27 hM
    refine lv_tableIn (tgt := 194) hx hb dX5_lastToken_1 (by rw [c27]; decide) (by rw [c27]; decide) (by rw [c27]; rfl) (by decide) ?_
    refine lv_iconst (v := (-1)) hx hb dX5_lastToken_194 (by decide) ?_
    cases hM
    exact rt_i hx hb hr hlk hP hD hS rfl dX5_lastToken_195
  replace hM := if_f c27 hM
  by_cases c28 : a1 = 28
  · replace hM := if_t c28 hM
    refine lv_tableIn (tgt := 188) hx hb dX5_lastToken_1 (by rw [c28]; decide) (by rw [c28]; decide) (by rw [c28]; rfl) (by decide) ?_
    refine lv_bipush (v := 41) hx hb dX5_lastToken_188 (by decide) ?_
    cases hM
    exact rt_i hx hb hr hlk hP hD hS rfl dX5_lastToken_190
  replace hM := if_f c28 hM
  by_cases c29 : a1 = 29
  · replace hM := if_t c29 hM
    refine lv_tableIn (tgt := 194) hx hb dX5_lastToken_1 (by rw [c29]; decide) (by rw [c29]; decide) (by rw [c29]; rfl) (by decide) ?_
    refine lv_iconst (v := (-1)) hx hb dX5_lastToken_194 (by decide) ?_
    cases hM
    exact rt_i hx hb hr hlk hP hD hS rfl dX5_lastToken_195
  replace hM := if_f c29 hM
  by_cases c30 : a1 = 30
  · replace hM := if_t c30 hM
    refine lv_tableIn (tgt := 194) hx hb dX5_lastToken_1 (by rw [c30]; decide) (by rw [c30]; decide) (by rw [c30]; rfl) (by decide) ?_
    refine lv_iconst (v := (-1)) hx hb dX5_lastToken_194 (by decide) ?_
    cases hM
    exact rt_i hx hb hr hlk hP hD hS rfl dX5_lastToken_195
  replace hM := if_f c30 hM
  by_cases c31 : a1 = 31
  · replace hM := if_t c31 hM
    refine lv_tableIn (tgt := 194) hx hb dX5_lastToken_1 (by rw [c31]; decide) (by rw [c31]; decide) (by rw [c31]; rfl) (by decide) ?_
    refine lv_iconst (v := (-1)) hx hb dX5_lastToken_194 (by decide) ?_
    cases hM
    exact rt_i hx hb hr hlk hP hD hS rfl dX5_lastToken_195
  replace hM := if_f c31 hM
  by_cases c32 : a1 = 32
  · replace hM := if_t c32 hM
    refine lv_tableIn (tgt := 191) hx hb dX5_lastToken_1 (by rw [c32]; decide) (by rw [c32]; decide) (by rw [c32]; rfl) (by decide) ?_
    refine lv_bipush (v := 93) hx hb dX5_lastToken_191 (by decide) ?_
    cases hM
    exact rt_i hx hb hr hlk hP hD hS rfl dX5_lastToken_193
  replace hM := if_f c32 hM
  by_cases c33 : a1 = 33
  · replace hM := if_t c33 hM
    refine lv_tableIn (tgt := 194) hx hb dX5_lastToken_1 (by rw [c33]; decide) (by rw [c33]; decide) (by rw [c33]; rfl) (by decide) ?_
    refine lv_iconst (v := (-1)) hx hb dX5_lastToken_194 (by decide) ?_
    cases hM
    exact rt_i hx hb hr hlk hP hD hS rfl dX5_lastToken_195
  replace hM := if_f c33 hM
  by_cases c34 : a1 = 34
  · replace hM := if_t c34 hM
    refine lv_tableIn (tgt := 188) hx hb dX5_lastToken_1 (by rw [c34]; decide) (by rw [c34]; decide) (by rw [c34]; rfl) (by decide) ?_
    refine lv_bipush (v := 41) hx hb dX5_lastToken_188 (by decide) ?_
    cases hM
    exact rt_i hx hb hr hlk hP hD hS rfl dX5_lastToken_190
  replace hM := if_f c34 hM
  refine lv_tableOut (tgt := 194) hx hb dX5_lastToken_1 (by have := lv_neT c1 (show (1 : Int32).toInt = 1 by decide); have := lv_neT c2 (show (2 : Int32).toInt = 2 by decide); have := lv_neT c3 (show (3 : Int32).toInt = 3 by decide); have := lv_neT c4 (show (4 : Int32).toInt = 4 by decide); have := lv_neT c5 (show (5 : Int32).toInt = 5 by decide); have := lv_neT c6 (show (6 : Int32).toInt = 6 by decide); have := lv_neT c7 (show (7 : Int32).toInt = 7 by decide); have := lv_neT c8 (show (8 : Int32).toInt = 8 by decide); have := lv_neT c9 (show (9 : Int32).toInt = 9 by decide); have := lv_neT c10 (show (10 : Int32).toInt = 10 by decide); have := lv_neT c11 (show (11 : Int32).toInt = 11 by decide); have := lv_neT c12 (show (12 : Int32).toInt = 12 by decide); have := lv_neT c13 (show (13 : Int32).toInt = 13 by decide); have := lv_neT c14 (show (14 : Int32).toInt = 14 by decide); have := lv_neT c15 (show (15 : Int32).toInt = 15 by decide); have := lv_neT c16 (show (16 : Int32).toInt = 16 by decide); have := lv_neT c17 (show (17 : Int32).toInt = 17 by decide); have := lv_neT c18 (show (18 : Int32).toInt = 18 by decide); have := lv_neT c19 (show (19 : Int32).toInt = 19 by decide); have := lv_neT c20 (show (20 : Int32).toInt = 20 by decide); have := lv_neT c21 (show (21 : Int32).toInt = 21 by decide); have := lv_neT c22 (show (22 : Int32).toInt = 22 by decide); have := lv_neT c23 (show (23 : Int32).toInt = 23 by decide); have := lv_neT c24 (show (24 : Int32).toInt = 24 by decide); have := lv_neT c25 (show (25 : Int32).toInt = 25 by decide); have := lv_neT c26 (show (26 : Int32).toInt = 26 by decide); have := lv_neT c27 (show (27 : Int32).toInt = 27 by decide); have := lv_neT c28 (show (28 : Int32).toInt = 28 by decide); have := lv_neT c29 (show (29 : Int32).toInt = 29 by decide); have := lv_neT c30 (show (30 : Int32).toInt = 30 by decide); have := lv_neT c31 (show (31 : Int32).toInt = 31 by decide); have := lv_neT c32 (show (32 : Int32).toInt = 32 by decide); have := lv_neT c33 (show (33 : Int32).toInt = 33 by decide); have := lv_neT c34 (show (34 : Int32).toInt = 34 by decide); omega) (by decide) ?_
  refine lv_iconst (v := (-1)) hx hb dX5_lastToken_194 (by decide) ?_
  cases hM
  exact rt_i hx hb hr hlk hP hD hS rfl dX5_lastToken_195

set_option maxHeartbeats 4000000 in
set_option maxRecDepth 100000 in
theorem c_Writer_finish (l : Launch) (D : va_G) (cI : ClassId) (sd : Nat → Nat) (ad : Nat → Nat) (o_tree : S_Tree) (o_names : S_Names) (o_out : S_Bytes) (a1 : Int32) (res : S_Bytes) (hM : f_Writer_finish o_tree o_names o_out a1 = some res) : Ctr l D cI sd yX5_finish (wsM yX5_finish cX5_finish 3 (Option.none : Option Jvm.ClassFile.FieldType)) { frames := 4, cells := 0, slots := 0, locals := 85 } [.ref (ad 23), .int a1] (wW ad ++ wT cI ad o_tree ++ wN cI ad o_names ++ wB cI (ad 3) (ad 4) 16384 o_out) (wW ad ++ wT cI ad o_tree ++ wN cI ad o_names ++ wB cI (ad 3) (ad 4) 16384 res) none := by
  refine Ctr.of (cc := cX5_finish) (maxL := 3) (own := RX5) (by decide +kernel) rfl rfl (Nat.le_of_ble_eq_true rfl) ?_
  intro p e s m below meth c A ls hx hb hr hml hown hts hlk hK hE hA hP hD hS hl
  have hl : lv_has ls 3 [(0, .ref (ad 23)), (1, .int a1)] := hl
  unfold f_Writer_finish at hM
  refine lv_aload_n hx hb dX5_finish_0 rfl (lv_at hl 0 rfl) ?_
  refine va_get (D := D) (ci := 5) (v := .ref (ad 14)) (C := RX5) (T := TX5) (N := 3) hx hb hts layX5 hown hK hP 0 rfl rfl 0 (by decide) (hts _ (inA q442)) (fun _ h9 => h9) rfl dX5_finish_1 ?_
  refine lv_iload_n hx hb dX5_finish_4 rfl (lv_at hl 1 rfl) ?_
  obtain ⟨r1, hcr1, hM⟩ := ob_use hM
  refine cl_V (As := [.int a1]) (rest := []) (wW ad ++ wT cI ad o_tree ++ wN cI ad o_names ++ wB cI (ad 3) (ad 4) 16384 o_out) (.int r1 :: []) ⟨hx, hb, hml, hown, hts⟩ (c_Tree_kind l D cI sd ad o_tree a1 r1 hcr1) (cwV2 hts q870 mvX3_kind rfl rfl ⟨(Nat.le_of_ble_eq_true rfl), (Nat.le_of_ble_eq_true rfl)⟩) hK hE hA hP hD hS 1 (T := TX3) (N := 8) (ci := 3) rfl rfl [1, 2, 3, 4, 5, 6, 7, 8] rfl (by decide) rfl rfl rfl rfl rfl rfl hl.1 (Nat.le_of_ble_eq_true rfl) dX5_finish_5 ⟨Nat.zero_le _, Nat.zero_le _⟩ (fun H locs hP hD hS => ?_)
  refine lv_istore_n (lv' := [(2, .int r1), (0, .ref (ad 23)), (1, .int a1)]) hx hb dX5_finish_8 rfl hl (by decide) rfl (fun ls hl => ?_)
  refine lv_iload_n hx hb dX5_finish_9 rfl (lv_at hl 0 rfl) ?_
  refine lv_bipush (v := 16) hx hb dX5_finish_10 (by decide) ?_
  refine lv_icmp_ne (tgt := 34) hx hb dX5_finish_12 (by decide) (fun c2 => ?_) (fun c2 => ?_)
  · replace hM := if_f c2 hM
    refine lv_iload_n hx hb dX5_finish_34 rfl (lv_at hl 0 rfl) ?_
    refine lv_bipush (v := 35) hx hb dX5_finish_35 (by decide) ?_
    refine lv_icmp_ne (tgt := 54) hx hb dX5_finish_37 (by decide) (fun c3 => ?_) (fun c3 => ?_)
    · replace hM := if_f c3 hM
      refine lv_aload_n hx hb dX5_finish_54 rfl (lv_at hl 1 rfl) ?_
      refine lv_iload_n hx hb dX5_finish_55 rfl (lv_at hl 0 rfl) ?_
      obtain ⟨r4, hcr4, hM⟩ := ob_use hM
      refine cl_S (As := [.int r1]) (rest := [.ref (ad 23)]) (wW ad ++ wT cI ad o_tree ++ wN cI ad o_names ++ wB cI (ad 3) (ad 4) 16384 o_out) (.int r4 :: [.ref (ad 23)]) ⟨hx, hb, hml, hown, hts⟩ (c_Writer_lastToken l D cI sd ad r1 r4 hcr4) (cwS2 hts q898 mvX5_lastToken rfl rfl ⟨(Nat.le_of_ble_eq_true rfl), (Nat.le_of_ble_eq_true rfl)⟩) hK hE hA hP hD hS [] rfl (by decide) rfl rfl rfl rfl rfl rfl hl.1 (Nat.le_of_ble_eq_true rfl) dX5_finish_56 ⟨Nat.zero_le _, Nat.zero_le _⟩ (fun H locs hP hD hS => ?_)
      obtain ⟨r5, hcr5, hM⟩ := ob_use hM
      refine cl_V (As := [.int r4]) (rest := []) (wW ad ++ wT cI ad o_tree ++ wN cI ad o_names ++ wB cI (ad 3) (ad 4) 16384 r5) [] ⟨hx, hb, hml, hown, hts⟩ (c_Writer_token l D cI sd ad o_names o_out r4 r5 hcr5) (cwV2 hts q872 mvX5_token rfl rfl ⟨(Nat.le_of_ble_eq_true rfl), (Nat.le_of_ble_eq_true rfl)⟩) hK hE hA hP hD hS 0 (T := TX5) (N := 3) (ci := 5) rfl rfl [0, 9, 10, 11, 12, 13, 14, 15] rfl (by decide) rfl rfl rfl rfl rfl rfl hl.1 (Nat.le_of_ble_eq_true rfl) dX5_finish_59 ⟨Nat.zero_le _, Nat.zero_le _⟩ (fun H locs hP hD hS => ?_)
      refine lv_iload_n hx hb dX5_finish_62 rfl (lv_at hl 0 rfl) ?_
      obtain ⟨r6, hcr6, hM⟩ := ob_use hM
      refine cl_S (As := [.int r1]) (rest := []) (wW ad ++ wT cI ad o_tree ++ wN cI ad o_names ++ wB cI (ad 3) (ad 4) 16384 r5) (.int r6 :: []) ⟨hx, hb, hml, hown, hts⟩ (c_Writer_endsBySemicolon l D cI sd ad r1 r6 hcr6) (cwS2 hts q901 mvX5_endsBySemicolon rfl rfl ⟨(Nat.le_of_ble_eq_true rfl), (Nat.le_of_ble_eq_true rfl)⟩) hK hE hA hP hD hS [] rfl (by decide) rfl rfl rfl rfl rfl rfl hl.1 (Nat.le_of_ble_eq_true rfl) dX5_finish_63 ⟨Nat.zero_le _, Nat.zero_le _⟩ (fun H locs hP hD hS => ?_)
      refine lv_if_eq (tgt := 75) hx hb dX5_finish_66 (by decide) (fun c7 => ?_) (fun c7 => ?_)
      · replace hM := if_t c7 hM
        cases hM
        exact rt_v hx hb hr hlk hP hD hS rfl dX5_finish_75
      · replace hM := if_f c7 hM
        refine lv_aload_n hx hb dX5_finish_69 rfl (lv_at hl 1 rfl) ?_
        refine lv_bipush (v := 59) hx hb dX5_finish_70 (by decide) ?_
        obtain ⟨r8, hcr8, hM⟩ := ob_use hM
        refine cl_V (As := [.int 59]) (rest := []) (wW ad ++ wT cI ad o_tree ++ wN cI ad o_names ++ wB cI (ad 3) (ad 4) 16384 r8) [] ⟨hx, hb, hml, hown, hts⟩ (c_Writer_token l D cI sd ad o_names r5 59 r8 hcr8) (cwV2 hts q872 mvX5_token rfl rfl ⟨(Nat.le_of_ble_eq_true rfl), (Nat.le_of_ble_eq_true rfl)⟩) hK hE hA hP hD hS 0 (T := TX5) (N := 3) (ci := 5) rfl rfl [0, 9, 10, 11, 12, 13, 14, 15] rfl (by decide) rfl rfl rfl rfl rfl rfl hl.1 (Nat.le_of_ble_eq_true rfl) dX5_finish_72 ⟨Nat.zero_le _, Nat.zero_le _⟩ (fun H locs hP hD hS => ?_)
        cases hM
        exact rt_v hx hb hr hlk hP hD hS rfl dX5_finish_75
    · replace hM := if_t c3 hM
      refine lv_aload_n hx hb dX5_finish_40 rfl (lv_at hl 1 rfl) ?_
      refine lv_iload_n hx hb dX5_finish_41 rfl (lv_at hl 2 rfl) ?_
      obtain ⟨r9, hcr9, hM⟩ := ob_use hM
      refine cl_V (As := [.int a1]) (rest := []) (wW ad ++ wT cI ad o_tree ++ wN cI ad o_names ++ wB cI (ad 3) (ad 4) 16384 o_out) (.int r9 :: []) ⟨hx, hb, hml, hown, hts⟩ (c_Writer_isBracketed l D cI sd ad o_tree a1 r9 hcr9) (cwV2 hts q888 mvX5_isBracketed rfl rfl ⟨(Nat.le_of_ble_eq_true rfl), (Nat.le_of_ble_eq_true rfl)⟩) hK hE hA hP hD hS 0 (T := TX5) (N := 3) (ci := 5) rfl rfl [0, 1, 2, 3, 4, 5, 6, 7, 8] rfl (by decide) rfl rfl rfl rfl rfl rfl hl.1 (Nat.le_of_ble_eq_true rfl) dX5_finish_42 ⟨Nat.zero_le _, Nat.zero_le _⟩ (fun H locs hP hD hS => ?_)
      refine lv_if_eq (tgt := 54) hx hb dX5_finish_45 (by decide) (fun c10 => ?_) (fun c10 => ?_)
      · replace hM := if_t c10 hM
        refine lv_aload_n hx hb dX5_finish_54 rfl (lv_at hl 1 rfl) ?_
        refine lv_iload_n hx hb dX5_finish_55 rfl (lv_at hl 0 rfl) ?_
        obtain ⟨r11, hcr11, hM⟩ := ob_use hM
        refine cl_S (As := [.int r1]) (rest := [.ref (ad 23)]) (wW ad ++ wT cI ad o_tree ++ wN cI ad o_names ++ wB cI (ad 3) (ad 4) 16384 o_out) (.int r11 :: [.ref (ad 23)]) ⟨hx, hb, hml, hown, hts⟩ (c_Writer_lastToken l D cI sd ad r1 r11 hcr11) (cwS2 hts q898 mvX5_lastToken rfl rfl ⟨(Nat.le_of_ble_eq_true rfl), (Nat.le_of_ble_eq_true rfl)⟩) hK hE hA hP hD hS [] rfl (by decide) rfl rfl rfl rfl rfl rfl hl.1 (Nat.le_of_ble_eq_true rfl) dX5_finish_56 ⟨Nat.zero_le _, Nat.zero_le _⟩ (fun H locs hP hD hS => ?_)
        obtain ⟨r12, hcr12, hM⟩ := ob_use hM
        refine cl_V (As := [.int r11]) (rest := []) (wW ad ++ wT cI ad o_tree ++ wN cI ad o_names ++ wB cI (ad 3) (ad 4) 16384 r12) [] ⟨hx, hb, hml, hown, hts⟩ (c_Writer_token l D cI sd ad o_names o_out r11 r12 hcr12) (cwV2 hts q872 mvX5_token rfl rfl ⟨(Nat.le_of_ble_eq_true rfl), (Nat.le_of_ble_eq_true rfl)⟩) hK hE hA hP hD hS 0 (T := TX5) (N := 3) (ci := 5) rfl rfl [0, 9, 10, 11, 12, 13, 14, 15] rfl (by decide) rfl rfl rfl rfl rfl rfl hl.1 (Nat.le_of_ble_eq_true rfl) dX5_finish_59 ⟨Nat.zero_le _, Nat.zero_le _⟩ (fun H locs hP hD hS => ?_)
        refine lv_iload_n hx hb dX5_finish_62 rfl (lv_at hl 0 rfl) ?_
        obtain ⟨r13, hcr13, hM⟩ := ob_use hM
        refine cl_S (As := [.int r1]) (rest := []) (wW ad ++ wT cI ad o_tree ++ wN cI ad o_names ++ wB cI (ad 3) (ad 4) 16384 r12) (.int r13 :: []) ⟨hx, hb, hml, hown, hts⟩ (c_Writer_endsBySemicolon l D cI sd ad r1 r13 hcr13) (cwS2 hts q901 mvX5_endsBySemicolon rfl rfl ⟨(Nat.le_of_ble_eq_true rfl), (Nat.le_of_ble_eq_true rfl)⟩) hK hE hA hP hD hS [] rfl (by decide) rfl rfl rfl rfl rfl rfl hl.1 (Nat.le_of_ble_eq_true rfl) dX5_finish_63 ⟨Nat.zero_le _, Nat.zero_le _⟩ (fun H locs hP hD hS => ?_)
        refine lv_if_eq (tgt := 75) hx hb dX5_finish_66 (by decide) (fun c14 => ?_) (fun c14 => ?_)
        · replace hM := if_t c14 hM
          cases hM
          exact rt_v hx hb hr hlk hP hD hS rfl dX5_finish_75
        · replace hM := if_f c14 hM
          refine lv_aload_n hx hb dX5_finish_69 rfl (lv_at hl 1 rfl) ?_
          refine lv_bipush (v := 59) hx hb dX5_finish_70 (by decide) ?_
          obtain ⟨r15, hcr15, hM⟩ := ob_use hM
          refine cl_V (As := [.int 59]) (rest := []) (wW ad ++ wT cI ad o_tree ++ wN cI ad o_names ++ wB cI (ad 3) (ad 4) 16384 r15) [] ⟨hx, hb, hml, hown, hts⟩ (c_Writer_token l D cI sd ad o_names r12 59 r15 hcr15) (cwV2 hts q872 mvX5_token rfl rfl ⟨(Nat.le_of_ble_eq_true rfl), (Nat.le_of_ble_eq_true rfl)⟩) hK hE hA hP hD hS 0 (T := TX5) (N := 3) (ci := 5) rfl rfl [0, 9, 10, 11, 12, 13, 14, 15] rfl (by decide) rfl rfl rfl rfl rfl rfl hl.1 (Nat.le_of_ble_eq_true rfl) dX5_finish_72 ⟨Nat.zero_le _, Nat.zero_le _⟩ (fun H locs hP hD hS => ?_)
          cases hM
          exact rt_v hx hb hr hlk hP hD hS rfl dX5_finish_75
      · replace hM := if_f c10 hM
        refine lv_aload_n hx hb dX5_finish_48 rfl (lv_at hl 1 rfl) ?_
        refine lv_bipush (v := 41) hx hb dX5_finish_49 (by decide) ?_
        obtain ⟨r16, hcr16, hM⟩ := ob_use hM
        refine cl_V (As := [.int 41]) (rest := []) (wW ad ++ wT cI ad o_tree ++ wN cI ad o_names ++ wB cI (ad 3) (ad 4) 16384 r16) [] ⟨hx, hb, hml, hown, hts⟩ (c_Writer_token l D cI sd ad o_names o_out 41 r16 hcr16) (cwV2 hts q872 mvX5_token rfl rfl ⟨(Nat.le_of_ble_eq_true rfl), (Nat.le_of_ble_eq_true rfl)⟩) hK hE hA hP hD hS 0 (T := TX5) (N := 3) (ci := 5) rfl rfl [0, 9, 10, 11, 12, 13, 14, 15] rfl (by decide) rfl rfl rfl rfl rfl rfl hl.1 (Nat.le_of_ble_eq_true rfl) dX5_finish_51 ⟨Nat.zero_le _, Nat.zero_le _⟩ (fun H locs hP hD hS => ?_)
        refine lv_aload_n hx hb dX5_finish_54 rfl (lv_at hl 1 rfl) ?_
        refine lv_iload_n hx hb dX5_finish_55 rfl (lv_at hl 0 rfl) ?_
        obtain ⟨r17, hcr17, hM⟩ := ob_use hM
        refine cl_S (As := [.int r1]) (rest := [.ref (ad 23)]) (wW ad ++ wT cI ad o_tree ++ wN cI ad o_names ++ wB cI (ad 3) (ad 4) 16384 r16) (.int r17 :: [.ref (ad 23)]) ⟨hx, hb, hml, hown, hts⟩ (c_Writer_lastToken l D cI sd ad r1 r17 hcr17) (cwS2 hts q898 mvX5_lastToken rfl rfl ⟨(Nat.le_of_ble_eq_true rfl), (Nat.le_of_ble_eq_true rfl)⟩) hK hE hA hP hD hS [] rfl (by decide) rfl rfl rfl rfl rfl rfl hl.1 (Nat.le_of_ble_eq_true rfl) dX5_finish_56 ⟨Nat.zero_le _, Nat.zero_le _⟩ (fun H locs hP hD hS => ?_)
        obtain ⟨r18, hcr18, hM⟩ := ob_use hM
        refine cl_V (As := [.int r17]) (rest := []) (wW ad ++ wT cI ad o_tree ++ wN cI ad o_names ++ wB cI (ad 3) (ad 4) 16384 r18) [] ⟨hx, hb, hml, hown, hts⟩ (c_Writer_token l D cI sd ad o_names r16 r17 r18 hcr18) (cwV2 hts q872 mvX5_token rfl rfl ⟨(Nat.le_of_ble_eq_true rfl), (Nat.le_of_ble_eq_true rfl)⟩) hK hE hA hP hD hS 0 (T := TX5) (N := 3) (ci := 5) rfl rfl [0, 9, 10, 11, 12, 13, 14, 15] rfl (by decide) rfl rfl rfl rfl rfl rfl hl.1 (Nat.le_of_ble_eq_true rfl) dX5_finish_59 ⟨Nat.zero_le _, Nat.zero_le _⟩ (fun H locs hP hD hS => ?_)
        refine lv_iload_n hx hb dX5_finish_62 rfl (lv_at hl 0 rfl) ?_
        obtain ⟨r19, hcr19, hM⟩ := ob_use hM
        refine cl_S (As := [.int r1]) (rest := []) (wW ad ++ wT cI ad o_tree ++ wN cI ad o_names ++ wB cI (ad 3) (ad 4) 16384 r18) (.int r19 :: []) ⟨hx, hb, hml, hown, hts⟩ (c_Writer_endsBySemicolon l D cI sd ad r1 r19 hcr19) (cwS2 hts q901 mvX5_endsBySemicolon rfl rfl ⟨(Nat.le_of_ble_eq_true rfl), (Nat.le_of_ble_eq_true rfl)⟩) hK hE hA hP hD hS [] rfl (by decide) rfl rfl rfl rfl rfl rfl hl.1 (Nat.le_of_ble_eq_true rfl) dX5_finish_63 ⟨Nat.zero_le _, Nat.zero_le _⟩ (fun H locs hP hD hS => ?_)
        refine lv_if_eq (tgt := 75) hx hb dX5_finish_66 (by decide) (fun c20 => ?_) (fun c20 => ?_)
        · replace hM := if_t c20 hM
          cases hM
          exact rt_v hx hb hr hlk hP hD hS rfl dX5_finish_75
        · replace hM := if_f c20 hM
          refine lv_aload_n hx hb dX5_finish_69 rfl (lv_at hl 1 rfl) ?_
          refine lv_bipush (v := 59) hx hb dX5_finish_70 (by decide) ?_
          obtain ⟨r21, hcr21, hM⟩ := ob_use hM
          refine cl_V (As := [.int 59]) (rest := []) (wW ad ++ wT cI ad o_tree ++ wN cI ad o_names ++ wB cI (ad 3) (ad 4) 16384 r21) [] ⟨hx, hb, hml, hown, hts⟩ (c_Writer_token l D cI sd ad o_names r18 59 r21 hcr21) (cwV2 hts q872 mvX5_token rfl rfl ⟨(Nat.le_of_ble_eq_true rfl), (Nat.le_of_ble_eq_true rfl)⟩) hK hE hA hP hD hS 0 (T := TX5) (N := 3) (ci := 5) rfl rfl [0, 9, 10, 11, 12, 13, 14, 15] rfl (by decide) rfl rfl rfl rfl rfl rfl hl.1 (Nat.le_of_ble_eq_true rfl) dX5_finish_72 ⟨Nat.zero_le _, Nat.zero_le _⟩ (fun H locs hP hD hS => ?_)
          cases hM
          exact rt_v hx hb hr hlk hP hD hS rfl dX5_finish_75
  · replace hM := if_t c2 hM
    refine lv_aload_n hx hb dX5_finish_15 rfl (lv_at hl 1 rfl) ?_
    refine va_get (D := D) (ci := 5) (v := .ref (ad 14)) (C := RX5) (T := TX5) (N := 3) hx hb hts layX5 hown hK hP 0 rfl rfl 0 (by decide) (hts _ (inA q442)) (fun _ h9 => h9) rfl dX5_finish_16 ?_
    refine lv_iload_n hx hb dX5_finish_19 rfl (lv_at hl 2 rfl) ?_
    obtain ⟨r22, hcr22, hM⟩ := ob_use hM
    refine cl_V (As := [.int a1]) (rest := []) (wW ad ++ wT cI ad o_tree ++ wN cI ad o_names ++ wB cI (ad 3) (ad 4) 16384 o_out) (.int r22 :: []) ⟨hx, hb, hml, hown, hts⟩ (c_Tree_children l D cI sd ad o_tree a1 r22 hcr22) (cwV2 hts q871 mvX3_children rfl rfl ⟨(Nat.le_of_ble_eq_true rfl), (Nat.le_of_ble_eq_true rfl)⟩) hK hE hA hP hD hS 1 (T := TX3) (N := 8) (ci := 3) rfl rfl [1, 2, 3, 4, 5, 6, 7, 8] rfl (by decide) rfl rfl rfl rfl rfl rfl hl.1 (Nat.le_of_ble_eq_true rfl) dX5_finish_20 ⟨Nat.zero_le _, Nat.zero_le _⟩ (fun H locs hP hD hS => ?_)
    refine lv_iconst (v := 1) hx hb dX5_finish_23 (by decide) ?_
    refine lv_icmp_ne (tgt := 34) hx hb dX5_finish_24 (by decide) (fun c23 => ?_) (fun c23 => ?_)
    · replace hM := if_f c23 hM
      refine lv_iload_n hx hb dX5_finish_34 rfl (lv_at hl 0 rfl) ?_
      refine lv_bipush (v := 35) hx hb dX5_finish_35 (by decide) ?_
      refine lv_icmp_ne (tgt := 54) hx hb dX5_finish_37 (by decide) (fun c24 => ?_) (fun c24 => ?_)
      · replace hM := if_f c24 hM
        refine lv_aload_n hx hb dX5_finish_54 rfl (lv_at hl 1 rfl) ?_
        refine lv_iload_n hx hb dX5_finish_55 rfl (lv_at hl 0 rfl) ?_
        obtain ⟨r25, hcr25, hM⟩ := ob_use hM
        refine cl_S (As := [.int r1]) (rest := [.ref (ad 23)]) (wW ad ++ wT cI ad o_tree ++ wN cI ad o_names ++ wB cI (ad 3) (ad 4) 16384 o_out) (.int r25 :: [.ref (ad 23)]) ⟨hx, hb, hml, hown, hts⟩ (c_Writer_lastToken l D cI sd ad r1 r25 hcr25) (cwS2 hts q898 mvX5_lastToken rfl rfl ⟨(Nat.le_of_ble_eq_true rfl), (Nat.le_of_ble_eq_true rfl)⟩) hK hE hA hP hD hS [] rfl (by decide) rfl rfl rfl rfl rfl rfl hl.1 (Nat.le_of_ble_eq_true rfl) dX5_finish_56 ⟨Nat.zero_le _, Nat.zero_le _⟩ (fun H locs hP hD hS => ?_)
        obtain ⟨r26, hcr26, hM⟩ := ob_use hM
        refine cl_V (As := [.int r25]) (rest := []) (wW ad ++ wT cI ad o_tree ++ wN cI ad o_names ++ wB cI (ad 3) (ad 4) 16384 r26) [] ⟨hx, hb, hml, hown, hts⟩ (c_Writer_token l D cI sd ad o_names o_out r25 r26 hcr26) (cwV2 hts q872 mvX5_token rfl rfl ⟨(Nat.le_of_ble_eq_true rfl), (Nat.le_of_ble_eq_true rfl)⟩) hK hE hA hP hD hS 0 (T := TX5) (N := 3) (ci := 5) rfl rfl [0, 9, 10, 11, 12, 13, 14, 15] rfl (by decide) rfl rfl rfl rfl rfl rfl hl.1 (Nat.le_of_ble_eq_true rfl) dX5_finish_59 ⟨Nat.zero_le _, Nat.zero_le _⟩ (fun H locs hP hD hS => ?_)
        refine lv_iload_n hx hb dX5_finish_62 rfl (lv_at hl 0 rfl) ?_
        obtain ⟨r27, hcr27, hM⟩ := ob_use hM
        refine cl_S (As := [.int r1]) (rest := []) (wW ad ++ wT cI ad o_tree ++ wN cI ad o_names ++ wB cI (ad 3) (ad 4) 16384 r26) (.int r27 :: []) ⟨hx, hb, hml, hown, hts⟩ (c_Writer_endsBySemicolon l D cI sd ad r1 r27 hcr27) (cwS2 hts q901 mvX5_endsBySemicolon rfl rfl ⟨(Nat.le_of_ble_eq_true rfl), (Nat.le_of_ble_eq_true rfl)⟩) hK hE hA hP hD hS [] rfl (by decide) rfl rfl rfl rfl rfl rfl hl.1 (Nat.le_of_ble_eq_true rfl) dX5_finish_63 ⟨Nat.zero_le _, Nat.zero_le _⟩ (fun H locs hP hD hS => ?_)
        refine lv_if_eq (tgt := 75) hx hb dX5_finish_66 (by decide) (fun c28 => ?_) (fun c28 => ?_)
        · replace hM := if_t c28 hM
          cases hM
          exact rt_v hx hb hr hlk hP hD hS rfl dX5_finish_75
        · replace hM := if_f c28 hM
          refine lv_aload_n hx hb dX5_finish_69 rfl (lv_at hl 1 rfl) ?_
          refine lv_bipush (v := 59) hx hb dX5_finish_70 (by decide) ?_
          obtain ⟨r29, hcr29, hM⟩ := ob_use hM
          refine cl_V (As := [.int 59]) (rest := []) (wW ad ++ wT cI ad o_tree ++ wN cI ad o_names ++ wB cI (ad 3) (ad 4) 16384 r29) [] ⟨hx, hb, hml, hown, hts⟩ (c_Writer_token l D cI sd ad o_names r26 59 r29 hcr29) (cwV2 hts q872 mvX5_token rfl rfl ⟨(Nat.le_of_ble_eq_true rfl), (Nat.le_of_ble_eq_true rfl)⟩) hK hE hA hP hD hS 0 (T := TX5) (N := 3) (ci := 5) rfl rfl [0, 9, 10, 11, 12, 13, 14, 15] rfl (by decide) rfl rfl rfl rfl rfl rfl hl.1 (Nat.le_of_ble_eq_true rfl) dX5_finish_72 ⟨Nat.zero_le _, Nat.zero_le _⟩ (fun H locs hP hD hS => ?_)
          cases hM
          exact rt_v hx hb hr hlk hP hD hS rfl dX5_finish_75
      · replace hM := if_t c24 hM
        refine lv_aload_n hx hb dX5_finish_40 rfl (lv_at hl 1 rfl) ?_
        refine lv_iload_n hx hb dX5_finish_41 rfl (lv_at hl 2 rfl) ?_
        obtain ⟨r30, hcr30, hM⟩ := ob_use hM
        refine cl_V (As := [.int a1]) (rest := []) (wW ad ++ wT cI ad o_tree ++ wN cI ad o_names ++ wB cI (ad 3) (ad 4) 16384 o_out) (.int r30 :: []) ⟨hx, hb, hml, hown, hts⟩ (c_Writer_isBracketed l D cI sd ad o_tree a1 r30 hcr30) (cwV2 hts q888 mvX5_isBracketed rfl rfl ⟨(Nat.le_of_ble_eq_true rfl), (Nat.le_of_ble_eq_true rfl)⟩) hK hE hA hP hD hS 0 (T := TX5) (N := 3) (ci := 5) rfl rfl [0, 1, 2, 3, 4, 5, 6, 7, 8] rfl (by decide) rfl rfl rfl rfl rfl rfl hl.1 (Nat.le_of_ble_eq_true rfl) dX5_finish_42 ⟨Nat.zero_le _, Nat.zero_le _⟩ (fun H locs hP hD hS => ?_)
        refine lv_if_eq (tgt := 54) hx hb dX5_finish_45 (by decide) (fun c31 => ?_) (fun c31 => ?_)
        · replace hM := if_t c31 hM
          refine lv_aload_n hx hb dX5_finish_54 rfl (lv_at hl 1 rfl) ?_
          refine lv_iload_n hx hb dX5_finish_55 rfl (lv_at hl 0 rfl) ?_
          obtain ⟨r32, hcr32, hM⟩ := ob_use hM
          refine cl_S (As := [.int r1]) (rest := [.ref (ad 23)]) (wW ad ++ wT cI ad o_tree ++ wN cI ad o_names ++ wB cI (ad 3) (ad 4) 16384 o_out) (.int r32 :: [.ref (ad 23)]) ⟨hx, hb, hml, hown, hts⟩ (c_Writer_lastToken l D cI sd ad r1 r32 hcr32) (cwS2 hts q898 mvX5_lastToken rfl rfl ⟨(Nat.le_of_ble_eq_true rfl), (Nat.le_of_ble_eq_true rfl)⟩) hK hE hA hP hD hS [] rfl (by decide) rfl rfl rfl rfl rfl rfl hl.1 (Nat.le_of_ble_eq_true rfl) dX5_finish_56 ⟨Nat.zero_le _, Nat.zero_le _⟩ (fun H locs hP hD hS => ?_)
          obtain ⟨r33, hcr33, hM⟩ := ob_use hM
          refine cl_V (As := [.int r32]) (rest := []) (wW ad ++ wT cI ad o_tree ++ wN cI ad o_names ++ wB cI (ad 3) (ad 4) 16384 r33) [] ⟨hx, hb, hml, hown, hts⟩ (c_Writer_token l D cI sd ad o_names o_out r32 r33 hcr33) (cwV2 hts q872 mvX5_token rfl rfl ⟨(Nat.le_of_ble_eq_true rfl), (Nat.le_of_ble_eq_true rfl)⟩) hK hE hA hP hD hS 0 (T := TX5) (N := 3) (ci := 5) rfl rfl [0, 9, 10, 11, 12, 13, 14, 15] rfl (by decide) rfl rfl rfl rfl rfl rfl hl.1 (Nat.le_of_ble_eq_true rfl) dX5_finish_59 ⟨Nat.zero_le _, Nat.zero_le _⟩ (fun H locs hP hD hS => ?_)
          refine lv_iload_n hx hb dX5_finish_62 rfl (lv_at hl 0 rfl) ?_
          obtain ⟨r34, hcr34, hM⟩ := ob_use hM
          refine cl_S (As := [.int r1]) (rest := []) (wW ad ++ wT cI ad o_tree ++ wN cI ad o_names ++ wB cI (ad 3) (ad 4) 16384 r33) (.int r34 :: []) ⟨hx, hb, hml, hown, hts⟩ (c_Writer_endsBySemicolon l D cI sd ad r1 r34 hcr34) (cwS2 hts q901 mvX5_endsBySemicolon rfl rfl ⟨(Nat.le_of_ble_eq_true rfl), (Nat.le_of_ble_eq_true rfl)⟩) hK hE hA hP hD hS [] rfl (by decide) rfl rfl rfl rfl rfl rfl hl.1 (Nat.le_of_ble_eq_true rfl) dX5_finish_63 ⟨Nat.zero_le _, Nat.zero_le _⟩ (fun H locs hP hD hS => ?_)
          refine lv_if_eq (tgt := 75) hx hb dX5_finish_66 (by decide) (fun c35 => ?_) (fun c35 => ?_)
          · replace hM := if_t c35 hM
            cases hM
            exact rt_v hx hb hr hlk hP hD hS rfl dX5_finish_75
          · replace hM := if_f c35 hM
            refine lv_aload_n hx hb dX5_finish_69 rfl (lv_at hl 1 rfl) ?_
            refine lv_bipush (v := 59) hx hb dX5_finish_70 (by decide) ?_
            obtain ⟨r36, hcr36, hM⟩ := ob_use hM
            refine cl_V (As := [.int 59]) (rest := []) (wW ad ++ wT cI ad o_tree ++ wN cI ad o_names ++ wB cI (ad 3) (ad 4) 16384 r36) [] ⟨hx, hb, hml, hown, hts⟩ (c_Writer_token l D cI sd ad o_names r33 59 r36 hcr36) (cwV2 hts q872 mvX5_token rfl rfl ⟨(Nat.le_of_ble_eq_true rfl), (Nat.le_of_ble_eq_true rfl)⟩) hK hE hA hP hD hS 0 (T := TX5) (N := 3) (ci := 5) rfl rfl [0, 9, 10, 11, 12, 13, 14, 15] rfl (by decide) rfl rfl rfl rfl rfl rfl hl.1 (Nat.le_of_ble_eq_true rfl) dX5_finish_72 ⟨Nat.zero_le _, Nat.zero_le _⟩ (fun H locs hP hD hS => ?_)
            cases hM
            exact rt_v hx hb hr hlk hP hD hS rfl dX5_finish_75
        · replace hM := if_f c31 hM
          refine lv_aload_n hx hb dX5_finish_48 rfl (lv_at hl 1 rfl) ?_
          refine lv_bipush (v := 41) hx hb dX5_finish_49 (by decide) ?_
          obtain ⟨r37, hcr37, hM⟩ := ob_use hM
          refine cl_V (As := [.int 41]) (rest := []) (wW ad ++ wT cI ad o_tree ++ wN cI ad o_names ++ wB cI (ad 3) (ad 4) 16384 r37) [] ⟨hx, hb, hml, hown, hts⟩ (c_Writer_token l D cI sd ad o_names o_out 41 r37 hcr37) (cwV2 hts q872 mvX5_token rfl rfl ⟨(Nat.le_of_ble_eq_true rfl), (Nat.le_of_ble_eq_true rfl)⟩) hK hE hA hP hD hS 0 (T := TX5) (N := 3) (ci := 5) rfl rfl [0, 9, 10, 11, 12, 13, 14, 15] rfl (by decide) rfl rfl rfl rfl rfl rfl hl.1 (Nat.le_of_ble_eq_true rfl) dX5_finish_51 ⟨Nat.zero_le _, Nat.zero_le _⟩ (fun H locs hP hD hS => ?_)
          refine lv_aload_n hx hb dX5_finish_54 rfl (lv_at hl 1 rfl) ?_
          refine lv_iload_n hx hb dX5_finish_55 rfl (lv_at hl 0 rfl) ?_
          obtain ⟨r38, hcr38, hM⟩ := ob_use hM
          refine cl_S (As := [.int r1]) (rest := [.ref (ad 23)]) (wW ad ++ wT cI ad o_tree ++ wN cI ad o_names ++ wB cI (ad 3) (ad 4) 16384 r37) (.int r38 :: [.ref (ad 23)]) ⟨hx, hb, hml, hown, hts⟩ (c_Writer_lastToken l D cI sd ad r1 r38 hcr38) (cwS2 hts q898 mvX5_lastToken rfl rfl ⟨(Nat.le_of_ble_eq_true rfl), (Nat.le_of_ble_eq_true rfl)⟩) hK hE hA hP hD hS [] rfl (by decide) rfl rfl rfl rfl rfl rfl hl.1 (Nat.le_of_ble_eq_true rfl) dX5_finish_56 ⟨Nat.zero_le _, Nat.zero_le _⟩ (fun H locs hP hD hS => ?_)
          obtain ⟨r39, hcr39, hM⟩ := ob_use hM
          refine cl_V (As := [.int r38]) (rest := []) (wW ad ++ wT cI ad o_tree ++ wN cI ad o_names ++ wB cI (ad 3) (ad 4) 16384 r39) [] ⟨hx, hb, hml, hown, hts⟩ (c_Writer_token l D cI sd ad o_names r37 r38 r39 hcr39) (cwV2 hts q872 mvX5_token rfl rfl ⟨(Nat.le_of_ble_eq_true rfl), (Nat.le_of_ble_eq_true rfl)⟩) hK hE hA hP hD hS 0 (T := TX5) (N := 3) (ci := 5) rfl rfl [0, 9, 10, 11, 12, 13, 14, 15] rfl (by decide) rfl rfl rfl rfl rfl rfl hl.1 (Nat.le_of_ble_eq_true rfl) dX5_finish_59 ⟨Nat.zero_le _, Nat.zero_le _⟩ (fun H locs hP hD hS => ?_)
          refine lv_iload_n hx hb dX5_finish_62 rfl (lv_at hl 0 rfl) ?_
          obtain ⟨r40, hcr40, hM⟩ := ob_use hM
          refine cl_S (As := [.int r1]) (rest := []) (wW ad ++ wT cI ad o_tree ++ wN cI ad o_names ++ wB cI (ad 3) (ad 4) 16384 r39) (.int r40 :: []) ⟨hx, hb, hml, hown, hts⟩ (c_Writer_endsBySemicolon l D cI sd ad r1 r40 hcr40) (cwS2 hts q901 mvX5_endsBySemicolon rfl rfl ⟨(Nat.le_of_ble_eq_true rfl), (Nat.le_of_ble_eq_true rfl)⟩) hK hE hA hP hD hS [] rfl (by decide) rfl rfl rfl rfl rfl rfl hl.1 (Nat.le_of_ble_eq_true rfl) dX5_finish_63 ⟨Nat.zero_le _, Nat.zero_le _⟩ (fun H locs hP hD hS => ?_)
          refine lv_if_eq (tgt := 75) hx hb dX5_finish_66 (by decide) (fun c41 => ?_) (fun c41 => ?_)
          · replace hM := if_t c41 hM
            cases hM
            exact rt_v hx hb hr hlk hP hD hS rfl dX5_finish_75
          · replace hM := if_f c41 hM
            refine lv_aload_n hx hb dX5_finish_69 rfl (lv_at hl 1 rfl) ?_
            refine lv_bipush (v := 59) hx hb dX5_finish_70 (by decide) ?_
            obtain ⟨r42, hcr42, hM⟩ := ob_use hM
            refine cl_V (As := [.int 59]) (rest := []) (wW ad ++ wT cI ad o_tree ++ wN cI ad o_names ++ wB cI (ad 3) (ad 4) 16384 r42) [] ⟨hx, hb, hml, hown, hts⟩ (c_Writer_token l D cI sd ad o_names r39 59 r42 hcr42) (cwV2 hts q872 mvX5_token rfl rfl ⟨(Nat.le_of_ble_eq_true rfl), (Nat.le_of_ble_eq_true rfl)⟩) hK hE hA hP hD hS 0 (T := TX5) (N := 3) (ci := 5) rfl rfl [0, 9, 10, 11, 12, 13, 14, 15] rfl (by decide) rfl rfl rfl rfl rfl rfl hl.1 (Nat.le_of_ble_eq_true rfl) dX5_finish_72 ⟨Nat.zero_le _, Nat.zero_le _⟩ (fun H locs hP hD hS => ?_)
            cases hM
            exact rt_v hx hb hr hlk hP hD hS rfl dX5_finish_75
    · replace hM := if_t c23 hM
      refine lv_aload_n hx hb dX5_finish_27 rfl (lv_at hl 1 rfl) ?_
      refine lv_sipush (v := 271) hx hb dX5_finish_28 (by decide) ?_
      obtain ⟨r43, hcr43, hM⟩ := ob_use hM
      refine cl_V (As := [.int 271]) (rest := []) (wW ad ++ wT cI ad o_tree ++ wN cI ad o_names ++ wB cI (ad 3) (ad 4) 16384 r43) [] ⟨hx, hb, hml, hown, hts⟩ (c_Writer_token l D cI sd ad o_names o_out 271 r43 hcr43) (cwV2 hts q872 mvX5_token rfl rfl ⟨(Nat.le_of_ble_eq_true rfl), (Nat.le_of_ble_eq_true rfl)⟩) hK hE hA hP hD hS 0 (T := TX5) (N := 3) (ci := 5) rfl rfl [0, 9, 10, 11, 12, 13, 14, 15] rfl (by decide) rfl rfl rfl rfl rfl rfl hl.1 (Nat.le_of_ble_eq_true rfl) dX5_finish_31 ⟨Nat.zero_le _, Nat.zero_le _⟩ (fun H locs hP hD hS => ?_)
      refine lv_iload_n hx hb dX5_finish_34 rfl (lv_at hl 0 rfl) ?_
      refine lv_bipush (v := 35) hx hb dX5_finish_35 (by decide) ?_
      refine lv_icmp_ne (tgt := 54) hx hb dX5_finish_37 (by decide) (fun c44 => ?_) (fun c44 => ?_)
      · replace hM := if_f c44 hM
        refine lv_aload_n hx hb dX5_finish_54 rfl (lv_at hl 1 rfl) ?_
        refine lv_iload_n hx hb dX5_finish_55 rfl (lv_at hl 0 rfl) ?_
        obtain ⟨r45, hcr45, hM⟩ := ob_use hM
        refine cl_S (As := [.int r1]) (rest := [.ref (ad 23)]) (wW ad ++ wT cI ad o_tree ++ wN cI ad o_names ++ wB cI (ad 3) (ad 4) 16384 r43) (.int r45 :: [.ref (ad 23)]) ⟨hx, hb, hml, hown, hts⟩ (c_Writer_lastToken l D cI sd ad r1 r45 hcr45) (cwS2 hts q898 mvX5_lastToken rfl rfl ⟨(Nat.le_of_ble_eq_true rfl), (Nat.le_of_ble_eq_true rfl)⟩) hK hE hA hP hD hS [] rfl (by decide) rfl rfl rfl rfl rfl rfl hl.1 (Nat.le_of_ble_eq_true rfl) dX5_finish_56 ⟨Nat.zero_le _, Nat.zero_le _⟩ (fun H locs hP hD hS => ?_)
        obtain ⟨r46, hcr46, hM⟩ := ob_use hM
        refine cl_V (As := [.int r45]) (rest := []) (wW ad ++ wT cI ad o_tree ++ wN cI ad o_names ++ wB cI (ad 3) (ad 4) 16384 r46) [] ⟨hx, hb, hml, hown, hts⟩ (c_Writer_token l D cI sd ad o_names r43 r45 r46 hcr46) (cwV2 hts q872 mvX5_token rfl rfl ⟨(Nat.le_of_ble_eq_true rfl), (Nat.le_of_ble_eq_true rfl)⟩) hK hE hA hP hD hS 0 (T := TX5) (N := 3) (ci := 5) rfl rfl [0, 9, 10, 11, 12, 13, 14, 15] rfl (by decide) rfl rfl rfl rfl rfl rfl hl.1 (Nat.le_of_ble_eq_true rfl) dX5_finish_59 ⟨Nat.zero_le _, Nat.zero_le _⟩ (fun H locs hP hD hS => ?_)
        refine lv_iload_n hx hb dX5_finish_62 rfl (lv_at hl 0 rfl) ?_
        obtain ⟨r47, hcr47, hM⟩ := ob_use hM
        refine cl_S (As := [.int r1]) (rest := []) (wW ad ++ wT cI ad o_tree ++ wN cI ad o_names ++ wB cI (ad 3) (ad 4) 16384 r46) (.int r47 :: []) ⟨hx, hb, hml, hown, hts⟩ (c_Writer_endsBySemicolon l D cI sd ad r1 r47 hcr47) (cwS2 hts q901 mvX5_endsBySemicolon rfl rfl ⟨(Nat.le_of_ble_eq_true rfl), (Nat.le_of_ble_eq_true rfl)⟩) hK hE hA hP hD hS [] rfl (by decide) rfl rfl rfl rfl rfl rfl hl.1 (Nat.le_of_ble_eq_true rfl) dX5_finish_63 ⟨Nat.zero_le _, Nat.zero_le _⟩ (fun H locs hP hD hS => ?_)
        refine lv_if_eq (tgt := 75) hx hb dX5_finish_66 (by decide) (fun c48 => ?_) (fun c48 => ?_)
        · replace hM := if_t c48 hM
          cases hM
          exact rt_v hx hb hr hlk hP hD hS rfl dX5_finish_75
        · replace hM := if_f c48 hM
          refine lv_aload_n hx hb dX5_finish_69 rfl (lv_at hl 1 rfl) ?_
          refine lv_bipush (v := 59) hx hb dX5_finish_70 (by decide) ?_
          obtain ⟨r49, hcr49, hM⟩ := ob_use hM
          refine cl_V (As := [.int 59]) (rest := []) (wW ad ++ wT cI ad o_tree ++ wN cI ad o_names ++ wB cI (ad 3) (ad 4) 16384 r49) [] ⟨hx, hb, hml, hown, hts⟩ (c_Writer_token l D cI sd ad o_names r46 59 r49 hcr49) (cwV2 hts q872 mvX5_token rfl rfl ⟨(Nat.le_of_ble_eq_true rfl), (Nat.le_of_ble_eq_true rfl)⟩) hK hE hA hP hD hS 0 (T := TX5) (N := 3) (ci := 5) rfl rfl [0, 9, 10, 11, 12, 13, 14, 15] rfl (by decide) rfl rfl rfl rfl rfl rfl hl.1 (Nat.le_of_ble_eq_true rfl) dX5_finish_72 ⟨Nat.zero_le _, Nat.zero_le _⟩ (fun H locs hP hD hS => ?_)
          cases hM
          exact rt_v hx hb hr hlk hP hD hS rfl dX5_finish_75
      · replace hM := if_t c44 hM
        refine lv_aload_n hx hb dX5_finish_40 rfl (lv_at hl 1 rfl) ?_
        refine lv_iload_n hx hb dX5_finish_41 rfl (lv_at hl 2 rfl) ?_
        obtain ⟨r50, hcr50, hM⟩ := ob_use hM
        refine cl_V (As := [.int a1]) (rest := []) (wW ad ++ wT cI ad o_tree ++ wN cI ad o_names ++ wB cI (ad 3) (ad 4) 16384 r43) (.int r50 :: []) ⟨hx, hb, hml, hown, hts⟩ (c_Writer_isBracketed l D cI sd ad o_tree a1 r50 hcr50) (cwV2 hts q888 mvX5_isBracketed rfl rfl ⟨(Nat.le_of_ble_eq_true rfl), (Nat.le_of_ble_eq_true rfl)⟩) hK hE hA hP hD hS 0 (T := TX5) (N := 3) (ci := 5) rfl rfl [0, 1, 2, 3, 4, 5, 6, 7, 8] rfl (by decide) rfl rfl rfl rfl rfl rfl hl.1 (Nat.le_of_ble_eq_true rfl) dX5_finish_42 ⟨Nat.zero_le _, Nat.zero_le _⟩ (fun H locs hP hD hS => ?_)
        refine lv_if_eq (tgt := 54) hx hb dX5_finish_45 (by decide) (fun c51 => ?_) (fun c51 => ?_)
        · replace hM := if_t c51 hM
          refine lv_aload_n hx hb dX5_finish_54 rfl (lv_at hl 1 rfl) ?_
          refine lv_iload_n hx hb dX5_finish_55 rfl (lv_at hl 0 rfl) ?_
          obtain ⟨r52, hcr52, hM⟩ := ob_use hM
          refine cl_S (As := [.int r1]) (rest := [.ref (ad 23)]) (wW ad ++ wT cI ad o_tree ++ wN cI ad o_names ++ wB cI (ad 3) (ad 4) 16384 r43) (.int r52 :: [.ref (ad 23)]) ⟨hx, hb, hml, hown, hts⟩ (c_Writer_lastToken l D cI sd ad r1 r52 hcr52) (cwS2 hts q898 mvX5_lastToken rfl rfl ⟨(Nat.le_of_ble_eq_true rfl), (Nat.le_of_ble_eq_true rfl)⟩) hK hE hA hP hD hS [] rfl (by decide) rfl rfl rfl rfl rfl rfl hl.1 (Nat.le_of_ble_eq_true rfl) dX5_finish_56 ⟨Nat.zero_le _, Nat.zero_le _⟩ (fun H locs hP hD hS => ?_)
          obtain ⟨r53, hcr53, hM⟩ := ob_use hM
          refine cl_V (As := [.int r52]) (rest := []) (wW ad ++ wT cI ad o_tree ++ wN cI ad o_names ++ wB cI (ad 3) (ad 4) 16384 r53) [] ⟨hx, hb, hml, hown, hts⟩ (c_Writer_token l D cI sd ad o_names r43 r52 r53 hcr53) (cwV2 hts q872 mvX5_token rfl rfl ⟨(Nat.le_of_ble_eq_true rfl), (Nat.le_of_ble_eq_true rfl)⟩) hK hE hA hP hD hS 0 (T := TX5) (N := 3) (ci := 5) rfl rfl [0, 9, 10, 11, 12, 13, 14, 15] rfl (by decide) rfl rfl rfl rfl rfl rfl hl.1 (Nat.le_of_ble_eq_true rfl) dX5_finish_59 ⟨Nat.zero_le _, Nat.zero_le _⟩ (fun H locs hP hD hS => ?_)
          refine lv_iload_n hx hb dX5_finish_62 rfl (lv_at hl 0 rfl) ?_
          obtain ⟨r54, hcr54, hM⟩ := ob_use hM
          refine cl_S (As := [.int r1]) (rest := []) (wW ad ++ wT cI ad o_tree ++ wN cI ad o_names ++ wB cI (ad 3) (ad 4) 16384 r53) (.int r54 :: []) ⟨hx, hb, hml, hown, hts⟩ (c_Writer_endsBySemicolon l D cI sd ad r1 r54 hcr54) (cwS2 hts q901 mvX5_endsBySemicolon rfl rfl ⟨(Nat.le_of_ble_eq_true rfl), (Nat.le_of_ble_eq_true rfl)⟩) hK hE hA hP hD hS [] rfl (by decide) rfl rfl rfl rfl rfl rfl hl.1 (Nat.le_of_ble_eq_true rfl) dX5_finish_63 ⟨Nat.zero_le _, Nat.zero_le _⟩ (fun H locs hP hD hS => ?_)
          refine lv_if_eq (tgt := 75) hx hb dX5_finish_66 (by decide) (fun c55 => ?_) (fun c55 => ?_)
          · replace hM := if_t c55 hM
            cases hM
            exact rt_v hx hb hr hlk hP hD hS rfl dX5_finish_75
          · replace hM := if_f c55 hM
            refine lv_aload_n hx hb dX5_finish_69 rfl (lv_at hl 1 rfl) ?_
            refine lv_bipush (v := 59) hx hb dX5_finish_70 (by decide) ?_
            obtain ⟨r56, hcr56, hM⟩ := ob_use hM
            refine cl_V (As := [.int 59]) (rest := []) (wW ad ++ wT cI ad o_tree ++ wN cI ad o_names ++ wB cI (ad 3) (ad 4) 16384 r56) [] ⟨hx, hb, hml, hown, hts⟩ (c_Writer_token l D cI sd ad o_names r53 59 r56 hcr56) (cwV2 hts q872 mvX5_token rfl rfl ⟨(Nat.le_of_ble_eq_true rfl), (Nat.le_of_ble_eq_true rfl)⟩) hK hE hA hP hD hS 0 (T := TX5) (N := 3) (ci := 5) rfl rfl [0, 9, 10, 11, 12, 13, 14, 15] rfl (by decide) rfl rfl rfl rfl rfl rfl hl.1 (Nat.le_of_ble_eq_true rfl) dX5_finish_72 ⟨Nat.zero_le _, Nat.zero_le _⟩ (fun H locs hP hD hS => ?_)
            cases hM
            exact rt_v hx hb hr hlk hP hD hS rfl dX5_finish_75
        · replace hM := if_f c51 hM
          refine lv_aload_n hx hb dX5_finish_48 rfl (lv_at hl 1 rfl) ?_
          refine lv_bipush (v := 41) hx hb dX5_finish_49 (by decide) ?_
          obtain ⟨r57, hcr57, hM⟩ := ob_use hM
          refine cl_V (As := [.int 41]) (rest := []) (wW ad ++ wT cI ad o_tree ++ wN cI ad o_names ++ wB cI (ad 3) (ad 4) 16384 r57) [] ⟨hx, hb, hml, hown, hts⟩ (c_Writer_token l D cI sd ad o_names r43 41 r57 hcr57) (cwV2 hts q872 mvX5_token rfl rfl ⟨(Nat.le_of_ble_eq_true rfl), (Nat.le_of_ble_eq_true rfl)⟩) hK hE hA hP hD hS 0 (T := TX5) (N := 3) (ci := 5) rfl rfl [0, 9, 10, 11, 12, 13, 14, 15] rfl (by decide) rfl rfl rfl rfl rfl rfl hl.1 (Nat.le_of_ble_eq_true rfl) dX5_finish_51 ⟨Nat.zero_le _, Nat.zero_le _⟩ (fun H locs hP hD hS => ?_)
          refine lv_aload_n hx hb dX5_finish_54 rfl (lv_at hl 1 rfl) ?_
          refine lv_iload_n hx hb dX5_finish_55 rfl (lv_at hl 0 rfl) ?_
          obtain ⟨r58, hcr58, hM⟩ := ob_use hM
          refine cl_S (As := [.int r1]) (rest := [.ref (ad 23)]) (wW ad ++ wT cI ad o_tree ++ wN cI ad o_names ++ wB cI (ad 3) (ad 4) 16384 r57) (.int r58 :: [.ref (ad 23)]) ⟨hx, hb, hml, hown, hts⟩ (c_Writer_lastToken l D cI sd ad r1 r58 hcr58) (cwS2 hts q898 mvX5_lastToken rfl rfl ⟨(Nat.le_of_ble_eq_true rfl), (Nat.le_of_ble_eq_true rfl)⟩) hK hE hA hP hD hS [] rfl (by decide) rfl rfl rfl rfl rfl rfl hl.1 (Nat.le_of_ble_eq_true rfl) dX5_finish_56 ⟨Nat.zero_le _, Nat.zero_le _⟩ (fun H locs hP hD hS => ?_)
          obtain ⟨r59, hcr59, hM⟩ := ob_use hM
          refine cl_V (As := [.int r58]) (rest := []) (wW ad ++ wT cI ad o_tree ++ wN cI ad o_names ++ wB cI (ad 3) (ad 4) 16384 r59) [] ⟨hx, hb, hml, hown, hts⟩ (c_Writer_token l D cI sd ad o_names r57 r58 r59 hcr59) (cwV2 hts q872 mvX5_token rfl rfl ⟨(Nat.le_of_ble_eq_true rfl), (Nat.le_of_ble_eq_true rfl)⟩) hK hE hA hP hD hS 0 (T := TX5) (N := 3) (ci := 5) rfl rfl [0, 9, 10, 11, 12, 13, 14, 15] rfl (by decide) rfl rfl rfl rfl rfl rfl hl.1 (Nat.le_of_ble_eq_true rfl) dX5_finish_59 ⟨Nat.zero_le _, Nat.zero_le _⟩ (fun H locs hP hD hS => ?_)
          refine lv_iload_n hx hb dX5_finish_62 rfl (lv_at hl 0 rfl) ?_
          obtain ⟨r60, hcr60, hM⟩ := ob_use hM
          refine cl_S (As := [.int r1]) (rest := []) (wW ad ++ wT cI ad o_tree ++ wN cI ad o_names ++ wB cI (ad 3) (ad 4) 16384 r59) (.int r60 :: []) ⟨hx, hb, hml, hown, hts⟩ (c_Writer_endsBySemicolon l D cI sd ad r1 r60 hcr60) (cwS2 hts q901 mvX5_endsBySemicolon rfl rfl ⟨(Nat.le_of_ble_eq_true rfl), (Nat.le_of_ble_eq_true rfl)⟩) hK hE hA hP hD hS [] rfl (by decide) rfl rfl rfl rfl rfl rfl hl.1 (Nat.le_of_ble_eq_true rfl) dX5_finish_63 ⟨Nat.zero_le _, Nat.zero_le _⟩ (fun H locs hP hD hS => ?_)
          refine lv_if_eq (tgt := 75) hx hb dX5_finish_66 (by decide) (fun c61 => ?_) (fun c61 => ?_)
          · replace hM := if_t c61 hM
            cases hM
            exact rt_v hx hb hr hlk hP hD hS rfl dX5_finish_75
          · replace hM := if_f c61 hM
            refine lv_aload_n hx hb dX5_finish_69 rfl (lv_at hl 1 rfl) ?_
            refine lv_bipush (v := 59) hx hb dX5_finish_70 (by decide) ?_
            obtain ⟨r62, hcr62, hM⟩ := ob_use hM
            refine cl_V (As := [.int 59]) (rest := []) (wW ad ++ wT cI ad o_tree ++ wN cI ad o_names ++ wB cI (ad 3) (ad 4) 16384 r62) [] ⟨hx, hb, hml, hown, hts⟩ (c_Writer_token l D cI sd ad o_names r59 59 r62 hcr62) (cwV2 hts q872 mvX5_token rfl rfl ⟨(Nat.le_of_ble_eq_true rfl), (Nat.le_of_ble_eq_true rfl)⟩) hK hE hA hP hD hS 0 (T := TX5) (N := 3) (ci := 5) rfl rfl [0, 9, 10, 11, 12, 13, 14, 15] rfl (by decide) rfl rfl rfl rfl rfl rfl hl.1 (Nat.le_of_ble_eq_true rfl) dX5_finish_72 ⟨Nat.zero_le _, Nat.zero_le _⟩ (fun H locs hP hD hS => ?_)
            cases hM
            exact rt_v hx hb hr hlk hP hD hS rfl dX5_finish_75

set_option maxHeartbeats 4000000 in
set_option maxRecDepth 100000 in
theorem c_Writer_finishUpTo (l : Launch) (D : va_G) (cI : ClassId) (sd : Nat → Nat) (ad : Nat → Nat) (o_tree : S_Tree) (o_names : S_Names) (o_out : S_Bytes) (a1 : Int32) (a2 : Int32) (res : S_Bytes) (hM : f_Writer_finishUpTo o_tree o_names o_out a1 a2 = some res) : Ctr l D cI sd yX5_finishUpTo (wsM yX5_finishUpTo cX5_finishUpTo 5 (Option.none : Option Jvm.ClassFile.FieldType)) { frames := 5, cells := 0, slots := 0, locals := 107 } [.ref (ad 23), .int a1, .int a2] (wW ad ++ wT cI ad o_tree ++ wN cI ad o_names ++ wB cI (ad 3) (ad 4) 16384 o_out) (wW ad ++ wT cI ad o_tree ++ wN cI ad o_names ++ wB cI (ad 3) (ad 4) 16384 res) none := by
  refine Ctr.of (cc := cX5_finishUpTo) (maxL := 5) (own := RX5) (by decide +kernel) rfl rfl (Nat.le_of_ble_eq_true rfl) ?_
  intro p e s m below meth c A ls hx hb hr hml hown hts hlk hK hE hA hP hD hS hl
  have hl : lv_has ls 5 [(0, .ref (ad 23)), (1, .int a1), (2, .int a2)] := hl
  unfold f_Writer_finishUpTo at hM
  refine lv_iload_n hx hb dX5_finishUpTo_0 rfl (lv_at hl 1 rfl) ?_
  refine lv_istore_n (lv' := [(3, .int a1), (0, .ref (ad 23)), (1, .int a1), (2, .int a2)]) hx hb dX5_finishUpTo_1 rfl hl (by decide) rfl (fun ls hl => ?_)
  refine lv_iconst (v := 0) hx hb dX5_finishUpTo_2 (by decide) ?_
  refine lv_istore (lv' := [(4, .int 0), (3, .int a1), (0, .ref (ad 23)), (1, .int a1), (2, .int a2)]) hx hb dX5_finishUpTo_3 hl (by decide) rfl (fun ls hl => ?_)
  have lp_L5 : ∀ (w2_L5 : Int32) (o_tree_L5 : S_Tree) (o_names_L5 : S_Names) (n : Nat) (v4_L5 : Int32) (v3_L5 : Int32) (o_out_L5 : S_Bytes) (out_L5 : S_Bytes) (H : Heap) (locs : List Loc) (ls : Array Slot), f_Writer_finishUpTo_L5 w2_L5 o_tree_L5 o_names_L5 n v4_L5 v3_L5 o_out_L5 = some out_L5 → va_P D vwCl (wW ad ++ wT cI ad o_tree_L5 ++ wN cI ad o_names_L5 ++ wB cI (ad 3) (ad 4) 16384 o_out_L5) H → va_D A (wW ad ++ wT cI ad o_tree_L5 ++ wN cI ad o_names_L5 ++ wB cI (ad 3) (ad 4) 16384 o_out_L5) → va_S A s.heap H locs → lv_has ls 5 [(4, .int v4_L5), (3, .int v3_L5), (0, .ref (ad 23)), (2, .int w2_L5)] → (∀ (H : Heap) (locs : List Loc) (ls : Array Slot), va_P D vwCl (wW ad ++ wT cI ad o_tree_L5 ++ wN cI ad o_names_L5 ++ wB cI (ad 3) (ad 4) 16384 out_L5) H → va_D A (wW ad ++ wT cI ad o_tree_L5 ++ wN cI ad o_names_L5 ++ wB cI (ad 3) (ad 4) 16384 out_L5) → va_S A s.heap H locs → lv_has ls 5 [(0, .ref (ad 23)), (2, .int w2_L5)] → W p l e { frames := 5, cells := 0, slots := 0, locals := 107 } s m [.ref (ad 23), .int a1, .int a2].toArray below meth c H locs 0 0 (MQ below (CQ D A (wW ad ++ wT cI ad o_tree ++ wN cI ad o_names ++ wB cI (ad 3) (ad 4) 16384 res) none) [.ref (ad 23), .int a1, .int a2].toArray s 0 0 A) (F0 m 43 ls [])) → W p l e { frames := 5, cells := 0, slots := 0, locals := 107 } s m [.ref (ad 23), .int a1, .int a2].toArray below meth c H locs 0 0 (MQ below (CQ D A (wW ad ++ wT cI ad o_tree ++ wN cI ad o_names ++ wB cI (ad 3) (ad 4) 16384 res) none) [.ref (ad 23), .int a1, .int a2].toArray s 0 0 A) (F0 m 5 ls []) := by
    intro w2_L5 o_tree_L5 o_names_L5 n
    induction n with
    | zero => intro v4_L5 v3_L5 o_out_L5 out_L5 H locs ls hM; exact absurd (show none = some _ from hM) (by simp)
    | succ n ih_L5 =>
      intro v4_L5 v3_L5 o_out_L5 out_L5 H locs ls hM hP hD hS hl kx_L5
      rw [f_Writer_finishUpTo_L5] at hM
      refine lv_iload hx hb dX5_finishUpTo_5 (lv_at hl 0 rfl) ?_
      refine lv_sipush (v := 16384) hx hb dX5_finishUpTo_7 (by decide) ?_
      refine lv_icmp_ge (tgt := 43) hx hb dX5_finishUpTo_10 (by decide) (fun c1151 => ?_) (fun c1151 => ?_)
      · replace hM := if_t c1151 hM
        cases hM
        exact kx_L5 _ _ _ hP hD hS (lv_sub hl [2, 3] rfl)
      · replace hM := if_f c1151 hM
        refine lv_iload_n hx hb dX5_finishUpTo_13 rfl (lv_at hl 1 rfl) ?_
        refine lv_iload_n hx hb dX5_finishUpTo_14 rfl (lv_at hl 3 rfl) ?_
        refine lv_icmp_eq (tgt := 43) hx hb dX5_finishUpTo_15 (by decide) (fun c1152 => ?_) (fun c1152 => ?_)
        · replace hM := if_t c1152 hM
          cases hM
          exact kx_L5 _ _ _ hP hD hS (lv_sub hl [2, 3] rfl)
        · replace hM := if_f c1152 hM
          refine lv_iload_n hx hb dX5_finishUpTo_18 rfl (lv_at hl 1 rfl) ?_
          refine lv_iconst (v := (-1)) hx hb dX5_finishUpTo_19 (by decide) ?_
          refine lv_icmp_eq (tgt := 43) hx hb dX5_finishUpTo_20 (by decide) (fun c1153 => ?_) (fun c1153 => ?_)
          · replace hM := if_t c1153 hM
            cases hM
            exact kx_L5 _ _ _ hP hD hS (lv_sub hl [2, 3] rfl)
          · replace hM := if_f c1153 hM
            refine lv_aload_n hx hb dX5_finishUpTo_23 rfl (lv_at hl 2 rfl) ?_
            refine lv_iload_n hx hb dX5_finishUpTo_24 rfl (lv_at hl 1 rfl) ?_
            obtain ⟨r1154, hcr1154, hM⟩ := ob_use hM
            refine cl_V (As := [.int v3_L5]) (rest := []) (wW ad ++ wT cI ad o_tree_L5 ++ wN cI ad o_names_L5 ++ wB cI (ad 3) (ad 4) 16384 r1154) [] ⟨hx, hb, hml, hown, hts⟩ (c_Writer_finish l D cI sd ad o_tree_L5 o_names_L5 o_out_L5 v3_L5 r1154 hcr1154) (cwV2 hts q866 mvX5_finish rfl rfl ⟨(Nat.le_of_ble_eq_true rfl), (Nat.le_of_ble_eq_true rfl)⟩) hK hE hA hP hD hS 0 (T := TX5) (N := 3) (ci := 5) rfl rfl [0, 1, 2, 3, 4, 5, 6, 7, 8, 9, 10, 11, 12, 13, 14, 15] rfl (by decide) rfl rfl rfl rfl rfl rfl hl.1 (Nat.le_of_ble_eq_true rfl) dX5_finishUpTo_25 ⟨Nat.zero_le _, Nat.zero_le _⟩ (fun H locs hP hD hS => ?_)
            refine lv_aload_n hx hb dX5_finishUpTo_28 rfl (lv_at hl 2 rfl) ?_
            refine va_get (D := D) (ci := 5) (v := .ref (ad 14)) (C := RX5) (T := TX5) (N := 3) hx hb hts layX5 hown hK hP 0 rfl rfl 0 (by decide) (hts _ (inA q442)) (fun _ h9 => h9) rfl dX5_finishUpTo_29 ?_
            refine lv_iload_n hx hb dX5_finishUpTo_32 rfl (lv_at hl 1 rfl) ?_
            obtain ⟨r1155, hcr1155, hM⟩ := ob_use hM
            refine cl_V (As := [.int v3_L5]) (rest := []) (wW ad ++ wT cI ad o_tree_L5 ++ wN cI ad o_names_L5 ++ wB cI (ad 3) (ad 4) 16384 r1154) (.int r1155 :: []) ⟨hx, hb, hml, hown, hts⟩ (c_Tree_parent l D cI sd ad o_tree_L5 v3_L5 r1155 hcr1155) (cwV2 hts q861 mvX3_parent rfl rfl ⟨(Nat.le_of_ble_eq_true rfl), (Nat.le_of_ble_eq_true rfl)⟩) hK hE hA hP hD hS 1 (T := TX3) (N := 8) (ci := 3) rfl rfl [1, 2, 3, 4, 5, 6, 7, 8] rfl (by decide) rfl rfl rfl rfl rfl rfl hl.1 (Nat.le_of_ble_eq_true rfl) dX5_finishUpTo_33 ⟨Nat.zero_le _, Nat.zero_le _⟩ (fun H locs hP hD hS => ?_)
            refine lv_istore_n (lv' := [(3, .int r1155), (4, .int v4_L5), (0, .ref (ad 23)), (2, .int w2_L5)]) hx hb dX5_finishUpTo_36 rfl hl (by decide) rfl (fun ls hl => ?_)
            obtain ⟨x1156, ex1156⟩ : ∃ y : Int32, y = v4_L5 + 1 := ⟨_, rfl⟩
            replace hM := nm_use ex1156 hM
            refine lv_iinc (v := x1156) (lv' := [(4, .int x1156), (3, .int r1155), (0, .ref (ad 23)), (2, .int w2_L5)]) hx hb dX5_finishUpTo_37 hl (k := 1) rfl (by rw [ex1156]; rfl) (by decide) rfl (fun ls hl => ?_)
            refine lv_goto (tgt := 5) hx hb dX5_finishUpTo_40 (by decide) ?_
            exact ih_L5 x1156 r1155 r1154 out_L5 _ _ _ hM hP hD hS (lv_sub hl [0, 1, 2, 3] rfl) kx_L5
  obtain ⟨r1, hcr1, hM⟩ := ob_use hM
  refine lp_L5 a2 o_tree o_names FU 0 a1 o_out r1 _ _ _ hcr1 hP hD hS (lv_sub hl [0, 1, 2, 4] rfl) (fun H locs ls hP hD hS hl => ?_)
  cases hM
  exact rt_v hx hb hr hlk hP hD hS rfl dX5_finishUpTo_43

set_option maxHeartbeats 4000000 in
set_option maxRecDepth 100000 in
theorem c_Writer_behindFirst (l : Launch) (D : va_G) (cI : ClassId) (sd : Nat → Nat) (ad : Nat → Nat) (a1 : Int32) (a2 : Int32) (res : Int32) (hM : f_Writer_behindFirst a1 a2 = some res) : Ctr l D cI sd yX5_behindFirst (wsM yX5_behindFirst cX5_behindFirst 2 (Option.some Jvm.ClassFile.FieldType.int)) { frames := 0, cells := 0, slots := 0, locals := 0 } [.int a1, .int a2] (([] : va_W)) (([] : va_W)) (some (.int res)) := by
  refine Ctr.of (cc := cX5_behindFirst) (maxL := 2) (own := RX5) (by decide +kernel) rfl rfl (Nat.le_of_ble_eq_true rfl) ?_
  intro p e s m below meth c A ls hx hb hr hml hown hts hlk hK hE hA hP hD hS hl
  have hl : lv_has ls 2 [(0, .int a1), (1, .int a2)] := hl
  unfold f_Writer_behindFirst at hM
  refine lv_iload_n hx hb dX5_behindFirst_0 rfl (lv_at hl 0 rfl) ?_
  refine lv_if_le (tgt := 8) hx hb dX5_behindFirst_1 (by decide) (fun c1 => ?_) (fun c1 => ?_)
  · replace hM := if_t c1 hM
    refine lv_iconst (v := (-1)) hx hb dX5_behindFirst_8 (by decide) ?_
    cases hM
    exact rt_i hx hb hr hlk hP hD hS rfl dX5_behindFirst_9
  · replace hM := if_f c1 hM
    refine lv_iload_n hx hb dX5_behindFirst_4 rfl (lv_at hl 1 rfl) ?_
    refine lv_goto (tgt := 9) hx hb dX5_behindFirst_5 (by decide) ?_
    cases hM
    exact rt_i hx hb hr hlk hP hD hS rfl dX5_behindFirst_9

set_option maxHeartbeats 4000000 in
set_option maxRecDepth 100000 in
theorem c_Writer_separatorInDeclaration (l : Launch) (D : va_G) (cI : ClassId) (sd : Nat → Nat) (ad : Nat → Nat) (a1 : Int32) (a2 : Int32) (res : Int32) (hM : f_Writer_separatorInDeclaration a1 a2 = some res) : Ctr l D cI sd yX5_separatorInDeclaration (wsM yX5_separatorInDeclaration cX5_separatorInDeclaration 2 (Option.some Jvm.ClassFile.FieldType.int)) { frames := 1, cells := 0, slots := 0, locals := 21 } [.int a1, .int a2] (([] : va_W)) (([] : va_W)) (some (.int res)) := by
  refine Ctr.of (cc := cX5_separatorInDeclaration) (maxL := 2) (own := RX5) (by decide +kernel) rfl rfl (Nat.le_of_ble_eq_true rfl) ?_
  intro p e s m below meth c A ls hx hb hr hml hown hts hlk hK hE hA hP hD hS hl
  have hl : lv_has ls 2 [(0, .int a1), (1, .int a2)] := hl
  unfold f_Writer_separatorInDeclaration at hM
  refine lv_iload_n hx hb dX5_separatorInDeclaration_0 rfl (lv_at hl 0 rfl) ?_
  by_cases c1 : a1 = 6
  · replace hM := if_t c1 hM
    refine lv_lookup (off := 43) (tgt := 44) hx hb dX5_separatorInDeclaration_1 (by decide) (by exact sw_hit c1 (by decide)) (by decide) ?_
    refine lv_iload_n hx hb dX5_separatorInDeclaration_44 rfl (lv_at hl 1 rfl) ?_
    refine lv_bipush (v := 44) hx hb dX5_separatorInDeclaration_45 (by decide) ?_
    obtain ⟨r2, hcr2, hM⟩ := ob_use hM
    refine cl_S (As := [.int a2, .int 44]) (rest := []) (([] : va_W)) (.int r2 :: []) ⟨hx, hb, hml, hown, hts⟩ (c_Writer_behindFirst l D cI sd ad a2 44 r2 hcr2) (cwS2 hts q919 mvX5_behindFirst rfl rfl ⟨(Nat.le_of_ble_eq_true rfl), (Nat.le_of_ble_eq_true rfl)⟩) hK hE hA hP hD hS [] rfl (by decide) rfl rfl rfl rfl rfl rfl hl.1 (Nat.le_of_ble_eq_true rfl) dX5_separatorInDeclaration_47 ⟨Nat.zero_le _, Nat.zero_le _⟩ (fun H locs hP hD hS => ?_)
    cases hM
    exact rt_i hx hb hr hlk hP hD hS rfl dX5_separatorInDeclaration_50
  replace hM := if_f c1 hM
  by_cases c3 : a1 = 7
  · replace hM := if_t c3 hM
    refine lv_lookup (off := 50) (tgt := 51) hx hb dX5_separatorInDeclaration_1 (by decide) (by rw [lv_osw c1 (by decide)]; exact sw_hit c3 (by decide)) (by decide) ?_
    refine lv_sipush (v := 266) hx hb dX5_separatorInDeclaration_51 (by decide) ?_
    cases hM
    exact rt_i hx hb hr hlk hP hD hS rfl dX5_separatorInDeclaration_54
  replace hM := if_f c3 hM
  by_cases c4 : a1 = 30
  · replace hM := if_t c4 hM
    refine lv_lookup (off := 54) (tgt := 55) hx hb dX5_separatorInDeclaration_1 (by decide) (by rw [lv_osw c1 (by decide)]; rw [lv_osw c3 (by decide)]; exact sw_hit c4 (by decide)) (by decide) ?_
    refine lv_sipush (v := 14909) hx hb dX5_separatorInDeclaration_55 (by decide) ?_
    cases hM
    exact rt_i hx hb hr hlk hP hD hS rfl dX5_separatorInDeclaration_58
  replace hM := if_f c4 hM
  by_cases c5 : a1 = 31
  · replace hM := if_t c5 hM
    refine lv_lookup (off := 54) (tgt := 55) hx hb dX5_separatorInDeclaration_1 (by decide) (by rw [lv_osw c1 (by decide)]; rw [lv_osw c3 (by decide)]; rw [lv_osw c4 (by decide)]; exact sw_hit c5 (by decide)) (by decide) ?_
    refine lv_sipush (v := 14909) hx hb dX5_separatorInDeclaration_55 (by decide) ?_
    cases hM
    exact rt_i hx hb hr hlk hP hD hS rfl dX5_separatorInDeclaration_58
  replace hM := if_f c5 hM
  refine lv_lookup (off := 58) (tgt := 59) hx hb dX5_separatorInDeclaration_1 (by decide) (by rw [lv_osw c1 (by decide)]; rw [lv_osw c3 (by decide)]; rw [lv_osw c4 (by decide)]; rw [lv_osw c5 (by decide)]; rfl) (by decide) ?_
  refine lv_bipush (v := 58) hx hb dX5_separatorInDeclaration_59 (by decide) ?_
  cases hM
  exact rt_i hx hb hr hlk hP hD hS rfl dX5_separatorInDeclaration_61

set_option maxHeartbeats 4000000 in
set_option maxRecDepth 100000 in
theorem c_Writer_separatorInFor (l : Launch) (D : va_G) (cI : ClassId) (sd : Nat → Nat) (ad : Nat → Nat) (a1 : Int32) (a2 : Int32) (res : Int32) (hM : f_Writer_separatorInFor a1 a2 = some res) : Ctr l D cI sd yX5_separatorInFor (wsM yX5_separatorInFor cX5_separatorInFor 2 (Option.some Jvm.ClassFile.FieldType.int)) { frames := 1, cells := 0, slots := 0, locals := 21 } [.int a1, .int a2] (([] : va_W)) (([] : va_W)) (some (.int res)) := by
  refine Ctr.of (cc := cX5_separatorInFor) (maxL := 2) (own := RX5) (by decide +kernel) rfl rfl (Nat.le_of_ble_eq_true rfl) ?_
  intro p e s m below meth c A ls hx hb hr hml hown hts hlk hK hE hA hP hD hS hl
  have hl : lv_has ls 2 [(0, .int a1), (1, .int a2)] := hl
  unfold f_Writer_separatorInFor at hM
  refine lv_iload_n hx hb dX5_separatorInFor_0 rfl (lv_at hl 0 rfl) ?_
  refine lv_bipush (v := 11) hx hb dX5_separatorInFor_1 (by decide) ?_
  refine lv_icmp_ne (tgt := 10) hx hb dX5_separatorInFor_3 (by decide) (fun c1 => ?_) (fun c1 => ?_)
  · replace hM := if_f c1 hM
    refine lv_iload_n hx hb dX5_separatorInFor_10 rfl (lv_at hl 1 rfl) ?_
    refine lv_iload_n hx hb dX5_separatorInFor_11 rfl (lv_at hl 1 rfl) ?_
    refine lv_iconst (v := 1) hx hb dX5_separatorInFor_12 (by decide) ?_
    refine lv_icmp_ne (tgt := 22) hx hb dX5_separatorInFor_13 (by decide) (fun c2 => ?_) (fun c2 => ?_)
    · replace hM := if_f c2 hM
      refine lv_sipush (v := 281) hx hb dX5_separatorInFor_22 (by decide) ?_
      obtain ⟨r3, hcr3, hM⟩ := ob_use hM
      refine cl_S (As := [.int a2, .int 281]) (rest := []) (([] : va_W)) (.int r3 :: []) ⟨hx, hb, hml, hown, hts⟩ (c_Writer_behindFirst l D cI sd ad a2 281 r3 hcr3) (cwS2 hts q919 mvX5_behindFirst rfl rfl ⟨(Nat.le_of_ble_eq_true rfl), (Nat.le_of_ble_eq_true rfl)⟩) hK hE hA hP hD hS [] rfl (by decide) rfl rfl rfl rfl rfl rfl hl.1 (Nat.le_of_ble_eq_true rfl) dX5_separatorInFor_25 ⟨Nat.zero_le _, Nat.zero_le _⟩ (fun H locs hP hD hS => ?_)
      cases hM
      exact rt_i hx hb hr hlk hP hD hS rfl dX5_separatorInFor_28
    · replace hM := if_t c2 hM
      refine lv_sipush (v := 280) hx hb dX5_separatorInFor_16 (by decide) ?_
      refine lv_goto (tgt := 25) hx hb dX5_separatorInFor_19 (by decide) ?_
      obtain ⟨r4, hcr4, hM⟩ := ob_use hM
      refine cl_S (As := [.int a2, .int 280]) (rest := []) (([] : va_W)) (.int r4 :: []) ⟨hx, hb, hml, hown, hts⟩ (c_Writer_behindFirst l D cI sd ad a2 280 r4 hcr4) (cwS2 hts q919 mvX5_behindFirst rfl rfl ⟨(Nat.le_of_ble_eq_true rfl), (Nat.le_of_ble_eq_true rfl)⟩) hK hE hA hP hD hS [] rfl (by decide) rfl rfl rfl rfl rfl rfl hl.1 (Nat.le_of_ble_eq_true rfl) dX5_separatorInFor_25 ⟨Nat.zero_le _, Nat.zero_le _⟩ (fun H locs hP hD hS => ?_)
      cases hM
      exact rt_i hx hb hr hlk hP hD hS rfl dX5_separatorInFor_28
  · replace hM := if_t c1 hM
    refine lv_sipush (v := 282) hx hb dX5_separatorInFor_6 (by decide) ?_
    cases hM
    exact rt_i hx hb hr hlk hP hD hS rfl dX5_separatorInFor_9

set_option maxHeartbeats 4000000 in
set_option maxRecDepth 100000 in
theorem c_Writer_separatorInIf (l : Launch) (D : va_G) (cI : ClassId) (sd : Nat → Nat) (ad : Nat → Nat) (a1 : Int32) (a2 : Int32) (res : Int32) (hM : f_Writer_separatorInIf a1 a2 = some res) : Ctr l D cI sd yX5_separatorInIf (wsM yX5_separatorInIf cX5_separatorInIf 2 (Option.some Jvm.ClassFile.FieldType.int)) { frames := 1, cells := 0, slots := 0, locals := 21 } [.int a1, .int a2] (([] : va_W)) (([] : va_W)) (some (.int res)) := by
  refine Ctr.of (cc := cX5_separatorInIf) (maxL := 2) (own := RX5) (by decide +kernel) rfl rfl (Nat.le_of_ble_eq_true rfl) ?_
  intro p e s m below meth c A ls hx hb hr hml hown hts hlk hK hE hA hP hD hS hl
  have hl : lv_has ls 2 [(0, .int a1), (1, .int a2)] := hl
  unfold f_Writer_separatorInIf at hM
  refine lv_iload_n hx hb dX5_separatorInIf_0 rfl (lv_at hl 1 rfl) ?_
  refine lv_iconst (v := 2) hx hb dX5_separatorInIf_1 (by decide) ?_
  refine lv_irem hx hb dX5_separatorInIf_2 (by decide) ?_
  refine lv_iconst (v := 1) hx hb dX5_separatorInIf_3 (by decide) ?_
  refine lv_icmp_ne (tgt := 11) hx hb dX5_separatorInIf_4 (by decide) (fun c1 => ?_) (fun c1 => ?_)
  · replace hM := if_f c1 hM
    refine lv_iload_n hx hb dX5_separatorInIf_11 rfl (lv_at hl 1 rfl) ?_
    refine lv_iload_n hx hb dX5_separatorInIf_12 rfl (lv_at hl 0 rfl) ?_
    refine lv_bipush (v := 11) hx hb dX5_separatorInIf_13 (by decide) ?_
    refine lv_icmp_ne (tgt := 24) hx hb dX5_separatorInIf_15 (by decide) (fun c2 => ?_) (fun c2 => ?_)
    · replace hM := if_f c2 hM
      refine lv_sipush (v := 274) hx hb dX5_separatorInIf_24 (by decide) ?_
      obtain ⟨r3, hcr3, hM⟩ := ob_use hM
      refine cl_S (As := [.int a2, .int 274]) (rest := []) (([] : va_W)) (.int r3 :: []) ⟨hx, hb, hml, hown, hts⟩ (c_Writer_behindFirst l D cI sd ad a2 274 r3 hcr3) (cwS2 hts q919 mvX5_behindFirst rfl rfl ⟨(Nat.le_of_ble_eq_true rfl), (Nat.le_of_ble_eq_true rfl)⟩) hK hE hA hP hD hS [] rfl (by decide) rfl rfl rfl rfl rfl rfl hl.1 (Nat.le_of_ble_eq_true rfl) dX5_separatorInIf_27 ⟨Nat.zero_le _, Nat.zero_le _⟩ (fun H locs hP hD hS => ?_)
      cases hM
      exact rt_i hx hb hr hlk hP hD hS rfl dX5_separatorInIf_30
    · replace hM := if_t c2 hM
      refine lv_sipush (v := 275) hx hb dX5_separatorInIf_18 (by decide) ?_
      refine lv_goto (tgt := 27) hx hb dX5_separatorInIf_21 (by decide) ?_
      obtain ⟨r4, hcr4, hM⟩ := ob_use hM
      refine cl_S (As := [.int a2, .int 275]) (rest := []) (([] : va_W)) (.int r4 :: []) ⟨hx, hb, hml, hown, hts⟩ (c_Writer_behindFirst l D cI sd ad a2 275 r4 hcr4) (cwS2 hts q919 mvX5_behindFirst rfl rfl ⟨(Nat.le_of_ble_eq_true rfl), (Nat.le_of_ble_eq_true rfl)⟩) hK hE hA hP hD hS [] rfl (by decide) rfl rfl rfl rfl rfl rfl hl.1 (Nat.le_of_ble_eq_true rfl) dX5_separatorInIf_27 ⟨Nat.zero_le _, Nat.zero_le _⟩ (fun H locs hP hD hS => ?_)
      cases hM
      exact rt_i hx hb hr hlk hP hD hS rfl dX5_separatorInIf_30
  · replace hM := if_t c1 hM
    refine lv_sipush (v := 273) hx hb dX5_separatorInIf_7 (by decide) ?_
    cases hM
    exact rt_i hx hb hr hlk hP hD hS rfl dX5_separatorInIf_10

set_option maxHeartbeats 4000000 in
set_option maxRecDepth 100000 in
theorem c_Writer_separator (l : Launch) (D : va_G) (cI : ClassId) (sd : Nat → Nat) (ad : Nat → Nat) (a1 : Int32) (a2 : Int32) (a3 : Int32) (res : Int32) (hM : f_Writer_separator a1 a2 a3 = some res) : Ctr l D cI sd yX5_separator (wsM yX5_separator cX5_separator 3 (Option.some Jvm.ClassFile.FieldType.int)) { frames := 2, cells := 0, slots := 0, locals := 42 } [.int a1, .int a2, .int a3] (([] : va_W)) (([] : va_W)) (some (.int res)) := by
  refine Ctr.of (cc := cX5_separator) (maxL := 3) (own := RX5) (by decide +kernel) rfl rfl (Nat.le_of_ble_eq_true rfl) ?_
  intro p e s m below meth c A ls hx hb hr hml hown hts hlk hK hE hA hP hD hS hl
  have hl : lv_has ls 3 [(0, .int a1), (1, .int a2), (2, .int a3)] := hl
  unfold f_Writer_separator at hM
  refine lv_iload_n hx hb dX5_separator_0 rfl (lv_at hl 0 rfl) ?_
  by_cases c1 : a1 = 5
  · replace hM := if_t c1 hM
    refine lv_tableIn (tgt := 136) hx hb dX5_separator_1 (by rw [c1]; decide) (by rw [c1]; decide) (by rw [c1]; rfl) (by decide) ?_
    refine lv_iload_n hx hb dX5_separator_136 rfl (lv_at hl 1 rfl) ?_
    refine lv_iload_n hx hb dX5_separator_137 rfl (lv_at hl 2 rfl) ?_
    obtain ⟨r2, hcr2, hM⟩ := ob_use hM
    refine cl_S (As := [.int a2, .int a3]) (rest := []) (([] : va_W)) (.int r2 :: []) ⟨hx, hb, hml, hown, hts⟩ (c_Writer_separatorInDeclaration l D cI sd ad a2 a3 r2 hcr2) (cwS2 hts q916 mvX5_separatorInDeclaration rfl rfl ⟨(Nat.le_of_ble_eq_true rfl), (Nat.le_of_ble_eq_true rfl)⟩) hK hE hA hP hD hS [] rfl (by decide) rfl rfl rfl rfl rfl rfl hl.1 (Nat.le_of_ble_eq_true rfl) dX5_separator_138 ⟨Nat.zero_le _, Nat.zero_le _⟩ (fun H locs hP hD hS => ?_)
    cases hM
    exact rt_i hx hb hr hlk hP hD hS rfl dX5_separator_141
  replace hM := if_f c1 hM
  by_cases c3 : a1 = 6
  · replace hM := if_t c3 hM
    refine lv_tableIn (tgt := 232) hx hb dX5_separator_1 (by rw [c3]; decide) (by rw [c3]; decide) (by rw [c3]; rfl) (by decide) ?_
    refine lv_iconst (v := (-1)) hx hb dX5_separator_232 (by decide) ?_
    cases hM
    exact rt_i hx hb hr hlk hP hD hS rfl dX5_separator_233
  replace hM := if_f c3 hM
  by_cases c4 : a1 = 7
  · replace hM := if_t c4 hM
    refine lv_tableIn (tgt := 232) hx hb dX5_separator_1 (by rw [c4]; decide) (by rw [c4]; decide) (by rw [c4]; rfl) (by decide) ?_
    refine lv_iconst (v := (-1)) hx hb dX5_separator_232 (by decide) ?_
    cases hM
    exact rt_i hx hb hr hlk hP hD hS rfl dX5_separator_233
  replace hM := if_f c4 hM
  by_cases c5 : a1 = 8
  · replace hM := if_t c5 hM
    refine lv_tableIn (tgt := 232) hx hb dX5_separator_1 (by rw [c5]; decide) (by rw [c5]; decide) (by rw [c5]; rfl) (by decide) ?_
    refine lv_iconst (v := (-1)) hx hb dX5_separator_232 (by decide) ?_
    cases hM
    exact rt_i hx hb hr hlk hP hD hS rfl dX5_separator_233
  replace hM := if_f c5 hM
  by_cases c6 : a1 = 9
  · replace hM := if_t c6 hM
    refine lv_tableIn (tgt := 142) hx hb dX5_separator_1 (by rw [c6]; decide) (by rw [c6]; decide) (by rw [c6]; rfl) (by decide) ?_
    refine lv_iload_n hx hb dX5_separator_142 rfl (lv_at hl 2 rfl) ?_
    refine lv_if_ne (tgt := 150) hx hb dX5_separator_143 (by decide) (fun c7 => ?_) (fun c7 => ?_)
    · replace hM := if_f c7 hM
      refine lv_iload_n hx hb dX5_separator_150 rfl (lv_at hl 2 rfl) ?_
      refine lv_iconst (v := 1) hx hb dX5_separator_151 (by decide) ?_
      refine lv_icmp_ne (tgt := 161) hx hb dX5_separator_152 (by decide) (fun c8 => ?_) (fun c8 => ?_)
      · replace hM := if_f c8 hM
        refine lv_sipush (v := 271) hx hb dX5_separator_161 (by decide) ?_
        cases hM
        exact rt_i hx hb hr hlk hP hD hS rfl dX5_separator_164
      · replace hM := if_t c8 hM
        refine lv_sipush (v := 11822) hx hb dX5_separator_155 (by decide) ?_
        refine lv_goto (tgt := 164) hx hb dX5_separator_158 (by decide) ?_
        cases hM
        exact rt_i hx hb hr hlk hP hD hS rfl dX5_separator_164
    · replace hM := if_t c7 hM
      refine lv_iconst (v := (-1)) hx hb dX5_separator_146 (by decide) ?_
      refine lv_goto (tgt := 164) hx hb dX5_separator_147 (by decide) ?_
      cases hM
      exact rt_i hx hb hr hlk hP hD hS rfl dX5_separator_164
  replace hM := if_f c6 hM
  by_cases c9 : a1 = 10
  · replace hM := if_t c9 hM
    refine lv_tableIn (tgt := 232) hx hb dX5_separator_1 (by rw [c9]; decide) (by rw [c9]; decide) (by rw [c9]; rfl) (by decide) ?_
    refine lv_iconst (v := (-1)) hx hb dX5_separator_232 (by decide) ?_
    cases hM
    exact rt_i hx hb hr hlk hP hD hS rfl dX5_separator_233
  replace hM := if_f c9 hM
  by_cases c10 : a1 = 11
  · replace hM := if_t c10 hM
    refine lv_tableIn (tgt := 232) hx hb dX5_separator_1 (by rw [c10]; decide) (by rw [c10]; decide) (by rw [c10]; rfl) (by decide) ?_
    refine lv_iconst (v := (-1)) hx hb dX5_separator_232 (by decide) ?_
    cases hM
    exact rt_i hx hb hr hlk hP hD hS rfl dX5_separator_233
  replace hM := if_f c10 hM
  by_cases c11 : a1 = 12
  · replace hM := if_t c11 hM
    refine lv_tableIn (tgt := 216) hx hb dX5_separator_1 (by rw [c11]; decide) (by rw [c11]; decide) (by rw [c11]; rfl) (by decide) ?_
    refine lv_iload_n hx hb dX5_separator_216 rfl (lv_at hl 2 rfl) ?_
    refine lv_sipush (v := 14909) hx hb dX5_separator_217 (by decide) ?_
    obtain ⟨r12, hcr12, hM⟩ := ob_use hM
    refine cl_S (As := [.int a3, .int 14909]) (rest := []) (([] : va_W)) (.int r12 :: []) ⟨hx, hb, hml, hown, hts⟩ (c_Writer_behindFirst l D cI sd ad a3 14909 r12 hcr12) (cwS2 hts q919 mvX5_behindFirst rfl rfl ⟨(Nat.le_of_ble_eq_true rfl), (Nat.le_of_ble_eq_true rfl)⟩) hK hE hA hP hD hS [] rfl (by decide) rfl rfl rfl rfl rfl rfl hl.1 (Nat.le_of_ble_eq_true rfl) dX5_separator_220 ⟨Nat.zero_le _, Nat.zero_le _⟩ (fun H locs hP hD hS => ?_)
    cases hM
    exact rt_i hx hb hr hlk hP hD hS rfl dX5_separator_223
  replace hM := if_f c11 hM
  by_cases c13 : a1 = 13
  · replace hM := if_t c13 hM
    refine lv_tableIn (tgt := 209) hx hb dX5_separator_1 (by rw [c13]; decide) (by rw [c13]; decide) (by rw [c13]; rfl) (by decide) ?_
    refine lv_iload_n hx hb dX5_separator_209 rfl (lv_at hl 2 rfl) ?_
    refine lv_bipush (v := 44) hx hb dX5_separator_210 (by decide) ?_
    obtain ⟨r14, hcr14, hM⟩ := ob_use hM
    refine cl_S (As := [.int a3, .int 44]) (rest := []) (([] : va_W)) (.int r14 :: []) ⟨hx, hb, hml, hown, hts⟩ (c_Writer_behindFirst l D cI sd ad a3 44 r14 hcr14) (cwS2 hts q919 mvX5_behindFirst rfl rfl ⟨(Nat.le_of_ble_eq_true rfl), (Nat.le_of_ble_eq_true rfl)⟩) hK hE hA hP hD hS [] rfl (by decide) rfl rfl rfl rfl rfl rfl hl.1 (Nat.le_of_ble_eq_true rfl) dX5_separator_212 ⟨Nat.zero_le _, Nat.zero_le _⟩ (fun H locs hP hD hS => ?_)
    cases hM
    exact rt_i hx hb hr hlk hP hD hS rfl dX5_separator_215
  replace hM := if_f c13 hM
  by_cases c15 : a1 = 14
  · replace hM := if_t c15 hM
    refine lv_tableIn (tgt := 232) hx hb dX5_separator_1 (by rw [c15]; decide) (by rw [c15]; decide) (by rw [c15]; rfl) (by decide) ?_
    refine lv_iconst (v := (-1)) hx hb dX5_separator_232 (by decide) ?_
    cases hM
    exact rt_i hx hb hr hlk hP hD hS rfl dX5_separator_233
  replace hM := if_f c15 hM
  by_cases c16 : a1 = 15
  · replace hM := if_t c16 hM
    refine lv_tableIn (tgt := 165) hx hb dX5_separator_1 (by rw [c16]; decide) (by rw [c16]; decide) (by rw [c16]; rfl) (by decide) ?_
    refine lv_iload_n hx hb dX5_separator_165 rfl (lv_at hl 1 rfl) ?_
    refine lv_iload_n hx hb dX5_separator_166 rfl (lv_at hl 2 rfl) ?_
    obtain ⟨r17, hcr17, hM⟩ := ob_use hM
    refine cl_S (As := [.int a2, .int a3]) (rest := []) (([] : va_W)) (.int r17 :: []) ⟨hx, hb, hml, hown, hts⟩ (c_Writer_separatorInIf l D cI sd ad a2 a3 r17 hcr17) (cwS2 hts q922 mvX5_separatorInIf rfl rfl ⟨(Nat.le_of_ble_eq_true rfl), (Nat.le_of_ble_eq_true rfl)⟩) hK hE hA hP hD hS [] rfl (by decide) rfl rfl rfl rfl rfl rfl hl.1 (Nat.le_of_ble_eq_true rfl) dX5_separator_167 ⟨Nat.zero_le _, Nat.zero_le _⟩ (fun H locs hP hD hS => ?_)
    cases hM
    exact rt_i hx hb hr hlk hP hD hS rfl dX5_separator_170
  replace hM := if_f c16 hM
  by_cases c18 : a1 = 16
  · replace hM := if_t c18 hM
    refine lv_tableIn (tgt := 171) hx hb dX5_separator_1 (by rw [c18]; decide) (by rw [c18]; decide) (by rw [c18]; rfl) (by decide) ?_
    refine lv_iload_n hx hb dX5_separator_171 rfl (lv_at hl 1 rfl) ?_
    refine lv_bipush (v := 11) hx hb dX5_separator_172 (by decide) ?_
    refine lv_icmp_ne (tgt := 183) hx hb dX5_separator_174 (by decide) (fun c19 => ?_) (fun c19 => ?_)
    · replace hM := if_f c19 hM
      refine lv_iconst (v := (-1)) hx hb dX5_separator_183 (by decide) ?_
      cases hM
      exact rt_i hx hb hr hlk hP hD hS rfl dX5_separator_184
    · replace hM := if_t c19 hM
      refine lv_sipush (v := 275) hx hb dX5_separator_177 (by decide) ?_
      refine lv_goto (tgt := 184) hx hb dX5_separator_180 (by decide) ?_
      cases hM
      exact rt_i hx hb hr hlk hP hD hS rfl dX5_separator_184
  replace hM := if_f c18 hM
  by_cases c20 : a1 = 17
  · replace hM := if_t c20 hM
    refine lv_tableIn (tgt := 185) hx hb dX5_separator_1 (by rw [c20]; decide) (by rw [c20]; decide) (by rw [c20]; rfl) (by decide) ?_
    refine lv_iload_n hx hb dX5_separator_185 rfl (lv_at hl 1 rfl) ?_
    refine lv_bipush (v := 11) hx hb dX5_separator_186 (by decide) ?_
    refine lv_icmp_ne (tgt := 196) hx hb dX5_separator_188 (by decide) (fun c21 => ?_) (fun c21 => ?_)
    · replace hM := if_f c21 hM
      refine lv_iload_n hx hb dX5_separator_196 rfl (lv_at hl 2 rfl) ?_
      refine lv_bipush (v := 44) hx hb dX5_separator_197 (by decide) ?_
      obtain ⟨r22, hcr22, hM⟩ := ob_use hM
      refine cl_S (As := [.int a3, .int 44]) (rest := []) (([] : va_W)) (.int r22 :: []) ⟨hx, hb, hml, hown, hts⟩ (c_Writer_behindFirst l D cI sd ad a3 44 r22 hcr22) (cwS2 hts q919 mvX5_behindFirst rfl rfl ⟨(Nat.le_of_ble_eq_true rfl), (Nat.le_of_ble_eq_true rfl)⟩) hK hE hA hP hD hS [] rfl (by decide) rfl rfl rfl rfl rfl rfl hl.1 (Nat.le_of_ble_eq_true rfl) dX5_separator_199 ⟨Nat.zero_le _, Nat.zero_le _⟩ (fun H locs hP hD hS => ?_)
      cases hM
      exact rt_i hx hb hr hlk hP hD hS rfl dX5_separator_202
    · replace hM := if_t c21 hM
      refine lv_bipush (v := 58) hx hb dX5_separator_191 (by decide) ?_
      refine lv_goto (tgt := 202) hx hb dX5_separator_193 (by decide) ?_
      cases hM
      exact rt_i hx hb hr hlk hP hD hS rfl dX5_separator_202
  replace hM := if_f c20 hM
  by_cases c23 : a1 = 18
  · replace hM := if_t c23 hM
    refine lv_tableIn (tgt := 224) hx hb dX5_separator_1 (by rw [c23]; decide) (by rw [c23]; decide) (by rw [c23]; rfl) (by decide) ?_
    refine lv_iload_n hx hb dX5_separator_224 rfl (lv_at hl 2 rfl) ?_
    refine lv_sipush (v := 11822) hx hb dX5_separator_225 (by decide) ?_
    obtain ⟨r24, hcr24, hM⟩ := ob_use hM
    refine cl_S (As := [.int a3, .int 11822]) (rest := []) (([] : va_W)) (.int r24 :: []) ⟨hx, hb, hml, hown, hts⟩ (c_Writer_behindFirst l D cI sd ad a3 11822 r24 hcr24) (cwS2 hts q919 mvX5_behindFirst rfl rfl ⟨(Nat.le_of_ble_eq_true rfl), (Nat.le_of_ble_eq_true rfl)⟩) hK hE hA hP hD hS [] rfl (by decide) rfl rfl rfl rfl rfl rfl hl.1 (Nat.le_of_ble_eq_true rfl) dX5_separator_228 ⟨Nat.zero_le _, Nat.zero_le _⟩ (fun H locs hP hD hS => ?_)
    cases hM
    exact rt_i hx hb hr hlk hP hD hS rfl dX5_separator_231
  replace hM := if_f c23 hM
  by_cases c25 : a1 = 19
  · replace hM := if_t c25 hM
    refine lv_tableIn (tgt := 203) hx hb dX5_separator_1 (by rw [c25]; decide) (by rw [c25]; decide) (by rw [c25]; rfl) (by decide) ?_
    refine lv_iload_n hx hb dX5_separator_203 rfl (lv_at hl 1 rfl) ?_
    refine lv_iload_n hx hb dX5_separator_204 rfl (lv_at hl 2 rfl) ?_
    obtain ⟨r26, hcr26, hM⟩ := ob_use hM
    refine cl_S (As := [.int a2, .int a3]) (rest := []) (([] : va_W)) (.int r26 :: []) ⟨hx, hb, hml, hown, hts⟩ (c_Writer_separatorInFor l D cI sd ad a2 a3 r26 hcr26) (cwS2 hts q925 mvX5_separatorInFor rfl rfl ⟨(Nat.le_of_ble_eq_true rfl), (Nat.le_of_ble_eq_true rfl)⟩) hK hE hA hP hD hS [] rfl (by decide) rfl rfl rfl rfl rfl rfl hl.1 (Nat.le_of_ble_eq_true rfl) dX5_separator_205 ⟨Nat.zero_le _, Nat.zero_le _⟩ (fun H locs hP hD hS => ?_)
    cases hM
    exact rt_i hx hb hr hlk hP hD hS rfl dX5_separator_208
  replace hM := if_f c25 hM
  by_cases c27 : a1 = 20
  · replace hM := if_t c27 hM
    refine lv_tableIn (tgt := 232) hx hb dX5_separator_1 (by rw [c27]; decide) (by rw [c27]; decide) (by rw [c27]; rfl) (by decide) ?_
    refine lv_iconst (v := (-1)) hx hb dX5_separator_232 (by decide) ?_
    cases hM
    exact rt_i hx hb hr hlk hP hD hS rfl dX5_separator_233
  replace hM := if_f c27 hM
  by_cases c28 : a1 = 21
  · replace hM := if_t c28 hM
    refine lv_tableIn (tgt := 232) hx hb dX5_separator_1 (by rw [c28]; decide) (by rw [c28]; decide) (by rw [c28]; rfl) (by decide) ?_
    refine lv_iconst (v := (-1)) hx hb dX5_separator_232 (by decide) ?_
    cases hM
    exact rt_i hx hb hr hlk hP hD hS rfl dX5_separator_233
  replace hM := if_f c28 hM
  by_cases c29 : a1 = 22
  · replace hM := if_t c29 hM
    refine lv_tableIn (tgt := 232) hx hb dX5_separator_1 (by rw [c29]; decide) (by rw [c29]; decide) (by rw [c29]; rfl) (by decide) ?_
    refine lv_iconst (v := (-1)) hx hb dX5_separator_232 (by decide) ?_
    cases hM
    exact rt_i hx hb hr hlk hP hD hS rfl dX5_separator_233
  replace hM := if_f c29 hM
  by_cases c30 : a1 = 23
  · replace hM := if_t c30 hM
    refine lv_tableIn (tgt := 232) hx hb dX5_separator_1 (by rw [c30]; decide) (by rw [c30]; decide) (by rw [c30]; rfl) (by decide) ?_
    refine lv_iconst (v := (-1)) hx hb dX5_separator_232 (by decide) ?_
    cases hM
    exact rt_i hx hb hr hlk hP hD hS rfl dX5_separator_233
  replace hM := if_f c30 hM
  by_cases c31 : a1 = 24
  · replace hM := if_t c31 hM
    refine lv_tableIn (tgt := 232) hx hb dX5_separator_1 (by rw [c31]; decide) (by rw [c31]; decide) (by rw [c31]; rfl) (by decide) ?_
    refine lv_iconst (v := (-1)) hx hb dX5_separator_232 (by decide) ?_
    cases hM
    exact rt_i hx hb hr hlk hP hD hS rfl dX5_separator_233
  replace hM := if_f c31 hM
  by_cases c32 : a1 = 25
  · replace hM := if_t c32 hM
    refine lv_tableIn (tgt := 232) hx hb dX5_separator_1 (by rw [c32]; decide) (by rw [c32]; decide) (by rw [c32]; rfl) (by decide) ?_
    refine lv_iconst (v := (-1)) hx hb dX5_separator_232 (by decide) ?_
    cases hM
    exact rt_i hx hb hr hlk hP hD hS rfl dX5_separator_233
  replace hM := if_f c32 hM
  by_cases c33 : a1 = 26
  · replace hM := if_t c33 hM
    refine lv_tableIn (tgt := 232) hx hb dX5_separator_1 (by rw [c33]; decide) (by rw [c33]; decide) (by rw [c33]; rfl) (by decide) ?_
    refine lv_iconst (v := (-1)) hx hb dX5_separator_232 (by decide) ?_
    cases hM
    exact rt_i hx hb hr hlk hP hD hS rfl dX5_separator_233
  replace hM := if_f c33 hM
  by_cases c34 : a1 = 27
  · replace hM := if_t c34 hM
    refine lv_tableIn (tgt := 232) hx hb dX5_separator_1 (by rw [c34]; decide) (by rw [c34]; decide) (by rw [c34]; rfl) (by decide) ?_
    refine lv_iconst (v := (-1)) hx hb dX5_separator_232 (by decide) ?_
    cases hM
    exact rt_i hx hb hr hlk hP hD hS rfl dX5_separator_233
  replace hM := if_f c34 hM
  by_cases c35 : a1 = 28
  · replace hM := if_t c35 hM
    refine lv_tableIn (tgt := 232) hx hb dX5_separator_1 (by rw [c35]; decide) (by rw [c35]; decide) (by rw [c35]; rfl) (by decide) ?_
    refine lv_iconst (v := (-1)) hx hb dX5_separator_232 (by decide) ?_
    cases hM
    exact rt_i hx hb hr hlk hP hD hS rfl dX5_separator_233
  replace hM := if_f c35 hM
  by_cases c36 : a1 = 29
  · replace hM := if_t c36 hM
    refine lv_tableIn (tgt := 232) hx hb dX5_separator_1 (by rw [c36]; decide) (by rw [c36]; decide) (by rw [c36]; rfl) (by decide) ?_
    refine lv_iconst (v := (-1)) hx hb dX5_separator_232 (by decide) ?_
    cases hM
    exact rt_i hx hb hr hlk hP hD hS rfl dX5_separator_233
  replace hM := if_f c36 hM
  by_cases c37 : a1 = 30
  · replace hM := if_t c37 hM
    refine lv_tableIn (tgt := 232) hx hb dX5_separator_1 (by rw [c37]; decide) (by rw [c37]; decide) (by rw [c37]; rfl) (by decide) ?_
    refine lv_iconst (v := (-1)) hx hb dX5_separator_232 (by decide) ?_
    cases hM
    exact rt_i hx hb hr hlk hP hD hS rfl dX5_separator_233
  replace hM := if_f c37 hM
  by_cases c38 : a1 = 31
  · replace hM := if_t c38 hM
    refine lv_tableIn (tgt := 232) hx hb dX5_separator_1 (by rw [c38]; decide) (by rw [c38]; decide) (by rw [c38]; rfl) (by decide) ?_
    refine lv_iconst (v := (-1)) hx hb dX5_separator_232 (by decide) ?_
    cases hM
    exact rt_i hx hb hr hlk hP hD hS rfl dX5_separator_233
  replace hM := if_f c38 hM
  by_cases c39 : a1 = 32
  · replace hM := if_t c39 hM
    refine lv_tableIn (tgt := 232) hx hb dX5_separator_1 (by rw [c39]; decide) (by rw [c39]; decide) (by rw [c39]; rfl) (by decide) ?_
    refine lv_iconst (v := (-1)) hx hb dX5_separator_232 (by decide) ?_
    cases hM
    exact rt_i hx hb hr hlk hP hD hS rfl dX5_separator_233
  replace hM := if_f c39 hM
  by_cases c40 : a1 = 33
  · replace hM := if_t c40 hM
    refine lv_tableIn (tgt := 232) hx hb dX5_separator_1 (by rw [c40]; decide) (by rw [c40]; decide) (by rw [c40]; rfl) (by decide) ?_
    refine lv_iconst (v := (-1)) hx hb dX5_separator_232 (by decide) ?_
    cases hM
    exact rt_i hx hb hr hlk hP hD hS rfl dX5_separator_233
  replace hM := if_f c40 hM
  by_cases c41 : a1 = 34
  · replace hM := if_t c41 hM
    refine lv_tableIn (tgt := 209) hx hb dX5_separator_1 (by rw [c41]; decide) (by rw [c41]; decide) (by rw [c41]; rfl) (by decide) ?_
    refine lv_iload_n hx hb dX5_separator_209 rfl (lv_at hl 2 rfl) ?_
    refine lv_bipush (v := 44) hx hb dX5_separator_210 (by decide) ?_
    obtain ⟨r42, hcr42, hM⟩ := ob_use hM
    refine cl_S (As := [.int a3, .int 44]) (rest := []) (([] : va_W)) (.int r42 :: []) ⟨hx, hb, hml, hown, hts⟩ (c_Writer_behindFirst l D cI sd ad a3 44 r42 hcr42) (cwS2 hts q919 mvX5_behindFirst rfl rfl ⟨(Nat.le_of_ble_eq_true rfl), (Nat.le_of_ble_eq_true rfl)⟩) hK hE hA hP hD hS [] rfl (by decide) rfl rfl rfl rfl rfl rfl hl.1 (Nat.le_of_ble_eq_true rfl) dX5_separator_212 ⟨Nat.zero_le _, Nat.zero_le _⟩ (fun H locs hP hD hS => ?_)
    cases hM
    exact rt_i hx hb hr hlk hP hD hS rfl dX5_separator_215
  replace hM := if_f c41 hM
  refine lv_tableOut (tgt := 232) hx hb dX5_separator_1 (by have := lv_neT c1 (show (5 : Int32).toInt = 5 by decide); have := lv_neT c3 (show (6 : Int32).toInt = 6 by decide); have := lv_neT c4 (show (7 : Int32).toInt = 7 by decide); have := lv_neT c5 (show (8 : Int32).toInt = 8 by decide); have := lv_neT c6 (show (9 : Int32).toInt = 9 by decide); have := lv_neT c9 (show (10 : Int32).toInt = 10 by decide); have := lv_neT c10 (show (11 : Int32).toInt = 11 by decide); have := lv_neT c11 (show (12 : Int32).toInt = 12 by decide); have := lv_neT c13 (show (13 : Int32).toInt = 13 by decide); have := lv_neT c15 (show (14 : Int32).toInt = 14 by decide); have := lv_neT c16 (show (15 : Int32).toInt = 15 by decide); have := lv_neT c18 (show (16 : Int32).toInt = 16 by decide); have := lv_neT c20 (show (17 : Int32).toInt = 17 by decide); have := lv_neT c23 (show (18 : Int32).toInt = 18 by decide); have := lv_neT c25 (show (19 : Int32).toInt = 19 by decide); have := lv_neT c27 (show (20 : Int32).toInt = 20 by decide); have := lv_neT c28 (show (21 : Int32).toInt = 21 by decide); have := lv_neT c29 (show (22 : Int32).toInt = 22 by decide); have := lv_neT c30 (show (23 : Int32).toInt = 23 by decide); have := lv_neT c31 (show (24 : Int32).toInt = 24 by decide); have := lv_neT c32 (show (25 : Int32).toInt = 25 by decide); have := lv_neT c33 (show (26 : Int32).toInt = 26 by decide); have := lv_neT c34 (show (27 : Int32).toInt = 27 by decide); have := lv_neT c35 (show (28 : Int32).toInt = 28 by decide); have := lv_neT c36 (show (29 : Int32).toInt = 29 by decide); have := lv_neT c37 (show (30 : Int32).toInt = 30 by decide); have := lv_neT c38 (show (31 : Int32).toInt = 31 by decide); have := lv_neT c39 (show (32 : Int32).toInt = 32 by decide); have := lv_neT c40 (show (33 : Int32).toInt = 33 by decide); have := lv_neT c41 (show (34 : Int32).toInt = 34 by decide); omega) (by decide) ?_
  refine lv_iconst (v := (-1)) hx hb dX5_separator_232 (by decide) ?_
  cases hM
  exact rt_i hx hb hr hlk hP hD hS rfl dX5_separator_233

set_option maxHeartbeats 4000000 in
set_option maxRecDepth 100000 in
theorem c_Writer_separate (l : Launch) (D : va_G) (cI : ClassId) (sd : Nat → Nat) (ad : Nat → Nat) (o_tree : S_Tree) (o_names : S_Names) (o_out : S_Bytes) (a1 : Int32) (res : S_Bytes) (hM : f_Writer_separate o_tree o_names o_out a1 = some res) : Ctr l D cI sd yX5_separate (wsM yX5_separate cX5_separate 5 (Option.none : Option Jvm.ClassFile.FieldType)) { frames := 4, cells := 0, slots := 0, locals := 85 } [.ref (ad 23), .int a1] (wW ad ++ wT cI ad o_tree ++ wN cI ad o_names ++ wB cI (ad 3) (ad 4) 16384 o_out) (wW ad ++ wT cI ad o_tree ++ wN cI ad o_names ++ wB cI (ad 3) (ad 4) 16384 res) none := by
  refine Ctr.of (cc := cX5_separate) (maxL := 5) (own := RX5) (by decide +kernel) rfl rfl (Nat.le_of_ble_eq_true rfl) ?_
  intro p e s m below meth c A ls hx hb hr hml hown hts hlk hK hE hA hP hD hS hl
  have hl : lv_has ls 5 [(0, .ref (ad 23)), (1, .int a1)] := hl
  unfold f_Writer_separate at hM
  refine lv_aload_n hx hb dX5_separate_0 rfl (lv_at hl 0 rfl) ?_
  refine va_get (D := D) (ci := 5) (v := .ref (ad 14)) (C := RX5) (T := TX5) (N := 3) hx hb hts layX5 hown hK hP 0 rfl rfl 0 (by decide) (hts _ (inA q442)) (fun _ h9 => h9) rfl dX5_separate_1 ?_
  refine lv_iload_n hx hb dX5_separate_4 rfl (lv_at hl 1 rfl) ?_
  obtain ⟨r1, hcr1, hM⟩ := ob_use hM
  refine cl_V (As := [.int a1]) (rest := []) (wW ad ++ wT cI ad o_tree ++ wN cI ad o_names ++ wB cI (ad 3) (ad 4) 16384 o_out) (.int r1 :: []) ⟨hx, hb, hml, hown, hts⟩ (c_Tree_rank l D cI sd ad o_tree a1 r1 hcr1) (cwV2 hts q894 mvX3_rank rfl rfl ⟨(Nat.le_of_ble_eq_true rfl), (Nat.le_of_ble_eq_true rfl)⟩) hK hE hA hP hD hS 1 (T := TX3) (N := 8) (ci := 3) rfl rfl [1, 2, 3, 4, 5, 6, 7, 8] rfl (by decide) rfl rfl rfl rfl rfl rfl hl.1 (Nat.le_of_ble_eq_true rfl) dX5_separate_5 ⟨Nat.zero_le _, Nat.zero_le _⟩ (fun H locs hP hD hS => ?_)
  refine lv_istore_n (lv' := [(2, .int r1), (0, .ref (ad 23)), (1, .int a1)]) hx hb dX5_separate_8 rfl hl (by decide) rfl (fun ls hl => ?_)
  refine lv_aload_n hx hb dX5_separate_9 rfl (lv_at hl 1 rfl) ?_
  refine va_get (D := D) (ci := 5) (v := .ref (ad 14)) (C := RX5) (T := TX5) (N := 3) hx hb hts layX5 hown hK hP 0 rfl rfl 0 (by decide) (hts _ (inA q442)) (fun _ h9 => h9) rfl dX5_separate_10 ?_
  refine lv_iload_n hx hb dX5_separate_13 rfl (lv_at hl 2 rfl) ?_
  obtain ⟨r2, hcr2, hM⟩ := ob_use hM
  refine cl_V (As := [.int a1]) (rest := []) (wW ad ++ wT cI ad o_tree ++ wN cI ad o_names ++ wB cI (ad 3) (ad 4) 16384 o_out) (.int r2 :: []) ⟨hx, hb, hml, hown, hts⟩ (c_Tree_parent l D cI sd ad o_tree a1 r2 hcr2) (cwV2 hts q861 mvX3_parent rfl rfl ⟨(Nat.le_of_ble_eq_true rfl), (Nat.le_of_ble_eq_true rfl)⟩) hK hE hA hP hD hS 1 (T := TX3) (N := 8) (ci := 3) rfl rfl [1, 2, 3, 4, 5, 6, 7, 8] rfl (by decide) rfl rfl rfl rfl rfl rfl hl.1 (Nat.le_of_ble_eq_true rfl) dX5_separate_14 ⟨Nat.zero_le _, Nat.zero_le _⟩ (fun H locs hP hD hS => ?_)
  refine lv_istore_n (lv' := [(3, .int r2), (2, .int r1), (0, .ref (ad 23)), (1, .int a1)]) hx hb dX5_separate_17 rfl hl (by decide) rfl (fun ls hl => ?_)
  refine lv_aload_n hx hb dX5_separate_18 rfl (lv_at hl 2 rfl) ?_
  refine va_get (D := D) (ci := 5) (v := .ref (ad 14)) (C := RX5) (T := TX5) (N := 3) hx hb hts layX5 hown hK hP 0 rfl rfl 0 (by decide) (hts _ (inA q442)) (fun _ h9 => h9) rfl dX5_separate_19 ?_
  refine lv_iload_n hx hb dX5_separate_22 rfl (lv_at hl 0 rfl) ?_
  obtain ⟨r3, hcr3, hM⟩ := ob_use hM
  refine cl_V (As := [.int r2]) (rest := []) (wW ad ++ wT cI ad o_tree ++ wN cI ad o_names ++ wB cI (ad 3) (ad 4) 16384 o_out) (.int r3 :: []) ⟨hx, hb, hml, hown, hts⟩ (c_Tree_kind l D cI sd ad o_tree r2 r3 hcr3) (cwV2 hts q870 mvX3_kind rfl rfl ⟨(Nat.le_of_ble_eq_true rfl), (Nat.le_of_ble_eq_true rfl)⟩) hK hE hA hP hD hS 1 (T := TX3) (N := 8) (ci := 3) rfl rfl [1, 2, 3, 4, 5, 6, 7, 8] rfl (by decide) rfl rfl rfl rfl rfl rfl hl.1 (Nat.le_of_ble_eq_true rfl) dX5_separate_23 ⟨Nat.zero_le _, Nat.zero_le _⟩ (fun H locs hP hD hS => ?_)
  refine lv_istore (lv' := [(4, .int r3), (3, .int r2), (2, .int r1), (0, .ref (ad 23)), (1, .int a1)]) hx hb dX5_separate_26 hl (by decide) rfl (fun ls hl => ?_)
  refine lv_iload hx hb dX5_separate_28 (lv_at hl 0 rfl) ?_
  refine lv_bipush (v := 9) hx hb dX5_separate_30 (by decide) ?_
  refine lv_icmp_ne (tgt := 46) hx hb dX5_separate_32 (by decide) (fun c4 => ?_) (fun c4 => ?_)
  · replace hM := if_f c4 hM
    refine lv_iload hx hb dX5_separate_46 (lv_at hl 0 rfl) ?_
    refine lv_bipush (v := 16) hx hb dX5_separate_48 (by decide) ?_
    refine lv_icmp_ne (tgt := 65) hx hb dX5_separate_50 (by decide) (fun c5 => ?_) (fun c5 => ?_)
    · replace hM := if_f c5 hM
      refine lv_iload hx hb dX5_separate_65 (lv_at hl 0 rfl) ?_
      refine lv_bipush (v := 35) hx hb dX5_separate_67 (by decide) ?_
      refine lv_icmp_ne (tgt := 92) hx hb dX5_separate_69 (by decide) (fun c6 => ?_) (fun c6 => ?_)
      · replace hM := if_f c6 hM
        refine lv_aload_n hx hb dX5_separate_92 rfl (lv_at hl 3 rfl) ?_
        refine lv_iload hx hb dX5_separate_93 (lv_at hl 0 rfl) ?_
        refine lv_aload_n hx hb dX5_separate_95 rfl (lv_at hl 3 rfl) ?_
        refine va_get (D := D) (ci := 5) (v := .ref (ad 14)) (C := RX5) (T := TX5) (N := 3) hx hb hts layX5 hown hK hP 0 rfl rfl 0 (by decide) (hts _ (inA q442)) (fun _ h9 => h9) rfl dX5_separate_96 ?_
        refine lv_iload_n hx hb dX5_separate_99 rfl (lv_at hl 4 rfl) ?_
        obtain ⟨r7, hcr7, hM⟩ := ob_use hM
        refine cl_V (As := [.int a1]) (rest := [.int r3, .ref (ad 23)]) (wW ad ++ wT cI ad o_tree ++ wN cI ad o_names ++ wB cI (ad 3) (ad 4) 16384 o_out) (.int r7 :: [.int r3, .ref (ad 23)]) ⟨hx, hb, hml, hown, hts⟩ (c_Tree_kind l D cI sd ad o_tree a1 r7 hcr7) (cwV2 hts q870 mvX3_kind rfl rfl ⟨(Nat.le_of_ble_eq_true rfl), (Nat.le_of_ble_eq_true rfl)⟩) hK hE hA hP hD hS 1 (T := TX3) (N := 8) (ci := 3) rfl rfl [1, 2, 3, 4, 5, 6, 7, 8] rfl (by decide) rfl rfl rfl rfl rfl rfl hl.1 (Nat.le_of_ble_eq_true rfl) dX5_separate_100 ⟨Nat.zero_le _, Nat.zero_le _⟩ (fun H locs hP hD hS => ?_)
        refine lv_iload_n hx hb dX5_separate_103 rfl (lv_at hl 2 rfl) ?_
        obtain ⟨r8, hcr8, hM⟩ := ob_use hM
        refine cl_S (As := [.int r3, .int r7, .int r1]) (rest := [.ref (ad 23)]) (wW ad ++ wT cI ad o_tree ++ wN cI ad o_names ++ wB cI (ad 3) (ad 4) 16384 o_out) (.int r8 :: [.ref (ad 23)]) ⟨hx, hb, hml, hown, hts⟩ (c_Writer_separator l D cI sd ad r3 r7 r1 r8 hcr8) (cwS2 hts q913 mvX5_separator rfl rfl ⟨(Nat.le_of_ble_eq_true rfl), (Nat.le_of_ble_eq_true rfl)⟩) hK hE hA hP hD hS [] rfl (by decide) rfl rfl rfl rfl rfl rfl hl.1 (Nat.le_of_ble_eq_true rfl) dX5_separate_104 ⟨Nat.zero_le _, Nat.zero_le _⟩ (fun H locs hP hD hS => ?_)
        obtain ⟨r9, hcr9, hM⟩ := ob_use hM
        refine cl_V (As := [.int r8]) (rest := []) (wW ad ++ wT cI ad o_tree ++ wN cI ad o_names ++ wB cI (ad 3) (ad 4) 16384 r9) [] ⟨hx, hb, hml, hown, hts⟩ (c_Writer_token l D cI sd ad o_names o_out r8 r9 hcr9) (cwV2 hts q872 mvX5_token rfl rfl ⟨(Nat.le_of_ble_eq_true rfl), (Nat.le_of_ble_eq_true rfl)⟩) hK hE hA hP hD hS 0 (T := TX5) (N := 3) (ci := 5) rfl rfl [0, 9, 10, 11, 12, 13, 14, 15] rfl (by decide) rfl rfl rfl rfl rfl rfl hl.1 (Nat.le_of_ble_eq_true rfl) dX5_separate_107 ⟨Nat.zero_le _, Nat.zero_le _⟩ (fun H locs hP hD hS => ?_)
        cases hM
        exact rt_v hx hb hr hlk hP hD hS rfl dX5_separate_110
      · replace hM := if_t c6 hM
        refine lv_iload_n hx hb dX5_separate_72 rfl (lv_at hl 2 rfl) ?_
        refine lv_iconst (v := 1) hx hb dX5_separate_73 (by decide) ?_
        refine lv_icmp_ne (tgt := 92) hx hb dX5_separate_74 (by decide) (fun c10 => ?_) (fun c10 => ?_)
        · replace hM := if_f c10 hM
          refine lv_aload_n hx hb dX5_separate_92 rfl (lv_at hl 3 rfl) ?_
          refine lv_iload hx hb dX5_separate_93 (lv_at hl 0 rfl) ?_
          refine lv_aload_n hx hb dX5_separate_95 rfl (lv_at hl 3 rfl) ?_
          refine va_get (D := D) (ci := 5) (v := .ref (ad 14)) (C := RX5) (T := TX5) (N := 3) hx hb hts layX5 hown hK hP 0 rfl rfl 0 (by decide) (hts _ (inA q442)) (fun _ h9 => h9) rfl dX5_separate_96 ?_
          refine lv_iload_n hx hb dX5_separate_99 rfl (lv_at hl 4 rfl) ?_
          obtain ⟨r11, hcr11, hM⟩ := ob_use hM
          refine cl_V (As := [.int a1]) (rest := [.int r3, .ref (ad 23)]) (wW ad ++ wT cI ad o_tree ++ wN cI ad o_names ++ wB cI (ad 3) (ad 4) 16384 o_out) (.int r11 :: [.int r3, .ref (ad 23)]) ⟨hx, hb, hml, hown, hts⟩ (c_Tree_kind l D cI sd ad o_tree a1 r11 hcr11) (cwV2 hts q870 mvX3_kind rfl rfl ⟨(Nat.le_of_ble_eq_true rfl), (Nat.le_of_ble_eq_true rfl)⟩) hK hE hA hP hD hS 1 (T := TX3) (N := 8) (ci := 3) rfl rfl [1, 2, 3, 4, 5, 6, 7, 8] rfl (by decide) rfl rfl rfl rfl rfl rfl hl.1 (Nat.le_of_ble_eq_true rfl) dX5_separate_100 ⟨Nat.zero_le _, Nat.zero_le _⟩ (fun H locs hP hD hS => ?_)
          refine lv_iload_n hx hb dX5_separate_103 rfl (lv_at hl 2 rfl) ?_
          obtain ⟨r12, hcr12, hM⟩ := ob_use hM
          refine cl_S (As := [.int r3, .int r11, .int r1]) (rest := [.ref (ad 23)]) (wW ad ++ wT cI ad o_tree ++ wN cI ad o_names ++ wB cI (ad 3) (ad 4) 16384 o_out) (.int r12 :: [.ref (ad 23)]) ⟨hx, hb, hml, hown, hts⟩ (c_Writer_separator l D cI sd ad r3 r11 r1 r12 hcr12) (cwS2 hts q913 mvX5_separator rfl rfl ⟨(Nat.le_of_ble_eq_true rfl), (Nat.le_of_ble_eq_true rfl)⟩) hK hE hA hP hD hS [] rfl (by decide) rfl rfl rfl rfl rfl rfl hl.1 (Nat.le_of_ble_eq_true rfl) dX5_separate_104 ⟨Nat.zero_le _, Nat.zero_le _⟩ (fun H locs hP hD hS => ?_)
          obtain ⟨r13, hcr13, hM⟩ := ob_use hM
          refine cl_V (As := [.int r12]) (rest := []) (wW ad ++ wT cI ad o_tree ++ wN cI ad o_names ++ wB cI (ad 3) (ad 4) 16384 r13) [] ⟨hx, hb, hml, hown, hts⟩ (c_Writer_token l D cI sd ad o_names o_out r12 r13 hcr13) (cwV2 hts q872 mvX5_token rfl rfl ⟨(Nat.le_of_ble_eq_true rfl), (Nat.le_of_ble_eq_true rfl)⟩) hK hE hA hP hD hS 0 (T := TX5) (N := 3) (ci := 5) rfl rfl [0, 9, 10, 11, 12, 13, 14, 15] rfl (by decide) rfl rfl rfl rfl rfl rfl hl.1 (Nat.le_of_ble_eq_true rfl) dX5_separate_107 ⟨Nat.zero_le _, Nat.zero_le _⟩ (fun H locs hP hD hS => ?_)
          cases hM
          exact rt_v hx hb hr hlk hP hD hS rfl dX5_separate_110
        · replace hM := if_t c10 hM
          refine lv_aload_n hx hb dX5_separate_77 rfl (lv_at hl 3 rfl) ?_
          refine lv_aload_n hx hb dX5_separate_78 rfl (lv_at hl 3 rfl) ?_
          refine va_get (D := D) (ci := 5) (v := .ref (ad 14)) (C := RX5) (T := TX5) (N := 3) hx hb hts layX5 hown hK hP 0 rfl rfl 0 (by decide) (hts _ (inA q442)) (fun _ h9 => h9) rfl dX5_separate_79 ?_
          refine lv_iload_n hx hb dX5_separate_82 rfl (lv_at hl 1 rfl) ?_
          obtain ⟨r14, hcr14, hM⟩ := ob_use hM
          refine cl_V (As := [.int r2]) (rest := [.ref (ad 23)]) (wW ad ++ wT cI ad o_tree ++ wN cI ad o_names ++ wB cI (ad 3) (ad 4) 16384 o_out) (.int r14 :: [.ref (ad 23)]) ⟨hx, hb, hml, hown, hts⟩ (c_Tree_value l D cI sd ad o_tree r2 r14 hcr14) (cwV2 hts q892 mvX3_value rfl rfl ⟨(Nat.le_of_ble_eq_true rfl), (Nat.le_of_ble_eq_true rfl)⟩) hK hE hA hP hD hS 1 (T := TX3) (N := 8) (ci := 3) rfl rfl [1, 2, 3, 4, 5, 6, 7, 8] rfl (by decide) rfl rfl rfl rfl rfl rfl hl.1 (Nat.le_of_ble_eq_true rfl) dX5_separate_83 ⟨Nat.zero_le _, Nat.zero_le _⟩ (fun H locs hP hD hS => ?_)
          obtain ⟨r15, hcr15, hM⟩ := ob_use hM
          refine cl_S (As := [.int r14]) (rest := [.ref (ad 23)]) (wW ad ++ wT cI ad o_tree ++ wN cI ad o_names ++ wB cI (ad 3) (ad 4) 16384 o_out) (.int r15 :: [.ref (ad 23)]) ⟨hx, hb, hml, hown, hts⟩ (c_Sign_between l D cI sd ad r14 r15 hcr15) (cwS2 hts q908 mvX7_between rfl rfl ⟨(Nat.le_of_ble_eq_true rfl), (Nat.le_of_ble_eq_true rfl)⟩) hK hE hA hP hD hS [] rfl (by decide) rfl rfl rfl rfl rfl rfl hl.1 (Nat.le_of_ble_eq_true rfl) dX5_separate_86 ⟨Nat.zero_le _, Nat.zero_le _⟩ (fun H locs hP hD hS => ?_)
          obtain ⟨r16, hcr16, hM⟩ := ob_use hM
          refine cl_V (As := [.int r15]) (rest := []) (wW ad ++ wT cI ad o_tree ++ wN cI ad o_names ++ wB cI (ad 3) (ad 4) 16384 r16) [] ⟨hx, hb, hml, hown, hts⟩ (c_Writer_token l D cI sd ad o_names o_out r15 r16 hcr16) (cwV2 hts q872 mvX5_token rfl rfl ⟨(Nat.le_of_ble_eq_true rfl), (Nat.le_of_ble_eq_true rfl)⟩) hK hE hA hP hD hS 0 (T := TX5) (N := 3) (ci := 5) rfl rfl [0, 9, 10, 11, 12, 13, 14, 15] rfl (by decide) rfl rfl rfl rfl rfl rfl hl.1 (Nat.le_of_ble_eq_true rfl) dX5_separate_89 ⟨Nat.zero_le _, Nat.zero_le _⟩ (fun H locs hP hD hS => ?_)
          refine lv_aload_n hx hb dX5_separate_92 rfl (lv_at hl 3 rfl) ?_
          refine lv_iload hx hb dX5_separate_93 (lv_at hl 0 rfl) ?_
          refine lv_aload_n hx hb dX5_separate_95 rfl (lv_at hl 3 rfl) ?_
          refine va_get (D := D) (ci := 5) (v := .ref (ad 14)) (C := RX5) (T := TX5) (N := 3) hx hb hts layX5 hown hK hP 0 rfl rfl 0 (by decide) (hts _ (inA q442)) (fun _ h9 => h9) rfl dX5_separate_96 ?_
          refine lv_iload_n hx hb dX5_separate_99 rfl (lv_at hl 4 rfl) ?_
          obtain ⟨r17, hcr17, hM⟩ := ob_use hM
          refine cl_V (As := [.int a1]) (rest := [.int r3, .ref (ad 23)]) (wW ad ++ wT cI ad o_tree ++ wN cI ad o_names ++ wB cI (ad 3) (ad 4) 16384 r16) (.int r17 :: [.int r3, .ref (ad 23)]) ⟨hx, hb, hml, hown, hts⟩ (c_Tree_kind l D cI sd ad o_tree a1 r17 hcr17) (cwV2 hts q870 mvX3_kind rfl rfl ⟨(Nat.le_of_ble_eq_true rfl), (Nat.le_of_ble_eq_true rfl)⟩) hK hE hA hP hD hS 1 (T := TX3) (N := 8) (ci := 3) rfl rfl [1, 2, 3, 4, 5, 6, 7, 8] rfl (by decide) rfl rfl rfl rfl rfl rfl hl.1 (Nat.le_of_ble_eq_true rfl) dX5_separate_100 ⟨Nat.zero_le _, Nat.zero_le _⟩ (fun H locs hP hD hS => ?_)
          refine lv_iload_n hx hb dX5_separate_103 rfl (lv_at hl 2 rfl) ?_
          obtain ⟨r18, hcr18, hM⟩ := ob_use hM
          refine cl_S (As := [.int r3, .int r17, .int r1]) (rest := [.ref (ad 23)]) (wW ad ++ wT cI ad o_tree ++ wN cI ad o_names ++ wB cI (ad 3) (ad 4) 16384 r16) (.int r18 :: [.ref (ad 23)]) ⟨hx, hb, hml, hown, hts⟩ (c_Writer_separator l D cI sd ad r3 r17 r1 r18 hcr18) (cwS2 hts q913 mvX5_separator rfl rfl ⟨(Nat.le_of_ble_eq_true rfl), (Nat.le_of_ble_eq_true rfl)⟩) hK hE hA hP hD hS [] rfl (by decide) rfl rfl rfl rfl rfl rfl hl.1 (Nat.le_of_ble_eq_true rfl) dX5_separate_104 ⟨Nat.zero_le _, Nat.zero_le _⟩ (fun H locs hP hD hS => ?_)
          obtain ⟨r19, hcr19, hM⟩ := ob_use hM
          refine cl_V (As := [.int r18]) (rest := []) (wW ad ++ wT cI ad o_tree ++ wN cI ad o_names ++ wB cI (ad 3) (ad 4) 16384 r19) [] ⟨hx, hb, hml, hown, hts⟩ (c_Writer_token l D cI sd ad o_names r16 r18 r19 hcr19) (cwV2 hts q872 mvX5_token rfl rfl ⟨(Nat.le_of_ble_eq_true rfl), (Nat.le_of_ble_eq_true rfl)⟩) hK hE hA hP hD hS 0 (T := TX5) (N := 3) (ci := 5) rfl rfl [0, 9, 10, 11, 12, 13, 14, 15] rfl (by decide) rfl rfl rfl rfl rfl rfl hl.1 (Nat.le_of_ble_eq_true rfl) dX5_separate_107 ⟨Nat.zero_le _, Nat.zero_le _⟩ (fun H locs hP hD hS => ?_)
          cases hM
          exact rt_v hx hb hr hlk hP hD hS rfl dX5_separate_110
    · replace hM := if_t c5 hM
      refine lv_iload_n hx hb dX5_separate_53 rfl (lv_at hl 2 rfl) ?_
      refine lv_iconst (v := 1) hx hb dX5_separate_54 (by decide) ?_
      refine lv_icmp_ne (tgt := 65) hx hb dX5_separate_55 (by decide) (fun c20 => ?_) (fun c20 => ?_)
      · replace hM := if_f c20 hM
        refine lv_iload hx hb dX5_separate_65 (lv_at hl 0 rfl) ?_
        refine lv_bipush (v := 35) hx hb dX5_separate_67 (by decide) ?_
        refine lv_icmp_ne (tgt := 92) hx hb dX5_separate_69 (by decide) (fun c21 => ?_) (fun c21 => ?_)
        · replace hM := if_f c21 hM
          refine lv_aload_n hx hb dX5_separate_92 rfl (lv_at hl 3 rfl) ?_
          refine lv_iload hx hb dX5_separate_93 (lv_at hl 0 rfl) ?_
          refine lv_aload_n hx hb dX5_separate_95 rfl (lv_at hl 3 rfl) ?_
          refine va_get (D := D) (ci := 5) (v := .ref (ad 14)) (C := RX5) (T := TX5) (N := 3) hx hb hts layX5 hown hK hP 0 rfl rfl 0 (by decide) (hts _ (inA q442)) (fun _ h9 => h9) rfl dX5_separate_96 ?_
          refine lv_iload_n hx hb dX5_separate_99 rfl (lv_at hl 4 rfl) ?_
          obtain ⟨r22, hcr22, hM⟩ := ob_use hM
          refine cl_V (As := [.int a1]) (rest := [.int r3, .ref (ad 23)]) (wW ad ++ wT cI ad o_tree ++ wN cI ad o_names ++ wB cI (ad 3) (ad 4) 16384 o_out) (.int r22 :: [.int r3, .ref (ad 23)]) ⟨hx, hb, hml, hown, hts⟩ (c_Tree_kind l D cI sd ad o_tree a1 r22 hcr22) (cwV2 hts q870 mvX3_kind rfl rfl ⟨(Nat.le_of_ble_eq_true rfl), (Nat.le_of_ble_eq_true rfl)⟩) hK hE hA hP hD hS 1 (T := TX3) (N := 8) (ci := 3) rfl rfl [1, 2, 3, 4, 5, 6, 7, 8] rfl (by decide) rfl rfl rfl rfl rfl rfl hl.1 (Nat.le_of_ble_eq_true rfl) dX5_separate_100 ⟨Nat.zero_le _, Nat.zero_le _⟩ (fun H locs hP hD hS => ?_)
          refine lv_iload_n hx hb dX5_separate_103 rfl (lv_at hl 2 rfl) ?_
          obtain ⟨r23, hcr23, hM⟩ := ob_use hM
          refine cl_S (As := [.int r3, .int r22, .int r1]) (rest := [.ref (ad 23)]) (wW ad ++ wT cI ad o_tree ++ wN cI ad o_names ++ wB cI (ad 3) (ad 4) 16384 o_out) (.int r23 :: [.ref (ad 23)]) ⟨hx, hb, hml, hown, hts⟩ (c_Writer_separator l D cI sd ad r3 r22 r1 r23 hcr23) (cwS2 hts q913 mvX5_separator rfl rfl ⟨(Nat.le_of_ble_eq_true rfl), (Nat.le_of_ble_eq_true rfl)⟩) hK hE hA hP hD hS [] rfl (by decide) rfl rfl rfl rfl rfl rfl hl.1 (Nat.le_of_ble_eq_true rfl) dX5_separate_104 ⟨Nat.zero_le _, Nat.zero_le _⟩ (fun H locs hP hD hS => ?_)
          obtain ⟨r24, hcr24, hM⟩ := ob_use hM
          refine cl_V (As := [.int r23]) (rest := []) (wW ad ++ wT cI ad o_tree ++ wN cI ad o_names ++ wB cI (ad 3) (ad 4) 16384 r24) [] ⟨hx, hb, hml, hown, hts⟩ (c_Writer_token l D cI sd ad o_names o_out r23 r24 hcr24) (cwV2 hts q872 mvX5_token rfl rfl ⟨(Nat.le_of_ble_eq_true rfl), (Nat.le_of_ble_eq_true rfl)⟩) hK hE hA hP hD hS 0 (T := TX5) (N := 3) (ci := 5) rfl rfl [0, 9, 10, 11, 12, 13, 14, 15] rfl (by decide) rfl rfl rfl rfl rfl rfl hl.1 (Nat.le_of_ble_eq_true rfl) dX5_separate_107 ⟨Nat.zero_le _, Nat.zero_le _⟩ (fun H locs hP hD hS => ?_)
          cases hM
          exact rt_v hx hb hr hlk hP hD hS rfl dX5_separate_110
        · replace hM := if_t c21 hM
          refine lv_iload_n hx hb dX5_separate_72 rfl (lv_at hl 2 rfl) ?_
          refine lv_iconst (v := 1) hx hb dX5_separate_73 (by decide) ?_
          refine lv_icmp_ne (tgt := 92) hx hb dX5_separate_74 (by decide) (fun c25 => ?_) (fun c25 => ?_)
          · replace hM := if_f c25 hM
            refine lv_aload_n hx hb dX5_separate_92 rfl (lv_at hl 3 rfl) ?_
            refine lv_iload hx hb dX5_separate_93 (lv_at hl 0 rfl) ?_
            refine lv_aload_n hx hb dX5_separate_95 rfl (lv_at hl 3 rfl) ?_
            refine va_get (D := D) (ci := 5) (v := .ref (ad 14)) (C := RX5) (T := TX5) (N := 3) hx hb hts layX5 hown hK hP 0 rfl rfl 0 (by decide) (hts _ (inA q442)) (fun _ h9 => h9) rfl dX5_separate_96 ?_
            refine lv_iload_n hx hb dX5_separate_99 rfl (lv_at hl 4 rfl) ?_
            obtain ⟨r26, hcr26, hM⟩ := ob_use hM
            refine cl_V (As := [.int a1]) (rest := [.int r3, .ref (ad 23)]) (wW ad ++ wT cI ad o_tree ++ wN cI ad o_names ++ wB cI (ad 3) (ad 4) 16384 o_out) (.int r26 :: [.int r3, .ref (ad 23)]) ⟨hx, hb, hml, hown, hts⟩ (c_Tree_kind l D cI sd ad o_tree a1 r26 hcr26) (cwV2 hts q870 mvX3_kind rfl rfl ⟨(Nat.le_of_ble_eq_true rfl), (Nat.le_of_ble_eq_true rfl)⟩) hK hE hA hP hD hS 1 (T := TX3) (N := 8) (ci := 3) rfl rfl [1, 2, 3, 4, 5, 6, 7, 8] rfl (by decide) rfl rfl rfl rfl rfl rfl hl.1 (Nat.le_of_ble_eq_true rfl) dX5_separate_100 ⟨Nat.zero_le _, Nat.zero_le _⟩ (fun H locs hP hD hS => ?_)
            refine lv_iload_n hx hb dX5_separate_103 rfl (lv_at hl 2 rfl) ?_
            obtain ⟨r27, hcr27, hM⟩ := ob_use hM
            refine cl_S (As := [.int r3, .int r26, .int r1]) (rest := [.ref (ad 23)]) (wW ad ++ wT cI ad o_tree ++ wN cI ad o_names ++ wB cI (ad 3) (ad 4) 16384 o_out) (.int r27 :: [.ref (ad 23)]) ⟨hx, hb, hml, hown, hts⟩ (c_Writer_separator l D cI sd ad r3 r26 r1 r27 hcr27) (cwS2 hts q913 mvX5_separator rfl rfl ⟨(Nat.le_of_ble_eq_true rfl), (Nat.le_of_ble_eq_true rfl)⟩) hK hE hA hP hD hS [] rfl (by decide) rfl rfl rfl rfl rfl rfl hl.1 (Nat.le_of_ble_eq_true rfl) dX5_separate_104 ⟨Nat.zero_le _, Nat.zero_le _⟩ (fun H locs hP hD hS => ?_)
            obtain ⟨r28, hcr28, hM⟩ := ob_use hM
            refine cl_V (As := [.int r27]) (rest := []) (wW ad ++ wT cI ad o_tree ++ wN cI ad o_names ++ wB cI (ad 3) (ad 4) 16384 r28) [] ⟨hx, hb, hml, hown, hts⟩ (c_Writer_token l D cI sd ad o_names o_out r27 r28 hcr28) (cwV2 hts q872 mvX5_token rfl rfl ⟨(Nat.le_of_ble_eq_true rfl), (Nat.le_of_ble_eq_true rfl)⟩) hK hE hA hP hD hS 0 (T := TX5) (N := 3) (ci := 5) rfl rfl [0, 9, 10, 11, 12, 13, 14, 15] rfl (by decide) rfl rfl rfl rfl rfl rfl hl.1 (Nat.le_of_ble_eq_true rfl) dX5_separate_107 ⟨Nat.zero_le _, Nat.zero_le _⟩ (fun H locs hP hD hS => ?_)
            cases hM
            exact rt_v hx hb hr hlk hP hD hS rfl dX5_separate_110
          · replace hM := if_t c25 hM
            refine lv_aload_n hx hb dX5_separate_77 rfl (lv_at hl 3 rfl) ?_
            refine lv_aload_n hx hb dX5_separate_78 rfl (lv_at hl 3 rfl) ?_
            refine va_get (D := D) (ci := 5) (v := .ref (ad 14)) (C := RX5) (T := TX5) (N := 3) hx hb hts layX5 hown hK hP 0 rfl rfl 0 (by decide) (hts _ (inA q442)) (fun _ h9 => h9) rfl dX5_separate_79 ?_
            refine lv_iload_n hx hb dX5_separate_82 rfl (lv_at hl 1 rfl) ?_
            obtain ⟨r29, hcr29, hM⟩ := ob_use hM
            refine cl_V (As := [.int r2]) (rest := [.ref (ad 23)]) (wW ad ++ wT cI ad o_tree ++ wN cI ad o_names ++ wB cI (ad 3) (ad 4) 16384 o_out) (.int r29 :: [.ref (ad 23)]) ⟨hx, hb, hml, hown, hts⟩ (c_Tree_value l D cI sd ad o_tree r2 r29 hcr29) (cwV2 hts q892 mvX3_value rfl rfl ⟨(Nat.le_of_ble_eq_true rfl), (Nat.le_of_ble_eq_true rfl)⟩) hK hE hA hP hD hS 1 (T := TX3) (N := 8) (ci := 3) rfl rfl [1, 2, 3, 4, 5, 6, 7, 8] rfl (by decide) rfl rfl rfl rfl rfl rfl hl.1 (Nat.le_of_ble_eq_true rfl) dX5_separate_83 ⟨Nat.zero_le _, Nat.zero_le _⟩ (fun H locs hP hD hS => ?_)
            obtain ⟨r30, hcr30, hM⟩ := ob_use hM
            refine cl_S (As := [.int r29]) (rest := [.ref (ad 23)]) (wW ad ++ wT cI ad o_tree ++ wN cI ad o_names ++ wB cI (ad 3) (ad 4) 16384 o_out) (.int r30 :: [.ref (ad 23)]) ⟨hx, hb, hml, hown, hts⟩ (c_Sign_between l D cI sd ad r29 r30 hcr30) (cwS2 hts q908 mvX7_between rfl rfl ⟨(Nat.le_of_ble_eq_true rfl), (Nat.le_of_ble_eq_true rfl)⟩) hK hE hA hP hD hS [] rfl (by decide) rfl rfl rfl rfl rfl rfl hl.1 (Nat.le_of_ble_eq_true rfl) dX5_separate_86 ⟨Nat.zero_le _, Nat.zero_le _⟩ (fun H locs hP hD hS => ?_)
            obtain ⟨r31, hcr31, hM⟩ := ob_use hM
            refine cl_V (As := [.int r30]) (rest := []) (wW ad ++ wT cI ad o_tree ++ wN cI ad o_names ++ wB cI (ad 3) (ad 4) 16384 r31) [] ⟨hx, hb, hml, hown, hts⟩ (c_Writer_token l D cI sd ad o_names o_out r30 r31 hcr31) (cwV2 hts q872 mvX5_token rfl rfl ⟨(Nat.le_of_ble_eq_true rfl), (Nat.le_of_ble_eq_true rfl)⟩) hK hE hA hP hD hS 0 (T := TX5) (N := 3) (ci := 5) rfl rfl [0, 9, 10, 11, 12, 13, 14, 15] rfl (by decide) rfl rfl rfl rfl rfl rfl hl.1 (Nat.le_of_ble_eq_true rfl) dX5_separate_89 ⟨Nat.zero_le _, Nat.zero_le _⟩ (fun H locs hP hD hS => ?_)
            refine lv_aload_n hx hb dX5_separate_92 rfl (lv_at hl 3 rfl) ?_
            refine lv_iload hx hb dX5_separate_93 (lv_at hl 0 rfl) ?_
            refine lv_aload_n hx hb dX5_separate_95 rfl (lv_at hl 3 rfl) ?_
            refine va_get (D := D) (ci := 5) (v := .ref (ad 14)) (C := RX5) (T := TX5) (N := 3) hx hb hts layX5 hown hK hP 0 rfl rfl 0 (by decide) (hts _ (inA q442)) (fun _ h9 => h9) rfl dX5_separate_96 ?_
            refine lv_iload_n hx hb dX5_separate_99 rfl (lv_at hl 4 rfl) ?_
            obtain ⟨r32, hcr32, hM⟩ := ob_use hM
            refine cl_V (As := [.int a1]) (rest := [.int r3, .ref (ad 23)]) (wW ad ++ wT cI ad o_tree ++ wN cI ad o_names ++ wB cI (ad 3) (ad 4) 16384 r31) (.int r32 :: [.int r3, .ref (ad 23)]) ⟨hx, hb, hml, hown, hts⟩ (c_Tree_kind l D cI sd ad o_tree a1 r32 hcr32) (cwV2 hts q870 mvX3_kind rfl rfl ⟨(Nat.le_of_ble_eq_true rfl), (Nat.le_of_ble_eq_true rfl)⟩) hK hE hA hP hD hS 1 (T := TX3) (N := 8) (ci := 3) rfl rfl [1, 2, 3, 4, 5, 6, 7, 8] rfl (by decide) rfl rfl rfl rfl rfl rfl hl.1 (Nat.le_of_ble_eq_true rfl) dX5_separate_100 ⟨Nat.zero_le _, Nat.zero_le _⟩ (fun H locs hP hD hS => ?_)
            refine lv_iload_n hx hb dX5_separate_103 rfl (lv_at hl 2 rfl) ?_
            obtain ⟨r33, hcr33, hM⟩ := ob_use hM
            refine cl_S (As := [.int r3, .int r32, .int r1]) (rest := [.ref (ad 23)]) (wW ad ++ wT cI ad o_tree ++ wN cI ad o_names ++ wB cI (ad 3) (ad 4) 16384 r31) (.int r33 :: [.ref (ad 23)]) ⟨hx, hb, hml, hown, hts⟩ (c_Writer_separator l D cI sd ad r3 r32 r1 r33 hcr33) (cwS2 hts q913 mvX5_separator rfl rfl ⟨(Nat.le_of_ble_eq_true rfl), (Nat.le_of_ble_eq_true rfl)⟩) hK hE hA hP hD hS [] rfl (by decide) rfl rfl rfl rfl rfl rfl hl.1 (Nat.le_of_ble_eq_true rfl) dX5_separate_104 ⟨Nat.zero_le _, Nat.zero_le _⟩ (fun H locs hP hD hS => ?_)
            obtain ⟨r34, hcr34, hM⟩ := ob_use hM
            refine cl_V (As := [.int r33]) (rest := []) (wW ad ++ wT cI ad o_tree ++ wN cI ad o_names ++ wB cI (ad 3) (ad 4) 16384 r34) [] ⟨hx, hb, hml, hown, hts⟩ (c_Writer_token l D cI sd ad o_names r31 r33 r34 hcr34) (cwV2 hts q872 mvX5_token rfl rfl ⟨(Nat.le_of_ble_eq_true rfl), (Nat.le_of_ble_eq_true rfl)⟩) hK hE hA hP hD hS 0 (T := TX5) (N := 3) (ci := 5) rfl rfl [0, 9, 10, 11, 12, 13, 14, 15] rfl (by decide) rfl rfl rfl rfl rfl rfl hl.1 (Nat.le_of_ble_eq_true rfl) dX5_separate_107 ⟨Nat.zero_le _, Nat.zero_le _⟩ (fun H locs hP hD hS => ?_)
            cases hM
            exact rt_v hx hb hr hlk hP hD hS rfl dX5_separate_110
      · replace hM := if_t c20 hM
        refine lv_aload_n hx hb dX5_separate_58 rfl (lv_at hl 3 rfl) ?_
        refine lv_sipush (v := 271) hx hb dX5_separate_59 (by decide) ?_
        obtain ⟨r35, hcr35, hM⟩ := ob_use hM
        refine cl_V (As := [.int 271]) (rest := []) (wW ad ++ wT cI ad o_tree ++ wN cI ad o_names ++ wB cI (ad 3) (ad 4) 16384 r35) [] ⟨hx, hb, hml, hown, hts⟩ (c_Writer_token l D cI sd ad o_names o_out 271 r35 hcr35) (cwV2 hts q872 mvX5_token rfl rfl ⟨(Nat.le_of_ble_eq_true rfl), (Nat.le_of_ble_eq_true rfl)⟩) hK hE hA hP hD hS 0 (T := TX5) (N := 3) (ci := 5) rfl rfl [0, 9, 10, 11, 12, 13, 14, 15] rfl (by decide) rfl rfl rfl rfl rfl rfl hl.1 (Nat.le_of_ble_eq_true rfl) dX5_separate_62 ⟨Nat.zero_le _, Nat.zero_le _⟩ (fun H locs hP hD hS => ?_)
        refine lv_iload hx hb dX5_separate_65 (lv_at hl 0 rfl) ?_
        refine lv_bipush (v := 35) hx hb dX5_separate_67 (by decide) ?_
        refine lv_icmp_ne (tgt := 92) hx hb dX5_separate_69 (by decide) (fun c36 => ?_) (fun c36 => ?_)
        · replace hM := if_f c36 hM
          refine lv_aload_n hx hb dX5_separate_92 rfl (lv_at hl 3 rfl) ?_
          refine lv_iload hx hb dX5_separate_93 (lv_at hl 0 rfl) ?_
          refine lv_aload_n hx hb dX5_separate_95 rfl (lv_at hl 3 rfl) ?_
          refine va_get (D := D) (ci := 5) (v := .ref (ad 14)) (C := RX5) (T := TX5) (N := 3) hx hb hts layX5 hown hK hP 0 rfl rfl 0 (by decide) (hts _ (inA q442)) (fun _ h9 => h9) rfl dX5_separate_96 ?_
          refine lv_iload_n hx hb dX5_separate_99 rfl (lv_at hl 4 rfl) ?_
          obtain ⟨r37, hcr37, hM⟩ := ob_use hM
          refine cl_V (As := [.int a1]) (rest := [.int r3, .ref (ad 23)]) (wW ad ++ wT cI ad o_tree ++ wN cI ad o_names ++ wB cI (ad 3) (ad 4) 16384 r35) (.int r37 :: [.int r3, .ref (ad 23)]) ⟨hx, hb, hml, hown, hts⟩ (c_Tree_kind l D cI sd ad o_tree a1 r37 hcr37) (cwV2 hts q870 mvX3_kind rfl rfl ⟨(Nat.le_of_ble_eq_true rfl), (Nat.le_of_ble_eq_true rfl)⟩) hK hE hA hP hD hS 1 (T := TX3) (N := 8) (ci := 3) rfl rfl [1, 2, 3, 4, 5, 6, 7, 8] rfl (by decide) rfl rfl rfl rfl rfl rfl hl.1 (Nat.le_of_ble_eq_true rfl) dX5_separate_100 ⟨Nat.zero_le _, Nat.zero_le _⟩ (fun H locs hP hD hS => ?_)
          refine lv_iload_n hx hb dX5_separate_103 rfl (lv_at hl 2 rfl) ?_
          obtain ⟨r38, hcr38, hM⟩ := ob_use hM
          refine cl_S (As := [.int r3, .int r37, .int r1]) (rest := [.ref (ad 23)]) (wW ad ++ wT cI ad o_tree ++ wN cI ad o_names ++ wB cI (ad 3) (ad 4) 16384 r35) (.int r38 :: [.ref (ad 23)]) ⟨hx, hb, hml, hown, hts⟩ (c_Writer_separator l D cI sd ad r3 r37 r1 r38 hcr38) (cwS2 hts q913 mvX5_separator rfl rfl ⟨(Nat.le_of_ble_eq_true rfl), (Nat.le_of_ble_eq_true rfl)⟩) hK hE hA hP hD hS [] rfl (by decide) rfl rfl rfl rfl rfl rfl hl.1 (Nat.le_of_ble_eq_true rfl) dX5_separate_104 ⟨Nat.zero_le _, Nat.zero_le _⟩ (fun H locs hP hD hS => ?_)
          obtain ⟨r39, hcr39, hM⟩ := ob_use hM
          refine cl_V (As := [.int r38]) (rest := []) (wW ad ++ wT cI ad o_tree ++ wN cI ad o_names ++ wB cI (ad 3) (ad 4) 16384 r39) [] ⟨hx, hb, hml, hown, hts⟩ (c_Writer_token l D cI sd ad o_names r35 r38 r39 hcr39) (cwV2 hts q872 mvX5_token rfl rfl ⟨(Nat.le_of_ble_eq_true rfl), (Nat.le_of_ble_eq_true rfl)⟩) hK hE hA hP hD hS 0 (T := TX5) (N := 3) (ci := 5) rfl rfl [0, 9, 10, 11, 12, 13, 14, 15] rfl (by decide) rfl rfl rfl rfl rfl rfl hl.1 (Nat.le_of_ble_eq_true rfl) dX5_separate_107 ⟨Nat.zero_le _, Nat.zero_le _⟩ (fun H locs hP hD hS => ?_)
          cases hM
          exact rt_v hx hb hr hlk hP hD hS rfl dX5_separate_110
        · replace hM := if_t c36 hM
          refine lv_iload_n hx hb dX5_separate_72 rfl (lv_at hl 2 rfl) ?_
          refine lv_iconst (v := 1) hx hb dX5_separate_73 (by decide) ?_
          refine lv_icmp_ne (tgt := 92) hx hb dX5_separate_74 (by decide) (fun c40 => ?_) (fun c40 => ?_)
          · replace hM := if_f c40 hM
            refine lv_aload_n hx hb dX5_separate_92 rfl (lv_at hl 3 rfl) ?_
            refine lv_iload hx hb dX5_separate_93 (lv_at hl 0 rfl) ?_
            refine lv_aload_n hx hb dX5_separate_95 rfl (lv_at hl 3 rfl) ?_
            refine va_get (D := D) (ci := 5) (v := .ref (ad 14)) (C := RX5) (T := TX5) (N := 3) hx hb hts layX5 hown hK hP 0 rfl rfl 0 (by decide) (hts _ (inA q442)) (fun _ h9 => h9) rfl dX5_separate_96 ?_
            refine lv_iload_n hx hb dX5_separate_99 rfl (lv_at hl 4 rfl) ?_
            obtain ⟨r41, hcr41, hM⟩ := ob_use hM
            refine cl_V (As := [.int a1]) (rest := [.int r3, .ref (ad 23)]) (wW ad ++ wT cI ad o_tree ++ wN cI ad o_names ++ wB cI (ad 3) (ad 4) 16384 r35) (.int r41 :: [.int r3, .ref (ad 23)]) ⟨hx, hb, hml, hown, hts⟩ (c_Tree_kind l D cI sd ad o_tree a1 r41 hcr41) (cwV2 hts q870 mvX3_kind rfl rfl ⟨(Nat.le_of_ble_eq_true rfl), (Nat.le_of_ble_eq_true rfl)⟩) hK hE hA hP hD hS 1 (T := TX3) (N := 8) (ci := 3) rfl rfl [1, 2, 3, 4, 5, 6, 7, 8] rfl (by decide) rfl rfl rfl rfl rfl rfl hl.1 (Nat.le_of_ble_eq_true rfl) dX5_separate_100 ⟨Nat.zero_le _, Nat.zero_le _⟩ (fun H locs hP hD hS => ?_)
            refine lv_iload_n hx hb dX5_separate_103 rfl (lv_at hl 2 rfl) ?_
            obtain ⟨r42, hcr42, hM⟩ := ob_use hM
            refine cl_S (As := [.int r3, .int r41, .int r1]) (rest := [.ref (ad 23)]) (wW ad ++ wT cI ad o_tree ++ wN cI ad o_names ++ wB cI (ad 3) (ad 4) 16384 r35) (.int r42 :: [.ref (ad 23)]) ⟨hx, hb, hml, hown, hts⟩ (c_Writer_separator l D cI sd ad r3 r41 r1 r42 hcr42) (cwS2 hts q913 mvX5_separator rfl rfl ⟨(Nat.le_of_ble_eq_true rfl), (Nat.le_of_ble_eq_true rfl)⟩) hK hE hA hP hD hS [] rfl (by decide) rfl rfl rfl rfl rfl rfl hl.1 (Nat.le_of_ble_eq_true rfl) dX5_separate_104 ⟨Nat.zero_le _, Nat.zero_le _⟩ (fun H locs hP hD hS => ?_)
            obtain ⟨r43, hcr43, hM⟩ := ob_use hM
            refine cl_V (As := [.int r42]) (rest := []) (wW ad ++ wT cI ad o_tree ++ wN cI ad o_names ++ wB cI (ad 3) (ad 4) 16384 r43) [] ⟨hx, hb, hml, hown, hts⟩ (c_Writer_token l D cI sd ad o_names r35 r42 r43 hcr43) (cwV2 hts q872 mvX5_token rfl rfl ⟨(Nat.le_of_ble_eq_true rfl), (Nat.le_of_ble_eq_true rfl)⟩) hK hE hA hP hD hS 0 (T := TX5) (N := 3) (ci := 5) rfl rfl [0, 9, 10, 11, 12, 13, 14, 15] rfl (by decide) rfl rfl rfl rfl rfl rfl hl.1 (Nat.le_of_ble_eq_true rfl) dX5_separate_107 ⟨Nat.zero_le _, Nat.zero_le _⟩ (fun H locs hP hD hS => ?_)
            cases hM
            exact rt_v hx hb hr hlk hP hD hS rfl dX5_separate_110
          · replace hM := if_t c40 hM
            refine lv_aload_n hx hb dX5_separate_77 rfl (lv_at hl 3 rfl) ?_
            refine lv_aload_n hx hb dX5_separate_78 rfl (lv_at hl 3 rfl) ?_
            refine va_get (D := D) (ci := 5) (v := .ref (ad 14)) (C := RX5) (T := TX5) (N := 3) hx hb hts layX5 hown hK hP 0 rfl rfl 0 (by decide) (hts _ (inA q442)) (fun _ h9 => h9) rfl dX5_separate_79 ?_
            refine lv_iload_n hx hb dX5_separate_82 rfl (lv_at hl 1 rfl) ?_
            obtain ⟨r44, hcr44, hM⟩ := ob_use hM
            refine cl_V (As := [.int r2]) (rest := [.ref (ad 23)]) (wW ad ++ wT cI ad o_tree ++ wN cI ad o_names ++ wB cI (ad 3) (ad 4) 16384 r35) (.int r44 :: [.ref (ad 23)]) ⟨hx, hb, hml, hown, hts⟩ (c_Tree_value l D cI sd ad o_tree r2 r44 hcr44) (cwV2 hts q892 mvX3_value rfl rfl ⟨(Nat.le_of_ble_eq_true rfl), (Nat.le_of_ble_eq_true rfl)⟩) hK hE hA hP hD hS 1 (T := TX3) (N := 8) (ci := 3) rfl rfl [1, 2, 3, 4, 5, 6, 7, 8] rfl (by decide) rfl rfl rfl rfl rfl rfl hl.1 (Nat.le_of_ble_eq_true rfl) dX5_separate_83 ⟨Nat.zero_le _, Nat.zero_le _⟩ (fun H locs hP hD hS => ?_)
            obtain ⟨r45, hcr45, hM⟩ := ob_use hM
            refine cl_S (As := [.int r44]) (rest := [.ref (ad 23)]) (wW ad ++ wT cI ad o_tree ++ wN cI ad o_names ++ wB cI (ad 3) (ad 4) 16384 r35) (.int r45 :: [.ref (ad 23)]) ⟨hx, hb, hml, hown, hts⟩ (c_Sign_between l D cI sd ad r44 r45 hcr45) (cwS2 hts q908 mvX7_between rfl rfl ⟨(Nat.le_of_ble_eq_true rfl), (Nat.le_of_ble_eq_true rfl)⟩) hK hE hA hP hD hS [] rfl (by decide) rfl rfl rfl rfl rfl rfl hl.1 (Nat.le_of_ble_eq_true rfl) dX5_separate_86 ⟨Nat.zero_le _, Nat.zero_le _⟩ (fun H locs hP hD hS => ?_)
            obtain ⟨r46, hcr46, hM⟩ := ob_use hM
            refine cl_V (As := [.int r45]) (rest := []) (wW ad ++ wT cI ad o_tree ++ wN cI ad o_names ++ wB cI (ad 3) (ad 4) 16384 r46) [] ⟨hx, hb, hml, hown, hts⟩ (c_Writer_token l D cI sd ad o_names r35 r45 r46 hcr46) (cwV2 hts q872 mvX5_token rfl rfl ⟨(Nat.le_of_ble_eq_true rfl), (Nat.le_of_ble_eq_true rfl)⟩) hK hE hA hP hD hS 0 (T := TX5) (N := 3) (ci := 5) rfl rfl [0, 9, 10, 11, 12, 13, 14, 15] rfl (by decide) rfl rfl rfl rfl rfl rfl hl.1 (Nat.le_of_ble_eq_true rfl) dX5_separate_89 ⟨Nat.zero_le _, Nat.zero_le _⟩ (fun H locs hP hD hS => ?_)
            refine lv_aload_n hx hb dX5_separate_92 rfl (lv_at hl 3 rfl) ?_
            refine lv_iload hx hb dX5_separate_93 (lv_at hl 0 rfl) ?_
            refine lv_aload_n hx hb dX5_separate_95 rfl (lv_at hl 3 rfl) ?_
            refine va_get (D := D) (ci := 5) (v := .ref (ad 14)) (C := RX5) (T := TX5) (N := 3) hx hb hts layX5 hown hK hP 0 rfl rfl 0 (by decide) (hts _ (inA q442)) (fun _ h9 => h9) rfl dX5_separate_96 ?_
            refine lv_iload_n hx hb dX5_separate_99 rfl (lv_at hl 4 rfl) ?_
            obtain ⟨r47, hcr47, hM⟩ := ob_use hM
            refine cl_V (As := [.int a1]) (rest := [.int r3, .ref (ad 23)]) (wW ad ++ wT cI ad o_tree ++ wN cI ad o_names ++ wB cI (ad 3) (ad 4) 16384 r46) (.int r47 :: [.int r3, .ref (ad 23)]) ⟨hx, hb, hml, hown, hts⟩ (c_Tree_kind l D cI sd ad o_tree a1 r47 hcr47) (cwV2 hts q870 mvX3_kind rfl rfl ⟨(Nat.le_of_ble_eq_true rfl), (Nat.le_of_ble_eq_true rfl)⟩) hK hE hA hP hD hS 1 (T := TX3) (N := 8) (ci := 3) rfl rfl [1, 2, 3, 4, 5, 6, 7, 8] rfl (by decide) rfl rfl rfl rfl rfl rfl hl.1 (Nat.le_of_ble_eq_true rfl) dX5_separate_100 ⟨Nat.zero_le _, Nat.zero_le _⟩ (fun H locs hP hD hS => ?_)
            refine lv_iload_n hx hb dX5_separate_103 rfl (lv_at hl 2 rfl) ?_
            obtain ⟨r48, hcr48, hM⟩ := ob_use hM
            refine cl_S (As := [.int r3, .int r47, .int r1]) (rest := [.ref (ad 23)]) (wW ad ++ wT cI ad o_tree ++ wN cI ad o_names ++ wB cI (ad 3) (ad 4) 16384 r46) (.int r48 :: [.ref (ad 23)]) ⟨hx, hb, hml, hown, hts⟩ (c_Writer_separator l D cI sd ad r3 r47 r1 r48 hcr48) (cwS2 hts q913 mvX5_separator rfl rfl ⟨(Nat.le_of_ble_eq_true rfl), (Nat.le_of_ble_eq_true rfl)⟩) hK hE hA hP hD hS [] rfl (by decide) rfl rfl rfl rfl rfl rfl hl.1 (Nat.le_of_ble_eq_true rfl) dX5_separate_104 ⟨Nat.zero_le _, Nat.zero_le _⟩ (fun H locs hP hD hS => ?_)
            obtain ⟨r49, hcr49, hM⟩ := ob_use hM
            refine cl_V (As := [.int r48]) (rest := []) (wW ad ++ wT cI ad o_tree ++ wN cI ad o_names ++ wB cI (ad 3) (ad 4) 16384 r49) [] ⟨hx, hb, hml, hown, hts⟩ (c_Writer_token l D cI sd ad o_names r46 r48 r49 hcr49) (cwV2 hts q872 mvX5_token rfl rfl ⟨(Nat.le_of_ble_eq_true rfl), (Nat.le_of_ble_eq_true rfl)⟩) hK hE hA hP hD hS 0 (T := TX5) (N := 3) (ci := 5) rfl rfl [0, 9, 10, 11, 12, 13, 14, 15] rfl (by decide) rfl rfl rfl rfl rfl rfl hl.1 (Nat.le_of_ble_eq_true rfl) dX5_separate_107 ⟨Nat.zero_le _, Nat.zero_le _⟩ (fun H locs hP hD hS => ?_)
            cases hM
            exact rt_v hx hb hr hlk hP hD hS rfl dX5_separate_110
  · replace hM := if_t c4 hM
    refine lv_iload_n hx hb dX5_separate_35 rfl (lv_at hl 2 rfl) ?_
    refine lv_iconst (v := 2) hx hb dX5_separate_36 (by decide) ?_
    refine lv_icmp_ne (tgt := 46) hx hb dX5_separate_37 (by decide) (fun c50 => ?_) (fun c50 => ?_)
    · replace hM := if_f c50 hM
      refine lv_iload hx hb dX5_separate_46 (lv_at hl 0 rfl) ?_
      refine lv_bipush (v := 16) hx hb dX5_separate_48 (by decide) ?_
      refine lv_icmp_ne (tgt := 65) hx hb dX5_separate_50 (by decide) (fun c51 => ?_) (fun c51 => ?_)
      · replace hM := if_f c51 hM
        refine lv_iload hx hb dX5_separate_65 (lv_at hl 0 rfl) ?_
        refine lv_bipush (v := 35) hx hb dX5_separate_67 (by decide) ?_
        refine lv_icmp_ne (tgt := 92) hx hb dX5_separate_69 (by decide) (fun c52 => ?_) (fun c52 => ?_)
        · replace hM := if_f c52 hM
          refine lv_aload_n hx hb dX5_separate_92 rfl (lv_at hl 3 rfl) ?_
          refine lv_iload hx hb dX5_separate_93 (lv_at hl 0 rfl) ?_
          refine lv_aload_n hx hb dX5_separate_95 rfl (lv_at hl 3 rfl) ?_
          refine va_get (D := D) (ci := 5) (v := .ref (ad 14)) (C := RX5) (T := TX5) (N := 3) hx hb hts layX5 hown hK hP 0 rfl rfl 0 (by decide) (hts _ (inA q442)) (fun _ h9 => h9) rfl dX5_separate_96 ?_
          refine lv_iload_n hx hb dX5_separate_99 rfl (lv_at hl 4 rfl) ?_
          obtain ⟨r53, hcr53, hM⟩ := ob_use hM
          refine cl_V (As := [.int a1]) (rest := [.int r3, .ref (ad 23)]) (wW ad ++ wT cI ad o_tree ++ wN cI ad o_names ++ wB cI (ad 3) (ad 4) 16384 o_out) (.int r53 :: [.int r3, .ref (ad 23)]) ⟨hx, hb, hml, hown, hts⟩ (c_Tree_kind l D cI sd ad o_tree a1 r53 hcr53) (cwV2 hts q870 mvX3_kind rfl rfl ⟨(Nat.le_of_ble_eq_true rfl), (Nat.le_of_ble_eq_true rfl)⟩) hK hE hA hP hD hS 1 (T := TX3) (N := 8) (ci := 3) rfl rfl [1, 2, 3, 4, 5, 6, 7, 8] rfl (by decide) rfl rfl rfl rfl rfl rfl hl.1 (Nat.le_of_ble_eq_true rfl) dX5_separate_100 ⟨Nat.zero_le _, Nat.zero_le _⟩ (fun H locs hP hD hS => ?_)
          refine lv_iload_n hx hb dX5_separate_103 rfl (lv_at hl 2 rfl) ?_
          obtain ⟨r54, hcr54, hM⟩ := ob_use hM
          refine cl_S (As := [.int r3, .int r53, .int r1]) (rest := [.ref (ad 23)]) (wW ad ++ wT cI ad o_tree ++ wN cI ad o_names ++ wB cI (ad 3) (ad 4) 16384 o_out) (.int r54 :: [.ref (ad 23)]) ⟨hx, hb, hml, hown, hts⟩ (c_Writer_separator l D cI sd ad r3 r53 r1 r54 hcr54) (cwS2 hts q913 mvX5_separator rfl rfl ⟨(Nat.le_of_ble_eq_true rfl), (Nat.le_of_ble_eq_true rfl)⟩) hK hE hA hP hD hS [] rfl (by decide) rfl rfl rfl rfl rfl rfl hl.1 (Nat.le_of_ble_eq_true rfl) dX5_separate_104 ⟨Nat.zero_le _, Nat.zero_le _⟩ (fun H locs hP hD hS => ?_)
          obtain ⟨r55, hcr55, hM⟩ := ob_use hM
          refine cl_V (As := [.int r54]) (rest := []) (wW ad ++ wT cI ad o_tree ++ wN cI ad o_names ++ wB cI (ad 3) (ad 4) 16384 r55) [] ⟨hx, hb, hml, hown, hts⟩ (c_Writer_token l D cI sd ad o_names o_out r54 r55 hcr55) (cwV2 hts q872 mvX5_token rfl rfl ⟨(Nat.le_of_ble_eq_true rfl), (Nat.le_of_ble_eq_true rfl)⟩) hK hE hA hP hD hS 0 (T := TX5) (N := 3) (ci := 5) rfl rfl [0, 9, 10, 11, 12, 13, 14, 15] rfl (by decide) rfl rfl rfl rfl rfl rfl hl.1 (Nat.le_of_ble_eq_true rfl) dX5_separate_107 ⟨Nat.zero_le _, Nat.zero_le _⟩ (fun H locs hP hD hS => ?_)
          cases hM
          exact rt_v hx hb hr hlk hP hD hS rfl dX5_separate_110
        · replace hM := if_t c52 hM
          refine lv_iload_n hx hb dX5_separate_72 rfl (lv_at hl 2 rfl) ?_
          refine lv_iconst (v := 1) hx hb dX5_separate_73 (by decide) ?_
          refine lv_icmp_ne (tgt := 92) hx hb dX5_separate_74 (by decide) (fun c56 => ?_) (fun c56 => ?_)
          · replace hM := if_f c56 hM
            refine lv_aload_n hx hb dX5_separate_92 rfl (lv_at hl 3 rfl) ?_
            refine lv_iload hx hb dX5_separate_93 (lv_at hl 0 rfl) ?_
            refine lv_aload_n hx hb dX5_separate_95 rfl (lv_at hl 3 rfl) ?_
            refine va_get (D := D) (ci := 5) (v := .ref (ad 14)) (C := RX5) (T := TX5) (N := 3) hx hb hts layX5 hown hK hP 0 rfl rfl 0 (by decide) (hts _ (inA q442)) (fun _ h9 => h9) rfl dX5_separate_96 ?_
            refine lv_iload_n hx hb dX5_separate_99 rfl (lv_at hl 4 rfl) ?_
            obtain ⟨r57, hcr57, hM⟩ := ob_use hM
            refine cl_V (As := [.int a1]) (rest := [.int r3, .ref (ad 23)]) (wW ad ++ wT cI ad o_tree ++ wN cI ad o_names ++ wB cI (ad 3) (ad 4) 16384 o_out) (.int r57 :: [.int r3, .ref (ad 23)]) ⟨hx, hb, hml, hown, hts⟩ (c_Tree_kind l D cI sd ad o_tree a1 r57 hcr57) (cwV2 hts q870 mvX3_kind rfl rfl ⟨(Nat.le_of_ble_eq_true rfl), (Nat.le_of_ble_eq_true rfl)⟩) hK hE hA hP hD hS 1 (T := TX3) (N := 8) (ci := 3) rfl rfl [1, 2, 3, 4, 5, 6, 7, 8] rfl (by decide) rfl rfl rfl rfl rfl rfl hl.1 (Nat.le_of_ble_eq_true rfl) dX5_separate_100 ⟨Nat.zero_le _, Nat.zero_le _⟩ (fun H locs hP hD hS => ?_)
            refine lv_iload_n hx hb dX5_separate_103 rfl (lv_at hl 2 rfl) ?_
            obtain ⟨r58, hcr58, hM⟩ := ob_use hM
            refine cl_S (As := [.int r3, .int r57, .int r1]) (rest := [.ref (ad 23)]) (wW ad ++ wT cI ad o_tree ++ wN cI ad o_names ++ wB cI (ad 3) (ad 4) 16384 o_out) (.int r58 :: [.ref (ad 23)]) ⟨hx, hb, hml, hown, hts⟩ (c_Writer_separator l D cI sd ad r3 r57 r1 r58 hcr58) (cwS2 hts q913 mvX5_separator rfl rfl ⟨(Nat.le_of_ble_eq_true rfl), (Nat.le_of_ble_eq_true rfl)⟩) hK hE hA hP hD hS [] rfl (by decide) rfl rfl rfl rfl rfl rfl hl.1 (Nat.le_of_ble_eq_true rfl) dX5_separate_104 ⟨Nat.zero_le _, Nat.zero_le _⟩ (fun H locs hP hD hS => ?_)
            obtain ⟨r59, hcr59, hM⟩ := ob_use hM
            refine cl_V (As := [.int r58]) (rest := []) (wW ad ++ wT cI ad o_tree ++ wN cI ad o_names ++ wB cI (ad 3) (ad 4) 16384 r59) [] ⟨hx, hb, hml, hown, hts⟩ (c_Writer_token l D cI sd ad o_names o_out r58 r59 hcr59) (cwV2 hts q872 mvX5_token rfl rfl ⟨(Nat.le_of_ble_eq_true rfl), (Nat.le_of_ble_eq_true rfl)⟩) hK hE hA hP hD hS 0 (T := TX5) (N := 3) (ci := 5) rfl rfl [0, 9, 10, 11, 12, 13, 14, 15] rfl (by decide) rfl rfl rfl rfl rfl rfl hl.1 (Nat.le_of_ble_eq_true rfl) dX5_separate_107 ⟨Nat.zero_le _, Nat.zero_le _⟩ (fun H locs hP hD hS => ?_)
            cases hM
            exact rt_v hx hb hr hlk hP hD hS rfl dX5_separate_110
          · replace hM := if_t c56 hM
            refine lv_aload_n hx hb dX5_separate_77 rfl (lv_at hl 3 rfl) ?_
            refine lv_aload_n hx hb dX5_separate_78 rfl (lv_at hl 3 rfl) ?_
            refine va_get (D := D) (ci := 5) (v := .ref (ad 14)) (C := RX5) (T := TX5) (N := 3) hx hb hts layX5 hown hK hP 0 rfl rfl 0 (by decide) (hts _ (inA q442)) (fun _ h9 => h9) rfl dX5_separate_79 ?_
            refine lv_iload_n hx hb dX5_separate_82 rfl (lv_at hl 1 rfl) ?_
            obtain ⟨r60, hcr60, hM⟩ := ob_use hM
            refine cl_V (As := [.int r2]) (rest := [.ref (ad 23)]) (wW ad ++ wT cI ad o_tree ++ wN cI ad o_names ++ wB cI (ad 3) (ad 4) 16384 o_out) (.int r60 :: [.ref (ad 23)]) ⟨hx, hb, hml, hown, hts⟩ (c_Tree_value l D cI sd ad o_tree r2 r60 hcr60) (cwV2 hts q892 mvX3_value rfl rfl ⟨(Nat.le_of_ble_eq_true rfl), (Nat.le_of_ble_eq_true rfl)⟩) hK hE hA hP hD hS 1 (T := TX3) (N := 8) (ci := 3) rfl rfl [1, 2, 3, 4, 5, 6, 7, 8] rfl (by decide) rfl rfl rfl rfl rfl rfl hl.1 (Nat.le_of_ble_eq_true rfl) dX5_separate_83 ⟨Nat.zero_le _, Nat.zero_le _⟩ (fun H locs hP hD hS => ?_)
            obtain ⟨r61, hcr61, hM⟩ := ob_use hM
            refine cl_S (As := [.int r60]) (rest := [.ref (ad 23)]) (wW ad ++ wT cI ad o_tree ++ wN cI ad o_names ++ wB cI (ad 3) (ad 4) 16384 o_out) (.int r61 :: [.ref (ad 23)]) ⟨hx, hb, hml, hown, hts⟩ (c_Sign_between l D cI sd ad r60 r61 hcr61) (cwS2 hts q908 mvX7_between rfl rfl ⟨(Nat.le_of_ble_eq_true rfl), (Nat.le_of_ble_eq_true rfl)⟩) hK hE hA hP hD hS [] rfl (by decide) rfl rfl rfl rfl rfl rfl hl.1 (Nat.le_of_ble_eq_true rfl) dX5_separate_86 ⟨Nat.zero_le _, Nat.zero_le _⟩ (fun H locs hP hD hS => ?_)
            obtain ⟨r62, hcr62, hM⟩ := ob_use hM
            refine cl_V (As := [.int r61]) (rest := []) (wW ad ++ wT cI ad o_tree ++ wN cI ad o_names ++ wB cI (ad 3) (ad 4) 16384 r62) [] ⟨hx, hb, hml, hown, hts⟩ (c_Writer_token l D cI sd ad o_names o_out r61 r62 hcr62) (cwV2 hts q872 mvX5_token rfl rfl ⟨(Nat.le_of_ble_eq_true rfl), (Nat.le_of_ble_eq_true rfl)⟩) hK hE hA hP hD hS 0 (T := TX5) (N := 3) (ci := 5) rfl rfl [0, 9, 10, 11, 12, 13, 14, 15] rfl (by decide) rfl rfl rfl rfl rfl rfl hl.1 (Nat.le_of_ble_eq_true rfl) dX5_separate_89 ⟨Nat.zero_le _, Nat.zero_le _⟩ (fun H locs hP hD hS => ?_)
            refine lv_aload_n hx hb dX5_separate_92 rfl (lv_at hl 3 rfl) ?_
            refine lv_iload hx hb dX5_separate_93 (lv_at hl 0 rfl) ?_
            refine lv_aload_n hx hb dX5_separate_95 rfl (lv_at hl 3 rfl) ?_
            refine va_get (D := D) (ci := 5) (v := .ref (ad 14)) (C := RX5) (T := TX5) (N := 3) hx hb hts layX5 hown hK hP 0 rfl rfl 0 (by decide) (hts _ (inA q442)) (fun _ h9 => h9) rfl dX5_separate_96 ?_
            refine lv_iload_n hx hb dX5_separate_99 rfl (lv_at hl 4 rfl) ?_
            obtain ⟨r63, hcr63, hM⟩ := ob_use hM
            refine cl_V (As := [.int a1]) (rest := [.int r3, .ref (ad 23)]) (wW ad ++ wT cI ad o_tree ++ wN cI ad o_names ++ wB cI (ad 3) (ad 4) 16384 r62) (.int r63 :: [.int r3, .ref (ad 23)]) ⟨hx, hb, hml, hown, hts⟩ (c_Tree_kind l D cI sd ad o_tree a1 r63 hcr63) (cwV2 hts q870 mvX3_kind rfl rfl ⟨(Nat.le_of_ble_eq_true rfl), (Nat.le_of_ble_eq_true rfl)⟩) hK hE hA hP hD hS 1 (T := TX3) (N := 8) (ci := 3) rfl rfl [1, 2, 3, 4, 5, 6, 7, 8] rfl (by decide) rfl rfl rfl rfl rfl rfl hl.1 (Nat.le_of_ble_eq_true rfl) dX5_separate_100 ⟨Nat.zero_le _, Nat.zero_le _⟩ (fun H locs hP hD hS => ?_)
            refine lv_iload_n hx hb dX5_separate_103 rfl (lv_at hl 2 rfl) ?_
            obtain ⟨r64, hcr64, hM⟩ := ob_use hM
            refine cl_S (As := [.int r3, .int r63, .int r1]) (rest := [.ref (ad 23)]) (wW ad ++ wT cI ad o_tree ++ wN cI ad o_names ++ wB cI (ad 3) (ad 4) 16384 r62) (.int r64 :: [.ref (ad 23)]) ⟨hx, hb, hml, hown, hts⟩ (c_Writer_separator l D cI sd ad r3 r63 r1 r64 hcr64) (cwS2 hts q913 mvX5_separator rfl rfl ⟨(Nat.le_of_ble_eq_true rfl), (Nat.le_of_ble_eq_true rfl)⟩) hK hE hA hP hD hS [] rfl (by decide) rfl rfl rfl rfl rfl rfl hl.1 (Nat.le_of_ble_eq_true rfl) dX5_separate_104 ⟨Nat.zero_le _, Nat.zero_le _⟩ (fun H locs hP hD hS => ?_)
            obtain ⟨r65, hcr65, hM⟩ := ob_use hM
            refine cl_V (As := [.int r64]) (rest := []) (wW ad ++ wT cI ad o_tree ++ wN cI ad o_names ++ wB cI (ad 3) (ad 4) 16384 r65) [] ⟨hx, hb, hml, hown, hts⟩ (c_Writer_token l D cI sd ad o_names r62 r64 r65 hcr65) (cwV2 hts q872 mvX5_token rfl rfl ⟨(Nat.le_of_ble_eq_true rfl), (Nat.le_of_ble_eq_true rfl)⟩) hK hE hA hP hD hS 0 (T := TX5) (N := 3) (ci := 5) rfl rfl [0, 9, 10, 11, 12, 13, 14, 15] rfl (by decide) rfl rfl rfl rfl rfl rfl hl.1 (Nat.le_of_ble_eq_true rfl) dX5_separate_107 ⟨Nat.zero_le _, Nat.zero_le _⟩ (fun H locs hP hD hS => ?_)
            cases hM
            exact rt_v hx hb hr hlk hP hD hS rfl dX5_separate_110
      · replace hM := if_t c51 hM
        refine lv_iload_n hx hb dX5_separate_53 rfl (lv_at hl 2 rfl) ?_
        refine lv_iconst (v := 1) hx hb dX5_separate_54 (by decide) ?_
        refine lv_icmp_ne (tgt := 65) hx hb dX5_separate_55 (by decide) (fun c66 => ?_) (fun c66 => ?_)
        · replace hM := if_f c66 hM
          refine lv_iload hx hb dX5_separate_65 (lv_at hl 0 rfl) ?_
          refine lv_bipush (v := 35) hx hb dX5_separate_67 (by decide) ?_
          refine lv_icmp_ne (tgt := 92) hx hb dX5_separate_69 (by decide) (fun c67 => ?_) (fun c67 => ?_)
          · replace hM := if_f c67 hM
            refine lv_aload_n hx hb dX5_separate_92 rfl (lv_at hl 3 rfl) ?_
            refine lv_iload hx hb dX5_separate_93 (lv_at hl 0 rfl) ?_
            refine lv_aload_n hx hb dX5_separate_95 rfl (lv_at hl 3 rfl) ?_
            refine va_get (D := D) (ci := 5) (v := .ref (ad 14)) (C := RX5) (T := TX5) (N := 3) hx hb hts layX5 hown hK hP 0 rfl rfl 0 (by decide) (hts _ (inA q442)) (fun _ h9 => h9) rfl dX5_separate_96 ?_
            refine lv_iload_n hx hb dX5_separate_99 rfl (lv_at hl 4 rfl) ?_
            obtain ⟨r68, hcr68, hM⟩ := ob_use hM
            refine cl_V (As := [.int a1]) (rest := [.int r3, .ref (ad 23)]) (wW ad ++ wT cI ad o_tree ++ wN cI ad o_names ++ wB cI (ad 3) (ad 4) 16384 o_out) (.int r68 :: [.int r3, .ref (ad 23)]) ⟨hx, hb, hml, hown, hts⟩ (c_Tree_kind l D cI sd ad o_tree a1 r68 hcr68) (cwV2 hts q870 mvX3_kind rfl rfl ⟨(Nat.le_of_ble_eq_true rfl), (Nat.le_of_ble_eq_true rfl)⟩) hK hE hA hP hD hS 1 (T := TX3) (N := 8) (ci := 3) rfl rfl [1, 2, 3, 4, 5, 6, 7, 8] rfl (by decide) rfl rfl rfl rfl rfl rfl hl.1 (Nat.le_of_ble_eq_true rfl) dX5_separate_100 ⟨Nat.zero_le _, Nat.zero_le _⟩ (fun H locs hP hD hS => ?_)
            refine lv_iload_n hx hb dX5_separate_103 rfl (lv_at hl 2 rfl) ?_
            obtain ⟨r69, hcr69, hM⟩ := ob_use hM
            refine cl_S (As := [.int r3, .int r68, .int r1]) (rest := [.ref (ad 23)]) (wW ad ++ wT cI ad o_tree ++ wN cI ad o_names ++ wB cI (ad 3) (ad 4) 16384 o_out) (.int r69 :: [.ref (ad 23)]) ⟨hx, hb, hml, hown, hts⟩ (c_Writer_separator l D cI sd ad r3 r68 r1 r69 hcr69) (cwS2 hts q913 mvX5_separator rfl rfl ⟨(Nat.le_of_ble_eq_true rfl), (Nat.le_of_ble_eq_true rfl)⟩) hK hE hA hP hD hS [] rfl (by decide) rfl rfl rfl rfl rfl rfl hl.1 (Nat.le_of_ble_eq_true rfl) dX5_separate_104 ⟨Nat.zero_le _, Nat.zero_le _⟩ (fun H locs hP hD hS => ?_)
            obtain ⟨r70, hcr70, hM⟩ := ob_use hM
            refine cl_V (As := [.int r69]) (rest := []) (wW ad ++ wT cI ad o_tree ++ wN cI ad o_names ++ wB cI (ad 3) (ad 4) 16384 r70) [] ⟨hx, hb, hml, hown, hts⟩ (c_Writer_token l D cI sd ad o_names o_out r69 r70 hcr70) (cwV2 hts q872 mvX5_token rfl rfl ⟨(Nat.le_of_ble_eq_true rfl), (Nat.le_of_ble_eq_true rfl)⟩) hK hE hA hP hD hS 0 (T := TX5) (N := 3) (ci := 5) rfl rfl [0, 9, 10, 11, 12, 13, 14, 15] rfl (by decide) rfl rfl rfl rfl rfl rfl hl.1 (Nat.le_of_ble_eq_true rfl) dX5_separate_107 ⟨Nat.zero_le _, Nat.zero_le _⟩ (fun H locs hP hD hS => ?_)
            cases hM
            exact rt_v hx hb hr hlk hP hD hS rfl dX5_separate_110
          · replace hM := if_t c67 hM
            refine lv_iload_n hx hb dX5_separate_72 rfl (lv_at hl 2 rfl) ?_
            refine lv_iconst (v := 1) hx hb dX5_separate_73 (by decide) ?_
            refine lv_icmp_ne (tgt := 92) hx hb dX5_separate_74 (by decide) (fun c71 => ?_) (fun c71 => ?_)
            · replace hM := if_f c71 hM
              refine lv_aload_n hx hb dX5_separate_92 rfl (lv_at hl 3 rfl) ?_
              refine lv_iload hx hb dX5_separate_93 (lv_at hl 0 rfl) ?_
              refine lv_aload_n hx hb dX5_separate_95 rfl (lv_at hl 3 rfl) ?_
              refine va_get (D := D) (ci := 5) (v := .ref (ad 14)) (C := RX5) (T := TX5) (N := 3) hx hb hts layX5 hown hK hP 0 rfl rfl 0 (by decide) (hts _ (inA q442)) (fun _ h9 => h9) rfl dX5_separate_96 ?_
              refine lv_iload_n hx hb dX5_separate_99 rfl (lv_at hl 4 rfl) ?_
              obtain ⟨r72, hcr72, hM⟩ := ob_use hM
              refine cl_V (As := [.int a1]) (rest := [.int r3, .ref (ad 23)]) (wW ad ++ wT cI ad o_tree ++ wN cI ad o_names ++ wB cI (ad 3) (ad 4) 16384 o_out) (.int r72 :: [.int r3, .ref (ad 23)]) ⟨hx, hb, hml, hown, hts⟩ (c_Tree_kind l D cI sd ad o_tree a1 r72 hcr72) (cwV2 hts q870 mvX3_kind rfl rfl ⟨(Nat.le_of_ble_eq_true rfl), (Nat.le_of_ble_eq_true rfl)⟩) hK hE hA hP hD hS 1 (T := TX3) (N := 8) (ci := 3) rfl rfl [1, 2, 3, 4, 5, 6, 7, 8] rfl (by decide) rfl rfl rfl rfl rfl rfl hl.1 (Nat.le_of_ble_eq_true rfl) dX5_separate_100 ⟨Nat.zero_le _, Nat.zero_le _⟩ (fun H locs hP hD hS => ?_)
              refine lv_iload_n hx hb dX5_separate_103 rfl (lv_at hl 2 rfl) ?_
              obtain ⟨r73, hcr73, hM⟩ := ob_use hM
              refine cl_S (As := [.int r3, .int r72, .int r1]) (rest := [.ref (ad 23)]) (wW ad ++ wT cI ad o_tree ++ wN cI ad o_names ++ wB cI (ad 3) (ad 4) 16384 o_out) (.int r73 :: [.ref (ad 23)]) ⟨hx, hb, hml, hown, hts⟩ (c_Writer_separator l D cI sd ad r3 r72 r1 r73 hcr73) (cwS2 hts q913 mvX5_separator rfl rfl ⟨(Nat.le_of_ble_eq_true rfl), (Nat.le_of_ble_eq_true rfl)⟩) hK hE hA hP hD hS [] rfl (by decide) rfl rfl rfl rfl rfl rfl hl.1 (Nat.le_of_ble_eq_true rfl) dX5_separate_104 ⟨Nat.zero_le _, Nat.zero_le _⟩ (fun H locs hP hD hS => ?_)
              obtain ⟨r74, hcr74, hM⟩ := ob_use hM
              refine cl_V (As := [.int r73]) (rest := []) (wW ad ++ wT cI ad o_tree ++ wN cI ad o_names ++ wB cI (ad 3) (ad 4) 16384 r74) [] ⟨hx, hb, hml, hown, hts⟩ (c_Writer_token l D cI sd ad o_names o_out r73 r74 hcr74) (cwV2 hts q872 mvX5_token rfl rfl ⟨(Nat.le_of_ble_eq_true rfl), (Nat.le_of_ble_eq_true rfl)⟩) hK hE hA hP hD hS 0 (T := TX5) (N := 3) (ci := 5) rfl rfl [0, 9, 10, 11, 12, 13, 14, 15] rfl (by decide) rfl rfl rfl rfl rfl rfl hl.1 (Nat.le_of_ble_eq_true rfl) dX5_separate_107 ⟨Nat.zero_le _, Nat.zero_le _⟩ (fun H locs hP hD hS => ?_)
              cases hM
              exact rt_v hx hb hr hlk hP hD hS rfl dX5_separate_110
            · replace hM := if_t c71 hM
              refine lv_aload_n hx hb dX5_separate_77 rfl (lv_at hl 3 rfl) ?_
              refine lv_aload_n hx hb dX5_separate_78 rfl (lv_at hl 3 rfl) ?_
              refine va_get (D := D) (ci := 5) (v := .ref (ad 14)) (C := RX5) (T := TX5) (N := 3) hx hb hts layX5 hown hK hP 0 rfl rfl 0 (by decide) (hts _ (inA q442)) (fun _ h9 => h9) rfl dX5_separate_79 ?_
              refine lv_iload_n hx hb dX5_separate_82 rfl (lv_at hl 1 rfl) ?_
              obtain ⟨r75, hcr75, hM⟩ := ob_use hM
              refine cl_V (As := [.int r2]) (rest := [.ref (ad 23)]) (wW ad ++ wT cI ad o_tree ++ wN cI ad o_names ++ wB cI (ad 3) (ad 4) 16384 o_out) (.int r75 :: [.ref (ad 23)]) ⟨hx, hb, hml, hown, hts⟩ (c_Tree_value l D cI sd ad o_tree r2 r75 hcr75) (cwV2 hts q892 mvX3_value rfl rfl ⟨(Nat.le_of_ble_eq_true rfl), (Nat.le_of_ble_eq_true rfl)⟩) hK hE hA hP hD hS 1 (T := TX3) (N := 8) (ci := 3) rfl rfl [1, 2, 3, 4, 5, 6, 7, 8] rfl (by decide) rfl rfl rfl rfl rfl rfl hl.1 (Nat.le_of_ble_eq_true rfl) dX5_separate_83 ⟨Nat.zero_le _, Nat.zero_le _⟩ (fun H locs hP hD hS => ?_)
              obtain ⟨r76, hcr76, hM⟩ := ob_use hM
              refine cl_S (As := [.int r75]) (rest := [.ref (ad 23)]) (wW ad ++ wT cI ad o_tree ++ wN cI ad o_names ++ wB cI (ad 3) (ad 4) 16384 o_out) (.int r76 :: [.ref (ad 23)]) ⟨hx, hb, hml, hown, hts⟩ (c_Sign_between l D cI sd ad r75 r76 hcr76) (cwS2 hts q908 mvX7_between rfl rfl ⟨(Nat.le_of_ble_eq_true rfl), (Nat.le_of_ble_eq_true rfl)⟩) hK hE hA hP hD hS [] rfl (by decide) rfl rfl rfl rfl rfl rfl hl.1 (Nat.le_of_ble_eq_true rfl) dX5_separate_86 ⟨Nat.zero_le _, Nat.zero_le _⟩ (fun H locs hP hD hS => ?_)
              obtain ⟨r77, hcr77, hM⟩ := ob_use hM
              refine cl_V (As := [.int r76]) (rest := []) (wW ad ++ wT cI ad o_tree ++ wN cI ad o_names ++ wB cI (ad 3) (ad 4) 16384 r77) [] ⟨hx, hb, hml, hown, hts⟩ (c_Writer_token l D cI sd ad o_names o_out r76 r77 hcr77) (cwV2 hts q872 mvX5_token rfl rfl ⟨(Nat.le_of_ble_eq_true rfl), (Nat.le_of_ble_eq_true rfl)⟩) hK hE hA hP hD hS 0 (T := TX5) (N := 3) (ci := 5) rfl rfl [0, 9, 10, 11, 12, 13, 14, 15] rfl (by decide) rfl rfl rfl rfl rfl rfl hl.1 (Nat.le_of_ble_eq_true rfl) dX5_separate_89 ⟨Nat.zero_le _, Nat.zero_le _⟩ (fun H locs hP hD hS => ?_)
              refine lv_aload_n hx hb dX5_separate_92 rfl (lv_at hl 3 rfl) ?_
              refine lv_iload hx hb dX5_separate_93 (lv_at hl 0 rfl) ?_
              refine lv_aload_n hx hb dX5_separate_95 rfl (lv_at hl 3 rfl) ?_
              refine va_get (D := D) (ci := 5) (v := .ref (ad 14)) (C := RX5) (T := TX5) (N := 3) hx hb hts layX5 hown hK hP 0 rfl rfl 0 (by decide) (hts _ (inA q442)) (fun _ h9 => h9) rfl dX5_separate_96 ?_
              refine lv_iload_n hx hb dX5_separate_99 rfl (lv_at hl 4 rfl) ?_
              obtain ⟨r78, hcr78, hM⟩ := ob_use hM
              refine cl_V (As := [.int a1]) (rest := [.int r3, .ref (ad 23)]) (wW ad ++ wT cI ad o_tree ++ wN cI ad o_names ++ wB cI (ad 3) (ad 4) 16384 r77) (.int r78 :: [.int r3, .ref (ad 23)]) ⟨hx, hb, hml, hown, hts⟩ (c_Tree_kind l D cI sd ad o_tree a1 r78 hcr78) (cwV2 hts q870 mvX3_kind rfl rfl ⟨(Nat.le_of_ble_eq_true rfl), (Nat.le_of_ble_eq_true rfl)⟩) hK hE hA hP hD hS 1 (T := TX3) (N := 8) (ci := 3) rfl rfl [1, 2, 3, 4, 5, 6, 7, 8] rfl (by decide) rfl rfl rfl rfl rfl rfl hl.1 (Nat.le_of_ble_eq_true rfl) dX5_separate_100 ⟨Nat.zero_le _, Nat.zero_le _⟩ (fun H locs hP hD hS => ?_)
              refine lv_iload_n hx hb dX5_separate_103 rfl (lv_at hl 2 rfl) ?_
              obtain ⟨r79, hcr79, hM⟩ := ob_use hM
              refine cl_S (As := [.int r3, .int r78, .int r1]) (rest := [.ref (ad 23)]) (wW ad ++ wT cI ad o_tree ++ wN cI ad o_names ++ wB cI (ad 3) (ad 4) 16384 r77) (.int r79 :: [.ref (ad 23)]) ⟨hx, hb, hml, hown, hts⟩ (c_Writer_separator l D cI sd ad r3 r78 r1 r79 hcr79) (cwS2 hts q913 mvX5_separator rfl rfl ⟨(Nat.le_of_ble_eq_true rfl), (Nat.le_of_ble_eq_true rfl)⟩) hK hE hA hP hD hS [] rfl (by decide) rfl rfl rfl rfl rfl rfl hl.1 (Nat.le_of_ble_eq_true rfl) dX5_separate_104 ⟨Nat.zero_le _, Nat.zero_le _⟩ (fun H locs hP hD hS => ?_)
              obtain ⟨r80, hcr80, hM⟩ := ob_use hM
              refine cl_V (As := [.int r79]) (rest := []) (wW ad ++ wT cI ad o_tree ++ wN cI ad o_names ++ wB cI (ad 3) (ad 4) 16384 r80) [] ⟨hx, hb, hml, hown, hts⟩ (c_Writer_token l D cI sd ad o_names r77 r79 r80 hcr80) (cwV2 hts q872 mvX5_token rfl rfl ⟨(Nat.le_of_ble_eq_true rfl), (Nat.le_of_ble_eq_true rfl)⟩) hK hE hA hP hD hS 0 (T := TX5) (N := 3) (ci := 5) rfl rfl [0, 9, 10, 11, 12, 13, 14, 15] rfl (by decide) rfl rfl rfl rfl rfl rfl hl.1 (Nat.le_of_ble_eq_true rfl) dX5_separate_107 ⟨Nat.zero_le _, Nat.zero_le _⟩ (fun H locs hP hD hS => ?_)
              cases hM
              exact rt_v hx hb hr hlk hP hD hS rfl dX5_separate_110
        · replace hM := if_t c66 hM
          refine lv_aload_n hx hb dX5_separate_58 rfl (lv_at hl 3 rfl) ?_
          refine lv_sipush (v := 271) hx hb dX5_separate_59 (by decide) ?_
          obtain ⟨r81, hcr81, hM⟩ := ob_use hM
          refine cl_V (As := [.int 271]) (rest := []) (wW ad ++ wT cI ad o_tree ++ wN cI ad o_names ++ wB cI (ad 3) (ad 4) 16384 r81) [] ⟨hx, hb, hml, hown, hts⟩ (c_Writer_token l D cI sd ad o_names o_out 271 r81 hcr81) (cwV2 hts q872 mvX5_token rfl rfl ⟨(Nat.le_of_ble_eq_true rfl), (Nat.le_of_ble_eq_true rfl)⟩) hK hE hA hP hD hS 0 (T := TX5) (N := 3) (ci := 5) rfl rfl [0, 9, 10, 11, 12, 13, 14, 15] rfl (by decide) rfl rfl rfl rfl rfl rfl hl.1 (Nat.le_of_ble_eq_true rfl) dX5_separate_62 ⟨Nat.zero_le _, Nat.zero_le _⟩ (fun H locs hP hD hS => ?_)
          refine lv_iload hx hb dX5_separate_65 (lv_at hl 0 rfl) ?_
          refine lv_bipush (v := 35) hx hb dX5_separate_67 (by decide) ?_
          refine lv_icmp_ne (tgt := 92) hx hb dX5_separate_69 (by decide) (fun c82 => ?_) (fun c82 => ?_)
          · replace hM := if_f c82 hM
            refine lv_aload_n hx hb dX5_separate_92 rfl (lv_at hl 3 rfl) ?_
            refine lv_iload hx hb dX5_separate_93 (lv_at hl 0 rfl) ?_
            refine lv_aload_n hx hb dX5_separate_95 rfl (lv_at hl 3 rfl) ?_
            refine va_get (D := D) (ci := 5) (v := .ref (ad 14)) (C := RX5) (T := TX5) (N := 3) hx hb hts layX5 hown hK hP 0 rfl rfl 0 (by decide) (hts _ (inA q442)) (fun _ h9 => h9) rfl dX5_separate_96 ?_
            refine lv_iload_n hx hb dX5_separate_99 rfl (lv_at hl 4 rfl) ?_
            obtain ⟨r83, hcr83, hM⟩ := ob_use hM
            refine cl_V (As := [.int a1]) (rest := [.int r3, .ref (ad 23)]) (wW ad ++ wT cI ad o_tree ++ wN cI ad o_names ++ wB cI (ad 3) (ad 4) 16384 r81) (.int r83 :: [.int r3, .ref (ad 23)]) ⟨hx, hb, hml, hown, hts⟩ (c_Tree_kind l D cI sd ad o_tree a1 r83 hcr83) (cwV2 hts q870 mvX3_kind rfl rfl ⟨(Nat.le_of_ble_eq_true rfl), (Nat.le_of_ble_eq_true rfl)⟩) hK hE hA hP hD hS 1 (T := TX3) (N := 8) (ci := 3) rfl rfl [1, 2, 3, 4, 5, 6, 7, 8] rfl (by decide) rfl rfl rfl rfl rfl rfl hl.1 (Nat.le_of_ble_eq_true rfl) dX5_separate_100 ⟨Nat.zero_le _, Nat.zero_le _⟩ (fun H locs hP hD hS => ?_)
            refine lv_iload_n hx hb dX5_separate_103 rfl (lv_at hl 2 rfl) ?_
            obtain ⟨r84, hcr84, hM⟩ := ob_use hM
            refine cl_S (As := [.int r3, .int r83, .int r1]) (rest := [.ref (ad 23)]) (wW ad ++ wT cI ad o_tree ++ wN cI ad o_names ++ wB cI (ad 3) (ad 4) 16384 r81) (.int r84 :: [.ref (ad 23)]) ⟨hx, hb, hml, hown, hts⟩ (c_Writer_separator l D cI sd ad r3 r83 r1 r84 hcr84) (cwS2 hts q913 mvX5_separator rfl rfl ⟨(Nat.le_of_ble_eq_true rfl), (Nat.le_of_ble_eq_true rfl)⟩) hK hE hA hP hD hS [] rfl (by decide) rfl rfl rfl rfl rfl rfl hl.1 (Nat.le_of_ble_eq_true rfl) dX5_separate_104 ⟨Nat.zero_le _, Nat.zero_le _⟩ (fun H locs hP hD hS => ?_)
            obtain ⟨r85, hcr85, hM⟩ := ob_use hM
            refine cl_V (As := [.int r84]) (rest := []) (wW ad ++ wT cI ad o_tree ++ wN cI ad o_names ++ wB cI (ad 3) (ad 4) 16384 r85) [] ⟨hx, hb, hml, hown, hts⟩ (c_Writer_token l D cI sd ad o_names r81 r84 r85 hcr85) (cwV2 hts q872 mvX5_token rfl rfl ⟨(Nat.le_of_ble_eq_true rfl), (Nat.le_of_ble_eq_true rfl)⟩) hK hE hA hP hD hS 0 (T := TX5) (N := 3) (ci := 5) rfl rfl [0, 9, 10, 11, 12, 13, 14, 15] rfl (by decide) rfl rfl rfl rfl rfl rfl hl.1 (Nat.le_of_ble_eq_true rfl) dX5_separate_107 ⟨Nat.zero_le _, Nat.zero_le _⟩ (fun H locs hP hD hS => ?_)
            cases hM
            exact rt_v hx hb hr hlk hP hD hS rfl dX5_separate_110
          · replace hM := if_t c82 hM
            refine lv_iload_n hx hb dX5_separate_72 rfl (lv_at hl 2 rfl) ?_
            refine lv_iconst (v := 1) hx hb dX5_separate_73 (by decide) ?_
            refine lv_icmp_ne (tgt := 92) hx hb dX5_separate_74 (by decide) (fun c86 => ?_) (fun c86 => ?_)
            · replace hM := if_f c86 hM
              refine lv_aload_n hx hb dX5_separate_92 rfl (lv_at hl 3 rfl) ?_
              refine lv_iload hx hb dX5_separate_93 (lv_at hl 0 rfl) ?_
              refine lv_aload_n hx hb dX5_separate_95 rfl (lv_at hl 3 rfl) ?_
              refine va_get (D := D) (ci := 5) (v := .ref (ad 14)) (C := RX5) (T := TX5) (N := 3) hx hb hts layX5 hown hK hP 0 rfl rfl 0 (by decide) (hts _ (inA q442)) (fun _ h9 => h9) rfl dX5_separate_96 ?_
              refine lv_iload_n hx hb dX5_separate_99 rfl (lv_at hl 4 rfl) ?_
              obtain ⟨r87, hcr87, hM⟩ := ob_use hM
              refine cl_V (As := [.int a1]) (rest := [.int r3, .ref (ad 23)]) (wW ad ++ wT cI ad o_tree ++ wN cI ad o_names ++ wB cI (ad 3) (ad 4) 16384 r81) (.int r87 :: [.int r3, .ref (ad 23)]) ⟨hx, hb, hml, hown, hts⟩ (c_Tree_kind l D cI sd ad o_tree a1 r87 hcr87) (cwV2 hts q870 mvX3_kind rfl rfl ⟨(Nat.le_of_ble_eq_true rfl), (Nat.le_of_ble_eq_true rfl)⟩) hK hE hA hP hD hS 1 (T := TX3) (N := 8) (ci := 3) rfl rfl [1, 2, 3, 4, 5, 6, 7, 8] rfl (by decide) rfl rfl rfl rfl rfl rfl hl.1 (Nat.le_of_ble_eq_true rfl) dX5_separate_100 ⟨Nat.zero_le _, Nat.zero_le _⟩ (fun H locs hP hD hS => ?_)
              refine lv_iload_n hx hb dX5_separate_103 rfl (lv_at hl 2 rfl) ?_
              obtain ⟨r88, hcr88, hM⟩ := ob_use hM
              refine cl_S (As := [.int r3, .int r87, .int r1]) (rest := [.ref (ad 23)]) (wW ad ++ wT cI ad o_tree ++ wN cI ad o_names ++ wB cI (ad 3) (ad 4) 16384 r81) (.int r88 :: [.ref (ad 23)]) ⟨hx, hb, hml, hown, hts⟩ (c_Writer_separator l D cI sd ad r3 r87 r1 r88 hcr88) (cwS2 hts q913 mvX5_separator rfl rfl ⟨(Nat.le_of_ble_eq_true rfl), (Nat.le_of_ble_eq_true rfl)⟩) hK hE hA hP hD hS [] rfl (by decide) rfl rfl rfl rfl rfl rfl hl.1 (Nat.le_of_ble_eq_true rfl) dX5_separate_104 ⟨Nat.zero_le _, Nat.zero_le _⟩ (fun H locs hP hD hS => ?_)
              obtain ⟨r89, hcr89, hM⟩ := ob_use hM
              refine cl_V (As := [.int r88]) (rest := []) (wW ad ++ wT cI ad o_tree ++ wN cI ad o_names ++ wB cI (ad 3) (ad 4) 16384 r89) [] ⟨hx, hb, hml, hown, hts⟩ (c_Writer_token l D cI sd ad o_names r81 r88 r89 hcr89) (cwV2 hts q872 mvX5_token rfl rfl ⟨(Nat.le_of_ble_eq_true rfl), (Nat.le_of_ble_eq_true rfl)⟩) hK hE hA hP hD hS 0 (T := TX5) (N := 3) (ci := 5) rfl rfl [0, 9, 10, 11, 12, 13, 14, 15] rfl (by decide) rfl rfl rfl rfl rfl rfl hl.1 (Nat.le_of_ble_eq_true rfl) dX5_separate_107 ⟨Nat.zero_le _, Nat.zero_le _⟩ (fun H locs hP hD hS => ?_)
              cases hM
              exact rt_v hx hb hr hlk hP hD hS rfl dX5_separate_110
            · replace hM := if_t c86 hM
              refine lv_aload_n hx hb dX5_separate_77 rfl (lv_at hl 3 rfl) ?_
              refine lv_aload_n hx hb dX5_separate_78 rfl (lv_at hl 3 rfl) ?_
              refine va_get (D := D) (ci := 5) (v := .ref (ad 14)) (C := RX5) (T := TX5) (N := 3) hx hb hts layX5 hown hK hP 0 rfl rfl 0 (by decide) (hts _ (inA q442)) (fun _ h9 => h9) rfl dX5_separate_79 ?_
              refine lv_iload_n hx hb dX5_separate_82 rfl (lv_at hl 1 rfl) ?_
              obtain ⟨r90, hcr90, hM⟩ := ob_use hM
              refine cl_V (As := [.int r2]) (rest := [.ref (ad 23)]) (wW ad ++ wT cI ad o_tree ++ wN cI ad o_names ++ wB cI (ad 3) (ad 4) 16384 r81) (.int r90 :: [.ref (ad 23)]) ⟨hx, hb, hml, hown, hts⟩ (c_Tree_value l D cI sd ad o_tree r2 r90 hcr90) (cwV2 hts q892 mvX3_value rfl rfl ⟨(Nat.le_of_ble_eq_true rfl), (Nat.le_of_ble_eq_true rfl)⟩) hK hE hA hP hD hS 1 (T := TX3) (N := 8) (ci := 3) rfl rfl [1, 2, 3, 4, 5, 6, 7, 8] rfl (by decide) rfl rfl rfl rfl rfl rfl hl.1 (Nat.le_of_ble_eq_true rfl) dX5_separate_83 ⟨Nat.zero_le _, Nat.zero_le _⟩ (fun H locs hP hD hS => ?_)
              obtain ⟨r91, hcr91, hM⟩ := ob_use hM
              refine cl_S (As := [.int r90]) (rest := [.ref (ad 23)]) (wW ad ++ wT cI ad o_tree ++ wN cI ad o_names ++ wB cI (ad 3) (ad 4) 16384 r81) (.int r91 :: [.ref (ad 23)]) ⟨hx, hb, hml, hown, hts⟩ (c_Sign_between l D cI sd ad r90 r91 hcr91) (cwS2 hts q908 mvX7_between rfl rfl ⟨(Nat.le_of_ble_eq_true rfl), (Nat.le_of_ble_eq_true rfl)⟩) hK hE hA hP hD hS [] rfl (by decide) rfl rfl rfl rfl rfl rfl hl.1 (Nat.le_of_ble_eq_true rfl) dX5_separate_86 ⟨Nat.zero_le _, Nat.zero_le _⟩ (fun H locs hP hD hS => ?_)
              obtain ⟨r92, hcr92, hM⟩ := ob_use hM
              refine cl_V (As := [.int r91]) (rest := []) (wW ad ++ wT cI ad o_tree ++ wN cI ad o_names ++ wB cI (ad 3) (ad 4) 16384 r92) [] ⟨hx, hb, hml, hown, hts⟩ (c_Writer_token l D cI sd ad o_names r81 r91 r92 hcr92) (cwV2 hts q872 mvX5_token rfl rfl ⟨(Nat.le_of_ble_eq_true rfl), (Nat.le_of_ble_eq_true rfl)⟩) hK hE hA hP hD hS 0 (T := TX5) (N := 3) (ci := 5) rfl rfl [0, 9, 10, 11, 12, 13, 14, 15] rfl (by decide) rfl rfl rfl rfl rfl rfl hl.1 (Nat.le_of_ble_eq_true rfl) dX5_separate_89 ⟨Nat.zero_le _, Nat.zero_le _⟩ (fun H locs hP hD hS => ?_)
              refine lv_aload_n hx hb dX5_separate_92 rfl (lv_at hl 3 rfl) ?_
              refine lv_iload hx hb dX5_separate_93 (lv_at hl 0 rfl) ?_
              refine lv_aload_n hx hb dX5_separate_95 rfl (lv_at hl 3 rfl) ?_
              refine va_get (D := D) (ci := 5) (v := .ref (ad 14)) (C := RX5) (T := TX5) (N := 3) hx hb hts layX5 hown hK hP 0 rfl rfl 0 (by decide) (hts _ (inA q442)) (fun _ h9 => h9) rfl dX5_separate_96 ?_
              refine lv_iload_n hx hb dX5_separate_99 rfl (lv_at hl 4 rfl) ?_
              obtain ⟨r93, hcr93, hM⟩ := ob_use hM
              refine cl_V (As := [.int a1]) (rest := [.int r3, .ref (ad 23)]) (wW ad ++ wT cI ad o_tree ++ wN cI ad o_names ++ wB cI (ad 3) (ad 4) 16384 r92) (.int r93 :: [.int r3, .ref (ad 23)]) ⟨hx, hb, hml, hown, hts⟩ (c_Tree_kind l D cI sd ad o_tree a1 r93 hcr93) (cwV2 hts q870 mvX3_kind rfl rfl ⟨(Nat.le_of_ble_eq_true rfl), (Nat.le_of_ble_eq_true rfl)⟩) hK hE hA hP hD hS 1 (T := TX3) (N := 8) (ci := 3) rfl rfl [1, 2, 3, 4, 5, 6, 7, 8] rfl (by decide) rfl rfl rfl rfl rfl rfl hl.1 (Nat.le_of_ble_eq_true rfl) dX5_separate_100 ⟨Nat.zero_le _, Nat.zero_le _⟩ (fun H locs hP hD hS => ?_)
              refine lv_iload_n hx hb dX5_separate_103 rfl (lv_at hl 2 rfl) ?_
              obtain ⟨r94, hcr94, hM⟩ := ob_use hM
              refine cl_S (As := [.int r3, .int r93, .int r1]) (rest := [.ref (ad 23)]) (wW ad ++ wT cI ad o_tree ++ wN cI ad o_names ++ wB cI (ad 3) (ad 4) 16384 r92) (.int r94 :: [.ref (ad 23)]) ⟨hx, hb, hml, hown, hts⟩ (c_Writer_separator l D cI sd ad r3 r93 r1 r94 hcr94) (cwS2 hts q913 mvX5_separator rfl rfl ⟨(Nat.le_of_ble_eq_true rfl), (Nat.le_of_ble_eq_true rfl)⟩) hK hE hA hP hD hS [] rfl (by decide) rfl rfl rfl rfl rfl rfl hl.1 (Nat.le_of_ble_eq_true rfl) dX5_separate_104 ⟨Nat.zero_le _, Nat.zero_le _⟩ (fun H locs hP hD hS => ?_)
              obtain ⟨r95, hcr95, hM⟩ := ob_use hM
              refine cl_V (As := [.int r94]) (rest := []) (wW ad ++ wT cI ad o_tree ++ wN cI ad o_names ++ wB cI (ad 3) (ad 4) 16384 r95) [] ⟨hx, hb, hml, hown, hts⟩ (c_Writer_token l D cI sd ad o_names r92 r94 r95 hcr95) (cwV2 hts q872 mvX5_token rfl rfl ⟨(Nat.le_of_ble_eq_true rfl), (Nat.le_of_ble_eq_true rfl)⟩) hK hE hA hP hD hS 0 (T := TX5) (N := 3) (ci := 5) rfl rfl [0, 9, 10, 11, 12, 13, 14, 15] rfl (by decide) rfl rfl rfl rfl rfl rfl hl.1 (Nat.le_of_ble_eq_true rfl) dX5_separate_107 ⟨Nat.zero_le _, Nat.zero_le _⟩ (fun H locs hP hD hS => ?_)
              cases hM
              exact rt_v hx hb hr hlk hP hD hS rfl dX5_separate_110
    · replace hM := if_t c50 hM
      refine lv_aload_n hx hb dX5_separate_40 rfl (lv_at hl 3 rfl) ?_
      refine lv_bipush (v := 93) hx hb dX5_separate_41 (by decide) ?_
      obtain ⟨r96, hcr96, hM⟩ := ob_use hM
      refine cl_V (As := [.int 93]) (rest := []) (wW ad ++ wT cI ad o_tree ++ wN cI ad o_names ++ wB cI (ad 3) (ad 4) 16384 r96) [] ⟨hx, hb, hml, hown, hts⟩ (c_Writer_token l D cI sd ad o_names o_out 93 r96 hcr96) (cwV2 hts q872 mvX5_token rfl rfl ⟨(Nat.le_of_ble_eq_true rfl), (Nat.le_of_ble_eq_true rfl)⟩) hK hE hA hP hD hS 0 (T := TX5) (N := 3) (ci := 5) rfl rfl [0, 9, 10, 11, 12, 13, 14, 15] rfl (by decide) rfl rfl rfl rfl rfl rfl hl.1 (Nat.le_of_ble_eq_true rfl) dX5_separate_43 ⟨Nat.zero_le _, Nat.zero_le _⟩ (fun H locs hP hD hS => ?_)
      refine lv_iload hx hb dX5_separate_46 (lv_at hl 0 rfl) ?_
      refine lv_bipush (v := 16) hx hb dX5_separate_48 (by decide) ?_
      refine lv_icmp_ne (tgt := 65) hx hb dX5_separate_50 (by decide) (fun c97 => ?_) (fun c97 => ?_)
      · replace hM := if_f c97 hM
        refine lv_iload hx hb dX5_separate_65 (lv_at hl 0 rfl) ?_
        refine lv_bipush (v := 35) hx hb dX5_separate_67 (by decide) ?_
        refine lv_icmp_ne (tgt := 92) hx hb dX5_separate_69 (by decide) (fun c98 => ?_) (fun c98 => ?_)
        · replace hM := if_f c98 hM
          refine lv_aload_n hx hb dX5_separate_92 rfl (lv_at hl 3 rfl) ?_
          refine lv_iload hx hb dX5_separate_93 (lv_at hl 0 rfl) ?_
          refine lv_aload_n hx hb dX5_separate_95 rfl (lv_at hl 3 rfl) ?_
          refine va_get (D := D) (ci := 5) (v := .ref (ad 14)) (C := RX5) (T := TX5) (N := 3) hx hb hts layX5 hown hK hP 0 rfl rfl 0 (by decide) (hts _ (inA q442)) (fun _ h9 => h9) rfl dX5_separate_96 ?_
          refine lv_iload_n hx hb dX5_separate_99 rfl (lv_at hl 4 rfl) ?_
          obtain ⟨r99, hcr99, hM⟩ := ob_use hM
          refine cl_V (As := [.int a1]) (rest := [.int r3, .ref (ad 23)]) (wW ad ++ wT cI ad o_tree ++ wN cI ad o_names ++ wB cI (ad 3) (ad 4) 16384 r96) (.int r99 :: [.int r3, .ref (ad 23)]) ⟨hx, hb, hml, hown, hts⟩ (c_Tree_kind l D cI sd ad o_tree a1 r99 hcr99) (cwV2 hts q870 mvX3_kind rfl rfl ⟨(Nat.le_of_ble_eq_true rfl), (Nat.le_of_ble_eq_true rfl)⟩) hK hE hA hP hD hS 1 (T := TX3) (N := 8) (ci := 3) rfl rfl [1, 2, 3, 4, 5, 6, 7, 8] rfl (by decide) rfl rfl rfl rfl rfl rfl hl.1 (Nat.le_of_ble_eq_true rfl) dX5_separate_100 ⟨Nat.zero_le _, Nat.zero_le _⟩ (fun H locs hP hD hS => ?_)
          refine lv_iload_n hx hb dX5_separate_103 rfl (lv_at hl 2 rfl) ?_
          obtain ⟨r100, hcr100, hM⟩ := ob_use hM
          refine cl_S (As := [.int r3, .int r99, .int r1]) (rest := [.ref (ad 23)]) (wW ad ++ wT cI ad o_tree ++ wN cI ad o_names ++ wB cI (ad 3) (ad 4) 16384 r96) (.int r100 :: [.ref (ad 23)]) ⟨hx, hb, hml, hown, hts⟩ (c_Writer_separator l D cI sd ad r3 r99 r1 r100 hcr100) (cwS2 hts q913 mvX5_separator rfl rfl ⟨(Nat.le_of_ble_eq_true rfl), (Nat.le_of_ble_eq_true rfl)⟩) hK hE hA hP hD hS [] rfl (by decide) rfl rfl rfl rfl rfl rfl hl.1 (Nat.le_of_ble_eq_true rfl) dX5_separate_104 ⟨Nat.zero_le _, Nat.zero_le _⟩ (fun H locs hP hD hS => ?_)
          obtain ⟨r101, hcr101, hM⟩ := ob_use hM
          refine cl_V (As := [.int r100]) (rest := []) (wW ad ++ wT cI ad o_tree ++ wN cI ad o_names ++ wB cI (ad 3) (ad 4) 16384 r101) [] ⟨hx, hb, hml, hown, hts⟩ (c_Writer_token l D cI sd ad o_names r96 r100 r101 hcr101) (cwV2 hts q872 mvX5_token rfl rfl ⟨(Nat.le_of_ble_eq_true rfl), (Nat.le_of_ble_eq_true rfl)⟩) hK hE hA hP hD hS 0 (T := TX5) (N := 3) (ci := 5) rfl rfl [0, 9, 10, 11, 12, 13, 14, 15] rfl (by decide) rfl rfl rfl rfl rfl rfl hl.1 (Nat.le_of_ble_eq_true rfl) dX5_separate_107 ⟨Nat.zero_le _, Nat.zero_le _⟩ (fun H locs hP hD hS => ?_)
          cases hM
          exact rt_v hx hb hr hlk hP hD hS rfl dX5_separate_110
        · replace hM := if_t c98 hM
          refine lv_iload_n hx hb dX5_separate_72 rfl (lv_at hl 2 rfl) ?_
          refine lv_iconst (v := 1) hx hb dX5_separate_73 (by decide) ?_
          refine lv_icmp_ne (tgt := 92) hx hb dX5_separate_74 (by decide) (fun c102 => ?_) (fun c102 => ?_)
          · replace hM := if_f c102 hM
            refine lv_aload_n hx hb dX5_separate_92 rfl (lv_at hl 3 rfl) ?_
            refine lv_iload hx hb dX5_separate_93 (lv_at hl 0 rfl) ?_
            refine lv_aload_n hx hb dX5_separate_95 rfl (lv_at hl 3 rfl) ?_
            refine va_get (D := D) (ci := 5) (v := .ref (ad 14)) (C := RX5) (T := TX5) (N := 3) hx hb hts layX5 hown hK hP 0 rfl rfl 0 (by decide) (hts _ (inA q442)) (fun _ h9 => h9) rfl dX5_separate_96 ?_
            refine lv_iload_n hx hb dX5_separate_99 rfl (lv_at hl 4 rfl) ?_
            obtain ⟨r103, hcr103, hM⟩ := ob_use hM
            refine cl_V (As := [.int a1]) (rest := [.int r3, .ref (ad 23)]) (wW ad ++ wT cI ad o_tree ++ wN cI ad o_names ++ wB cI (ad 3) (ad 4) 16384 r96) (.int r103 :: [.int r3, .ref (ad 23)]) ⟨hx, hb, hml, hown, hts⟩ (c_Tree_kind l D cI sd ad o_tree a1 r103 hcr103) (cwV2 hts q870 mvX3_kind rfl rfl ⟨(Nat.le_of_ble_eq_true rfl), (Nat.le_of_ble_eq_true rfl)⟩) hK hE hA hP hD hS 1 (T := TX3) (N := 8) (ci := 3) rfl rfl [1, 2, 3, 4, 5, 6, 7, 8] rfl (by decide) rfl rfl rfl rfl rfl rfl hl.1 (Nat.le_of_ble_eq_true rfl) dX5_separate_100 ⟨Nat.zero_le _, Nat.zero_le _⟩ (fun H locs hP hD hS => ?_)
            refine lv_iload_n hx hb dX5_separate_103 rfl (lv_at hl 2 rfl) ?_
            obtain ⟨r104, hcr104, hM⟩ := ob_use hM
            refine cl_S (As := [.int r3, .int r103, .int r1]) (rest := [.ref (ad 23)]) (wW ad ++ wT cI ad o_tree ++ wN cI ad o_names ++ wB cI (ad 3) (ad 4) 16384 r96) (.int r104 :: [.ref (ad 23)]) ⟨hx, hb, hml, hown, hts⟩ (c_Writer_separator l D cI sd ad r3 r103 r1 r104 hcr104) (cwS2 hts q913 mvX5_separator rfl rfl ⟨(Nat.le_of_ble_eq_true rfl), (Nat.le_of_ble_eq_true rfl)⟩) hK hE hA hP hD hS [] rfl (by decide) rfl rfl rfl rfl rfl rfl hl.1 (Nat.le_of_ble_eq_true rfl) dX5_separate_104 ⟨Nat.zero_le _, Nat.zero_le _⟩ (fun H locs hP hD hS => ?_)
            obtain ⟨r105, hcr105, hM⟩ := ob_use hM
            refine cl_V (As := [.int r104]) (rest := []) (wW ad ++ wT cI ad o_tree ++ wN cI ad o_names ++ wB cI (ad 3) (ad 4) 16384 r105) [] ⟨hx, hb, hml, hown, hts⟩ (c_Writer_token l D cI sd ad o_names r96 r104 r105 hcr105) (cwV2 hts q872 mvX5_token rfl rfl ⟨(Nat.le_of_ble_eq_true rfl), (Nat.le_of_ble_eq_true rfl)⟩) hK hE hA hP hD hS 0 (T := TX5) (N := 3) (ci := 5) rfl rfl [0, 9, 10, 11, 12, 13, 14, 15] rfl (by decide) rfl rfl rfl rfl rfl rfl hl.1 (Nat.le_of_ble_eq_true rfl) dX5_separate_107 ⟨Nat.zero_le _, Nat.zero_le _⟩ (fun H locs hP hD hS => ?_)
            cases hM
            exact rt_v hx hb hr hlk hP hD hS rfl dX5_separate_110
          · replace hM := if_t c102 hM
            refine lv_aload_n hx hb dX5_separate_77 rfl (lv_at hl 3 rfl) ?_
            refine lv_aload_n hx hb dX5_separate_78 rfl (lv_at hl 3 rfl) ?_
            refine va_get (D := D) (ci := 5) (v := .ref (ad 14)) (C := RX5) (T := TX5) (N := 3) hx hb hts layX5 hown hK hP 0 rfl rfl 0 (by decide) (hts _ (inA q442)) (fun _ h9 => h9) rfl dX5_separate_79 ?_
            refine lv_iload_n hx hb dX5_separate_82 rfl (lv_at hl 1 rfl) ?_
            obtain ⟨r106, hcr106, hM⟩ := ob_use hM
            refine cl_V (As := [.int r2]) (rest := [.ref (ad 23)]) (wW ad ++ wT cI ad o_tree ++ wN cI ad o_names ++ wB cI (ad 3) (ad 4) 16384 r96) (.int r106 :: [.ref (ad 23)]) ⟨hx, hb, hml, hown, hts⟩ (c_Tree_value l D cI sd ad o_tree r2 r106 hcr106) (cwV2 hts q892 mvX3_value rfl rfl ⟨(Nat.le_of_ble_eq_true rfl), (Nat.le_of_ble_eq_true rfl)⟩) hK hE hA hP hD hS 1 (T := TX3) (N := 8) (ci := 3) rfl rfl [1, 2, 3, 4, 5, 6, 7, 8] rfl (by decide) rfl rfl rfl rfl rfl rfl hl.1 (Nat.le_of_ble_eq_true rfl) dX5_separate_83 ⟨Nat.zero_le _, Nat.zero_le _⟩ (fun H locs hP hD hS => ?_)
            obtain ⟨r107, hcr107, hM⟩ := ob_use hM
            refine cl_S (As := [.int r106]) (rest := [.ref (ad 23)]) (wW ad ++ wT cI ad o_tree ++ wN cI ad o_names ++ wB cI (ad 3) (ad 4) 16384 r96) (.int r107 :: [.ref (ad 23)]) ⟨hx, hb, hml, hown, hts⟩ (c_Sign_between l D cI sd ad r106 r107 hcr107) (cwS2 hts q908 mvX7_between rfl rfl ⟨(Nat.le_of_ble_eq_true rfl), (Nat.le_of_ble_eq_true rfl)⟩) hK hE hA hP hD hS [] rfl (by decide) rfl rfl rfl rfl rfl rfl hl.1 (Nat.le_of_ble_eq_true rfl) dX5_separate_86 ⟨Nat.zero_le _, Nat.zero_le _⟩ (fun H locs hP hD hS => ?_)
            obtain ⟨r108, hcr108, hM⟩ := ob_use hM
            refine cl_V (As := [.int r107]) (rest := []) (wW ad ++ wT cI ad o_tree ++ wN cI ad o_names ++ wB cI (ad 3) (ad 4) 16384 r108) [] ⟨hx, hb, hml, hown, hts⟩ (c_Writer_token l D cI sd ad o_names r96 r107 r108 hcr108) (cwV2 hts q872 mvX5_token rfl rfl ⟨(Nat.le_of_ble_eq_true rfl), (Nat.le_of_ble_eq_true rfl)⟩) hK hE hA hP hD hS 0 (T := TX5) (N := 3) (ci := 5) rfl rfl [0, 9, 10, 11, 12, 13, 14, 15] rfl (by decide) rfl rfl rfl rfl rfl rfl hl.1 (Nat.le_of_ble_eq_true rfl) dX5_separate_89 ⟨Nat.zero_le _, Nat.zero_le _⟩ (fun H locs hP hD hS => ?_)
            refine lv_aload_n hx hb dX5_separate_92 rfl (lv_at hl 3 rfl) ?_
            refine lv_iload hx hb dX5_separate_93 (lv_at hl 0 rfl) ?_
            refine lv_aload_n hx hb dX5_separate_95 rfl (lv_at hl 3 rfl) ?_
            refine va_get (D := D) (ci := 5) (v := .ref (ad 14)) (C := RX5) (T := TX5) (N := 3) hx hb hts layX5 hown hK hP 0 rfl rfl 0 (by decide) (hts _ (inA q442)) (fun _ h9 => h9) rfl dX5_separate_96 ?_
            refine lv_iload_n hx hb dX5_separate_99 rfl (lv_at hl 4 rfl) ?_
            obtain ⟨r109, hcr109, hM⟩ := ob_use hM
            refine cl_V (As := [.int a1]) (rest := [.int r3, .ref (ad 23)]) (wW ad ++ wT cI ad o_tree ++ wN cI ad o_names ++ wB cI (ad 3) (ad 4) 16384 r108) (.int r109 :: [.int r3, .ref (ad 23)]) ⟨hx, hb, hml, hown, hts⟩ (c_Tree_kind l D cI sd ad o_tree a1 r109 hcr109) (cwV2 hts q870 mvX3_kind rfl rfl ⟨(Nat.le_of_ble_eq_true rfl), (Nat.le_of_ble_eq_true rfl)⟩) hK hE hA hP hD hS 1 (T := TX3) (N := 8) (ci := 3) rfl rfl [1, 2, 3, 4, 5, 6, 7, 8] rfl (by decide) rfl rfl rfl rfl rfl rfl hl.1 (Nat.le_of_ble_eq_true rfl) dX5_separate_100 ⟨Nat.zero_le _, Nat.zero_le _⟩ (fun H locs hP hD hS => ?_)
            refine lv_iload_n hx hb dX5_separate_103 rfl (lv_at hl 2 rfl) ?_
            obtain ⟨r110, hcr110, hM⟩ := ob_use hM
            refine cl_S (As := [.int r3, .int r109, .int r1]) (rest := [.ref (ad 23)]) (wW ad ++ wT cI ad o_tree ++ wN cI ad o_names ++ wB cI (ad 3) (ad 4) 16384 r108) (.int r110 :: [.ref (ad 23)]) ⟨hx, hb, hml, hown, hts⟩ (c_Writer_separator l D cI sd ad r3 r109 r1 r110 hcr110) (cwS2 hts q913 mvX5_separator rfl rfl ⟨(Nat.le_of_ble_eq_true rfl), (Nat.le_of_ble_eq_true rfl)⟩) hK hE hA hP hD hS [] rfl (by decide) rfl rfl rfl rfl rfl rfl hl.1 (Nat.le_of_ble_eq_true rfl) dX5_separate_104 ⟨Nat.zero_le _, Nat.zero_le _⟩ (fun H locs hP hD hS => ?_)
            obtain ⟨r111, hcr111, hM⟩ := ob_use hM
            refine cl_V (As := [.int r110]) (rest := []) (wW ad ++ wT cI ad o_tree ++ wN cI ad o_names ++ wB cI (ad 3) (ad 4) 16384 r111) [] ⟨hx, hb, hml, hown, hts⟩ (c_Writer_token l D cI sd ad o_names r108 r110 r111 hcr111) (cwV2 hts q872 mvX5_token rfl rfl ⟨(Nat.le_of_ble_eq_true rfl), (Nat.le_of_ble_eq_true rfl)⟩) hK hE hA hP hD hS 0 (T := TX5) (N := 3) (ci := 5) rfl rfl [0, 9, 10, 11, 12, 13, 14, 15] rfl (by decide) rfl rfl rfl rfl rfl rfl hl.1 (Nat.le_of_ble_eq_true rfl) dX5_separate_107 ⟨Nat.zero_le _, Nat.zero_le _⟩ (fun H locs hP hD hS => ?_)
            cases hM
            exact rt_v hx hb hr hlk hP hD hS rfl dX5_separate_110
      · replace hM := if_t c97 hM
        refine lv_iload_n hx hb dX5_separate_53 rfl (lv_at hl 2 rfl) ?_
        refine lv_iconst (v := 1) hx hb dX5_separate_54 (by decide) ?_
        refine lv_icmp_ne (tgt := 65) hx hb dX5_separate_55 (by decide) (fun c112 => ?_) (fun c112 => ?_)
        · replace hM := if_f c112 hM
          refine lv_iload hx hb dX5_separate_65 (lv_at hl 0 rfl) ?_
          refine lv_bipush (v := 35) hx hb dX5_separate_67 (by decide) ?_
          refine lv_icmp_ne (tgt := 92) hx hb dX5_separate_69 (by decide) (fun c113 => ?_) (fun c113 => ?_)
          · replace hM := if_f c113 hM
            refine lv_aload_n hx hb dX5_separate_92 rfl (lv_at hl 3 rfl) ?_
            refine lv_iload hx hb dX5_separate_93 (lv_at hl 0 rfl) ?_
            refine lv_aload_n hx hb dX5_separate_95 rfl (lv_at hl 3 rfl) ?_
            refine va_get (D := D) (ci := 5) (v := .ref (ad 14)) (C := RX5) (T := TX5) (N := 3) hx hb hts layX5 hown hK hP 0 rfl rfl 0 (by decide) (hts _ (inA q442)) (fun _ h9 => h9) rfl dX5_separate_96 ?_
            refine lv_iload_n hx hb dX5_separate_99 rfl (lv_at hl 4 rfl) ?_
            obtain ⟨r114, hcr114, hM⟩ := ob_use hM
            refine cl_V (As := [.int a1]) (rest := [.int r3, .ref (ad 23)]) (wW ad ++ wT cI ad o_tree ++ wN cI ad o_names ++ wB cI (ad 3) (ad 4) 16384 r96) (.int r114 :: [.int r3, .ref (ad 23)]) ⟨hx, hb, hml, hown, hts⟩ (c_Tree_kind l D cI sd ad o_tree a1 r114 hcr114) (cwV2 hts q870 mvX3_kind rfl rfl ⟨(Nat.le_of_ble_eq_true rfl), (Nat.le_of_ble_eq_true rfl)⟩) hK hE hA hP hD hS 1 (T := TX3) (N := 8) (ci := 3) rfl rfl [1, 2, 3, 4, 5, 6, 7, 8] rfl (by decide) rfl rfl rfl rfl rfl rfl hl.1 (Nat.le_of_ble_eq_true rfl) dX5_separate_100 ⟨Nat.zero_le _, Nat.zero_le _⟩ (fun H locs hP hD hS => ?_)
            refine lv_iload_n hx hb dX5_separate_103 rfl (lv_at hl 2 rfl) ?_
            obtain ⟨r115, hcr115, hM⟩ := ob_use hM
            refine cl_S (As := [.int r3, .int r114, .int r1]) (rest := [.ref (ad 23)]) (wW ad ++ wT cI ad o_tree ++ wN cI ad o_names ++ wB cI (ad 3) (ad 4) 16384 r96) (.int r115 :: [.ref (ad 23)]) ⟨hx, hb, hml, hown, hts⟩ (c_Writer_separator l D cI sd ad r3 r114 r1 r115 hcr115) (cwS2 hts q913 mvX5_separator rfl rfl ⟨(Nat.le_of_ble_eq_true rfl), (Nat.le_of_ble_eq_true rfl)⟩) hK hE hA hP hD hS [] rfl (by decide) rfl rfl rfl rfl rfl rfl hl.1 (Nat.le_of_ble_eq_true rfl) dX5_separate_104 ⟨Nat.zero_le _, Nat.zero_le _⟩ (fun H locs hP hD hS => ?_)
            obtain ⟨r116, hcr116, hM⟩ := ob_use hM
            refine cl_V (As := [.int r115]) (rest := []) (wW ad ++ wT cI ad o_tree ++ wN cI ad o_names ++ wB cI (ad 3) (ad 4) 16384 r116) [] ⟨hx, hb, hml, hown, hts⟩ (c_Writer_token l D cI sd ad o_names r96 r115 r116 hcr116) (cwV2 hts q872 mvX5_token rfl rfl ⟨(Nat.le_of_ble_eq_true rfl), (Nat.le_of_ble_eq_true rfl)⟩) hK hE hA hP hD hS 0 (T := TX5) (N := 3) (ci := 5) rfl rfl [0, 9, 10, 11, 12, 13, 14, 15] rfl (by decide) rfl rfl rfl rfl rfl rfl hl.1 (Nat.le_of_ble_eq_true rfl) dX5_separate_107 ⟨Nat.zero_le _, Nat.zero_le _⟩ (fun H locs hP hD hS => ?_)
            cases hM
            exact rt_v hx hb hr hlk hP hD hS rfl dX5_separate_110
          · replace hM := if_t c113 hM
            refine lv_iload_n hx hb dX5_separate_72 rfl (lv_at hl 2 rfl) ?_
            refine lv_iconst (v := 1) hx hb dX5_separate_73 (by decide) ?_
            refine lv_icmp_ne (tgt := 92) hx hb dX5_separate_74 (by decide) (fun c117 => ?_) (fun c117 => ?_)
            · replace hM := if_f c117 hM
              refine lv_aload_n hx hb dX5_separate_92 rfl (lv_at hl 3 rfl) ?_
              refine lv_iload hx hb dX5_separate_93 (lv_at hl 0 rfl) ?_
              refine lv_aload_n hx hb dX5_separate_95 rfl (lv_at hl 3 rfl) ?_
              refine va_get (D := D) (ci := 5) (v := .ref (ad 14)) (C := RX5) (T := TX5) (N := 3) hx hb hts layX5 hown hK hP 0 rfl rfl 0 (by decide) (hts _ (inA q442)) (fun _ h9 => h9) rfl dX5_separate_96 ?_
              refine lv_iload_n hx hb dX5_separate_99 rfl (lv_at hl 4 rfl) ?_
              obtain ⟨r118, hcr118, hM⟩ := ob_use hM
              refine cl_V (As := [.int a1]) (rest := [.int r3, .ref (ad 23)]) (wW ad ++ wT cI ad o_tree ++ wN cI ad o_names ++ wB cI (ad 3) (ad 4) 16384 r96) (.int r118 :: [.int r3, .ref (ad 23)]) ⟨hx, hb, hml, hown, hts⟩ (c_Tree_kind l D cI sd ad o_tree a1 r118 hcr118) (cwV2 hts q870 mvX3_kind rfl rfl ⟨(Nat.le_of_ble_eq_true rfl), (Nat.le_of_ble_eq_true rfl)⟩) hK hE hA hP hD hS 1 (T := TX3) (N := 8) (ci := 3) rfl rfl [1, 2, 3, 4, 5, 6, 7, 8] rfl (by decide) rfl rfl rfl rfl rfl rfl hl.1 (Nat.le_of_ble_eq_true rfl) dX5_separate_100 ⟨Nat.zero_le _, Nat.zero_le _⟩ (fun H locs hP hD hS => ?_)
              refine lv_iload_n hx hb dX5_separate_103 rfl (lv_at hl 2 rfl) ?_
              obtain ⟨r119, hcr119, hM⟩ := ob_use hM
              refine cl_S (As := [.int r3, .int r118, .int r1]) (rest := [.ref (ad 23)]) (wW ad ++ wT cI ad o_tree ++ wN cI ad o_names ++ wB cI (ad 3) (ad 4) 16384 r96) (.int r119 :: [.ref (ad 23)]) ⟨hx, hb, hml, hown, hts⟩ (c_Writer_separator l D cI sd ad r3 r118 r1 r119 hcr119) (cwS2 hts q913 mvX5_separator rfl rfl ⟨(Nat.le_of_ble_eq_true rfl), (Nat.le_of_ble_eq_true rfl)⟩) hK hE hA hP hD hS [] rfl (by decide) rfl rfl rfl rfl rfl rfl hl.1 (Nat.le_of_ble_eq_true rfl) dX5_separate_104 ⟨Nat.zero_le _, Nat.zero_le _⟩ (fun H locs hP hD hS => ?_)
              obtain ⟨r120, hcr120, hM⟩ := ob_use hM
              refine cl_V (As := [.int r119]) (rest := []) (wW ad ++ wT cI ad o_tree ++ wN cI ad o_names ++ wB cI (ad 3) (ad 4) 16384 r120) [] ⟨hx, hb, hml, hown, hts⟩ (c_Writer_token l D cI sd ad o_names r96 r119 r120 hcr120) (cwV2 hts q872 mvX5_token rfl rfl ⟨(Nat.le_of_ble_eq_true rfl), (Nat.le_of_ble_eq_true rfl)⟩) hK hE hA hP hD hS 0 (T := TX5) (N := 3) (ci := 5) rfl rfl [0, 9, 10, 11, 12, 13, 14, 15] rfl (by decide) rfl rfl rfl rfl rfl rfl hl.1 (Nat.le_of_ble_eq_true rfl) dX5_separate_107 ⟨Nat.zero_le _, Nat.zero_le _⟩ (fun H locs hP hD hS => ?_)
              cases hM
              exact rt_v hx hb hr hlk hP hD hS rfl dX5_separate_110
            · replace hM := if_t c117 hM
              refine lv_aload_n hx hb dX5_separate_77 rfl (lv_at hl 3 rfl) ?_
              refine lv_aload_n hx hb dX5_separate_78 rfl (lv_at hl 3 rfl) ?_
              refine va_get (D := D) (ci := 5) (v := .ref (ad 14)) (C := RX5) (T := TX5) (N := 3) hx hb hts layX5 hown hK hP 0 rfl rfl 0 (by decide) (hts _ (inA q442)) (fun _ h9 => h9) rfl dX5_separate_79 ?_
              refine lv_iload_n hx hb dX5_separate_82 rfl (lv_at hl 1 rfl) ?_
              obtain ⟨r121, hcr121, hM⟩ := ob_use hM
              refine cl_V (As := [.int r2]) (rest := [.ref (ad 23)]) (wW ad ++ wT cI ad o_tree ++ wN cI ad o_names ++ wB cI (ad 3) (ad 4) 16384 r96) (.int r121 :: [.ref (ad 23)]) ⟨hx, hb, hml, hown, hts⟩ (c_Tree_value l D cI sd ad o_tree r2 r121 hcr121) (cwV2 hts q892 mvX3_value rfl rfl ⟨(Nat.le_of_ble_eq_true rfl), (Nat.le_of_ble_eq_true rfl)⟩) hK hE hA hP hD hS 1 (T := TX3) (N := 8) (ci := 3) rfl rfl [1, 2, 3, 4, 5, 6, 7, 8] rfl (by decide) rfl rfl rfl rfl rfl rfl hl.1 (Nat.le_of_ble_eq_true rfl) dX5_separate_83 ⟨Nat.zero_le _, Nat.zero_le _⟩ (fun H locs hP hD hS => ?_)
              obtain ⟨r122, hcr122, hM⟩ := ob_use hM
              refine cl_S (As := [.int r121]) (rest := [.ref (ad 23)]) (wW ad ++ wT cI ad o_tree ++ wN cI ad o_names ++ wB cI (ad 3) (ad 4) 16384 r96) (.int r122 :: [.ref (ad 23)]) ⟨hx, hb, hml, hown, hts⟩ (c_Sign_between l D cI sd ad r121 r122 hcr122) (cwS2 hts q908 mvX7_between rfl rfl ⟨(Nat.le_of_ble_eq_true rfl), (Nat.le_of_ble_eq_true rfl)⟩) hK hE hA hP hD hS [] rfl (by decide) rfl rfl rfl rfl rfl rfl hl.1 (Nat.le_of_ble_eq_true rfl) dX5_separate_86 ⟨Nat.zero_le _, Nat.zero_le _⟩ (fun H locs hP hD hS => ?_)
              obtain ⟨r123, hcr123, hM⟩ := ob_use hM
              refine cl_V (As := [.int r122]) (rest := []) (wW ad ++ wT cI ad o_tree ++ wN cI ad o_names ++ wB cI (ad 3) (ad 4) 16384 r123) [] ⟨hx, hb, hml, hown, hts⟩ (c_Writer_token l D cI sd ad o_names r96 r122 r123 hcr123) (cwV2 hts q872 mvX5_token rfl rfl ⟨(Nat.le_of_ble_eq_true rfl), (Nat.le_of_ble_eq_true rfl)⟩) hK hE hA hP hD hS 0 (T := TX5) (N := 3) (ci := 5) rfl rfl [0, 9, 10, 11, 12, 13, 14, 15] rfl (by decide) rfl rfl rfl rfl rfl rfl hl.1 (Nat.le_of_ble_eq_true rfl) dX5_separate_89 ⟨Nat.zero_le _, Nat.zero_le _⟩ (fun H locs hP hD hS => ?_)
              refine lv_aload_n hx hb dX5_separate_92 rfl (lv_at hl 3 rfl) ?_
              refine lv_iload hx hb dX5_separate_93 (lv_at hl 0 rfl) ?_
              refine lv_aload_n hx hb dX5_separate_95 rfl (lv_at hl 3 rfl) ?_
              refine va_get (D := D) (ci := 5) (v := .ref (ad 14)) (C := RX5) (T := TX5) (N := 3) hx hb hts layX5 hown hK hP 0 rfl rfl 0 (by decide) (hts _ (inA q442)) (fun _ h9 => h9) rfl dX5_separate_96 ?_
              refine lv_iload_n hx hb dX5_separate_99 rfl (lv_at hl 4 rfl) ?_
              obtain ⟨r124, hcr124, hM⟩ := ob_use hM
              refine cl_V (As := [.int a1]) (rest := [.int r3, .ref (ad 23)]) (wW ad ++ wT cI ad o_tree ++ wN cI ad o_names ++ wB cI (ad 3) (ad 4) 16384 r123) (.int r124 :: [.int r3, .ref (ad 23)]) ⟨hx, hb, hml, hown, hts⟩ (c_Tree_kind l D cI sd ad o_tree a1 r124 hcr124) (cwV2 hts q870 mvX3_kind rfl rfl ⟨(Nat.le_of_ble_eq_true rfl), (Nat.le_of_ble_eq_true rfl)⟩) hK hE hA hP hD hS 1 (T := TX3) (N := 8) (ci := 3) rfl rfl [1, 2, 3, 4, 5, 6, 7, 8] rfl (by decide) rfl rfl rfl rfl rfl rfl hl.1 (Nat.le_of_ble_eq_true rfl) dX5_separate_100 ⟨Nat.zero_le _, Nat.zero_le _⟩ (fun H locs hP hD hS => ?_)
              refine lv_iload_n hx hb dX5_separate_103 rfl (lv_at hl 2 rfl) ?_
              obtain ⟨r125, hcr125, hM⟩ := ob_use hM
              refine cl_S (As := [.int r3, .int r124, .int r1]) (rest := [.ref (ad 23)]) (wW ad ++ wT cI ad o_tree ++ wN cI ad o_names ++ wB cI (ad 3) (ad 4) 16384 r123) (.int r125 :: [.ref (ad 23)]) ⟨hx, hb, hml, hown, hts⟩ (c_Writer_separator l D cI sd ad r3 r124 r1 r125 hcr125) (cwS2 hts q913 mvX5_separator rfl rfl ⟨(Nat.le_of_ble_eq_true rfl), (Nat.le_of_ble_eq_true rfl)⟩) hK hE hA hP hD hS [] rfl (by decide) rfl rfl rfl rfl rfl rfl hl.1 (Nat.le_of_ble_eq_true rfl) dX5_separate_104 ⟨Nat.zero_le _, Nat.zero_le _⟩ (fun H locs hP hD hS => ?_)
              obtain ⟨r126, hcr126, hM⟩ := ob_use hM
              refine cl_V (As := [.int r125]) (rest := []) (wW ad ++ wT cI ad o_tree ++ wN cI ad o_names ++ wB cI (ad 3) (ad 4) 16384 r126) [] ⟨hx, hb, hml, hown, hts⟩ (c_Writer_token l D cI sd ad o_names r123 r125 r126 hcr126) (cwV2 hts q872 mvX5_token rfl rfl ⟨(Nat.le_of_ble_eq_true rfl), (Nat.le_of_ble_eq_true rfl)⟩) hK hE hA hP hD hS 0 (T := TX5) (N := 3) (ci := 5) rfl rfl [0, 9, 10, 11, 12, 13, 14, 15] rfl (by decide) rfl rfl rfl rfl rfl rfl hl.1 (Nat.le_of_ble_eq_true rfl) dX5_separate_107 ⟨Nat.zero_le _, Nat.zero_le _⟩ (fun H locs hP hD hS => ?_)
              cases hM
              exact rt_v hx hb hr hlk hP hD hS rfl dX5_separate_110
        · replace hM := if_t c112 hM
          refine lv_aload_n hx hb dX5_separate_58 rfl (lv_at hl 3 rfl) ?_
          refine lv_sipush (v := 271) hx hb dX5_separate_59 (by decide) ?_
          obtain ⟨r127, hcr127, hM⟩ := ob_use hM
          refine cl_V (As := [.int 271]) (rest := []) (wW ad ++ wT cI ad o_tree ++ wN cI ad o_names ++ wB cI (ad 3) (ad 4) 16384 r127) [] ⟨hx, hb, hml, hown, hts⟩ (c_Writer_token l D cI sd ad o_names r96 271 r127 hcr127) (cwV2 hts q872 mvX5_token rfl rfl ⟨(Nat.le_of_ble_eq_true rfl), (Nat.le_of_ble_eq_true rfl)⟩) hK hE hA hP hD hS 0 (T := TX5) (N := 3) (ci := 5) rfl rfl [0, 9, 10, 11, 12, 13, 14, 15] rfl (by decide) rfl rfl rfl rfl rfl rfl hl.1 (Nat.le_of_ble_eq_true rfl) dX5_separate_62 ⟨Nat.zero_le _, Nat.zero_le _⟩ (fun H locs hP hD hS => ?_)
          refine lv_iload hx hb dX5_separate_65 (lv_at hl 0 rfl) ?_
          refine lv_bipush (v := 35) hx hb dX5_separate_67 (by decide) ?_
          refine lv_icmp_ne (tgt := 92) hx hb dX5_separate_69 (by decide) (fun c128 => ?_) (fun c128 => ?_)
          · replace hM := if_f c128 hM
            refine lv_aload_n hx hb dX5_separate_92 rfl (lv_at hl 3 rfl) ?_
            refine lv_iload hx hb dX5_separate_93 (lv_at hl 0 rfl) ?_
            refine lv_aload_n hx hb dX5_separate_95 rfl (lv_at hl 3 rfl) ?_
            refine va_get (D := D) (ci := 5) (v := .ref (ad 14)) (C := RX5) (T := TX5) (N := 3) hx hb hts layX5 hown hK hP 0 rfl rfl 0 (by decide) (hts _ (inA q442)) (fun _ h9 => h9) rfl dX5_separate_96 ?_
            refine lv_iload_n hx hb dX5_separate_99 rfl (lv_at hl 4 rfl) ?_
            obtain ⟨r129, hcr129, hM⟩ := ob_use hM
            refine cl_V (As := [.int a1]) (rest := [.int r3, .ref (ad 23)]) (wW ad ++ wT cI ad o_tree ++ wN cI ad o_names ++ wB cI (ad 3) (ad 4) 16384 r127) (.int r129 :: [.int r3, .ref (ad 23)]) ⟨hx, hb, hml, hown, hts⟩ (c_Tree_kind l D cI sd ad o_tree a1 r129 hcr129) (cwV2 hts q870 mvX3_kind rfl rfl ⟨(Nat.le_of_ble_eq_true rfl), (Nat.le_of_ble_eq_true rfl)⟩) hK hE hA hP hD hS 1 (T := TX3) (N := 8) (ci := 3) rfl rfl [1, 2, 3, 4, 5, 6, 7, 8] rfl (by decide) rfl rfl rfl rfl rfl rfl hl.1 (Nat.le_of_ble_eq_true rfl) dX5_separate_100 ⟨Nat.zero_le _, Nat.zero_le _⟩ (fun H locs hP hD hS => ?_)
            refine lv_iload_n hx hb dX5_separate_103 rfl (lv_at hl 2 rfl) ?_
            obtain ⟨r130, hcr130, hM⟩ := ob_use hM
            refine cl_S (As := [.int r3, .int r129, .int r1]) (rest := [.ref (ad 23)]) (wW ad ++ wT cI ad o_tree ++ wN cI ad o_names ++ wB cI (ad 3) (ad 4) 16384 r127) (.int r130 :: [.ref (ad 23)]) ⟨hx, hb, hml, hown, hts⟩ (c_Writer_separator l D cI sd ad r3 r129 r1 r130 hcr130) (cwS2 hts q913 mvX5_separator rfl rfl ⟨(Nat.le_of_ble_eq_true rfl), (Nat.le_of_ble_eq_true rfl)⟩) hK hE hA hP hD hS [] rfl (by decide) rfl rfl rfl rfl rfl rfl hl.1 (Nat.le_of_ble_eq_true rfl) dX5_separate_104 ⟨Nat.zero_le _, Nat.zero_le _⟩ (fun H locs hP hD hS => ?_)
            obtain ⟨r131, hcr131, hM⟩ := ob_use hM
            refine cl_V (As := [.int r130]) (rest := []) (wW ad ++ wT cI ad o_tree ++ wN cI ad o_names ++ wB cI (ad 3) (ad 4) 16384 r131) [] ⟨hx, hb, hml, hown, hts⟩ (c_Writer_token l D cI sd ad o_names r127 r130 r131 hcr131) (cwV2 hts q872 mvX5_token rfl rfl ⟨(Nat.le_of_ble_eq_true rfl), (Nat.le_of_ble_eq_true rfl)⟩) hK hE hA hP hD hS 0 (T := TX5) (N := 3) (ci := 5) rfl rfl [0, 9, 10, 11, 12, 13, 14, 15] rfl (by decide) rfl rfl rfl rfl rfl rfl hl.1 (Nat.le_of_ble_eq_true rfl) dX5_separate_107 ⟨Nat.zero_le _, Nat.zero_le _⟩ (fun H locs hP hD hS => ?_)
            cases hM
            exact rt_v hx hb hr hlk hP hD hS rfl dX5_separate_110
          · replace hM := if_t c128 hM
            refine lv_iload_n hx hb dX5_separate_72 rfl (lv_at hl 2 rfl) ?_
            refine lv_iconst (v := 1) hx hb dX5_separate_73 (by decide) ?_
            refine lv_icmp_ne (tgt := 92) hx hb dX5_separate_74 (by decide) (fun c132 => ?_) (fun c132 => ?_)
            · replace hM := if_f c132 hM
              refine lv_aload_n hx hb dX5_separate_92 rfl (lv_at hl 3 rfl) ?_
              refine lv_iload hx hb dX5_separate_93 (lv_at hl 0 rfl) ?_
              refine lv_aload_n hx hb dX5_separate_95 rfl (lv_at hl 3 rfl) ?_
              refine va_get (D := D) (ci := 5) (v := .ref (ad 14)) (C := RX5) (T := TX5) (N := 3) hx hb hts layX5 hown hK hP 0 rfl rfl 0 (by decide) (hts _ (inA q442)) (fun _ h9 => h9) rfl dX5_separate_96 ?_
              refine lv_iload_n hx hb dX5_separate_99 rfl (lv_at hl 4 rfl) ?_
              obtain ⟨r133, hcr133, hM⟩ := ob_use hM
              refine cl_V (As := [.int a1]) (rest := [.int r3, .ref (ad 23)]) (wW ad ++ wT cI ad o_tree ++ wN cI ad o_names ++ wB cI (ad 3) (ad 4) 16384 r127) (.int r133 :: [.int r3, .ref (ad 23)]) ⟨hx, hb, hml, hown, hts⟩ (c_Tree_kind l D cI sd ad o_tree a1 r133 hcr133) (cwV2 hts q870 mvX3_kind rfl rfl ⟨(Nat.le_of_ble_eq_true rfl), (Nat.le_of_ble_eq_true rfl)⟩) hK hE hA hP hD hS 1 (T := TX3) (N := 8) (ci := 3) rfl rfl [1, 2, 3, 4, 5, 6, 7, 8] rfl (by decide) rfl rfl rfl rfl rfl rfl hl.1 (Nat.le_of_ble_eq_true rfl) dX5_separate_100 ⟨Nat.zero_le _, Nat.zero_le _⟩ (fun H locs hP hD hS => ?_)
              refine lv_iload_n hx hb dX5_separate_103 rfl (lv_at hl 2 rfl) ?_
              obtain ⟨r134, hcr134, hM⟩ := ob_use hM
              refine cl_S (As := [.int r3, .int r133, .int r1]) (rest := [.ref (ad 23)]) (wW ad ++ wT cI ad o_tree ++ wN cI ad o_names ++ wB cI (ad 3) (ad 4) 16384 r127) (.int r134 :: [.ref (ad 23)]) ⟨hx, hb, hml, hown, hts⟩ (c_Writer_separator l D cI sd ad r3 r133 r1 r134 hcr134) (cwS2 hts q913 mvX5_separator rfl rfl ⟨(Nat.le_of_ble_eq_true rfl), (Nat.le_of_ble_eq_true rfl)⟩) hK hE hA hP hD hS [] rfl (by decide) rfl rfl rfl rfl rfl rfl hl.1 (Nat.le_of_ble_eq_true rfl) dX5_separate_104 ⟨Nat.zero_le _, Nat.zero_le _⟩ (fun H locs hP hD hS => ?_)
              obtain ⟨r135, hcr135, hM⟩ := ob_use hM
              refine cl_V (As := [.int r134]) (rest := []) (wW ad ++ wT cI ad o_tree ++ wN cI ad o_names ++ wB cI (ad 3) (ad 4) 16384 r135) [] ⟨hx, hb, hml, hown, hts⟩ (c_Writer_token l D cI sd ad o_names r127 r134 r135 hcr135) (cwV2 hts q872 mvX5_token rfl rfl ⟨(Nat.le_of_ble_eq_true rfl), (Nat.le_of_ble_eq_true rfl)⟩) hK hE hA hP hD hS 0 (T := TX5) (N := 3) (ci := 5) rfl rfl [0, 9, 10, 11, 12, 13, 14, 15] rfl (by decide) rfl rfl rfl rfl rfl rfl hl.1 (Nat.le_of_ble_eq_true rfl) dX5_separate_107 ⟨Nat.zero_le _, Nat.zero_le _⟩ (fun H locs hP hD hS => ?_)
              cases hM
              exact rt_v hx hb hr hlk hP hD hS rfl dX5_separate_110
            · replace hM := if_t c132 hM
              refine lv_aload_n hx hb dX5_separate_77 rfl (lv_at hl 3 rfl) ?_
              refine lv_aload_n hx hb dX5_separate_78 rfl (lv_at hl 3 rfl) ?_
              refine va_get (D := D) (ci := 5) (v := .ref (ad 14)) (C := RX5) (T := TX5) (N := 3) hx hb hts layX5 hown hK hP 0 rfl rfl 0 (by decide) (hts _ (inA q442)) (fun _ h9 => h9) rfl dX5_separate_79 ?_
              refine lv_iload_n hx hb dX5_separate_82 rfl (lv_at hl 1 rfl) ?_
              obtain ⟨r136, hcr136, hM⟩ := ob_use hM
              refine cl_V (As := [.int r2]) (rest := [.ref (ad 23)]) (wW ad ++ wT cI ad o_tree ++ wN cI ad o_names ++ wB cI (ad 3) (ad 4) 16384 r127) (.int r136 :: [.ref (ad 23)]) ⟨hx, hb, hml, hown, hts⟩ (c_Tree_value l D cI sd ad o_tree r2 r136 hcr136) (cwV2 hts q892 mvX3_value rfl rfl ⟨(Nat.le_of_ble_eq_true rfl), (Nat.le_of_ble_eq_true rfl)⟩) hK hE hA hP hD hS 1 (T := TX3) (N := 8) (ci := 3) rfl rfl [1, 2, 3, 4, 5, 6, 7, 8] rfl (by decide) rfl rfl rfl rfl rfl rfl hl.1 (Nat.le_of_ble_eq_true rfl) dX5_separate_83 ⟨Nat.zero_le _, Nat.zero_le _⟩ (fun H locs hP hD hS => ?_)
              obtain ⟨r137, hcr137, hM⟩ := ob_use hM
              refine cl_S (As := [.int r136]) (rest := [.ref (ad 23)]) (wW ad ++ wT cI ad o_tree ++ wN cI ad o_names ++ wB cI (ad 3) (ad 4) 16384 r127) (.int r137 :: [.ref (ad 23)]) ⟨hx, hb, hml, hown, hts⟩ (c_Sign_between l D cI sd ad r136 r137 hcr137) (cwS2 hts q908 mvX7_between rfl rfl ⟨(Nat.le_of_ble_eq_true rfl), (Nat.le_of_ble_eq_true rfl)⟩) hK hE hA hP hD hS [] rfl (by decide) rfl rfl rfl rfl rfl rfl hl.1 (Nat.le_of_ble_eq_true rfl) dX5_separate_86 ⟨Nat.zero_le _, Nat.zero_le _⟩ (fun H locs hP hD hS => ?_)
              obtain ⟨r138, hcr138, hM⟩ := ob_use hM
              refine cl_V (As := [.int r137]) (rest := []) (wW ad ++ wT cI ad o_tree ++ wN cI ad o_names ++ wB cI (ad 3) (ad 4) 16384 r138) [] ⟨hx, hb, hml, hown, hts⟩ (c_Writer_token l D cI sd ad o_names r127 r137 r138 hcr138) (cwV2 hts q872 mvX5_token rfl rfl ⟨(Nat.le_of_ble_eq_true rfl), (Nat.le_of_ble_eq_true rfl)⟩) hK hE hA hP hD hS 0 (T := TX5) (N := 3) (ci := 5) rfl rfl [0, 9, 10, 11, 12, 13, 14, 15] rfl (by decide) rfl rfl rfl rfl rfl rfl hl.1 (Nat.le_of_ble_eq_true rfl) dX5_separate_89 ⟨Nat.zero_le _, Nat.zero_le _⟩ (fun H locs hP hD hS => ?_)
              refine lv_aload_n hx hb dX5_separate_92 rfl (lv_at hl 3 rfl) ?_
              refine lv_iload hx hb dX5_separate_93 (lv_at hl 0 rfl) ?_
              refine lv_aload_n hx hb dX5_separate_95 rfl (lv_at hl 3 rfl) ?_
              refine va_get (D := D) (ci := 5) (v := .ref (ad 14)) (C := RX5) (T := TX5) (N := 3) hx hb hts layX5 hown hK hP 0 rfl rfl 0 (by decide) (hts _ (inA q442)) (fun _ h9 => h9) rfl dX5_separate_96 ?_
              refine lv_iload_n hx hb dX5_separate_99 rfl (lv_at hl 4 rfl) ?_
              obtain ⟨r139, hcr139, hM⟩ := ob_use hM
              refine cl_V (As := [.int a1]) (rest := [.int r3, .ref (ad 23)]) (wW ad ++ wT cI ad o_tree ++ wN cI ad o_names ++ wB cI (ad 3) (ad 4) 16384 r138) (.int r139 :: [.int r3, .ref (ad 23)]) ⟨hx, hb, hml, hown, hts⟩ (c_Tree_kind l D cI sd ad o_tree a1 r139 hcr139) (cwV2 hts q870 mvX3_kind rfl rfl ⟨(Nat.le_of_ble_eq_true rfl), (Nat.le_of_ble_eq_true rfl)⟩) hK hE hA hP hD hS 1 (T := TX3) (N := 8) (ci := 3) rfl rfl [1, 2, 3, 4, 5, 6, 7, 8] rfl (by decide) rfl rfl rfl rfl rfl rfl hl.1 (Nat.le_of_ble_eq_true rfl) dX5_separate_100 ⟨Nat.zero_le _, Nat.zero_le _⟩ (fun H locs hP hD hS => ?_)
              refine lv_iload_n hx hb dX5_separate_103 rfl (lv_at hl 2 rfl) ?_
              obtain ⟨r140, hcr140, hM⟩ := ob_use hM
              refine cl_S (As := [.int r3, .int r139, .int r1]) (rest := [.ref (ad 23)]) (wW ad ++ wT cI ad o_tree ++ wN cI ad o_names ++ wB cI (ad 3) (ad 4) 16384 r138) (.int r140 :: [.ref (ad 23)]) ⟨hx, hb, hml, hown, hts⟩ (c_Writer_separator l D cI sd ad r3 r139 r1 r140 hcr140) (cwS2 hts q913 mvX5_separator rfl rfl ⟨(Nat.le_of_ble_eq_true rfl), (Nat.le_of_ble_eq_true rfl)⟩) hK hE hA hP hD hS [] rfl (by decide) rfl rfl rfl rfl rfl rfl hl.1 (Nat.le_of_ble_eq_true rfl) dX5_separate_104 ⟨Nat.zero_le _, Nat.zero_le _⟩ (fun H locs hP hD hS => ?_)
              obtain ⟨r141, hcr141, hM⟩ := ob_use hM
              refine cl_V (As := [.int r140]) (rest := []) (wW ad ++ wT cI ad o_tree ++ wN cI ad o_names ++ wB cI (ad 3) (ad 4) 16384 r141) [] ⟨hx, hb, hml, hown, hts⟩ (c_Writer_token l D cI sd ad o_names r138 r140 r141 hcr141) (cwV2 hts q872 mvX5_token rfl rfl ⟨(Nat.le_of_ble_eq_true rfl), (Nat.le_of_ble_eq_true rfl)⟩) hK hE hA hP hD hS 0 (T := TX5) (N := 3) (ci := 5) rfl rfl [0, 9, 10, 11, 12, 13, 14, 15] rfl (by decide) rfl rfl rfl rfl rfl rfl hl.1 (Nat.le_of_ble_eq_true rfl) dX5_separate_107 ⟨Nat.zero_le _, Nat.zero_le _⟩ (fun H locs hP hD hS => ?_)
              cases hM
              exact rt_v hx hb hr hlk hP hD hS rfl dX5_separate_110

set_option maxHeartbeats 4000000 in
set_option maxRecDepth 100000 in
theorem c_Writer_writeTree (l : Launch) (D : va_G) (cI : ClassId) (sd : Nat → Nat) (ad : Nat → Nat) (o_tree : S_Tree) (o_names : S_Names) (o_out : S_Bytes) (res : S_Bytes) (hM : f_Writer_writeTree o_tree o_names o_out = some res) : Ctr l D cI sd yX5_writeTree (wsM yX5_writeTree cX5_writeTree 3 (Option.none : Option Jvm.ClassFile.FieldType)) { frames := 6, cells := 0, slots := 0, locals := 131 } [.ref (ad 23)] (wW ad ++ wT cI ad o_tree ++ wN cI ad o_names ++ wB cI (ad 3) (ad 4) 16384 o_out) (wW ad ++ wT cI ad o_tree ++ wN cI ad o_names ++ wB cI (ad 3) (ad 4) 16384 res) none := by
  refine Ctr.of (cc := cX5_writeTree) (maxL := 3) (own := RX5) (by decide +kernel) rfl rfl (Nat.le_of_ble_eq_true rfl) ?_
  intro p e s m below meth c A ls hx hb hr hml hown hts hlk hK hE hA hP hD hS hl
  have hl : lv_has ls 3 [(0, .ref (ad 23))] := hl
  unfold f_Writer_writeTree at hM
  refine lv_aload_n hx hb dX5_writeTree_0 rfl (lv_at hl 0 rfl) ?_
  refine va_get (D := D) (ci := 5) (v := .ref (ad 3)) (C := RX5) (T := TX5) (N := 3) hx hb hts layX5 hown hK hP 0 rfl rfl 2 (by decide) (hts _ (inA q444)) (fun _ h9 => h9) rfl dX5_writeTree_1 ?_
  refine lv_iconst (v := 0) hx hb dX5_writeTree_4 (by decide) ?_
  obtain ⟨r1, hcr1, hM⟩ := ob_use hM
  refine cl_V (As := [.int 0]) (rest := []) (wW ad ++ wT cI ad o_tree ++ wN cI ad o_names ++ wB cI (ad 3) (ad 4) 16384 r1) [] ⟨hx, hb, hml, hown, hts⟩ (c_Bytes_cut l D cI sd (ad 3) (ad 4) 16384 o_out 0 r1 hcr1) (cwV2 hts q860 mvX0_cut rfl rfl ⟨(Nat.le_of_ble_eq_true rfl), (Nat.le_of_ble_eq_true rfl)⟩) hK hE hA hP hD hS 14 (T := TX0) (N := 2) (ci := 0) rfl rfl [14, 15] rfl (by decide) rfl rfl rfl rfl rfl rfl hl.1 (Nat.le_of_ble_eq_true rfl) dX5_writeTree_5 ⟨Nat.zero_le _, Nat.zero_le _⟩ (fun H locs hP hD hS => ?_)
  refine lv_iconst (v := (-1)) hx hb dX5_writeTree_8 (by decide) ?_
  refine lv_istore_n (lv' := [(1, .int (-1)), (0, .ref (ad 23))]) hx hb dX5_writeTree_9 rfl hl (by decide) rfl (fun ls hl => ?_)
  refine lv_iconst (v := 0) hx hb dX5_writeTree_10 (by decide) ?_
  refine lv_istore_n (lv' := [(2, .int 0), (1, .int (-1)), (0, .ref (ad 23))]) hx hb dX5_writeTree_11 rfl hl (by decide) rfl (fun ls hl => ?_)
  have lp_L12 : ∀ (o_tree_L12 : S_Tree) (o_names_L12 : S_Names) (n : Nat) (v2_L12 : Int32) (v1_L12 : Int32) (o_out_L12 : S_Bytes) (out_L12 : Int32 × S_Bytes) (H : Heap) (locs : List Loc) (ls : Array Slot), f_Writer_writeTree_L12 o_tree_L12 o_names_L12 n v2_L12 v1_L12 o_out_L12 = some out_L12 → va_P D vwCl (wW ad ++ wT cI ad o_tree_L12 ++ wN cI ad o_names_L12 ++ wB cI (ad 3) (ad 4) 16384 o_out_L12) H → va_D A (wW ad ++ wT cI ad o_tree_L12 ++ wN cI ad o_names_L12 ++ wB cI (ad 3) (ad 4) 16384 o_out_L12) → va_S A s.heap H locs → lv_has ls 3 [(2, .int v2_L12), (1, .int v1_L12), (0, .ref (ad 23))] → (∀ (H : Heap) (locs : List Loc) (ls : Array Slot), va_P D vwCl (wW ad ++ wT cI ad o_tree_L12 ++ wN cI ad o_names_L12 ++ wB cI (ad 3) (ad 4) 16384 out_L12.2) H → va_D A (wW ad ++ wT cI ad o_tree_L12 ++ wN cI ad o_names_L12 ++ wB cI (ad 3) (ad 4) 16384 out_L12.2) → va_S A s.heap H locs → lv_has ls 3 [(1, .int out_L12.1), (0, .ref (ad 23))] → W p l e { frames := 6, cells := 0, slots := 0, locals := 131 } s m [.ref (ad 23)].toArray below meth c H locs 0 0 (MQ below (CQ D A (wW ad ++ wT cI ad o_tree ++ wN cI ad o_names ++ wB cI (ad 3) (ad 4) 16384 res) none) [.ref (ad 23)].toArray s 0 0 A) (F0 m 54 ls [])) → W p l e { frames := 6, cells := 0, slots := 0, locals := 131 } s m [.ref (ad 23)].toArray below meth c H locs 0 0 (MQ below (CQ D A (wW ad ++ wT cI ad o_tree ++ wN cI ad o_names ++ wB cI (ad 3) (ad 4) 16384 res) none) [.ref (ad 23)].toArray s 0 0 A) (F0 m 12 ls []) := by
    intro o_tree_L12 o_names_L12 n
    induction n with
    | zero => intro v2_L12 v1_L12 o_out_L12 out_L12 H locs ls hM; exact absurd (show none = some _ from hM) (by simp)
    | succ n ih_L12 =>
      intro v2_L12 v1_L12 o_out_L12 out_L12 H locs ls hM hP hD hS hl kx_L12
      rw [f_Writer_writeTree_L12] at hM
      refine lv_iload_n hx hb dX5_writeTree_12 rfl (lv_at hl 0 rfl) ?_
      refine lv_aload_n hx hb dX5_writeTree_13 rfl (lv_at hl 2 rfl) ?_
      refine va_get (D := D) (ci := 5) (v := .ref (ad 14)) (C := RX5) (T := TX5) (N := 3) hx hb hts layX5 hown hK hP 0 rfl rfl 0 (by decide) (hts _ (inA q442)) (fun _ h9 => h9) rfl dX5_writeTree_14 ?_
      refine va_getN (D := D) (ci := 3) (v := .int o_tree_L12.1) (C := RX3) (T := TX3) (N := 8) hx hb hts layX3 hown hK hP 1 rfl rfl 7 (by decide) (nfE8 hE) (fun _ h9 => h9) rfl dX5_writeTree_17 ?_
      refine lv_icmp_ge (tgt := 54) hx hb dX5_writeTree_20 (by decide) (fun c1221 => ?_) (fun c1221 => ?_)
      · replace hM := if_t c1221 hM
        cases hM
        exact kx_L12 _ _ _ hP hD hS (lv_sub hl [1, 2] rfl)
      · replace hM := if_f c1221 hM
        refine lv_aload_n hx hb dX5_writeTree_23 rfl (lv_at hl 2 rfl) ?_
        refine lv_iload_n hx hb dX5_writeTree_24 rfl (lv_at hl 1 rfl) ?_
        refine lv_aload_n hx hb dX5_writeTree_25 rfl (lv_at hl 2 rfl) ?_
        refine va_get (D := D) (ci := 5) (v := .ref (ad 14)) (C := RX5) (T := TX5) (N := 3) hx hb hts layX5 hown hK hP 0 rfl rfl 0 (by decide) (hts _ (inA q442)) (fun _ h9 => h9) rfl dX5_writeTree_26 ?_
        refine lv_iload_n hx hb dX5_writeTree_29 rfl (lv_at hl 0 rfl) ?_
        obtain ⟨r1222, hcr1222, hM⟩ := ob_use hM
        refine cl_V (As := [.int v2_L12]) (rest := [.int v1_L12, .ref (ad 23)]) (wW ad ++ wT cI ad o_tree_L12 ++ wN cI ad o_names_L12 ++ wB cI (ad 3) (ad 4) 16384 o_out_L12) (.int r1222 :: [.int v1_L12, .ref (ad 23)]) ⟨hx, hb, hml, hown, hts⟩ (c_Tree_parent l D cI sd ad o_tree_L12 v2_L12 r1222 hcr1222) (cwV2 hts q861 mvX3_parent rfl rfl ⟨(Nat.le_of_ble_eq_true rfl), (Nat.le_of_ble_eq_true rfl)⟩) hK hE hA hP hD hS 1 (T := TX3) (N := 8) (ci := 3) rfl rfl [1, 2, 3, 4, 5, 6, 7, 8] rfl (by decide) rfl rfl rfl rfl rfl rfl hl.1 (Nat.le_of_ble_eq_true rfl) dX5_writeTree_30 ⟨Nat.zero_le _, Nat.zero_le _⟩ (fun H locs hP hD hS => ?_)
        obtain ⟨r1223, hcr1223, hM⟩ := ob_use hM
        refine cl_V (As := [.int v1_L12, .int r1222]) (rest := []) (wW ad ++ wT cI ad o_tree_L12 ++ wN cI ad o_names_L12 ++ wB cI (ad 3) (ad 4) 16384 r1223) [] ⟨hx, hb, hml, hown, hts⟩ (c_Writer_finishUpTo l D cI sd ad o_tree_L12 o_names_L12 o_out_L12 v1_L12 r1222 r1223 hcr1223) (cwV2 hts q862 mvX5_finishUpTo rfl rfl ⟨(Nat.le_of_ble_eq_true rfl), (Nat.le_of_ble_eq_true rfl)⟩) hK hE hA hP hD hS 0 (T := TX5) (N := 3) (ci := 5) rfl rfl [0, 1, 2, 3, 4, 5, 6, 7, 8, 9, 10, 11, 12, 13, 14, 15] rfl (by decide) rfl rfl rfl rfl rfl rfl hl.1 (Nat.le_of_ble_eq_true rfl) dX5_writeTree_33 ⟨Nat.zero_le _, Nat.zero_le _⟩ (fun H locs hP hD hS => ?_)
        refine lv_aload_n hx hb dX5_writeTree_36 rfl (lv_at hl 2 rfl) ?_
        refine lv_iload_n hx hb dX5_writeTree_37 rfl (lv_at hl 0 rfl) ?_
        obtain ⟨r1224, hcr1224, hM⟩ := ob_use hM
        refine cl_V (As := [.int v2_L12]) (rest := []) (wW ad ++ wT cI ad o_tree_L12 ++ wN cI ad o_names_L12 ++ wB cI (ad 3) (ad 4) 16384 r1224) [] ⟨hx, hb, hml, hown, hts⟩ (c_Writer_separate l D cI sd ad o_tree_L12 o_names_L12 r1223 v2_L12 r1224 hcr1224) (cwV2 hts q904 mvX5_separate rfl rfl ⟨(Nat.le_of_ble_eq_true rfl), (Nat.le_of_ble_eq_true rfl)⟩) hK hE hA hP hD hS 0 (T := TX5) (N := 3) (ci := 5) rfl rfl [0, 1, 2, 3, 4, 5, 6, 7, 8, 9, 10, 11, 12, 13, 14, 15] rfl (by decide) rfl rfl rfl rfl rfl rfl hl.1 (Nat.le_of_ble_eq_true rfl) dX5_writeTree_38 ⟨Nat.zero_le _, Nat.zero_le _⟩ (fun H locs hP hD hS => ?_)
        refine lv_aload_n hx hb dX5_writeTree_41 rfl (lv_at hl 2 rfl) ?_
        refine lv_iload_n hx hb dX5_writeTree_42 rfl (lv_at hl 0 rfl) ?_
        obtain ⟨r1225, hcr1225, hM⟩ := ob_use hM
        refine cl_V (As := [.int v2_L12]) (rest := []) (wW ad ++ wT cI ad o_tree_L12 ++ wN cI ad o_names_L12 ++ wB cI (ad 3) (ad 4) 16384 r1225) [] ⟨hx, hb, hml, hown, hts⟩ (c_Writer_begin l D cI sd ad o_tree_L12 o_names_L12 r1224 v2_L12 r1225 hcr1225) (cwV2 hts q928 mvX5_begin rfl rfl ⟨(Nat.le_of_ble_eq_true rfl), (Nat.le_of_ble_eq_true rfl)⟩) hK hE hA hP hD hS 0 (T := TX5) (N := 3) (ci := 5) rfl rfl [0, 1, 2, 3, 4, 5, 6, 7, 8, 9, 10, 11, 12, 13, 14, 15] rfl (by decide) rfl rfl rfl rfl rfl rfl hl.1 (Nat.le_of_ble_eq_true rfl) dX5_writeTree_43 ⟨Nat.zero_le _, Nat.zero_le _⟩ (fun H locs hP hD hS => ?_)
        refine lv_iload_n hx hb dX5_writeTree_46 rfl (lv_at hl 0 rfl) ?_
        refine lv_istore_n (lv' := [(1, .int v2_L12), (2, .int v2_L12), (0, .ref (ad 23))]) hx hb dX5_writeTree_47 rfl hl (by decide) rfl (fun ls hl => ?_)
        obtain ⟨x1226, ex1226⟩ : ∃ y : Int32, y = v2_L12 + 1 := ⟨_, rfl⟩
        replace hM := nm_use ex1226 hM
        refine lv_iinc (v := x1226) (lv' := [(2, .int x1226), (1, .int v2_L12), (0, .ref (ad 23))]) hx hb dX5_writeTree_48 hl (k := 1) rfl (by rw [ex1226]; rfl) (by decide) rfl (fun ls hl => ?_)
        refine lv_goto (tgt := 12) hx hb dX5_writeTree_51 (by decide) ?_
        exact ih_L12 x1226 v2_L12 r1225 out_L12 _ _ _ hM hP hD hS (lv_sub hl [0, 1, 2] rfl) kx_L12
  obtain ⟨r2, hcr2, hM⟩ := ob_use hM
  refine lp_L12 o_tree o_names FU 0 (-1) r1 r2 _ _ _ hcr2 hP hD hS (lv_sub hl [0, 1, 2] rfl) (fun H locs ls hP hD hS hl => ?_)
  refine lv_aload_n hx hb dX5_writeTree_54 rfl (lv_at hl 1 rfl) ?_
  refine lv_iload_n hx hb dX5_writeTree_55 rfl (lv_at hl 0 rfl) ?_
  refine lv_iconst (v := (-1)) hx hb dX5_writeTree_56 (by decide) ?_
  obtain ⟨r3, hcr3, hM⟩ := ob_use hM
  refine cl_V (As := [.int r2.1, .int (-1)]) (rest := []) (wW ad ++ wT cI ad o_tree ++ wN cI ad o_names ++ wB cI (ad 3) (ad 4) 16384 r3) [] ⟨hx, hb, hml, hown, hts⟩ (c_Writer_finishUpTo l D cI sd ad o_tree o_names r2.2 r2.1 (-1) r3 hcr3) (cwV2 hts q862 mvX5_finishUpTo rfl rfl ⟨(Nat.le_of_ble_eq_true rfl), (Nat.le_of_ble_eq_true rfl)⟩) hK hE hA hP hD hS 0 (T := TX5) (N := 3) (ci := 5) rfl rfl [0, 1, 2, 3, 4, 5, 6, 7, 8, 9, 10, 11, 12, 13, 14, 15] rfl (by decide) rfl rfl rfl rfl rfl rfl hl.1 (Nat.le_of_ble_eq_true rfl) dX5_writeTree_57 ⟨Nat.zero_le _, Nat.zero_le _⟩ (fun H locs hP hD hS => ?_)
  cases hM
  exact rt_v hx hb hr hlk hP hD hS rfl dX5_writeTree_60
