set_option maxHeartbeats 4000000 in
set_option maxRecDepth 100000 in
theorem c_Writer_bearsName (l : Launch) (D : va_G) (cI : ClassId) (sd : Nat → Nat) (ad : Nat → Nat) (a1 : Int32) (res : Int32) (hM : f_Writer_bearsName a1 = some res) : Ctr l D cI sd yX5_bearsName (wsM yX5_bearsName cX5_bearsName 1 (Option.some Jvm.ClassFile.FieldType.boolean)) { frames := 0, cells := 0, slots := 0, locals := 0 } [.int a1] (([] : va_W)) (([] : va_W)) (some (.int res)) := by
  refine Ctr.of (cc := cX5_bearsName) (maxL := 1) (own := RX5) (by decide +kernel) rfl rfl (Nat.le_of_ble_eq_true rfl) ?_
  intro p e s m below meth c A ls hx hb hr hml hown hts hlk hK hE hA hP hD hS hl
  have hl : lv_has ls 1 [(0, .int a1)] := hl
  unfold f_Writer_bearsName at hM
  refine lv_iload_n hx hb dX5_bearsName_0 rfl (lv_at hl 0 rfl) ?_
  by_cases c1 : a1 = 1
  · replace hM := if_t c1 hM
    refine lv_tableIn (tgt := 152) hx hb dX5_bearsName_1 (by rw [c1]; decide) (by rw [c1]; decide) (by rw [c1]; rfl) (by decide) ?_
    refine lv_iconst (v := 1) hx hb dX5_bearsName_152 (by decide) ?_
    cases hM
    exact rt_z hx hb hr hlk (by decide) hP hD hS rfl dX5_bearsName_153
  replace hM := if_f c1 hM
  by_cases c2 : a1 = 2
  · replace hM := if_t c2 hM
    refine lv_tableIn (tgt := 152) hx hb dX5_bearsName_1 (by rw [c2]; decide) (by rw [c2]; decide) (by rw [c2]; rfl) (by decide) ?_
    refine lv_iconst (v := 1) hx hb dX5_bearsName_152 (by decide) ?_
    cases hM
    exact rt_z hx hb hr hlk (by decide) hP hD hS rfl dX5_bearsName_153
  replace hM := if_f c2 hM
  by_cases c3 : a1 = 3
  · replace hM := if_t c3 hM
    refine lv_tableIn (tgt := 152) hx hb dX5_bearsName_1 (by rw [c3]; decide) (by rw [c3]; decide) (by rw [c3]; rfl) (by decide) ?_
    refine lv_iconst (v := 1) hx hb dX5_bearsName_152 (by decide) ?_
    cases hM
    exact rt_z hx hb hr hlk (by decide) hP hD hS rfl dX5_bearsName_153
  replace hM := if_f c3 hM
  by_cases c4 : a1 = 4
  · replace hM := if_t c4 hM
    refine lv_tableIn (tgt := 154) hx hb dX5_bearsName_1 (by rw [c4]; decide) (by rw [c4]; decide) (by rw [c4]; rfl) (by decide) ?_
    refine lv_iconst (v := 0) hx hb dX5_bearsName_154 (by decide) ?_
    cases hM
    exact rt_z hx hb hr hlk (by decide) hP hD hS rfl dX5_bearsName_155
  replace hM := if_f c4 hM
  by_cases c5 : a1 = 5
  · replace hM := if_t c5 hM
    refine lv_tableIn (tgt := 154) hx hb dX5_bearsName_1 (by rw [c5]; decide) (by rw [c5]; decide) (by rw [c5]; rfl) (by decide) ?_
    refine lv_iconst (v := 0) hx hb dX5_bearsName_154 (by decide) ?_
    cases hM
    exact rt_z hx hb hr hlk (by decide) hP hD hS rfl dX5_bearsName_155
  replace hM := if_f c5 hM
  by_cases c6 : a1 = 6
  · replace hM := if_t c6 hM
    refine lv_tableIn (tgt := 152) hx hb dX5_bearsName_1 (by rw [c6]; decide) (by rw [c6]; decide) (by rw [c6]; rfl) (by decide) ?_
    refine lv_iconst (v := 1) hx hb dX5_bearsName_152 (by decide) ?_
    cases hM
    exact rt_z hx hb hr hlk (by decide) hP hD hS rfl dX5_bearsName_153
  replace hM := if_f c6 hM
  by_cases c7 : a1 = 7
  · replace hM := if_t c7 hM
    refine lv_tableIn (tgt := 154) hx hb dX5_bearsName_1 (by rw [c7]; decide) (by rw [c7]; decide) (by rw [c7]; rfl) (by decide) ?_
    refine lv_iconst (v := 0) hx hb dX5_bearsName_154 (by decide) ?_
    cases hM
    exact rt_z hx hb hr hlk (by decide) hP hD hS rfl dX5_bearsName_155
  replace hM := if_f c7 hM
  by_cases c8 : a1 = 8
  · replace hM := if_t c8 hM
    refine lv_tableIn (tgt := 154) hx hb dX5_bearsName_1 (by rw [c8]; decide) (by rw [c8]; decide) (by rw [c8]; rfl) (by decide) ?_
    refine lv_iconst (v := 0) hx hb dX5_bearsName_154 (by decide) ?_
    cases hM
    exact rt_z hx hb hr hlk (by decide) hP hD hS rfl dX5_bearsName_155
  replace hM := if_f c8 hM
  by_cases c9 : a1 = 9
  · replace hM := if_t c9 hM
    refine lv_tableIn (tgt := 154) hx hb dX5_bearsName_1 (by rw [c9]; decide) (by rw [c9]; decide) (by rw [c9]; rfl) (by decide) ?_
    refine lv_iconst (v := 0) hx hb dX5_bearsName_154 (by decide) ?_
    cases hM
    exact rt_z hx hb hr hlk (by decide) hP hD hS rfl dX5_bearsName_155
  replace hM := if_f c9 hM
  by_cases c10 : a1 = 10
  · replace hM := if_t c10 hM
    refine lv_tableIn (tgt := 152) hx hb dX5_bearsName_1 (by rw [c10]; decide) (by rw [c10]; decide) (by rw [c10]; rfl) (by decide) ?_
    refine lv_iconst (v := 1) hx hb dX5_bearsName_152 (by decide) ?_
    cases hM
    exact rt_z hx hb hr hlk (by decide) hP hD hS rfl dX5_bearsName_153
  replace hM := if_f c10 hM
  by_cases c11 : a1 = 11
  · replace hM := if_t c11 hM
    refine lv_tableIn (tgt := 154) hx hb dX5_bearsName_1 (by rw [c11]; decide) (by rw [c11]; decide) (by rw [c11]; rfl) (by decide) ?_
    refine lv_iconst (v := 0) hx hb dX5_bearsName_154 (by decide) ?_
    cases hM
    exact rt_z hx hb hr hlk (by decide) hP hD hS rfl dX5_bearsName_155
  replace hM := if_f c11 hM
  by_cases c12 : a1 = 12
  · replace hM := if_t c12 hM
    refine lv_tableIn (tgt := 154) hx hb dX5_bearsName_1 (by rw [c12]; decide) (by rw [c12]; decide) (by rw [c12]; rfl) (by decide) ?_
    refine lv_iconst (v := 0) hx hb dX5_bearsName_154 (by decide) ?_
    cases hM
    exact rt_z hx hb hr hlk (by decide) hP hD hS rfl dX5_bearsName_155
  replace hM := if_f c12 hM
  by_cases c13 : a1 = 13
  · replace hM := if_t c13 hM
    refine lv_tableIn (tgt := 152) hx hb dX5_bearsName_1 (by rw [c13]; decide) (by rw [c13]; decide) (by rw [c13]; rfl) (by decide) ?_
    refine lv_iconst (v := 1) hx hb dX5_bearsName_152 (by decide) ?_
    cases hM
    exact rt_z hx hb hr hlk (by decide) hP hD hS rfl dX5_bearsName_153
  replace hM := if_f c13 hM
  by_cases c14 : a1 = 14
  · replace hM := if_t c14 hM
    refine lv_tableIn (tgt := 152) hx hb dX5_bearsName_1 (by rw [c14]; decide) (by rw [c14]; decide) (by rw [c14]; rfl) (by decide) ?_
    refine lv_iconst (v := 1) hx hb dX5_bearsName_152 (by decide) ?_
    cases hM
    exact rt_z hx hb hr hlk (by decide) hP hD hS rfl dX5_bearsName_153
  replace hM := if_f c14 hM
  by_cases c15 : a1 = 15
  · replace hM := if_t c15 hM
    refine lv_tableIn (tgt := 154) hx hb dX5_bearsName_1 (by rw [c15]; decide) (by rw [c15]; decide) (by rw [c15]; rfl) (by decide) ?_
    refine lv_iconst (v := 0) hx hb dX5_bearsName_154 (by decide) ?_
    cases hM
    exact rt_z hx hb hr hlk (by decide) hP hD hS rfl dX5_bearsName_155
  replace hM := if_f c15 hM
  by_cases c16 : a1 = 16
  · replace hM := if_t c16 hM
    refine lv_tableIn (tgt := 154) hx hb dX5_bearsName_1 (by rw [c16]; decide) (by rw [c16]; decide) (by rw [c16]; rfl) (by decide) ?_
    refine lv_iconst (v := 0) hx hb dX5_bearsName_154 (by decide) ?_
    cases hM
    exact rt_z hx hb hr hlk (by decide) hP hD hS rfl dX5_bearsName_155
  replace hM := if_f c16 hM
  by_cases c17 : a1 = 17
  · replace hM := if_t c17 hM
    refine lv_tableIn (tgt := 154) hx hb dX5_bearsName_1 (by rw [c17]; decide) (by rw [c17]; decide) (by rw [c17]; rfl) (by decide) ?_
    refine lv_iconst (v := 0) hx hb dX5_bearsName_154 (by decide) ?_
    cases hM
    exact rt_z hx hb hr hlk (by decide) hP hD hS rfl dX5_bearsName_155
  replace hM := if_f c17 hM
  by_cases c18 : a1 = 18
  · replace hM := if_t c18 hM
    refine lv_tableIn (tgt := 154) hx hb dX5_bearsName_1 (by rw [c18]; decide) (by rw [c18]; decide) (by rw [c18]; rfl) (by decide) ?_
    refine lv_iconst (v := 0) hx hb dX5_bearsName_154 (by decide) ?_
    cases hM
    exact rt_z hx hb hr hlk (by decide) hP hD hS rfl dX5_bearsName_155
  replace hM := if_f c18 hM
  by_cases c19 : a1 = 19
  · replace hM := if_t c19 hM
    refine lv_tableIn (tgt := 152) hx hb dX5_bearsName_1 (by rw [c19]; decide) (by rw [c19]; decide) (by rw [c19]; rfl) (by decide) ?_
    refine lv_iconst (v := 1) hx hb dX5_bearsName_152 (by decide) ?_
    cases hM
    exact rt_z hx hb hr hlk (by decide) hP hD hS rfl dX5_bearsName_153
  replace hM := if_f c19 hM
  by_cases c20 : a1 = 20
  · replace hM := if_t c20 hM
    refine lv_tableIn (tgt := 154) hx hb dX5_bearsName_1 (by rw [c20]; decide) (by rw [c20]; decide) (by rw [c20]; rfl) (by decide) ?_
    refine lv_iconst (v := 0) hx hb dX5_bearsName_154 (by decide) ?_
    cases hM
    exact rt_z hx hb hr hlk (by decide) hP hD hS rfl dX5_bearsName_155
  replace hM := if_f c20 hM
  by_cases c21 : a1 = 21
  · replace hM := if_t c21 hM
    refine lv_tableIn (tgt := 154) hx hb dX5_bearsName_1 (by rw [c21]; decide) (by rw [c21]; decide) (by rw [c21]; rfl) (by decide) ?_
    refine lv_iconst (v := 0) hx hb dX5_bearsName_154 (by decide) ?_
    cases hM
    exact rt_z hx hb hr hlk (by decide) hP hD hS rfl dX5_bearsName_155
  replace hM := if_f c21 hM
  by_cases c22 : a1 = 22
  · replace hM := if_t c22 hM
    refine lv_tableIn (tgt := 154) hx hb dX5_bearsName_1 (by rw [c22]; decide) (by rw [c22]; decide) (by rw [c22]; rfl) (by decide) ?_
    refine lv_iconst (v := 0) hx hb dX5_bearsName_154 (by decide) ?_
    cases hM
    exact rt_z hx hb hr hlk (by decide) hP hD hS rfl dX5_bearsName_155
  replace hM := if_f c22 hM
  by_cases c23 : a1 = 23
  · replace hM := if_t c23 hM
    refine lv_tableIn (tgt := 154) hx hb dX5_bearsName_1 (by rw [c23]; decide) (by rw [c23]; decide) (by rw [c23]; rfl) (by decide) ?_
    refine lv_iconst (v := 0) hx hb dX5_bearsName_154 (by decide) ?_
    cases hM
    exact rt_z hx hb hr hlk (by decide) hP hD hS rfl dX5_bearsName_155
  replace hM := if_f c23 hM
  by_cases c24 : a1 = 24
  · replace hM := if_t c24 hM
    refine lv_tableIn (tgt := 154) hx hb dX5_bearsName_1 (by rw [c24]; decide) (by rw [c24]; decide) (by rw [c24]; rfl) (by decide) ?_
    refine lv_iconst (v := 0) hx hb dX5_bearsName_154 (by decide) ?_
    cases hM
    exact rt_z hx hb hr hlk (by decide) hP hD hS rfl dX5_bearsName_155
  replace hM := if_f c24 hM
  by_cases c25 : a1 = 25
  · replace hM := if_t c25 hM
    refine lv_tableIn (tgt := 154) hx hb dX5_bearsName_1 (by rw [c25]; decide) (by rw [c25]; decide) (by rw [c25]; rfl) (by decide) ?_
    refine lv_iconst (v := 0) hx hb dX5_bearsName_154 (by decide) ?_
    cases hM
    exact rt_z hx hb hr hlk (by decide) hP hD hS rfl dX5_bearsName_155
  replace hM := if_f c25 hM
  by_cases c26 : a1 = 26
  · replace hM := if_t c26 hM
    refine lv_tableIn (tgt := 154) hx hb dX5_bearsName_1 (by rw [c26]; decide) (by rw [c26]; decide) (by rw [c26]; rfl) (by decide) ?_
    refine lv_iconst (v := 0) hx hb dX5_bearsName_154 (by decide) ?_
    cases hM
    exact rt_z hx hb hr hlk (by decide) hP hD hS rfl dX5_bearsName_155
  replace hM := if_f c26 hM
  by_cases c27 : a1 = 27
  · replace hM := if_t c27 hM
    refine lv_tableIn (tgt := 154) hx hb dX5_bearsName_1 (by rw [c27]; decide) (by rw [c27]; decide) (by rw [c27]; rfl) (by decide) ?_
    refine lv_iconst (v := 0) hx hb dX5_bearsName_154 (by decide) ?_
    cases hM
    exact rt_z hx hb hr hlk (by decide) hP hD hS rfl dX5_bearsName_155
  replace hM := if_f c27 hM
  by_cases c28 : a1 = 28
  · replace hM := if_t c28 hM
    refine lv_tableIn (tgt := 154) hx hb dX5_bearsName_1 (by rw [c28]; decide) (by rw [c28]; decide) (by rw [c28]; rfl) (by decide) ?_
    refine lv_iconst (v := 0) hx hb dX5_bearsName_154 (by decide) ?_
    cases hM
    exact rt_z hx hb hr hlk (by decide) hP hD hS rfl dX5_bearsName_155
  replace hM := if_f c28 hM
  by_cases c29 : a1 = 29
  · replace hM := if_t c29 hM
    refine lv_tableIn (tgt := 154) hx hb dX5_bearsName_1 (by rw [c29]; decide) (by rw [c29]; decide) (by rw [c29]; rfl) (by decide) ?_
    refine lv_iconst (v := 0) hx hb dX5_bearsName_154 (by decide) ?_
    cases hM
    exact rt_z hx hb hr hlk (by decide) hP hD hS rfl dX5_bearsName_155
  replace hM := if_f c29 hM
  by_cases c30 : a1 = 30
  · replace hM := if_t c30 hM
    refine lv_tableIn (tgt := 154) hx hb dX5_bearsName_1 (by rw [c30]; decide) (by rw [c30]; decide) (by rw [c30]; rfl) (by decide) ?_
    refine lv_iconst (v := 0) hx hb dX5_bearsName_154 (by decide) ?_
    cases hM
    exact rt_z hx hb hr hlk (by decide) hP hD hS rfl dX5_bearsName_155
  replace hM := if_f c30 hM
  by_cases c31 : a1 = 31
  · replace hM := if_t c31 hM
    refine lv_tableIn (tgt := 154) hx hb dX5_bearsName_1 (by rw [c31]; decide) (by rw [c31]; decide) (by rw [c31]; rfl) (by decide) ?_
    refine lv_iconst (v := 0) hx hb dX5_bearsName_154 (by decide) ?_
    cases hM
    exact rt_z hx hb hr hlk (by decide) hP hD hS rfl dX5_bearsName_155
  replace hM := if_f c31 hM
  by_cases c32 : a1 = 32
  · replace hM := if_t c32 hM
    refine lv_tableIn (tgt := 152) hx hb dX5_bearsName_1 (by rw [c32]; decide) (by rw [c32]; decide) (by rw [c32]; rfl) (by decide) ?_
    refine lv_iconst (v := 1) hx hb dX5_bearsName_152 (by decide) ?_
    cases hM
    exact rt_z hx hb hr hlk (by decide) hP hD hS rfl dX5_bearsName_153
  replace hM := if_f c32 hM
  by_cases c33 : a1 = 33
  · replace hM := if_t c33 hM
    refine lv_tableIn (tgt := 152) hx hb dX5_bearsName_1 (by rw [c33]; decide) (by rw [c33]; decide) (by rw [c33]; rfl) (by decide) ?_
    refine lv_iconst (v := 1) hx hb dX5_bearsName_152 (by decide) ?_
    cases hM
    exact rt_z hx hb hr hlk (by decide) hP hD hS rfl dX5_bearsName_153
  replace hM := if_f c33 hM
  by_cases c34 : a1 = 34
  · replace hM := if_t c34 hM
    refine lv_tableIn (tgt := 152) hx hb dX5_bearsName_1 (by rw [c34]; decide) (by rw [c34]; decide) (by rw [c34]; rfl) (by decide) ?_
    refine lv_iconst (v := 1) hx hb dX5_bearsName_152 (by decide) ?_
    cases hM
    exact rt_z hx hb hr hlk (by decide) hP hD hS rfl dX5_bearsName_153
  replace hM := if_f c34 hM
  refine lv_tableOut (tgt := 154) hx hb dX5_bearsName_1 (by have := lv_neT c1 (show (1 : Int32).toInt = 1 by decide); have := lv_neT c2 (show (2 : Int32).toInt = 2 by decide); have := lv_neT c3 (show (3 : Int32).toInt = 3 by decide); have := lv_neT c4 (show (4 : Int32).toInt = 4 by decide); have := lv_neT c5 (show (5 : Int32).toInt = 5 by decide); have := lv_neT c6 (show (6 : Int32).toInt = 6 by decide); have := lv_neT c7 (show (7 : Int32).toInt = 7 by decide); have := lv_neT c8 (show (8 : Int32).toInt = 8 by decide); have := lv_neT c9 (show (9 : Int32).toInt = 9 by decide); have := lv_neT c10 (show (10 : Int32).toInt = 10 by decide); have := lv_neT c11 (show (11 : Int32).toInt = 11 by decide); have := lv_neT c12 (show (12 : Int32).toInt = 12 by decide); have := lv_neT c13 (show (13 : Int32).toInt = 13 by decide); have := lv_neT c14 (show (14 : Int32).toInt = 14 by decide); have := lv_neT c15 (show (15 : Int32).toInt = 15 by decide); have := lv_neT c16 (show (16 : Int32).toInt = 16 by decide); have := lv_neT c17 (show (17 : Int32).toInt = 17 by decide); have := lv_neT c18 (show (18 : Int32).toInt = 18 by decide); have := lv_neT c19 (show (19 : Int32).toInt = 19 by decide); have := lv_neT c20 (show (20 : Int32).toInt = 20 by decide); have := lv_neT c21 (show (21 : Int32).toInt = 21 by decide); have := lv_neT c22 (show (22 : Int32).toInt = 22 by decide); have := lv_neT c23 (show (23 : Int32).toInt = 23 by decide); have := lv_neT c24 (show (24 : Int32).toInt = 24 by decide); have := lv_neT c25 (show (25 : Int32).toInt = 25 by decide); have := lv_neT c26 (show (26 : Int32).toInt = 26 by decide); have := lv_neT c27 (show (27 : Int32).toInt = 27 by decide); have := lv_neT c28 (show (28 : Int32).toInt = 28 by decide); have := lv_neT c29 (show (29 : Int32).toInt = 29 by decide); have := lv_neT c30 (show (30 : Int32).toInt = 30 by decide); have := lv_neT c31 (show (31 : Int32).toInt = 31 by decide); have := lv_neT c32 (show (32 : Int32).toInt = 32 by decide); have := lv_neT c33 (show (33 : Int32).toInt = 33 by decide); have := lv_neT c34 (show (34 : Int32).toInt = 34 by decide); omega) (by decide) ?_
  refine lv_iconst (v := 0) hx hb dX5_bearsName_154 (by decide) ?_
  cases hM
  exact rt_z hx hb hr hlk (by decide) hP hD hS rfl dX5_bearsName_155

set_option maxHeartbeats 4000000 in
set_option maxRecDepth 100000 in
theorem c_Writer_contactSign (l : Launch) (D : va_G) (cI : ClassId) (sd : Nat → Nat) (ad : Nat → Nat) (a1 : Int32) (res : Int32) (hM : f_Writer_contactSign a1 = some res) : Ctr l D cI sd yX5_contactSign (wsM yX5_contactSign cX5_contactSign 1 (Option.some Jvm.ClassFile.FieldType.int)) { frames := 0, cells := 0, slots := 0, locals := 0 } [.int a1] (([] : va_W)) (([] : va_W)) (some (.int res)) := by
  refine Ctr.of (cc := cX5_contactSign) (maxL := 1) (own := RX5) (by decide +kernel) rfl rfl (Nat.le_of_ble_eq_true rfl) ?_
  intro p e s m below meth c A ls hx hb hr hml hown hts hlk hK hE hA hP hD hS hl
  have hl : lv_has ls 1 [(0, .int a1)] := hl
  unfold f_Writer_contactSign at hM
  refine lv_iload_n hx hb dX5_contactSign_0 rfl (lv_at hl 0 rfl) ?_
  by_cases c1 : a1 = 1
  · replace hM := if_t c1 hM
    refine lv_tableIn (tgt := 28) hx hb dX5_contactSign_1 (by rw [c1]; decide) (by rw [c1]; decide) (by rw [c1]; rfl) (by decide) ?_
    refine lv_bipush (v := 47) hx hb dX5_contactSign_28 (by decide) ?_
    cases hM
    exact rt_i hx hb hr hlk hP hD hS rfl dX5_contactSign_30
  replace hM := if_f c1 hM
  by_cases c2 : a1 = 2
  · replace hM := if_t c2 hM
    refine lv_tableIn (tgt := 31) hx hb dX5_contactSign_1 (by rw [c2]; decide) (by rw [c2]; decide) (by rw [c2]; rfl) (by decide) ?_
    refine lv_bipush (v := 62) hx hb dX5_contactSign_31 (by decide) ?_
    cases hM
    exact rt_i hx hb hr hlk hP hD hS rfl dX5_contactSign_33
  replace hM := if_f c2 hM
  by_cases c3 : a1 = 3
  · replace hM := if_t c3 hM
    refine lv_tableIn (tgt := 34) hx hb dX5_contactSign_1 (by rw [c3]; decide) (by rw [c3]; decide) (by rw [c3]; rfl) (by decide) ?_
    refine lv_bipush (v := 60) hx hb dX5_contactSign_34 (by decide) ?_
    cases hM
    exact rt_i hx hb hr hlk hP hD hS rfl dX5_contactSign_36
  replace hM := if_f c3 hM
  refine lv_tableOut (tgt := 37) hx hb dX5_contactSign_1 (by have := lv_neT c1 (show (1 : Int32).toInt = 1 by decide); have := lv_neT c2 (show (2 : Int32).toInt = 2 by decide); have := lv_neT c3 (show (3 : Int32).toInt = 3 by decide); omega) (by decide) ?_
  refine lv_iconst (v := (-1)) hx hb dX5_contactSign_37 (by decide) ?_
  cases hM
  exact rt_i hx hb hr hlk hP hD hS rfl dX5_contactSign_38
