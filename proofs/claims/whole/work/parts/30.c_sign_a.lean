set_option maxHeartbeats 4000000 in
set_option maxRecDepth 100000 in
theorem c_Sign_binding (l : Launch) (D : va_G) (cI : ClassId) (sd : Nat → Nat) (ad : Nat → Nat) (a1 : Int32) (res : Int32) (hM : f_Sign_binding a1 = some res) : Ctr l D cI sd yX7_binding (wsM yX7_binding cX7_binding 1 (Option.some Jvm.ClassFile.FieldType.int)) { frames := 0, cells := 0, slots := 0, locals := 0 } [.int a1] (([] : va_W)) (([] : va_W)) (some (.int res)) := by
  refine Ctr.of (cc := cX7_binding) (maxL := 1) (own := RX7) (by decide +kernel) rfl rfl (Nat.le_of_ble_eq_true rfl) ?_
  intro p e s m below meth c A ls hx hb hr hml hown hts hlk hK hE hA hP hD hS hl
  have hl : lv_has ls 1 [(0, .int a1)] := hl
  unfold f_Sign_binding at hM
  refine lv_iload_n hx hb dX7_binding_0 rfl (lv_at hl 0 rfl) ?_
  refine lv_if_lt (tgt := 20) hx hb dX7_binding_1 (by decide) (fun c1 => ?_) (fun c1 => ?_)
  · replace hM := if_t c1 hM
    refine lv_iconst (v := (-1)) hx hb dX7_binding_20 (by decide) ?_
    cases hM
    exact rt_i hx hb hr hlk hP hD hS rfl dX7_binding_21
  · replace hM := if_f c1 hM
    refine lv_iload_n hx hb dX7_binding_4 rfl (lv_at hl 0 rfl) ?_
    refine va_gets hx hb (stE1 hE).1 hS hown (hts _ (inA q753)) (fun _ h9 => h9) dX7_binding_5 ?_
    refine st_len (v := 14) hx hb (stE1 hE).2 hS hK (by decide) dX7_binding_8 ?_
    refine lv_icmp_ge (tgt := 20) hx hb dX7_binding_9 (by decide) (fun c2 => ?_) (fun c2 => ?_)
    · replace hM := if_t c2 hM
      refine lv_iconst (v := (-1)) hx hb dX7_binding_20 (by decide) ?_
      cases hM
      exact rt_i hx hb hr hlk hP hD hS rfl dX7_binding_21
    · replace hM := if_f c2 hM
      refine va_gets hx hb (stE1 hE).1 hS hown (hts _ (inA q753)) (fun _ h9 => h9) dX7_binding_12 ?_
      refine lv_iload_n hx hb dX7_binding_15 rfl (lv_at hl 0 rfl) ?_
      obtain ⟨b3, hM⟩ := gd_use hM
      refine st_ald hx hb (stE1 hE).2 hS hK b3 dX7_binding_16 ?_
      refine lv_goto (tgt := 21) hx hb dX7_binding_17 (by decide) ?_
      cases hM
      exact rt_i hx hb hr hlk hP hD hS rfl dX7_binding_21

set_option maxHeartbeats 4000000 in
set_option maxRecDepth 100000 in
theorem c_Sign_operation (l : Launch) (D : va_G) (cI : ClassId) (sd : Nat → Nat) (ad : Nat → Nat) (a1 : Int32) (res : Int32) (hM : f_Sign_operation a1 = some res) : Ctr l D cI sd yX7_operation (wsM yX7_operation cX7_operation 1 (Option.some Jvm.ClassFile.FieldType.int)) { frames := 0, cells := 0, slots := 0, locals := 0 } [.int a1] (([] : va_W)) (([] : va_W)) (some (.int res)) := by
  refine Ctr.of (cc := cX7_operation) (maxL := 1) (own := RX7) (by decide +kernel) rfl rfl (Nat.le_of_ble_eq_true rfl) ?_
  intro p e s m below meth c A ls hx hb hr hml hown hts hlk hK hE hA hP hD hS hl
  have hl : lv_has ls 1 [(0, .int a1)] := hl
  unfold f_Sign_operation at hM
  refine lv_iload_n hx hb dX7_operation_0 rfl (lv_at hl 0 rfl) ?_
  by_cases c1 : a1 = 38
  · replace hM := if_t c1 hM
    refine lv_lookup (off := 137) (tgt := 138) hx hb dX7_operation_1 (by decide) (by exact sw_hit c1 (by decide)) (by decide) ?_
    refine lv_iconst (v := 2) hx hb dX7_operation_138 (by decide) ?_
    cases hM
    exact rt_i hx hb hr hlk hP hD hS rfl dX7_operation_139
  replace hM := if_f c1 hM
  by_cases c2 : a1 = 42
  · replace hM := if_t c2 hM
    refine lv_lookup (off := 160) (tgt := 161) hx hb dX7_operation_1 (by decide) (by rw [lv_osw c1 (by decide)]; exact sw_hit c2 (by decide)) (by decide) ?_
    refine lv_bipush (v := 11) hx hb dX7_operation_161 (by decide) ?_
    cases hM
    exact rt_i hx hb hr hlk hP hD hS rfl dX7_operation_163
  replace hM := if_f c2 hM
  by_cases c3 : a1 = 43
  · replace hM := if_t c3 hM
    refine lv_lookup (off := 154) (tgt := 155) hx hb dX7_operation_1 (by decide) (by rw [lv_osw c1 (by decide)]; rw [lv_osw c2 (by decide)]; exact sw_hit c3 (by decide)) (by decide) ?_
    refine lv_bipush (v := 9) hx hb dX7_operation_155 (by decide) ?_
    cases hM
    exact rt_i hx hb hr hlk hP hD hS rfl dX7_operation_157
  replace hM := if_f c3 hM
  by_cases c4 : a1 = 45
  · replace hM := if_t c4 hM
    refine lv_lookup (off := 157) (tgt := 158) hx hb dX7_operation_1 (by decide) (by rw [lv_osw c1 (by decide)]; rw [lv_osw c2 (by decide)]; rw [lv_osw c3 (by decide)]; exact sw_hit c4 (by decide)) (by decide) ?_
    refine lv_bipush (v := 10) hx hb dX7_operation_158 (by decide) ?_
    cases hM
    exact rt_i hx hb hr hlk hP hD hS rfl dX7_operation_160
  replace hM := if_f c4 hM
  by_cases c5 : a1 = 47
  · replace hM := if_t c5 hM
    refine lv_lookup (off := 163) (tgt := 164) hx hb dX7_operation_1 (by decide) (by rw [lv_osw c1 (by decide)]; rw [lv_osw c2 (by decide)]; rw [lv_osw c3 (by decide)]; rw [lv_osw c4 (by decide)]; exact sw_hit c5 (by decide)) (by decide) ?_
    refine lv_bipush (v := 12) hx hb dX7_operation_164 (by decide) ?_
    cases hM
    exact rt_i hx hb hr hlk hP hD hS rfl dX7_operation_166
  replace hM := if_f c5 hM
  by_cases c6 : a1 = 60
  · replace hM := if_t c6 hM
    refine lv_lookup (off := 143) (tgt := 144) hx hb dX7_operation_1 (by decide) (by rw [lv_osw c1 (by decide)]; rw [lv_osw c2 (by decide)]; rw [lv_osw c3 (by decide)]; rw [lv_osw c4 (by decide)]; rw [lv_osw c5 (by decide)]; exact sw_hit c6 (by decide)) (by decide) ?_
    refine lv_iconst (v := 5) hx hb dX7_operation_144 (by decide) ?_
    cases hM
    exact rt_i hx hb hr hlk hP hD hS rfl dX7_operation_145
  replace hM := if_f c6 hM
  by_cases c7 : a1 = 61
  · replace hM := if_t c7 hM
    refine lv_lookup (off := 139) (tgt := 140) hx hb dX7_operation_1 (by decide) (by rw [lv_osw c1 (by decide)]; rw [lv_osw c2 (by decide)]; rw [lv_osw c3 (by decide)]; rw [lv_osw c4 (by decide)]; rw [lv_osw c5 (by decide)]; rw [lv_osw c6 (by decide)]; exact sw_hit c7 (by decide)) (by decide) ?_
    refine lv_iconst (v := 3) hx hb dX7_operation_140 (by decide) ?_
    cases hM
    exact rt_i hx hb hr hlk hP hD hS rfl dX7_operation_141
  replace hM := if_f c7 hM
  by_cases c8 : a1 = 62
  · replace hM := if_t c8 hM
    refine lv_lookup (off := 145) (tgt := 146) hx hb dX7_operation_1 (by decide) (by rw [lv_osw c1 (by decide)]; rw [lv_osw c2 (by decide)]; rw [lv_osw c3 (by decide)]; rw [lv_osw c4 (by decide)]; rw [lv_osw c5 (by decide)]; rw [lv_osw c6 (by decide)]; rw [lv_osw c7 (by decide)]; exact sw_hit c8 (by decide)) (by decide) ?_
    refine lv_bipush (v := 6) hx hb dX7_operation_146 (by decide) ?_
    cases hM
    exact rt_i hx hb hr hlk hP hD hS rfl dX7_operation_148
  replace hM := if_f c8 hM
  by_cases c9 : a1 = 286
  · replace hM := if_t c9 hM
    refine lv_lookup (off := 131) (tgt := 132) hx hb dX7_operation_1 (by decide) (by rw [lv_osw c1 (by decide)]; rw [lv_osw c2 (by decide)]; rw [lv_osw c3 (by decide)]; rw [lv_osw c4 (by decide)]; rw [lv_osw c5 (by decide)]; rw [lv_osw c6 (by decide)]; rw [lv_osw c7 (by decide)]; rw [lv_osw c8 (by decide)]; exact sw_hit c9 (by decide)) (by decide) ?_
    refine lv_iconst (v := 0) hx hb dX7_operation_132 (by decide) ?_
    cases hM
    exact rt_i hx hb hr hlk hP hD hS rfl dX7_operation_133
  replace hM := if_f c9 hM
  by_cases c10 : a1 = 287
  · replace hM := if_t c10 hM
    refine lv_lookup (off := 133) (tgt := 134) hx hb dX7_operation_1 (by decide) (by rw [lv_osw c1 (by decide)]; rw [lv_osw c2 (by decide)]; rw [lv_osw c3 (by decide)]; rw [lv_osw c4 (by decide)]; rw [lv_osw c5 (by decide)]; rw [lv_osw c6 (by decide)]; rw [lv_osw c7 (by decide)]; rw [lv_osw c8 (by decide)]; rw [lv_osw c9 (by decide)]; exact sw_hit c10 (by decide)) (by decide) ?_
    refine lv_iconst (v := 1) hx hb dX7_operation_134 (by decide) ?_
    cases hM
    exact rt_i hx hb hr hlk hP hD hS rfl dX7_operation_135
  replace hM := if_f c10 hM
  by_cases c11 : a1 = 288
  · replace hM := if_t c11 hM
    refine lv_lookup (off := 135) (tgt := 136) hx hb dX7_operation_1 (by decide) (by rw [lv_osw c1 (by decide)]; rw [lv_osw c2 (by decide)]; rw [lv_osw c3 (by decide)]; rw [lv_osw c4 (by decide)]; rw [lv_osw c5 (by decide)]; rw [lv_osw c6 (by decide)]; rw [lv_osw c7 (by decide)]; rw [lv_osw c8 (by decide)]; rw [lv_osw c9 (by decide)]; rw [lv_osw c10 (by decide)]; exact sw_hit c11 (by decide)) (by decide) ?_
    refine lv_iconst (v := 2) hx hb dX7_operation_136 (by decide) ?_
    cases hM
    exact rt_i hx hb hr hlk hP hD hS rfl dX7_operation_137
  replace hM := if_f c11 hM
  by_cases c12 : a1 = 289
  · replace hM := if_t c12 hM
    refine lv_lookup (off := 166) (tgt := 167) hx hb dX7_operation_1 (by decide) (by rw [lv_osw c1 (by decide)]; rw [lv_osw c2 (by decide)]; rw [lv_osw c3 (by decide)]; rw [lv_osw c4 (by decide)]; rw [lv_osw c5 (by decide)]; rw [lv_osw c6 (by decide)]; rw [lv_osw c7 (by decide)]; rw [lv_osw c8 (by decide)]; rw [lv_osw c9 (by decide)]; rw [lv_osw c10 (by decide)]; rw [lv_osw c11 (by decide)]; exact sw_hit c12 (by decide)) (by decide) ?_
    refine lv_bipush (v := 13) hx hb dX7_operation_167 (by decide) ?_
    cases hM
    exact rt_i hx hb hr hlk hP hD hS rfl dX7_operation_169
  replace hM := if_f c12 hM
  by_cases c13 : a1 = 15421
  · replace hM := if_t c13 hM
    refine lv_lookup (off := 148) (tgt := 149) hx hb dX7_operation_1 (by decide) (by rw [lv_osw c1 (by decide)]; rw [lv_osw c2 (by decide)]; rw [lv_osw c3 (by decide)]; rw [lv_osw c4 (by decide)]; rw [lv_osw c5 (by decide)]; rw [lv_osw c6 (by decide)]; rw [lv_osw c7 (by decide)]; rw [lv_osw c8 (by decide)]; rw [lv_osw c9 (by decide)]; rw [lv_osw c10 (by decide)]; rw [lv_osw c11 (by decide)]; rw [lv_osw c12 (by decide)]; exact sw_hit c13 (by decide)) (by decide) ?_
    refine lv_bipush (v := 7) hx hb dX7_operation_149 (by decide) ?_
    cases hM
    exact rt_i hx hb hr hlk hP hD hS rfl dX7_operation_151
  replace hM := if_f c13 hM
  by_cases c14 : a1 = 15422
  · replace hM := if_t c14 hM
    refine lv_lookup (off := 141) (tgt := 142) hx hb dX7_operation_1 (by decide) (by rw [lv_osw c1 (by decide)]; rw [lv_osw c2 (by decide)]; rw [lv_osw c3 (by decide)]; rw [lv_osw c4 (by decide)]; rw [lv_osw c5 (by decide)]; rw [lv_osw c6 (by decide)]; rw [lv_osw c7 (by decide)]; rw [lv_osw c8 (by decide)]; rw [lv_osw c9 (by decide)]; rw [lv_osw c10 (by decide)]; rw [lv_osw c11 (by decide)]; rw [lv_osw c12 (by decide)]; rw [lv_osw c13 (by decide)]; exact sw_hit c14 (by decide)) (by decide) ?_
    refine lv_iconst (v := 4) hx hb dX7_operation_142 (by decide) ?_
    cases hM
    exact rt_i hx hb hr hlk hP hD hS rfl dX7_operation_143
  replace hM := if_f c14 hM
  by_cases c15 : a1 = 15933
  · replace hM := if_t c15 hM
    refine lv_lookup (off := 151) (tgt := 152) hx hb dX7_operation_1 (by decide) (by rw [lv_osw c1 (by decide)]; rw [lv_osw c2 (by decide)]; rw [lv_osw c3 (by decide)]; rw [lv_osw c4 (by decide)]; rw [lv_osw c5 (by decide)]; rw [lv_osw c6 (by decide)]; rw [lv_osw c7 (by decide)]; rw [lv_osw c8 (by decide)]; rw [lv_osw c9 (by decide)]; rw [lv_osw c10 (by decide)]; rw [lv_osw c11 (by decide)]; rw [lv_osw c12 (by decide)]; rw [lv_osw c13 (by decide)]; rw [lv_osw c14 (by decide)]; exact sw_hit c15 (by decide)) (by decide) ?_
    refine lv_bipush (v := 8) hx hb dX7_operation_152 (by decide) ?_
    cases hM
    exact rt_i hx hb hr hlk hP hD hS rfl dX7_operation_154
  replace hM := if_f c15 hM
  refine lv_lookup (off := 169) (tgt := 170) hx hb dX7_operation_1 (by decide) (by rw [lv_osw c1 (by decide)]; rw [lv_osw c2 (by decide)]; rw [lv_osw c3 (by decide)]; rw [lv_osw c4 (by decide)]; rw [lv_osw c5 (by decide)]; rw [lv_osw c6 (by decide)]; rw [lv_osw c7 (by decide)]; rw [lv_osw c8 (by decide)]; rw [lv_osw c9 (by decide)]; rw [lv_osw c10 (by decide)]; rw [lv_osw c11 (by decide)]; rw [lv_osw c12 (by decide)]; rw [lv_osw c13 (by decide)]; rw [lv_osw c14 (by decide)]; rw [lv_osw c15 (by decide)]; rfl) (by decide) ?_
  refine lv_iconst (v := (-1)) hx hb dX7_operation_170 (by decide) ?_
  cases hM
  exact rt_i hx hb hr hlk hP hD hS rfl dX7_operation_171

set_option maxHeartbeats 4000000 in
set_option maxRecDepth 100000 in
theorem c_Sign_between (l : Launch) (D : va_G) (cI : ClassId) (sd : Nat → Nat) (ad : Nat → Nat) (a1 : Int32) (res : Int32) (hM : f_Sign_between a1 = some res) : Ctr l D cI sd yX7_between (wsM yX7_between cX7_between 1 (Option.some Jvm.ClassFile.FieldType.int)) { frames := 0, cells := 0, slots := 0, locals := 0 } [.int a1] (([] : va_W)) (([] : va_W)) (some (.int res)) := by
  refine Ctr.of (cc := cX7_between) (maxL := 1) (own := RX7) (by decide +kernel) rfl rfl (Nat.le_of_ble_eq_true rfl) ?_
  intro p e s m below meth c A ls hx hb hr hml hown hts hlk hK hE hA hP hD hS hl
  have hl : lv_has ls 1 [(0, .int a1)] := hl
  unfold f_Sign_between at hM
  refine lv_iload_n hx hb dX7_between_0 rfl (lv_at hl 0 rfl) ?_
  refine lv_if_lt (tgt := 20) hx hb dX7_between_1 (by decide) (fun c1 => ?_) (fun c1 => ?_)
  · replace hM := if_t c1 hM
    refine lv_iconst (v := (-1)) hx hb dX7_between_20 (by decide) ?_
    cases hM
    exact rt_i hx hb hr hlk hP hD hS rfl dX7_between_21
  · replace hM := if_f c1 hM
    refine lv_iload_n hx hb dX7_between_4 rfl (lv_at hl 0 rfl) ?_
    refine va_gets hx hb (stE0 hE).1 hS hown (hts _ (inA q911)) (fun _ h9 => h9) dX7_between_5 ?_
    refine st_len (v := 14) hx hb (stE0 hE).2 hS hK (by decide) dX7_between_8 ?_
    refine lv_icmp_ge (tgt := 20) hx hb dX7_between_9 (by decide) (fun c2 => ?_) (fun c2 => ?_)
    · replace hM := if_t c2 hM
      refine lv_iconst (v := (-1)) hx hb dX7_between_20 (by decide) ?_
      cases hM
      exact rt_i hx hb hr hlk hP hD hS rfl dX7_between_21
    · replace hM := if_f c2 hM
      refine va_gets hx hb (stE0 hE).1 hS hown (hts _ (inA q911)) (fun _ h9 => h9) dX7_between_12 ?_
      refine lv_iload_n hx hb dX7_between_15 rfl (lv_at hl 0 rfl) ?_
      obtain ⟨b3, hM⟩ := gd_use hM
      refine st_ald hx hb (stE0 hE).2 hS hK b3 dX7_between_16 ?_
      refine lv_goto (tgt := 21) hx hb dX7_between_17 (by decide) ?_
      cases hM
      exact rt_i hx hb hr hlk hP hD hS rfl dX7_between_21
