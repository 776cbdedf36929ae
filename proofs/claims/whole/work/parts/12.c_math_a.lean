set_option maxHeartbeats 4000000 in
set_option maxRecDepth 100000 in
theorem c_Math_min (l : Launch) (D : va_G) (cI : ClassId) (sd : Nat → Nat) (ad : Nat → Nat) (a1 : Int64) (a2 : Int64) (res : Int64) (hM : f_Math_min a1 a2 = some res) : Ctr l D cI sd yX10_min (wsM yX10_min cX10_min 4 (Option.some Jvm.ClassFile.FieldType.long)) { frames := 0, cells := 0, slots := 0, locals := 0 } [.long a1, .long a2] (([] : va_W)) (([] : va_W)) (some (.long res)) := by
  refine Ctr.of (cc := cX10_min) (maxL := 4) (own := RX10) (by decide +kernel) rfl rfl (Nat.le_of_ble_eq_true rfl) ?_
  intro p e s m below meth c A ls hx hb hr hml hown hts hlk hK hE hA hP hD hS hl
  have hl : lv_has ls 4 [(0, .long a1), (2, .long a2)] := hl
  unfold f_Math_min at hM
  refine lv_lload_n hx hb dX10_min_0 rfl (lv_at hl 0 rfl) ?_
  refine lv_lload_n hx hb dX10_min_1 rfl (lv_at hl 1 rfl) ?_
  refine W.lcmp hx hb dX10_min_2 ?_
  refine lv_if_gt (tgt := 10) hx hb dX10_min_3 (by decide) (fun c1 => ?_) (fun c1 => ?_)
  · replace hM := if_t c1 hM
    refine lv_lload_n hx hb dX10_min_10 rfl (lv_at hl 1 rfl) ?_
    cases hM
    exact rt_l hx hb hr hlk hP hD hS rfl dX10_min_11
  · replace hM := if_f c1 hM
    refine lv_lload_n hx hb dX10_min_6 rfl (lv_at hl 0 rfl) ?_
    refine lv_goto (tgt := 11) hx hb dX10_min_7 (by decide) ?_
    cases hM
    exact rt_l hx hb hr hlk hP hD hS rfl dX10_min_11

set_option maxHeartbeats 4000000 in
set_option maxRecDepth 100000 in
theorem c_Math_max (l : Launch) (D : va_G) (cI : ClassId) (sd : Nat → Nat) (ad : Nat → Nat) (a1 : Int32) (a2 : Int32) (res : Int32) (hM : f_Math_max a1 a2 = some res) : Ctr l D cI sd yX10_max (wsM yX10_max cX10_max 2 (Option.some Jvm.ClassFile.FieldType.int)) { frames := 0, cells := 0, slots := 0, locals := 0 } [.int a1, .int a2] (([] : va_W)) (([] : va_W)) (some (.int res)) := by
  refine Ctr.of (cc := cX10_max) (maxL := 2) (own := RX10) (by decide +kernel) rfl rfl (Nat.le_of_ble_eq_true rfl) ?_
  intro p e s m below meth c A ls hx hb hr hml hown hts hlk hK hE hA hP hD hS hl
  have hl : lv_has ls 2 [(0, .int a1), (1, .int a2)] := hl
  unfold f_Math_max at hM
  refine lv_iload_n hx hb dX10_max_0 rfl (lv_at hl 0 rfl) ?_
  refine lv_iload_n hx hb dX10_max_1 rfl (lv_at hl 1 rfl) ?_
  refine lv_icmp_lt (tgt := 9) hx hb dX10_max_2 (by decide) (fun c1 => ?_) (fun c1 => ?_)
  · replace hM := if_t c1 hM
    refine lv_iload_n hx hb dX10_max_9 rfl (lv_at hl 1 rfl) ?_
    cases hM
    exact rt_i hx hb hr hlk hP hD hS rfl dX10_max_10
  · replace hM := if_f c1 hM
    refine lv_iload_n hx hb dX10_max_5 rfl (lv_at hl 0 rfl) ?_
    refine lv_goto (tgt := 10) hx hb dX10_max_6 (by decide) ?_
    cases hM
    exact rt_i hx hb hr hlk hP hD hS rfl dX10_max_10

set_option maxHeartbeats 4000000 in
set_option maxRecDepth 100000 in
theorem c_Math_abs (l : Launch) (D : va_G) (cI : ClassId) (sd : Nat → Nat) (ad : Nat → Nat) (a1 : Int32) (res : Int32) (hM : f_Math_abs a1 = some res) : Ctr l D cI sd yX10_abs (wsM yX10_abs cX10_abs 1 (Option.some Jvm.ClassFile.FieldType.int)) { frames := 0, cells := 0, slots := 0, locals := 0 } [.int a1] (([] : va_W)) (([] : va_W)) (some (.int res)) := by
  refine Ctr.of (cc := cX10_abs) (maxL := 1) (own := RX10) (by decide +kernel) rfl rfl (Nat.le_of_ble_eq_true rfl) ?_
  intro p e s m below meth c A ls hx hb hr hml hown hts hlk hK hE hA hP hD hS hl
  have hl : lv_has ls 1 [(0, .int a1)] := hl
  unfold f_Math_abs at hM
  refine lv_iload_n hx hb dX10_abs_0 rfl (lv_at hl 0 rfl) ?_
  refine lv_if_ge (tgt := 9) hx hb dX10_abs_1 (by decide) (fun c1 => ?_) (fun c1 => ?_)
  · replace hM := if_t c1 hM
    refine lv_iload_n hx hb dX10_abs_9 rfl (lv_at hl 0 rfl) ?_
    cases hM
    exact rt_i hx hb hr hlk hP hD hS rfl dX10_abs_10
  · replace hM := if_f c1 hM
    refine lv_iload_n hx hb dX10_abs_4 rfl (lv_at hl 0 rfl) ?_
    refine lv_ineg hx hb dX10_abs_5 ?_
    refine lv_goto (tgt := 10) hx hb dX10_abs_6 (by decide) ?_
    cases hM
    exact rt_i hx hb hr hlk hP hD hS rfl dX10_abs_10
