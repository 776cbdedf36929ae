set_option maxHeartbeats 4000000 in
set_option maxRecDepth 100000 in
theorem c_Top_great (l : Launch) (D : va_G) (cI : ClassId) (sd : Nat → Nat) (ad : Nat → Nat) (a1 : Int32) (res : Int32) (hM : f_Top_great a1 = some res) : Ctr l D cI sd yX6_great (wsM yX6_great cX6_great 1 (Option.some Jvm.ClassFile.FieldType.int)) { frames := 0, cells := 0, slots := 0, locals := 0 } [.int a1] (([] : va_W)) (([] : va_W)) (some (.int res)) := by
  refine Ctr.of (cc := cX6_great) (maxL := 1) (own := RX6) (by decide +kernel) rfl rfl (Nat.le_of_ble_eq_true rfl) ?_
  intro p e s m below meth c A ls hx hb hr hml hown hts hlk hK hE hA hP hD hS hl
  have hl : lv_has ls 1 [(0, .int a1)] := hl
  unfold f_Top_great at hM
  refine lv_iload_n hx hb dX6_great_0 rfl (lv_at hl 0 rfl) ?_
  refine lv_bipush (v := 97) hx hb dX6_great_1 (by decide) ?_
  refine lv_icmp_lt (tgt := 22) hx hb dX6_great_3 (by decide) (fun c1 => ?_) (fun c1 => ?_)
  · replace hM := if_t c1 hM
    refine lv_iload_n hx hb dX6_great_22 rfl (lv_at hl 0 rfl) ?_
    cases hM
    exact rt_i hx hb hr hlk hP hD hS rfl dX6_great_23
  · replace hM := if_f c1 hM
    refine lv_iload_n hx hb dX6_great_6 rfl (lv_at hl 0 rfl) ?_
    refine lv_bipush (v := 122) hx hb dX6_great_7 (by decide) ?_
    refine lv_icmp_gt (tgt := 22) hx hb dX6_great_9 (by decide) (fun c2 => ?_) (fun c2 => ?_)
    · replace hM := if_t c2 hM
      refine lv_iload_n hx hb dX6_great_22 rfl (lv_at hl 0 rfl) ?_
      cases hM
      exact rt_i hx hb hr hlk hP hD hS rfl dX6_great_23
    · replace hM := if_f c2 hM
      refine lv_iload_n hx hb dX6_great_12 rfl (lv_at hl 0 rfl) ?_
      refine lv_bipush (v := 97) hx hb dX6_great_13 (by decide) ?_
      refine lv_isub hx hb dX6_great_15 ?_
      refine lv_bipush (v := 65) hx hb dX6_great_16 (by decide) ?_
      refine lv_iadd hx hb dX6_great_18 ?_
      refine lv_goto (tgt := 23) hx hb dX6_great_19 (by decide) ?_
      cases hM
      exact rt_i hx hb hr hlk hP hD hS rfl dX6_great_23

set_option maxHeartbeats 4000000 in
set_option maxRecDepth 100000 in
theorem c_Top_isDigit (l : Launch) (D : va_G) (cI : ClassId) (sd : Nat → Nat) (ad : Nat → Nat) (a1 : Int32) (res : Int32) (hM : f_Top_isDigit a1 = some res) : Ctr l D cI sd yX6_isDigit (wsM yX6_isDigit cX6_isDigit 1 (Option.some Jvm.ClassFile.FieldType.boolean)) { frames := 0, cells := 0, slots := 0, locals := 0 } [.int a1] (([] : va_W)) (([] : va_W)) (some (.int res)) := by
  refine Ctr.of (cc := cX6_isDigit) (maxL := 1) (own := RX6) (by decide +kernel) rfl rfl (Nat.le_of_ble_eq_true rfl) ?_
  intro p e s m below meth c A ls hx hb hr hml hown hts hlk hK hE hA hP hD hS hl
  have hl : lv_has ls 1 [(0, .int a1)] := hl
  unfold f_Top_isDigit at hM
  refine lv_iload_n hx hb dX6_isDigit_0 rfl (lv_at hl 0 rfl) ?_
  refine lv_bipush (v := 48) hx hb dX6_isDigit_1 (by decide) ?_
  refine lv_icmp_lt (tgt := 16) hx hb dX6_isDigit_3 (by decide) (fun c1 => ?_) (fun c1 => ?_)
  · replace hM := if_t c1 hM
    refine lv_iconst (v := 0) hx hb dX6_isDigit_16 (by decide) ?_
    cases hM
    exact rt_z hx hb hr hlk (by decide) hP hD hS rfl dX6_isDigit_17
  · replace hM := if_f c1 hM
    refine lv_iload_n hx hb dX6_isDigit_6 rfl (lv_at hl 0 rfl) ?_
    refine lv_bipush (v := 57) hx hb dX6_isDigit_7 (by decide) ?_
    refine lv_icmp_gt (tgt := 16) hx hb dX6_isDigit_9 (by decide) (fun c2 => ?_) (fun c2 => ?_)
    · replace hM := if_t c2 hM
      refine lv_iconst (v := 0) hx hb dX6_isDigit_16 (by decide) ?_
      cases hM
      exact rt_z hx hb hr hlk (by decide) hP hD hS rfl dX6_isDigit_17
    · replace hM := if_f c2 hM
      refine lv_iconst (v := 1) hx hb dX6_isDigit_12 (by decide) ?_
      refine lv_goto (tgt := 17) hx hb dX6_isDigit_13 (by decide) ?_
      cases hM
      exact rt_z hx hb hr hlk (by decide) hP hD hS rfl dX6_isDigit_17

set_option maxHeartbeats 4000000 in
set_option maxRecDepth 100000 in
theorem c_Top_isNameByte (l : Launch) (D : va_G) (cI : ClassId) (sd : Nat → Nat) (ad : Nat → Nat) (a1 : Int32) (res : Int32) (hM : f_Top_isNameByte a1 = some res) : Ctr l D cI sd yX6_isNameByte (wsM yX6_isNameByte cX6_isNameByte 1 (Option.some Jvm.ClassFile.FieldType.boolean)) { frames := 0, cells := 0, slots := 0, locals := 0 } [.int a1] (([] : va_W)) (([] : va_W)) (some (.int res)) := by
  refine Ctr.of (cc := cX6_isNameByte) (maxL := 1) (own := RX6) (by decide +kernel) rfl rfl (Nat.le_of_ble_eq_true rfl) ?_
  intro p e s m below meth c A ls hx hb hr hml hown hts hlk hK hE hA hP hD hS hl
  have hl : lv_has ls 1 [(0, .int a1)] := hl
  unfold f_Top_isNameByte at hM
  refine lv_iload_n hx hb dX6_isNameByte_0 rfl (lv_at hl 0 rfl) ?_
  refine lv_bipush (v := 65) hx hb dX6_isNameByte_1 (by decide) ?_
  refine lv_icmp_lt (tgt := 12) hx hb dX6_isNameByte_3 (by decide) (fun c1 => ?_) (fun c1 => ?_)
  · replace hM := if_t c1 hM
    refine lv_iload_n hx hb dX6_isNameByte_12 rfl (lv_at hl 0 rfl) ?_
    refine lv_bipush (v := 97) hx hb dX6_isNameByte_13 (by decide) ?_
    refine lv_icmp_lt (tgt := 24) hx hb dX6_isNameByte_15 (by decide) (fun c2 => ?_) (fun c2 => ?_)
    · replace hM := if_t c2 hM
      refine lv_iload_n hx hb dX6_isNameByte_24 rfl (lv_at hl 0 rfl) ?_
      refine lv_bipush (v := 48) hx hb dX6_isNameByte_25 (by decide) ?_
      refine lv_icmp_lt (tgt := 36) hx hb dX6_isNameByte_27 (by decide) (fun c3 => ?_) (fun c3 => ?_)
      · replace hM := if_t c3 hM
        refine lv_iload_n hx hb dX6_isNameByte_36 rfl (lv_at hl 0 rfl) ?_
        refine lv_bipush (v := 95) hx hb dX6_isNameByte_37 (by decide) ?_
        refine lv_icmp_ne (tgt := 46) hx hb dX6_isNameByte_39 (by decide) (fun c4 => ?_) (fun c4 => ?_)
        · replace hM := if_f c4 hM
          refine lv_iconst (v := 0) hx hb dX6_isNameByte_46 (by decide) ?_
          cases hM
          exact rt_z hx hb hr hlk (by decide) hP hD hS rfl dX6_isNameByte_47
        · replace hM := if_t c4 hM
          refine lv_iconst (v := 1) hx hb dX6_isNameByte_42 (by decide) ?_
          refine lv_goto (tgt := 47) hx hb dX6_isNameByte_43 (by decide) ?_
          cases hM
          exact rt_z hx hb hr hlk (by decide) hP hD hS rfl dX6_isNameByte_47
      · replace hM := if_f c3 hM
        refine lv_iload_n hx hb dX6_isNameByte_30 rfl (lv_at hl 0 rfl) ?_
        refine lv_bipush (v := 57) hx hb dX6_isNameByte_31 (by decide) ?_
        refine lv_icmp_le (tgt := 42) hx hb dX6_isNameByte_33 (by decide) (fun c5 => ?_) (fun c5 => ?_)
        · replace hM := if_t c5 hM
          refine lv_iconst (v := 1) hx hb dX6_isNameByte_42 (by decide) ?_
          refine lv_goto (tgt := 47) hx hb dX6_isNameByte_43 (by decide) ?_
          cases hM
          exact rt_z hx hb hr hlk (by decide) hP hD hS rfl dX6_isNameByte_47
        · replace hM := if_f c5 hM
          refine lv_iload_n hx hb dX6_isNameByte_36 rfl (lv_at hl 0 rfl) ?_
          refine lv_bipush (v := 95) hx hb dX6_isNameByte_37 (by decide) ?_
          refine lv_icmp_ne (tgt := 46) hx hb dX6_isNameByte_39 (by decide) (fun c6 => ?_) (fun c6 => ?_)
          · replace hM := if_f c6 hM
            refine lv_iconst (v := 0) hx hb dX6_isNameByte_46 (by decide) ?_
            cases hM
            exact rt_z hx hb hr hlk (by decide) hP hD hS rfl dX6_isNameByte_47
          · replace hM := if_t c6 hM
            refine lv_iconst (v := 1) hx hb dX6_isNameByte_42 (by decide) ?_
            refine lv_goto (tgt := 47) hx hb dX6_isNameByte_43 (by decide) ?_
            cases hM
            exact rt_z hx hb hr hlk (by decide) hP hD hS rfl dX6_isNameByte_47
    · replace hM := if_f c2 hM
      refine lv_iload_n hx hb dX6_isNameByte_18 rfl (lv_at hl 0 rfl) ?_
      refine lv_bipush (v := 122) hx hb dX6_isNameByte_19 (by decide) ?_
      refine lv_icmp_le (tgt := 42) hx hb dX6_isNameByte_21 (by decide) (fun c7 => ?_) (fun c7 => ?_)
      · replace hM := if_t c7 hM
        refine lv_iconst (v := 1) hx hb dX6_isNameByte_42 (by decide) ?_
        refine lv_goto (tgt := 47) hx hb dX6_isNameByte_43 (by decide) ?_
        cases hM
        exact rt_z hx hb hr hlk (by decide) hP hD hS rfl dX6_isNameByte_47
      · replace hM := if_f c7 hM
        refine lv_iload_n hx hb dX6_isNameByte_24 rfl (lv_at hl 0 rfl) ?_
        refine lv_bipush (v := 48) hx hb dX6_isNameByte_25 (by decide) ?_
        refine lv_icmp_lt (tgt := 36) hx hb dX6_isNameByte_27 (by decide) (fun c8 => ?_) (fun c8 => ?_)
        · replace hM := if_t c8 hM
          refine lv_iload_n hx hb dX6_isNameByte_36 rfl (lv_at hl 0 rfl) ?_
          refine lv_bipush (v := 95) hx hb dX6_isNameByte_37 (by decide) ?_
          refine lv_icmp_ne (tgt := 46) hx hb dX6_isNameByte_39 (by decide) (fun c9 => ?_) (fun c9 => ?_)
          · replace hM := if_f c9 hM
            refine lv_iconst (v := 0) hx hb dX6_isNameByte_46 (by decide) ?_
            cases hM
            exact rt_z hx hb hr hlk (by decide) hP hD hS rfl dX6_isNameByte_47
          · replace hM := if_t c9 hM
            refine lv_iconst (v := 1) hx hb dX6_isNameByte_42 (by decide) ?_
            refine lv_goto (tgt := 47) hx hb dX6_isNameByte_43 (by decide) ?_
            cases hM
            exact rt_z hx hb hr hlk (by decide) hP hD hS rfl dX6_isNameByte_47
        · replace hM := if_f c8 hM
          refine lv_iload_n hx hb dX6_isNameByte_30 rfl (lv_at hl 0 rfl) ?_
          refine lv_bipush (v := 57) hx hb dX6_isNameByte_31 (by decide) ?_
          refine lv_icmp_le (tgt := 42) hx hb dX6_isNameByte_33 (by decide) (fun c10 => ?_) (fun c10 => ?_)
          · replace hM := if_t c10 hM
            refine lv_iconst (v := 1) hx hb dX6_isNameByte_42 (by decide) ?_
            refine lv_goto (tgt := 47) hx hb dX6_isNameByte_43 (by decide) ?_
            cases hM
            exact rt_z hx hb hr hlk (by decide) hP hD hS rfl dX6_isNameByte_47
          · replace hM := if_f c10 hM
            refine lv_iload_n hx hb dX6_isNameByte_36 rfl (lv_at hl 0 rfl) ?_
            refine lv_bipush (v := 95) hx hb dX6_isNameByte_37 (by decide) ?_
            refine lv_icmp_ne (tgt := 46) hx hb dX6_isNameByte_39 (by decide) (fun c11 => ?_) (fun c11 => ?_)
            · replace hM := if_f c11 hM
              refine lv_iconst (v := 0) hx hb dX6_isNameByte_46 (by decide) ?_
              cases hM
              exact rt_z hx hb hr hlk (by decide) hP hD hS rfl dX6_isNameByte_47
            · replace hM := if_t c11 hM
              refine lv_iconst (v := 1) hx hb dX6_isNameByte_42 (by decide) ?_
              refine lv_goto (tgt := 47) hx hb dX6_isNameByte_43 (by decide) ?_
              cases hM
              exact rt_z hx hb hr hlk (by decide) hP hD hS rfl dX6_isNameByte_47
  · replace hM := if_f c1 hM
    refine lv_iload_n hx hb dX6_isNameByte_6 rfl (lv_at hl 0 rfl) ?_
    refine lv_bipush (v := 90) hx hb dX6_isNameByte_7 (by decide) ?_
    refine lv_icmp_le (tgt := 42) hx hb dX6_isNameByte_9 (by decide) (fun c12 => ?_) (fun c12 => ?_)
    · replace hM := if_t c12 hM
      refine lv_iconst (v := 1) hx hb dX6_isNameByte_42 (by decide) ?_
      refine lv_goto (tgt := 47) hx hb dX6_isNameByte_43 (by decide) ?_
      cases hM
      exact rt_z hx hb hr hlk (by decide) hP hD hS rfl dX6_isNameByte_47
    · replace hM := if_f c12 hM
      refine lv_iload_n hx hb dX6_isNameByte_12 rfl (lv_at hl 0 rfl) ?_
      refine lv_bipush (v := 97) hx hb dX6_isNameByte_13 (by decide) ?_
      refine lv_icmp_lt (tgt := 24) hx hb dX6_isNameByte_15 (by decide) (fun c13 => ?_) (fun c13 => ?_)
      · replace hM := if_t c13 hM
        refine lv_iload_n hx hb dX6_isNameByte_24 rfl (lv_at hl 0 rfl) ?_
        refine lv_bipush (v := 48) hx hb dX6_isNameByte_25 (by decide) ?_
        refine lv_icmp_lt (tgt := 36) hx hb dX6_isNameByte_27 (by decide) (fun c14 => ?_) (fun c14 => ?_)
        · replace hM := if_t c14 hM
          refine lv_iload_n hx hb dX6_isNameByte_36 rfl (lv_at hl 0 rfl) ?_
          refine lv_bipush (v := 95) hx hb dX6_isNameByte_37 (by decide) ?_
          refine lv_icmp_ne (tgt := 46) hx hb dX6_isNameByte_39 (by decide) (fun c15 => ?_) (fun c15 => ?_)
          · replace hM := if_f c15 hM
            refine lv_iconst (v := 0) hx hb dX6_isNameByte_46 (by decide) ?_
            cases hM
            exact rt_z hx hb hr hlk (by decide) hP hD hS rfl dX6_isNameByte_47
          · replace hM := if_t c15 hM
            refine lv_iconst (v := 1) hx hb dX6_isNameByte_42 (by decide) ?_
            refine lv_goto (tgt := 47) hx hb dX6_isNameByte_43 (by decide) ?_
            cases hM
            exact rt_z hx hb hr hlk (by decide) hP hD hS rfl dX6_isNameByte_47
        · replace hM := if_f c14 hM
          refine lv_iload_n hx hb dX6_isNameByte_30 rfl (lv_at hl 0 rfl) ?_
          refine lv_bipush (v := 57) hx hb dX6_isNameByte_31 (by decide) ?_
          refine lv_icmp_le (tgt := 42) hx hb dX6_isNameByte_33 (by decide) (fun c16 => ?_) (fun c16 => ?_)
          · replace hM := if_t c16 hM
            refine lv_iconst (v := 1) hx hb dX6_isNameByte_42 (by decide) ?_
            refine lv_goto (tgt := 47) hx hb dX6_isNameByte_43 (by decide) ?_
            cases hM
            exact rt_z hx hb hr hlk (by decide) hP hD hS rfl dX6_isNameByte_47
          · replace hM := if_f c16 hM
            refine lv_iload_n hx hb dX6_isNameByte_36 rfl (lv_at hl 0 rfl) ?_
            refine lv_bipush (v := 95) hx hb dX6_isNameByte_37 (by decide) ?_
            refine lv_icmp_ne (tgt := 46) hx hb dX6_isNameByte_39 (by decide) (fun c17 => ?_) (fun c17 => ?_)
            · replace hM := if_f c17 hM
              refine lv_iconst (v := 0) hx hb dX6_isNameByte_46 (by decide) ?_
              cases hM
              exact rt_z hx hb hr hlk (by decide) hP hD hS rfl dX6_isNameByte_47
            · replace hM := if_t c17 hM
              refine lv_iconst (v := 1) hx hb dX6_isNameByte_42 (by decide) ?_
              refine lv_goto (tgt := 47) hx hb dX6_isNameByte_43 (by decide) ?_
              cases hM
              exact rt_z hx hb hr hlk (by decide) hP hD hS rfl dX6_isNameByte_47
      · replace hM := if_f c13 hM
        refine lv_iload_n hx hb dX6_isNameByte_18 rfl (lv_at hl 0 rfl) ?_
        refine lv_bipush (v := 122) hx hb dX6_isNameByte_19 (by decide) ?_
        refine lv_icmp_le (tgt := 42) hx hb dX6_isNameByte_21 (by decide) (fun c18 => ?_) (fun c18 => ?_)
        · replace hM := if_t c18 hM
          refine lv_iconst (v := 1) hx hb dX6_isNameByte_42 (by decide) ?_
          refine lv_goto (tgt := 47) hx hb dX6_isNameByte_43 (by decide) ?_
          cases hM
          exact rt_z hx hb hr hlk (by decide) hP hD hS rfl dX6_isNameByte_47
        · replace hM := if_f c18 hM
          refine lv_iload_n hx hb dX6_isNameByte_24 rfl (lv_at hl 0 rfl) ?_
          refine lv_bipush (v := 48) hx hb dX6_isNameByte_25 (by decide) ?_
          refine lv_icmp_lt (tgt := 36) hx hb dX6_isNameByte_27 (by decide) (fun c19 => ?_) (fun c19 => ?_)
          · replace hM := if_t c19 hM
            refine lv_iload_n hx hb dX6_isNameByte_36 rfl (lv_at hl 0 rfl) ?_
            refine lv_bipush (v := 95) hx hb dX6_isNameByte_37 (by decide) ?_
            refine lv_icmp_ne (tgt := 46) hx hb dX6_isNameByte_39 (by decide) (fun c20 => ?_) (fun c20 => ?_)
            · replace hM := if_f c20 hM
              refine lv_iconst (v := 0) hx hb dX6_isNameByte_46 (by decide) ?_
              cases hM
              exact rt_z hx hb hr hlk (by decide) hP hD hS rfl dX6_isNameByte_47
            · replace hM := if_t c20 hM
              refine lv_iconst (v := 1) hx hb dX6_isNameByte_42 (by decide) ?_
              refine lv_goto (tgt := 47) hx hb dX6_isNameByte_43 (by decide) ?_
              cases hM
              exact rt_z hx hb hr hlk (by decide) hP hD hS rfl dX6_isNameByte_47
          · replace hM := if_f c19 hM
            refine lv_iload_n hx hb dX6_isNameByte_30 rfl (lv_at hl 0 rfl) ?_
            refine lv_bipush (v := 57) hx hb dX6_isNameByte_31 (by decide) ?_
            refine lv_icmp_le (tgt := 42) hx hb dX6_isNameByte_33 (by decide) (fun c21 => ?_) (fun c21 => ?_)
            · replace hM := if_t c21 hM
              refine lv_iconst (v := 1) hx hb dX6_isNameByte_42 (by decide) ?_
              refine lv_goto (tgt := 47) hx hb dX6_isNameByte_43 (by decide) ?_
              cases hM
              exact rt_z hx hb hr hlk (by decide) hP hD hS rfl dX6_isNameByte_47
            · replace hM := if_f c21 hM
              refine lv_iload_n hx hb dX6_isNameByte_36 rfl (lv_at hl 0 rfl) ?_
              refine lv_bipush (v := 95) hx hb dX6_isNameByte_37 (by decide) ?_
              refine lv_icmp_ne (tgt := 46) hx hb dX6_isNameByte_39 (by decide) (fun c22 => ?_) (fun c22 => ?_)
              · replace hM := if_f c22 hM
                refine lv_iconst (v := 0) hx hb dX6_isNameByte_46 (by decide) ?_
                cases hM
                exact rt_z hx hb hr hlk (by decide) hP hD hS rfl dX6_isNameByte_47
              · replace hM := if_t c22 hM
                refine lv_iconst (v := 1) hx hb dX6_isNameByte_42 (by decide) ?_
                refine lv_goto (tgt := 47) hx hb dX6_isNameByte_43 (by decide) ?_
                cases hM
                exact rt_z hx hb hr hlk (by decide) hP hD hS rfl dX6_isNameByte_47
