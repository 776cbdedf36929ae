set_option maxHeartbeats 4000000 in
set_option maxRecDepth 100000 in
theorem c_Tokens_kind (l : Launch) (D : va_G) (cI : ClassId) (sd : Nat → Nat) (ad : Nat → Nat) (o_this : S_Tokens) (a1 : Int32) (res : Int32) (hM : f_Tokens_kind o_this a1 = some res) : Ctr l D cI sd yX2_kind (wsM yX2_kind cX2_kind 2 (Option.some Jvm.ClassFile.FieldType.int)) { frames := 0, cells := 0, slots := 0, locals := 0 } [.ref (ad 10), .int a1] (wK cI ad o_this) (wK cI ad o_this) (some (.int res)) := by
  refine Ctr.of (cc := cX2_kind) (maxL := 2) (own := RX2) (by decide +kernel) rfl rfl (Nat.le_of_ble_eq_true rfl) ?_
  intro p e s m below meth c A ls hx hb hr hml hown hts hlk hK hE hA hP hD hS hl
  have hl : lv_has ls 2 [(0, .ref (ad 10)), (1, .int a1)] := hl
  unfold f_Tokens_kind at hM
  refine lv_iload_n hx hb dX2_kind_0 rfl (lv_at hl 1 rfl) ?_
  refine lv_if_lt (tgt := 28) hx hb dX2_kind_1 (by decide) (fun c1 => ?_) (fun c1 => ?_)
  · replace hM := if_t c1 hM
    refine lv_bipush (v := 6) hx hb dX2_kind_28 (by decide) ?_
    cases hM
    exact rt_i hx hb hr hlk hP hD hS rfl dX2_kind_30
  · replace hM := if_f c1 hM
    refine lv_iload_n hx hb dX2_kind_4 rfl (lv_at hl 1 rfl) ?_
    refine lv_aload_n hx hb dX2_kind_5 rfl (lv_at hl 0 rfl) ?_
    refine va_get (D := D) (ci := 2) (v := .int o_this.1) (C := RX2) (T := TX2) (N := 7) hx hb hts layX2 hown hK hP 0 rfl rfl 5 (by decide) (hts _ (inA q339)) (fun _ h9 => h9) rfl dX2_kind_6 ?_
    refine lv_icmp_ge (tgt := 28) hx hb dX2_kind_9 (by decide) (fun c2 => ?_) (fun c2 => ?_)
    · replace hM := if_t c2 hM
      refine lv_bipush (v := 6) hx hb dX2_kind_28 (by decide) ?_
      cases hM
      exact rt_i hx hb hr hlk hP hD hS rfl dX2_kind_30
    · replace hM := if_f c2 hM
      refine lv_iload_n hx hb dX2_kind_12 rfl (lv_at hl 1 rfl) ?_
      refine lv_sipush (v := 8193) hx hb dX2_kind_13 (by decide) ?_
      refine lv_icmp_ge (tgt := 28) hx hb dX2_kind_16 (by decide) (fun c3 => ?_) (fun c3 => ?_)
      · replace hM := if_t c3 hM
        refine lv_bipush (v := 6) hx hb dX2_kind_28 (by decide) ?_
        cases hM
        exact rt_i hx hb hr hlk hP hD hS rfl dX2_kind_30
      · replace hM := if_f c3 hM
        refine lv_aload_n hx hb dX2_kind_19 rfl (lv_at hl 0 rfl) ?_
        refine va_get (D := D) (ci := 2) (v := .ref (ad 11)) (C := RX2) (T := TX2) (N := 7) hx hb hts layX2 hown hK hP 0 rfl rfl 2 (by decide) (hts _ (inA q333)) (fun _ h9 => h9) rfl dX2_kind_20 ?_
        refine lv_iload_n hx hb dX2_kind_23 rfl (lv_at hl 1 rfl) ?_
        obtain ⟨b4, hM⟩ := gd_use hM
        refine va_iald hx hb hK hP 1 0 rfl rfl b4 dX2_kind_24 ?_
        refine lv_goto (tgt := 30) hx hb dX2_kind_25 (by decide) ?_
        cases hM
        exact rt_i hx hb hr hlk hP hD hS rfl dX2_kind_30

set_option maxHeartbeats 4000000 in
set_option maxRecDepth 100000 in
theorem c_Tokens_place (l : Launch) (D : va_G) (cI : ClassId) (sd : Nat → Nat) (ad : Nat → Nat) (o_this : S_Tokens) (a1 : Int32) (res : Int32) (hM : f_Tokens_place o_this a1 = some res) : Ctr l D cI sd yX2_place (wsM yX2_place cX2_place 2 (Option.some Jvm.ClassFile.FieldType.int)) { frames := 0, cells := 0, slots := 0, locals := 0 } [.ref (ad 10), .int a1] (wK cI ad o_this) (wK cI ad o_this) (some (.int res)) := by
  refine Ctr.of (cc := cX2_place) (maxL := 2) (own := RX2) (by decide +kernel) rfl rfl (Nat.le_of_ble_eq_true rfl) ?_
  intro p e s m below meth c A ls hx hb hr hml hown hts hlk hK hE hA hP hD hS hl
  have hl : lv_has ls 2 [(0, .ref (ad 10)), (1, .int a1)] := hl
  unfold f_Tokens_place at hM
  refine lv_iload_n hx hb dX2_place_0 rfl (lv_at hl 1 rfl) ?_
  refine lv_if_lt (tgt := 28) hx hb dX2_place_1 (by decide) (fun c1 => ?_) (fun c1 => ?_)
  · replace hM := if_t c1 hM
    refine lv_iconst (v := (-1)) hx hb dX2_place_28 (by decide) ?_
    cases hM
    exact rt_i hx hb hr hlk hP hD hS rfl dX2_place_29
  · replace hM := if_f c1 hM
    refine lv_iload_n hx hb dX2_place_4 rfl (lv_at hl 1 rfl) ?_
    refine lv_aload_n hx hb dX2_place_5 rfl (lv_at hl 0 rfl) ?_
    refine va_get (D := D) (ci := 2) (v := .int o_this.1) (C := RX2) (T := TX2) (N := 7) hx hb hts layX2 hown hK hP 0 rfl rfl 5 (by decide) (hts _ (inA q339)) (fun _ h9 => h9) rfl dX2_place_6 ?_
    refine lv_icmp_ge (tgt := 28) hx hb dX2_place_9 (by decide) (fun c2 => ?_) (fun c2 => ?_)
    · replace hM := if_t c2 hM
      refine lv_iconst (v := (-1)) hx hb dX2_place_28 (by decide) ?_
      cases hM
      exact rt_i hx hb hr hlk hP hD hS rfl dX2_place_29
    · replace hM := if_f c2 hM
      refine lv_iload_n hx hb dX2_place_12 rfl (lv_at hl 1 rfl) ?_
      refine lv_sipush (v := 8193) hx hb dX2_place_13 (by decide) ?_
      refine lv_icmp_ge (tgt := 28) hx hb dX2_place_16 (by decide) (fun c3 => ?_) (fun c3 => ?_)
      · replace hM := if_t c3 hM
        refine lv_iconst (v := (-1)) hx hb dX2_place_28 (by decide) ?_
        cases hM
        exact rt_i hx hb hr hlk hP hD hS rfl dX2_place_29
      · replace hM := if_f c3 hM
        refine lv_aload_n hx hb dX2_place_19 rfl (lv_at hl 0 rfl) ?_
        refine va_get (D := D) (ci := 2) (v := .ref (ad 12)) (C := RX2) (T := TX2) (N := 7) hx hb hts layX2 hown hK hP 0 rfl rfl 3 (by decide) (hts _ (inA q335)) (fun _ h9 => h9) rfl dX2_place_20 ?_
        refine lv_iload_n hx hb dX2_place_23 rfl (lv_at hl 1 rfl) ?_
        obtain ⟨b4, hM⟩ := gd_use hM
        refine va_iald hx hb hK hP 2 0 rfl rfl b4 dX2_place_24 ?_
        refine lv_goto (tgt := 29) hx hb dX2_place_25 (by decide) ?_
        cases hM
        exact rt_i hx hb hr hlk hP hD hS rfl dX2_place_29

set_option maxHeartbeats 4000000 in
set_option maxRecDepth 100000 in
theorem c_Tokens_value (l : Launch) (D : va_G) (cI : ClassId) (sd : Nat → Nat) (ad : Nat → Nat) (o_this : S_Tokens) (a1 : Int32) (res : Int32) (hM : f_Tokens_value o_this a1 = some res) : Ctr l D cI sd yX2_value (wsM yX2_value cX2_value 2 (Option.some Jvm.ClassFile.FieldType.int)) { frames := 0, cells := 0, slots := 0, locals := 0 } [.ref (ad 10), .int a1] (wK cI ad o_this) (wK cI ad o_this) (some (.int res)) := by
  refine Ctr.of (cc := cX2_value) (maxL := 2) (own := RX2) (by decide +kernel) rfl rfl (Nat.le_of_ble_eq_true rfl) ?_
  intro p e s m below meth c A ls hx hb hr hml hown hts hlk hK hE hA hP hD hS hl
  have hl : lv_has ls 2 [(0, .ref (ad 10)), (1, .int a1)] := hl
  unfold f_Tokens_value at hM
  refine lv_iload_n hx hb dX2_value_0 rfl (lv_at hl 1 rfl) ?_
  refine lv_if_lt (tgt := 28) hx hb dX2_value_1 (by decide) (fun c1 => ?_) (fun c1 => ?_)
  · replace hM := if_t c1 hM
    refine lv_iconst (v := 0) hx hb dX2_value_28 (by decide) ?_
    cases hM
    exact rt_i hx hb hr hlk hP hD hS rfl dX2_value_29
  · replace hM := if_f c1 hM
    refine lv_iload_n hx hb dX2_value_4 rfl (lv_at hl 1 rfl) ?_
    refine lv_aload_n hx hb dX2_value_5 rfl (lv_at hl 0 rfl) ?_
    refine va_get (D := D) (ci := 2) (v := .int o_this.1) (C := RX2) (T := TX2) (N := 7) hx hb hts layX2 hown hK hP 0 rfl rfl 5 (by decide) (hts _ (inA q339)) (fun _ h9 => h9) rfl dX2_value_6 ?_
    refine lv_icmp_ge (tgt := 28) hx hb dX2_value_9 (by decide) (fun c2 => ?_) (fun c2 => ?_)
    · replace hM := if_t c2 hM
      refine lv_iconst (v := 0) hx hb dX2_value_28 (by decide) ?_
      cases hM
      exact rt_i hx hb hr hlk hP hD hS rfl dX2_value_29
    · replace hM := if_f c2 hM
      refine lv_iload_n hx hb dX2_value_12 rfl (lv_at hl 1 rfl) ?_
      refine lv_sipush (v := 8193) hx hb dX2_value_13 (by decide) ?_
      refine lv_icmp_ge (tgt := 28) hx hb dX2_value_16 (by decide) (fun c3 => ?_) (fun c3 => ?_)
      · replace hM := if_t c3 hM
        refine lv_iconst (v := 0) hx hb dX2_value_28 (by decide) ?_
        cases hM
        exact rt_i hx hb hr hlk hP hD hS rfl dX2_value_29
      · replace hM := if_f c3 hM
        refine lv_aload_n hx hb dX2_value_19 rfl (lv_at hl 0 rfl) ?_
        refine va_get (D := D) (ci := 2) (v := .ref (ad 13)) (C := RX2) (T := TX2) (N := 7) hx hb hts layX2 hown hK hP 0 rfl rfl 4 (by decide) (hts _ (inA q337)) (fun _ h9 => h9) rfl dX2_value_20 ?_
        refine lv_iload_n hx hb dX2_value_23 rfl (lv_at hl 1 rfl) ?_
        obtain ⟨b4, hM⟩ := gd_use hM
        refine va_iald hx hb hK hP 3 0 rfl rfl b4 dX2_value_24 ?_
        refine lv_goto (tgt := 29) hx hb dX2_value_25 (by decide) ?_
        cases hM
        exact rt_i hx hb hr hlk hP hD hS rfl dX2_value_29

set_option maxHeartbeats 4000000 in
set_option maxRecDepth 100000 in
theorem c_Tokens_add (l : Launch) (D : va_G) (cI : ClassId) (sd : Nat → Nat) (ad : Nat → Nat) (o_this : S_Tokens) (a1 : Int32) (a2 : Int32) (a3 : Int32) (res : S_Tokens) (hM : f_Tokens_add o_this a1 a2 a3 = some res) : Ctr l D cI sd yX2_add (wsM yX2_add cX2_add 4 (Option.none : Option Jvm.ClassFile.FieldType)) { frames := 0, cells := 0, slots := 0, locals := 0 } [.ref (ad 10), .int a1, .int a2, .int a3] (wK cI ad o_this) (wK cI ad res) none := by
  refine Ctr.of (cc := cX2_add) (maxL := 4) (own := RX2) (by decide +kernel) rfl rfl (Nat.le_of_ble_eq_true rfl) ?_
  intro p e s m below meth c A ls hx hb hr hml hown hts hlk hK hE hA hP hD hS hl
  have hl : lv_has ls 4 [(0, .ref (ad 10)), (1, .int a1), (2, .int a2), (3, .int a3)] := hl
  unfold f_Tokens_add at hM
  refine lv_aload_n hx hb dX2_add_0 rfl (lv_at hl 0 rfl) ?_
  refine va_get (D := D) (ci := 2) (v := .int o_this.1) (C := RX2) (T := TX2) (N := 7) hx hb hts layX2 hown hK hP 0 rfl rfl 5 (by decide) (hts _ (inA q339)) (fun _ h9 => h9) rfl dX2_add_1 ?_
  refine lv_if_lt (tgt := 57) hx hb dX2_add_4 (by decide) (fun c1 => ?_) (fun c1 => ?_)
  · replace hM := if_t c1 hM
    cases hM
    exact rt_v hx hb hr hlk hP hD hS rfl dX2_add_57
  · replace hM := if_f c1 hM
    refine lv_aload_n hx hb dX2_add_7 rfl (lv_at hl 0 rfl) ?_
    refine va_get (D := D) (ci := 2) (v := .int o_this.1) (C := RX2) (T := TX2) (N := 7) hx hb hts layX2 hown hK hP 0 rfl rfl 5 (by decide) (hts _ (inA q339)) (fun _ h9 => h9) rfl dX2_add_8 ?_
    refine lv_sipush (v := 8193) hx hb dX2_add_11 (by decide) ?_
    refine lv_icmp_ge (tgt := 57) hx hb dX2_add_14 (by decide) (fun c2 => ?_) (fun c2 => ?_)
    · replace hM := if_t c2 hM
      cases hM
      exact rt_v hx hb hr hlk hP hD hS rfl dX2_add_57
    · replace hM := if_f c2 hM
      refine lv_aload_n hx hb dX2_add_17 rfl (lv_at hl 0 rfl) ?_
      refine va_get (D := D) (ci := 2) (v := .ref (ad 11)) (C := RX2) (T := TX2) (N := 7) hx hb hts layX2 hown hK hP 0 rfl rfl 2 (by decide) (hts _ (inA q333)) (fun _ h9 => h9) rfl dX2_add_18 ?_
      refine lv_aload_n hx hb dX2_add_21 rfl (lv_at hl 0 rfl) ?_
      refine va_get (D := D) (ci := 2) (v := .int o_this.1) (C := RX2) (T := TX2) (N := 7) hx hb hts layX2 hown hK hP 0 rfl rfl 5 (by decide) (hts _ (inA q339)) (fun _ h9 => h9) rfl dX2_add_22 ?_
      refine lv_iload_n hx hb dX2_add_25 rfl (lv_at hl 1 rfl) ?_
      obtain ⟨b3, hM⟩ := gd_use hM
      refine va_iast hx hb hK hP hD hS 1 0 rfl rfl b3 dX2_add_26 (fun H locs hP hD hS => ?_)
      have hP : va_P D vwCl (wK cI ad (o_this.1, o_this.2.1, upd o_this.2.2.1 o_this.1.toNatClampNeg a1, o_this.2.2.2)) H := hP
      have hD : va_D A (wK cI ad (o_this.1, o_this.2.1, upd o_this.2.2.1 o_this.1.toNatClampNeg a1, o_this.2.2.2)) := hD
      refine lv_aload_n hx hb dX2_add_27 rfl (lv_at hl 0 rfl) ?_
      refine va_get (D := D) (ci := 2) (v := .ref (ad 12)) (C := RX2) (T := TX2) (N := 7) hx hb hts layX2 hown hK hP 0 rfl rfl 3 (by decide) (hts _ (inA q335)) (fun _ h9 => h9) rfl dX2_add_28 ?_
      refine lv_aload_n hx hb dX2_add_31 rfl (lv_at hl 0 rfl) ?_
      refine va_get (D := D) (ci := 2) (v := .int o_this.1) (C := RX2) (T := TX2) (N := 7) hx hb hts layX2 hown hK hP 0 rfl rfl 5 (by decide) (hts _ (inA q339)) (fun _ h9 => h9) rfl dX2_add_32 ?_
      refine lv_iload_n hx hb dX2_add_35 rfl (lv_at hl 2 rfl) ?_
      obtain ⟨b4, hM⟩ := gd_use hM
      refine va_iast hx hb hK hP hD hS 2 0 rfl rfl b4 dX2_add_36 (fun H locs hP hD hS => ?_)
      have hP : va_P D vwCl (wK cI ad (o_this.1, o_this.2.1, upd o_this.2.2.1 o_this.1.toNatClampNeg a1, upd o_this.2.2.2.1 o_this.1.toNatClampNeg a2, o_this.2.2.2.2)) H := hP
      have hD : va_D A (wK cI ad (o_this.1, o_this.2.1, upd o_this.2.2.1 o_this.1.toNatClampNeg a1, upd o_this.2.2.2.1 o_this.1.toNatClampNeg a2, o_this.2.2.2.2)) := hD
      refine lv_aload_n hx hb dX2_add_37 rfl (lv_at hl 0 rfl) ?_
      refine va_get (D := D) (ci := 2) (v := .ref (ad 13)) (C := RX2) (T := TX2) (N := 7) hx hb hts layX2 hown hK hP 0 rfl rfl 4 (by decide) (hts _ (inA q337)) (fun _ h9 => h9) rfl dX2_add_38 ?_
      refine lv_aload_n hx hb dX2_add_41 rfl (lv_at hl 0 rfl) ?_
      refine va_get (D := D) (ci := 2) (v := .int o_this.1) (C := RX2) (T := TX2) (N := 7) hx hb hts layX2 hown hK hP 0 rfl rfl 5 (by decide) (hts _ (inA q339)) (fun _ h9 => h9) rfl dX2_add_42 ?_
      refine lv_iload_n hx hb dX2_add_45 rfl (lv_at hl 3 rfl) ?_
      obtain ⟨b5, hM⟩ := gd_use hM
      refine va_iast hx hb hK hP hD hS 3 0 rfl rfl b5 dX2_add_46 (fun H locs hP hD hS => ?_)
      have hP : va_P D vwCl (wK cI ad (o_this.1, o_this.2.1, upd o_this.2.2.1 o_this.1.toNatClampNeg a1, upd o_this.2.2.2.1 o_this.1.toNatClampNeg a2, upd o_this.2.2.2.2 o_this.1.toNatClampNeg a3)) H := hP
      have hD : va_D A (wK cI ad (o_this.1, o_this.2.1, upd o_this.2.2.1 o_this.1.toNatClampNeg a1, upd o_this.2.2.2.1 o_this.1.toNatClampNeg a2, upd o_this.2.2.2.2 o_this.1.toNatClampNeg a3)) := hD
      refine lv_aload_n hx hb dX2_add_47 rfl (lv_at hl 0 rfl) ?_
      refine lv_dup hx hb dX2_add_48 rfl ?_
      refine va_get (D := D) (ci := 2) (v := .int o_this.1) (C := RX2) (T := TX2) (N := 7) hx hb hts layX2 hown hK hP 0 rfl rfl 5 (by decide) (hts _ (inA q339)) (fun _ h9 => h9) rfl dX2_add_49 ?_
      refine lv_iconst (v := 1) hx hb dX2_add_52 (by decide) ?_
      refine lv_iadd hx hb dX2_add_53 ?_
      refine va_put (D := D) (ci := 2) (v := .int (o_this.1 + 1)) (ty := .int) (C := RX2) (T := TX2) (N := 7) hx hb hts layX2 tyX2 tyX2_ok nmX2 hown hK hP hD hS 0 rfl rfl 5 (by decide) (hts _ (inA q339)) (fun _ h9 => h9) rfl (by decide +kernel) rfl rfl (Nat.le_of_ble_eq_true rfl) dX2_add_54 (fun H locs hP hD hS => ?_)
      have hP : va_P D vwCl (wK cI ad (o_this.1 + 1, o_this.2.1, upd o_this.2.2.1 o_this.1.toNatClampNeg a1, upd o_this.2.2.2.1 o_this.1.toNatClampNeg a2, upd o_this.2.2.2.2 o_this.1.toNatClampNeg a3)) H := hP
      have hD : va_D A (wK cI ad (o_this.1 + 1, o_this.2.1, upd o_this.2.2.1 o_this.1.toNatClampNeg a1, upd o_this.2.2.2.1 o_this.1.toNatClampNeg a2, upd o_this.2.2.2.2 o_this.1.toNatClampNeg a3)) := hD
      cases hM
      exact rt_v hx hb hr hlk hP hD hS rfl dX2_add_57

set_option maxHeartbeats 4000000 in
set_option maxRecDepth 100000 in
theorem c_Tokens_scanName (l : Launch) (D : va_G) (cI : ClassId) (sd : Nat → Nat) (ad : Nat → Nat) (o_this : S_Tokens) (o_text : S_Bytes) (o_names : S_Names) (res : S_Tokens × S_Names) (hM : f_Tokens_scanName o_this o_text o_names = some res) : Ctr l D cI sd yX2_scanName (wsM yX2_scanName cX2_scanName 3 (Option.none : Option Jvm.ClassFile.FieldType)) { frames := 3, cells := 0, slots := 0, locals := 69 } [.ref (ad 10)] (w_Tokens_this_text_names cI ad o_this o_text o_names) (w_Tokens_this_text_names cI ad res.1 o_text res.2) none := by
  refine Ctr.of (cc := cX2_scanName) (maxL := 3) (own := RX2) (by decide +kernel) rfl rfl (Nat.le_of_ble_eq_true rfl) ?_
  intro p e s m below meth c A ls hx hb hr hml hown hts hlk hK hE hA hP hD hS hl
  have hl : lv_has ls 3 [(0, .ref (ad 10))] := hl
  unfold f_Tokens_scanName at hM
  refine lv_aload_n hx hb dX2_scanName_0 rfl (lv_at hl 0 rfl) ?_
  refine va_get (D := D) (ci := 2) (v := .int o_this.2.1) (C := RX2) (T := TX2) (N := 7) hx hb hts layX2 hown hK hP 0 rfl rfl 6 (by decide) (hts _ (inA q341)) (fun _ h9 => h9) rfl dX2_scanName_1 ?_
  refine lv_istore_n (lv' := [(1, .int o_this.2.1), (0, .ref (ad 10))]) hx hb dX2_scanName_4 rfl hl (by decide) rfl (fun ls hl => ?_)
  refine lv_iconst (v := 0) hx hb dX2_scanName_5 (by decide) ?_
  refine lv_istore_n (lv' := [(2, .int 0), (1, .int o_this.2.1), (0, .ref (ad 10))]) hx hb dX2_scanName_6 rfl hl (by decide) rfl (fun ls hl => ?_)
  have lp_L7 : ∀ (w1_L7 : Int32) (o_text_L7 : S_Bytes) (o_names_L7 : S_Names) (n : Nat) (v2_L7 : Int32) (o_this_L7 : S_Tokens) (out_L7 : S_Tokens) (H : Heap) (locs : List Loc) (ls : Array Slot), f_Tokens_scanName_L7 o_text_L7 n v2_L7 o_this_L7 = some out_L7 → va_P D vwCl (w_Tokens_this_text_names cI ad o_this_L7 o_text_L7 o_names_L7) H → va_D A (w_Tokens_this_text_names cI ad o_this_L7 o_text_L7 o_names_L7) → va_S A s.heap H locs → lv_has ls 3 [(2, .int v2_L7), (1, .int w1_L7), (0, .ref (ad 10))] → (∀ (H : Heap) (locs : List Loc) (ls : Array Slot), va_P D vwCl (w_Tokens_this_text_names cI ad out_L7 o_text_L7 o_names_L7) H → va_D A (w_Tokens_this_text_names cI ad out_L7 o_text_L7 o_names_L7) → va_S A s.heap H locs → lv_has ls 3 [(1, .int w1_L7), (0, .ref (ad 10))] → W p l e { frames := 3, cells := 0, slots := 0, locals := 69 } s m [.ref (ad 10)].toArray below meth c H locs 0 0 (MQ below (CQ D A (w_Tokens_this_text_names cI ad res.1 o_text res.2) none) [.ref (ad 10)].toArray s 0 0 A) (F0 m 47 ls [])) → W p l e { frames := 3, cells := 0, slots := 0, locals := 69 } s m [.ref (ad 10)].toArray below meth c H locs 0 0 (MQ below (CQ D A (w_Tokens_this_text_names cI ad res.1 o_text res.2) none) [.ref (ad 10)].toArray s 0 0 A) (F0 m 7 ls []) := by
    intro w1_L7 o_text_L7 o_names_L7 n
    induction n with
    | zero => intro v2_L7 o_this_L7 out_L7 H locs ls hM; exact absurd (show none = some _ from hM) (by simp)
    | succ n ih_L7 =>
      intro v2_L7 o_this_L7 out_L7 H locs ls hM hP hD hS hl kx_L7
      rw [f_Tokens_scanName_L7] at hM
      refine lv_iload_n hx hb dX2_scanName_7 rfl (lv_at hl 0 rfl) ?_
      refine lv_sipush (v := 8192) hx hb dX2_scanName_8 (by decide) ?_
      refine lv_icmp_ge (tgt := 47) hx hb dX2_scanName_11 (by decide) (fun c1171 => ?_) (fun c1171 => ?_)
      · replace hM := if_t c1171 hM
        cases hM
        exact kx_L7 _ _ _ hP hD hS (lv_sub hl [1, 2] rfl)
      · replace hM := if_f c1171 hM
        refine lv_aload_n hx hb dX2_scanName_14 rfl (lv_at hl 2 rfl) ?_
        refine va_get (D := D) (ci := 2) (v := .ref (ad 1)) (C := RX2) (T := TX2) (N := 7) hx hb hts layX2 hown hK hP 0 rfl rfl 0 (by decide) (hts _ (inA q331)) (fun _ h9 => h9) rfl dX2_scanName_15 ?_
        refine lv_aload_n hx hb dX2_scanName_18 rfl (lv_at hl 2 rfl) ?_
        refine va_get (D := D) (ci := 2) (v := .int o_this_L7.2.1) (C := RX2) (T := TX2) (N := 7) hx hb hts layX2 hown hK hP 0 rfl rfl 6 (by decide) (hts _ (inA q341)) (fun _ h9 => h9) rfl dX2_scanName_19 ?_
        obtain ⟨r1172, hcr1172, hM⟩ := ob_use hM
        refine cl_V (As := [.int o_this_L7.2.1]) (rest := []) (w_Tokens_this_text_names cI ad o_this_L7 o_text_L7 o_names_L7) (.int r1172 :: []) ⟨hx, hb, hml, hown, hts⟩ (c_Bytes_get l D cI sd (ad 1) (ad 2) 8192 o_text_L7 o_this_L7.2.1 r1172 hcr1172) (cwV2 hts q530 mvX0_get rfl rfl ⟨(Nat.le_of_ble_eq_true rfl), (Nat.le_of_ble_eq_true rfl)⟩) hK hE hA hP hD hS 4 (T := TX0) (N := 2) (ci := 0) rfl rfl [4, 5] rfl (by decide) rfl rfl rfl rfl rfl rfl hl.1 (Nat.le_of_ble_eq_true rfl) dX2_scanName_22 ⟨Nat.zero_le _, Nat.zero_le _⟩ (fun H locs hP hD hS => ?_)
        obtain ⟨r1173, hcr1173, hM⟩ := ob_use hM
        refine cl_SN (As := [.int r1172]) (rest := []) (w_Tokens_this_text_names cI ad o_this_L7 o_text_L7 o_names_L7) (.int r1173 :: []) ⟨hx, hb, hml, hown, hts⟩ (c_Top_isNameByte l D cI sd ad r1172 r1173 hcr1173) (cwSN2 hts (nmE4 hE) mvX6_isNameByte rfl rfl ⟨(Nat.le_of_ble_eq_true rfl), (Nat.le_of_ble_eq_true rfl)⟩) hK hE hA hP hD hS [] rfl (by decide) rfl rfl rfl rfl rfl rfl hl.1 (Nat.le_of_ble_eq_true rfl) dX2_scanName_25 ⟨Nat.zero_le _, Nat.zero_le _⟩ (fun H locs hP hD hS => ?_)
        refine lv_if_eq (tgt := 47) hx hb dX2_scanName_28 (by decide) (fun c1174 => ?_) (fun c1174 => ?_)
        · replace hM := if_t c1174 hM
          cases hM
          exact kx_L7 _ _ _ hP hD hS (lv_sub hl [1, 2] rfl)
        · replace hM := if_f c1174 hM
          refine lv_aload_n hx hb dX2_scanName_31 rfl (lv_at hl 2 rfl) ?_
          refine lv_dup hx hb dX2_scanName_32 rfl ?_
          refine va_get (D := D) (ci := 2) (v := .int o_this_L7.2.1) (C := RX2) (T := TX2) (N := 7) hx hb hts layX2 hown hK hP 0 rfl rfl 6 (by decide) (hts _ (inA q341)) (fun _ h9 => h9) rfl dX2_scanName_33 ?_
          refine lv_iconst (v := 1) hx hb dX2_scanName_36 (by decide) ?_
          refine lv_iadd hx hb dX2_scanName_37 ?_
          refine va_put (D := D) (ci := 2) (v := .int (o_this_L7.2.1 + 1)) (ty := .int) (C := RX2) (T := TX2) (N := 7) hx hb hts layX2 tyX2 tyX2_ok nmX2 hown hK hP hD hS 0 rfl rfl 6 (by decide) (hts _ (inA q341)) (fun _ h9 => h9) rfl (by decide +kernel) rfl rfl (Nat.le_of_ble_eq_true rfl) dX2_scanName_38 (fun H locs hP hD hS => ?_)
          have hP : va_P D vwCl (w_Tokens_this_text_names cI ad (o_this_L7.1, o_this_L7.2.1 + 1, o_this_L7.2.2) o_text_L7 o_names_L7) H := hP
          have hD : va_D A (w_Tokens_this_text_names cI ad (o_this_L7.1, o_this_L7.2.1 + 1, o_this_L7.2.2) o_text_L7 o_names_L7) := hD
          obtain ⟨x1175, ex1175⟩ : ∃ y : Int32, y = v2_L7 + 1 := ⟨_, rfl⟩
          replace hM := nm_use ex1175 hM
          refine lv_iinc (v := x1175) (lv' := [(2, .int x1175), (1, .int w1_L7), (0, .ref (ad 10))]) hx hb dX2_scanName_41 hl (k := 0) rfl (by rw [ex1175]; rfl) (by decide) rfl (fun ls hl => ?_)
          refine lv_goto (tgt := 7) hx hb dX2_scanName_44 (by decide) ?_
          exact ih_L7 x1175 (o_this_L7.1, o_this_L7.2.1 + 1, o_this_L7.2.2) out_L7 _ _ _ hM hP hD hS (lv_sub hl [0, 1, 2] rfl) kx_L7
  obtain ⟨r1, hcr1, hM⟩ := ob_use hM
  refine lp_L7 o_this.2.1 o_text o_names FU 0 o_this r1 _ _ _ hcr1 hP hD hS (lv_sub hl [0, 1, 2] rfl) (fun H locs ls hP hD hS hl => ?_)
  refine lv_aload_n hx hb dX2_scanName_47 rfl (lv_at hl 1 rfl) ?_
  refine va_get (D := D) (ci := 2) (v := .int r1.2.1) (C := RX2) (T := TX2) (N := 7) hx hb hts layX2 hown hK hP 0 rfl rfl 6 (by decide) (hts _ (inA q341)) (fun _ h9 => h9) rfl dX2_scanName_48 ?_
  refine lv_iload_n hx hb dX2_scanName_51 rfl (lv_at hl 0 rfl) ?_
  refine lv_isub hx hb dX2_scanName_52 ?_
  refine lv_bipush (v := 32) hx hb dX2_scanName_53 (by decide) ?_
  refine lv_icmp_le (tgt := 66) hx hb dX2_scanName_55 (by decide) (fun c2 => ?_) (fun c2 => ?_)
  · replace hM := if_t c2 hM
    refine lv_iload_n hx hb dX2_scanName_66 rfl (lv_at hl 0 rfl) ?_
    refine lv_istore_n (lv' := [(2, .int o_this.2.1), (1, .int o_this.2.1), (0, .ref (ad 10))]) hx hb dX2_scanName_67 rfl hl (by decide) rfl (fun ls hl => ?_)
    have lp_L68 : ∀ (w1_L68 : Int32) (o_this_L68 : S_Tokens) (o_text_L68 : S_Bytes) (n : Nat) (v2_L68 : Int32) (o_names_L68 : S_Names) (out_L68 : S_Names) (H : Heap) (locs : List Loc) (ls : Array Slot), f_Tokens_scanName_L68 o_this_L68 o_text_L68 n v2_L68 o_names_L68 = some out_L68 → va_P D vwCl (w_Tokens_this_text_names cI ad o_this_L68 o_text_L68 o_names_L68) H → va_D A (w_Tokens_this_text_names cI ad o_this_L68 o_text_L68 o_names_L68) → va_S A s.heap H locs → lv_has ls 3 [(2, .int v2_L68), (1, .int w1_L68), (0, .ref (ad 10))] → (∀ (H : Heap) (locs : List Loc) (ls : Array Slot), va_P D vwCl (w_Tokens_this_text_names cI ad o_this_L68 o_text_L68 out_L68) H → va_D A (w_Tokens_this_text_names cI ad o_this_L68 o_text_L68 out_L68) → va_S A s.heap H locs → lv_has ls 3 [(1, .int w1_L68), (0, .ref (ad 10))] → W p l e { frames := 3, cells := 0, slots := 0, locals := 69 } s m [.ref (ad 10)].toArray below meth c H locs 0 0 (MQ below (CQ D A (w_Tokens_this_text_names cI ad res.1 o_text res.2) none) [.ref (ad 10)].toArray s 0 0 A) (F0 m 97 ls [])) → W p l e { frames := 3, cells := 0, slots := 0, locals := 69 } s m [.ref (ad 10)].toArray below meth c H locs 0 0 (MQ below (CQ D A (w_Tokens_this_text_names cI ad res.1 o_text res.2) none) [.ref (ad 10)].toArray s 0 0 A) (F0 m 68 ls []) := by
      intro w1_L68 o_this_L68 o_text_L68 n
      induction n with
      | zero => intro v2_L68 o_names_L68 out_L68 H locs ls hM; exact absurd (show none = some _ from hM) (by simp)
      | succ n ih_L68 =>
        intro v2_L68 o_names_L68 out_L68 H locs ls hM hP hD hS hl kx_L68
        rw [f_Tokens_scanName_L68] at hM
        refine lv_iload_n hx hb dX2_scanName_68 rfl (lv_at hl 0 rfl) ?_
        refine lv_aload_n hx hb dX2_scanName_69 rfl (lv_at hl 2 rfl) ?_
        refine va_get (D := D) (ci := 2) (v := .int o_this_L68.2.1) (C := RX2) (T := TX2) (N := 7) hx hb hts layX2 hown hK hP 0 rfl rfl 6 (by decide) (hts _ (inA q341)) (fun _ h9 => h9) rfl dX2_scanName_70 ?_
        refine lv_icmp_ge (tgt := 97) hx hb dX2_scanName_73 (by decide) (fun c1781 => ?_) (fun c1781 => ?_)
        · replace hM := if_t c1781 hM
          cases hM
          exact kx_L68 _ _ _ hP hD hS (lv_sub hl [1, 2] rfl)
        · replace hM := if_f c1781 hM
          refine lv_aload_n hx hb dX2_scanName_76 rfl (lv_at hl 2 rfl) ?_
          refine va_get (D := D) (ci := 2) (v := .ref (ad 5)) (C := RX2) (T := TX2) (N := 7) hx hb hts layX2 hown hK hP 0 rfl rfl 1 (by decide) (hts _ (inA q332)) (fun _ h9 => h9) rfl dX2_scanName_77 ?_
          refine lv_aload_n hx hb dX2_scanName_80 rfl (lv_at hl 2 rfl) ?_
          refine va_get (D := D) (ci := 2) (v := .ref (ad 1)) (C := RX2) (T := TX2) (N := 7) hx hb hts layX2 hown hK hP 0 rfl rfl 0 (by decide) (hts _ (inA q331)) (fun _ h9 => h9) rfl dX2_scanName_81 ?_
          refine lv_iload_n hx hb dX2_scanName_84 rfl (lv_at hl 0 rfl) ?_
          obtain ⟨r1782, hcr1782, hM⟩ := ob_use hM
          refine cl_V (As := [.int v2_L68]) (rest := [.ref (ad 5)]) (w_Tokens_this_text_names cI ad o_this_L68 o_text_L68 o_names_L68) (.int r1782 :: [.ref (ad 5)]) ⟨hx, hb, hml, hown, hts⟩ (c_Bytes_get l D cI sd (ad 1) (ad 2) 8192 o_text_L68 v2_L68 r1782 hcr1782) (cwV2 hts q530 mvX0_get rfl rfl ⟨(Nat.le_of_ble_eq_true rfl), (Nat.le_of_ble_eq_true rfl)⟩) hK hE hA hP hD hS 4 (T := TX0) (N := 2) (ci := 0) rfl rfl [4, 5] rfl (by decide) rfl rfl rfl rfl rfl rfl hl.1 (Nat.le_of_ble_eq_true rfl) dX2_scanName_85 ⟨Nat.zero_le _, Nat.zero_le _⟩ (fun H locs hP hD hS => ?_)
          obtain ⟨r1783, hcr1783, hM⟩ := ob_use hM
          refine cl_V (As := [.int r1782]) (rest := []) (w_Tokens_this_text_names cI ad o_this_L68 o_text_L68 r1783) [] ⟨hx, hb, hml, hown, hts⟩ (c_Names_addLetter l D cI sd ad o_names_L68 r1782 r1783 hcr1783) (cwV2 hts q584 mvX1_addLetter rfl rfl ⟨(Nat.le_of_ble_eq_true rfl), (Nat.le_of_ble_eq_true rfl)⟩) hK hE hA hP hD hS 6 (T := TX1) (N := 6) (ci := 1) rfl rfl [6, 7, 8, 9, 10] rfl (by decide) rfl rfl rfl rfl rfl rfl hl.1 (Nat.le_of_ble_eq_true rfl) dX2_scanName_88 ⟨Nat.zero_le _, Nat.zero_le _⟩ (fun H locs hP hD hS => ?_)
          obtain ⟨x1784, ex1784⟩ : ∃ y : Int32, y = v2_L68 + 1 := ⟨_, rfl⟩
          replace hM := nm_use ex1784 hM
          refine lv_iinc (v := x1784) (lv' := [(2, .int x1784), (1, .int w1_L68), (0, .ref (ad 10))]) hx hb dX2_scanName_91 hl (k := 0) rfl (by rw [ex1784]; rfl) (by decide) rfl (fun ls hl => ?_)
          refine lv_goto (tgt := 68) hx hb dX2_scanName_94 (by decide) ?_
          exact ih_L68 x1784 r1783 out_L68 _ _ _ hM hP hD hS (lv_sub hl [0, 1, 2] rfl) kx_L68
    obtain ⟨r3, hcr3, hM⟩ := ob_use hM
    refine lp_L68 o_this.2.1 r1 o_text FU o_this.2.1 o_names r3 _ _ _ hcr3 hP hD hS (lv_sub hl [0, 1, 2] rfl) (fun H locs ls hP hD hS hl => ?_)
    refine lv_aload_n hx hb dX2_scanName_97 rfl (lv_at hl 1 rfl) ?_
    refine va_get (D := D) (ci := 2) (v := .ref (ad 5)) (C := RX2) (T := TX2) (N := 7) hx hb hts layX2 hown hK hP 0 rfl rfl 1 (by decide) (hts _ (inA q332)) (fun _ h9 => h9) rfl dX2_scanName_98 ?_
    obtain ⟨r4, hcr4, hM⟩ := ob_use hM
    refine cl_V (As := []) (rest := []) (w_Tokens_this_text_names cI ad r1 o_text r4.2) (.int r4.1 :: []) ⟨hx, hb, hml, hown, hts⟩ (c_Names_number l D cI sd ad r3 r4 hcr4) (cwV2 hts q585 mvX1_number rfl rfl ⟨(Nat.le_of_ble_eq_true rfl), (Nat.le_of_ble_eq_true rfl)⟩) hK hE hA hP hD hS 6 (T := TX1) (N := 6) (ci := 1) rfl rfl [6, 7, 8, 9, 10] rfl (by decide) rfl rfl rfl rfl rfl rfl hl.1 (Nat.le_of_ble_eq_true rfl) dX2_scanName_101 ⟨Nat.zero_le _, Nat.zero_le _⟩ (fun H locs hP hD hS => ?_)
    refine lv_istore_n (lv' := [(2, .int r4.1), (1, .int o_this.2.1), (0, .ref (ad 10))]) hx hb dX2_scanName_104 rfl hl (by decide) rfl (fun ls hl => ?_)
    refine lv_iload_n hx hb dX2_scanName_105 rfl (lv_at hl 0 rfl) ?_
    refine lv_bipush (v := 41) hx hb dX2_scanName_106 (by decide) ?_
    refine lv_icmp_ge (tgt := 125) hx hb dX2_scanName_108 (by decide) (fun c5 => ?_) (fun c5 => ?_)
    · replace hM := if_t c5 hM
      refine lv_aload_n hx hb dX2_scanName_125 rfl (lv_at hl 2 rfl) ?_
      refine lv_iconst (v := 1) hx hb dX2_scanName_126 (by decide) ?_
      refine lv_iload_n hx hb dX2_scanName_127 rfl (lv_at hl 1 rfl) ?_
      refine lv_iload_n hx hb dX2_scanName_128 rfl (lv_at hl 0 rfl) ?_
      refine lv_bipush (v := 41) hx hb dX2_scanName_129 (by decide) ?_
      refine lv_isub hx hb dX2_scanName_131 ?_
      obtain ⟨r6, hcr6, hM⟩ := ob_use hM
      refine cl_V (As := [.int 1, .int o_this.2.1, .int (r4.1 - 41)]) (rest := []) (w_Tokens_this_text_names cI ad r6 o_text r4.2) [] ⟨hx, hb, hml, hown, hts⟩ (c_Tokens_add l D cI sd ad r1 1 o_this.2.1 (r4.1 - 41) r6 hcr6) (cwV2 hts q535 mvX2_add rfl rfl ⟨(Nat.le_of_ble_eq_true rfl), (Nat.le_of_ble_eq_true rfl)⟩) hK hE hA hP hD hS 0 (T := TX2) (N := 7) (ci := 2) rfl rfl [0, 1, 2, 3] rfl (by decide) rfl rfl rfl rfl rfl rfl hl.1 (Nat.le_of_ble_eq_true rfl) dX2_scanName_132 ⟨Nat.zero_le _, Nat.zero_le _⟩ (fun H locs hP hD hS => ?_)
      cases hM
      exact rt_v hx hb hr hlk hP hD hS rfl dX2_scanName_135
    · replace hM := if_f c5 hM
      refine lv_aload_n hx hb dX2_scanName_111 rfl (lv_at hl 2 rfl) ?_
      refine lv_sipush (v := 256) hx hb dX2_scanName_112 (by decide) ?_
      refine lv_iload_n hx hb dX2_scanName_115 rfl (lv_at hl 0 rfl) ?_
      refine lv_iadd hx hb dX2_scanName_116 ?_
      refine lv_iload_n hx hb dX2_scanName_117 rfl (lv_at hl 1 rfl) ?_
      refine lv_iconst (v := 0) hx hb dX2_scanName_118 (by decide) ?_
      obtain ⟨r7, hcr7, hM⟩ := ob_use hM
      refine cl_V (As := [.int (256 + r4.1), .int o_this.2.1, .int 0]) (rest := []) (w_Tokens_this_text_names cI ad r7 o_text r4.2) [] ⟨hx, hb, hml, hown, hts⟩ (c_Tokens_add l D cI sd ad r1 (256 + r4.1) o_this.2.1 0 r7 hcr7) (cwV2 hts q535 mvX2_add rfl rfl ⟨(Nat.le_of_ble_eq_true rfl), (Nat.le_of_ble_eq_true rfl)⟩) hK hE hA hP hD hS 0 (T := TX2) (N := 7) (ci := 2) rfl rfl [0, 1, 2, 3] rfl (by decide) rfl rfl rfl rfl rfl rfl hl.1 (Nat.le_of_ble_eq_true rfl) dX2_scanName_119 ⟨Nat.zero_le _, Nat.zero_le _⟩ (fun H locs hP hD hS => ?_)
      refine lv_goto (tgt := 135) hx hb dX2_scanName_122 (by decide) ?_
      cases hM
      exact rt_v hx hb hr hlk hP hD hS rfl dX2_scanName_135
  · replace hM := if_f c2 hM
    refine lv_aload_n hx hb dX2_scanName_58 rfl (lv_at hl 1 rfl) ?_
    refine lv_iconst (v := 5) hx hb dX2_scanName_59 (by decide) ?_
    refine lv_iload_n hx hb dX2_scanName_60 rfl (lv_at hl 0 rfl) ?_
    refine lv_iconst (v := 3) hx hb dX2_scanName_61 (by decide) ?_
    obtain ⟨r8, hcr8, hM⟩ := ob_use hM
    refine cl_V (As := [.int 5, .int o_this.2.1, .int 3]) (rest := []) (w_Tokens_this_text_names cI ad r8 o_text o_names) [] ⟨hx, hb, hml, hown, hts⟩ (c_Tokens_add l D cI sd ad r1 5 o_this.2.1 3 r8 hcr8) (cwV2 hts q535 mvX2_add rfl rfl ⟨(Nat.le_of_ble_eq_true rfl), (Nat.le_of_ble_eq_true rfl)⟩) hK hE hA hP hD hS 0 (T := TX2) (N := 7) (ci := 2) rfl rfl [0, 1, 2, 3] rfl (by decide) rfl rfl rfl rfl rfl rfl hl.1 (Nat.le_of_ble_eq_true rfl) dX2_scanName_62 ⟨Nat.zero_le _, Nat.zero_le _⟩ (fun H locs hP hD hS => ?_)
    cases hM
    exact rt_v hx hb hr hlk hP hD hS rfl dX2_scanName_65

set_option maxHeartbeats 4000000 in
set_option maxRecDepth 100000 in
theorem c_Tokens_addNumber (l : Launch) (D : va_G) (cI : ClassId) (sd : Nat → Nat) (ad : Nat → Nat) (o_this : S_Tokens) (o_text : S_Bytes) (a1 : Int32) (a2 : Int64) (res : S_Tokens) (hM : f_Tokens_addNumber o_this o_text a1 a2 = some res) : Ctr l D cI sd yX2_addNumber (wsM yX2_addNumber cX2_addNumber 4 (Option.none : Option Jvm.ClassFile.FieldType)) { frames := 1, cells := 0, slots := 0, locals := 23 } [.ref (ad 10), .int a1, .long a2] (w_Tokens_this_text cI ad o_this o_text) (w_Tokens_this_text cI ad res o_text) none := by
  refine Ctr.of (cc := cX2_addNumber) (maxL := 4) (own := RX2) (by decide +kernel) rfl rfl (Nat.le_of_ble_eq_true rfl) ?_
  intro p e s m below meth c A ls hx hb hr hml hown hts hlk hK hE hA hP hD hS hl
  have hl : lv_has ls 4 [(0, .ref (ad 10)), (1, .int a1), (2, .long a2)] := hl
  unfold f_Tokens_addNumber at hM
  refine lv_lload_n hx hb dX2_addNumber_0 rfl (lv_at hl 2 rfl) ?_
  refine lv_lconst (v := 0) hx hb dX2_addNumber_1 (by decide) ?_
  refine W.lcmp hx hb dX2_addNumber_2 ?_
  refine lv_if_lt (tgt := 31) hx hb dX2_addNumber_3 (by decide) (fun c1 => ?_) (fun c1 => ?_)
  · replace hM := if_t c1 hM
    refine lv_aload_n hx hb dX2_addNumber_31 rfl (lv_at hl 0 rfl) ?_
    refine lv_iconst (v := 5) hx hb dX2_addNumber_32 (by decide) ?_
    refine lv_iload_n hx hb dX2_addNumber_33 rfl (lv_at hl 1 rfl) ?_
    refine lv_iconst (v := 4) hx hb dX2_addNumber_34 (by decide) ?_
    obtain ⟨r2, hcr2, hM⟩ := ob_use hM
    refine cl_V (As := [.int 5, .int a1, .int 4]) (rest := []) (w_Tokens_this_text cI ad r2 o_text) [] ⟨hx, hb, hml, hown, hts⟩ (c_Tokens_add l D cI sd ad o_this 5 a1 4 r2 hcr2) (cwV2 hts q535 mvX2_add rfl rfl ⟨(Nat.le_of_ble_eq_true rfl), (Nat.le_of_ble_eq_true rfl)⟩) hK hE hA hP hD hS 0 (T := TX2) (N := 7) (ci := 2) rfl rfl [0, 1, 2, 3] rfl (by decide) rfl rfl rfl rfl rfl rfl hl.1 (Nat.le_of_ble_eq_true rfl) dX2_addNumber_35 ⟨Nat.zero_le _, Nat.zero_le _⟩ (fun H locs hP hD hS => ?_)
    refine lv_goto (tgt := 49) hx hb dX2_addNumber_38 (by decide) ?_
    cases hM
    exact rt_v hx hb hr hlk hP hD hS rfl dX2_addNumber_49
  · replace hM := if_f c1 hM
    refine lv_lload_n hx hb dX2_addNumber_6 rfl (lv_at hl 2 rfl) ?_
    refine lv_ldc2 (v := 2147483647) hx hb hown (hts _ (inA q570)) dX2_addNumber_7 ?_
    refine W.lcmp hx hb dX2_addNumber_10 ?_
    refine lv_if_gt (tgt := 31) hx hb dX2_addNumber_11 (by decide) (fun c3 => ?_) (fun c3 => ?_)
    · replace hM := if_t c3 hM
      refine lv_aload_n hx hb dX2_addNumber_31 rfl (lv_at hl 0 rfl) ?_
      refine lv_iconst (v := 5) hx hb dX2_addNumber_32 (by decide) ?_
      refine lv_iload_n hx hb dX2_addNumber_33 rfl (lv_at hl 1 rfl) ?_
      refine lv_iconst (v := 4) hx hb dX2_addNumber_34 (by decide) ?_
      obtain ⟨r4, hcr4, hM⟩ := ob_use hM
      refine cl_V (As := [.int 5, .int a1, .int 4]) (rest := []) (w_Tokens_this_text cI ad r4 o_text) [] ⟨hx, hb, hml, hown, hts⟩ (c_Tokens_add l D cI sd ad o_this 5 a1 4 r4 hcr4) (cwV2 hts q535 mvX2_add rfl rfl ⟨(Nat.le_of_ble_eq_true rfl), (Nat.le_of_ble_eq_true rfl)⟩) hK hE hA hP hD hS 0 (T := TX2) (N := 7) (ci := 2) rfl rfl [0, 1, 2, 3] rfl (by decide) rfl rfl rfl rfl rfl rfl hl.1 (Nat.le_of_ble_eq_true rfl) dX2_addNumber_35 ⟨Nat.zero_le _, Nat.zero_le _⟩ (fun H locs hP hD hS => ?_)
      refine lv_goto (tgt := 49) hx hb dX2_addNumber_38 (by decide) ?_
      cases hM
      exact rt_v hx hb hr hlk hP hD hS rfl dX2_addNumber_49
    · replace hM := if_f c3 hM
      refine lv_aload_n hx hb dX2_addNumber_14 rfl (lv_at hl 0 rfl) ?_
      refine va_get (D := D) (ci := 2) (v := .ref (ad 1)) (C := RX2) (T := TX2) (N := 7) hx hb hts layX2 hown hK hP 0 rfl rfl 0 (by decide) (hts _ (inA q331)) (fun _ h9 => h9) rfl dX2_addNumber_15 ?_
      refine lv_aload_n hx hb dX2_addNumber_18 rfl (lv_at hl 0 rfl) ?_
      refine va_get (D := D) (ci := 2) (v := .int o_this.2.1) (C := RX2) (T := TX2) (N := 7) hx hb hts layX2 hown hK hP 0 rfl rfl 6 (by decide) (hts _ (inA q341)) (fun _ h9 => h9) rfl dX2_addNumber_19 ?_
      obtain ⟨r5, hcr5, hM⟩ := ob_use hM
      refine cl_V (As := [.int o_this.2.1]) (rest := []) (w_Tokens_this_text cI ad o_this o_text) (.int r5 :: []) ⟨hx, hb, hml, hown, hts⟩ (c_Bytes_get l D cI sd (ad 1) (ad 2) 8192 o_text o_this.2.1 r5 hcr5) (cwV2 hts q530 mvX0_get rfl rfl ⟨(Nat.le_of_ble_eq_true rfl), (Nat.le_of_ble_eq_true rfl)⟩) hK hE hA hP hD hS 4 (T := TX0) (N := 2) (ci := 0) rfl rfl [4, 5] rfl (by decide) rfl rfl rfl rfl rfl rfl hl.1 (Nat.le_of_ble_eq_true rfl) dX2_addNumber_22 ⟨Nat.zero_le _, Nat.zero_le _⟩ (fun H locs hP hD hS => ?_)
      obtain ⟨r6, hcr6, hM⟩ := ob_use hM
      refine cl_SN (As := [.int r5]) (rest := []) (w_Tokens_this_text cI ad o_this o_text) (.int r6 :: []) ⟨hx, hb, hml, hown, hts⟩ (c_Top_isNameByte l D cI sd ad r5 r6 hcr6) (cwSN2 hts (nmE4 hE) mvX6_isNameByte rfl rfl ⟨(Nat.le_of_ble_eq_true rfl), (Nat.le_of_ble_eq_true rfl)⟩) hK hE hA hP hD hS [] rfl (by decide) rfl rfl rfl rfl rfl rfl hl.1 (Nat.le_of_ble_eq_true rfl) dX2_addNumber_25 ⟨Nat.zero_le _, Nat.zero_le _⟩ (fun H locs hP hD hS => ?_)
      refine lv_if_eq (tgt := 41) hx hb dX2_addNumber_28 (by decide) (fun c7 => ?_) (fun c7 => ?_)
      · replace hM := if_t c7 hM
        refine lv_aload_n hx hb dX2_addNumber_41 rfl (lv_at hl 0 rfl) ?_
        refine lv_iconst (v := 2) hx hb dX2_addNumber_42 (by decide) ?_
        refine lv_iload_n hx hb dX2_addNumber_43 rfl (lv_at hl 1 rfl) ?_
        refine lv_lload_n hx hb dX2_addNumber_44 rfl (lv_at hl 2 rfl) ?_
        refine lv_l2i hx hb dX2_addNumber_45 rfl ?_
        obtain ⟨r8, hcr8, hM⟩ := ob_use hM
        refine cl_V (As := [.int 2, .int a1, .int a2.toInt32]) (rest := []) (w_Tokens_this_text cI ad r8 o_text) [] ⟨hx, hb, hml, hown, hts⟩ (c_Tokens_add l D cI sd ad o_this 2 a1 a2.toInt32 r8 hcr8) (cwV2 hts q535 mvX2_add rfl rfl ⟨(Nat.le_of_ble_eq_true rfl), (Nat.le_of_ble_eq_true rfl)⟩) hK hE hA hP hD hS 0 (T := TX2) (N := 7) (ci := 2) rfl rfl [0, 1, 2, 3] rfl (by decide) rfl rfl rfl rfl rfl rfl hl.1 (Nat.le_of_ble_eq_true rfl) dX2_addNumber_46 ⟨Nat.zero_le _, Nat.zero_le _⟩ (fun H locs hP hD hS => ?_)
        cases hM
        exact rt_v hx hb hr hlk hP hD hS rfl dX2_addNumber_49
      · replace hM := if_f c7 hM
        refine lv_aload_n hx hb dX2_addNumber_31 rfl (lv_at hl 0 rfl) ?_
        refine lv_iconst (v := 5) hx hb dX2_addNumber_32 (by decide) ?_
        refine lv_iload_n hx hb dX2_addNumber_33 rfl (lv_at hl 1 rfl) ?_
        refine lv_iconst (v := 4) hx hb dX2_addNumber_34 (by decide) ?_
        obtain ⟨r9, hcr9, hM⟩ := ob_use hM
        refine cl_V (As := [.int 5, .int a1, .int 4]) (rest := []) (w_Tokens_this_text cI ad r9 o_text) [] ⟨hx, hb, hml, hown, hts⟩ (c_Tokens_add l D cI sd ad o_this 5 a1 4 r9 hcr9) (cwV2 hts q535 mvX2_add rfl rfl ⟨(Nat.le_of_ble_eq_true rfl), (Nat.le_of_ble_eq_true rfl)⟩) hK hE hA hP hD hS 0 (T := TX2) (N := 7) (ci := 2) rfl rfl [0, 1, 2, 3] rfl (by decide) rfl rfl rfl rfl rfl rfl hl.1 (Nat.le_of_ble_eq_true rfl) dX2_addNumber_35 ⟨Nat.zero_le _, Nat.zero_le _⟩ (fun H locs hP hD hS => ?_)
        refine lv_goto (tgt := 49) hx hb dX2_addNumber_38 (by decide) ?_
        cases hM
        exact rt_v hx hb hr hlk hP hD hS rfl dX2_addNumber_49

set_option maxHeartbeats 4000000 in
set_option maxRecDepth 100000 in
theorem c_Tokens_digit (l : Launch) (D : va_G) (cI : ClassId) (sd : Nat → Nat) (ad : Nat → Nat) (a1 : Int32) (res : Int32) (hM : f_Tokens_digit a1 = some res) : Ctr l D cI sd yX2_digit (wsM yX2_digit cX2_digit 2 (Option.some Jvm.ClassFile.FieldType.int)) { frames := 1, cells := 0, slots := 0, locals := 20 } [.int a1] (([] : va_W)) (([] : va_W)) (some (.int res)) := by
  refine Ctr.of (cc := cX2_digit) (maxL := 2) (own := RX2) (by decide +kernel) rfl rfl (Nat.le_of_ble_eq_true rfl) ?_
  intro p e s m below meth c A ls hx hb hr hml hown hts hlk hK hE hA hP hD hS hl
  have hl : lv_has ls 2 [(0, .int a1)] := hl
  unfold f_Tokens_digit at hM
  refine lv_iload_n hx hb dX2_digit_0 rfl (lv_at hl 0 rfl) ?_
  obtain ⟨r1, hcr1, hM⟩ := ob_use hM
  refine cl_SN (As := [.int a1]) (rest := []) (([] : va_W)) (.int r1 :: []) ⟨hx, hb, hml, hown, hts⟩ (c_Top_great l D cI sd ad a1 r1 hcr1) (cwSN2 hts (nmE2 hE) mvX6_great rfl rfl ⟨(Nat.le_of_ble_eq_true rfl), (Nat.le_of_ble_eq_true rfl)⟩) hK hE hA hP hD hS [] rfl (by decide) rfl rfl rfl rfl rfl rfl hl.1 (Nat.le_of_ble_eq_true rfl) dX2_digit_1 ⟨Nat.zero_le _, Nat.zero_le _⟩ (fun H locs hP hD hS => ?_)
  refine lv_istore_n (lv' := [(1, .int r1), (0, .int a1)]) hx hb dX2_digit_4 rfl hl (by decide) rfl (fun ls hl => ?_)
  refine lv_iload_n hx hb dX2_digit_5 rfl (lv_at hl 0 rfl) ?_
  refine lv_bipush (v := 65) hx hb dX2_digit_6 (by decide) ?_
  refine lv_icmp_lt (tgt := 25) hx hb dX2_digit_8 (by decide) (fun c2 => ?_) (fun c2 => ?_)
  · replace hM := if_t c2 hM
    refine lv_iload_n hx hb dX2_digit_25 rfl (lv_at hl 1 rfl) ?_
    obtain ⟨r3, hcr3, hM⟩ := ob_use hM
    refine cl_SN (As := [.int a1]) (rest := []) (([] : va_W)) (.int r3 :: []) ⟨hx, hb, hml, hown, hts⟩ (c_Top_isDigit l D cI sd ad a1 r3 hcr3) (cwSN2 hts (nmE3 hE) mvX6_isDigit rfl rfl ⟨(Nat.le_of_ble_eq_true rfl), (Nat.le_of_ble_eq_true rfl)⟩) hK hE hA hP hD hS [] rfl (by decide) rfl rfl rfl rfl rfl rfl hl.1 (Nat.le_of_ble_eq_true rfl) dX2_digit_26 ⟨Nat.zero_le _, Nat.zero_le _⟩ (fun H locs hP hD hS => ?_)
    refine lv_if_eq (tgt := 39) hx hb dX2_digit_29 (by decide) (fun c4 => ?_) (fun c4 => ?_)
    · replace hM := if_t c4 hM
      refine lv_iconst (v := (-1)) hx hb dX2_digit_39 (by decide) ?_
      cases hM
      exact rt_i hx hb hr hlk hP hD hS rfl dX2_digit_40
    · replace hM := if_f c4 hM
      refine lv_iload_n hx hb dX2_digit_32 rfl (lv_at hl 1 rfl) ?_
      refine lv_bipush (v := 48) hx hb dX2_digit_33 (by decide) ?_
      refine lv_isub hx hb dX2_digit_35 ?_
      refine lv_goto (tgt := 40) hx hb dX2_digit_36 (by decide) ?_
      cases hM
      exact rt_i hx hb hr hlk hP hD hS rfl dX2_digit_40
  · replace hM := if_f c2 hM
    refine lv_iload_n hx hb dX2_digit_11 rfl (lv_at hl 0 rfl) ?_
    refine lv_bipush (v := 70) hx hb dX2_digit_12 (by decide) ?_
    refine lv_icmp_gt (tgt := 25) hx hb dX2_digit_14 (by decide) (fun c5 => ?_) (fun c5 => ?_)
    · replace hM := if_t c5 hM
      refine lv_iload_n hx hb dX2_digit_25 rfl (lv_at hl 1 rfl) ?_
      obtain ⟨r6, hcr6, hM⟩ := ob_use hM
      refine cl_SN (As := [.int a1]) (rest := []) (([] : va_W)) (.int r6 :: []) ⟨hx, hb, hml, hown, hts⟩ (c_Top_isDigit l D cI sd ad a1 r6 hcr6) (cwSN2 hts (nmE3 hE) mvX6_isDigit rfl rfl ⟨(Nat.le_of_ble_eq_true rfl), (Nat.le_of_ble_eq_true rfl)⟩) hK hE hA hP hD hS [] rfl (by decide) rfl rfl rfl rfl rfl rfl hl.1 (Nat.le_of_ble_eq_true rfl) dX2_digit_26 ⟨Nat.zero_le _, Nat.zero_le _⟩ (fun H locs hP hD hS => ?_)
      refine lv_if_eq (tgt := 39) hx hb dX2_digit_29 (by decide) (fun c7 => ?_) (fun c7 => ?_)
      · replace hM := if_t c7 hM
        refine lv_iconst (v := (-1)) hx hb dX2_digit_39 (by decide) ?_
        cases hM
        exact rt_i hx hb hr hlk hP hD hS rfl dX2_digit_40
      · replace hM := if_f c7 hM
        refine lv_iload_n hx hb dX2_digit_32 rfl (lv_at hl 1 rfl) ?_
        refine lv_bipush (v := 48) hx hb dX2_digit_33 (by decide) ?_
        refine lv_isub hx hb dX2_digit_35 ?_
        refine lv_goto (tgt := 40) hx hb dX2_digit_36 (by decide) ?_
        cases hM
        exact rt_i hx hb hr hlk hP hD hS rfl dX2_digit_40
    · replace hM := if_f c5 hM
      refine lv_iload_n hx hb dX2_digit_17 rfl (lv_at hl 0 rfl) ?_
      refine lv_bipush (v := 65) hx hb dX2_digit_18 (by decide) ?_
      refine lv_isub hx hb dX2_digit_20 ?_
      refine lv_bipush (v := 10) hx hb dX2_digit_21 (by decide) ?_
      refine lv_iadd hx hb dX2_digit_23 ?_
      cases hM
      exact rt_i hx hb hr hlk hP hD hS rfl dX2_digit_24
