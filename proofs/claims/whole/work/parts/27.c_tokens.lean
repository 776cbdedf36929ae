set_option maxHeartbeats 4000000 in
set_option maxRecDepth 100000 in
theorem c_Tokens_kind (l : Launch) (D : va_G) (cI : ClassId) (sd : Nat → Nat) (ad : Nat → Nat) (o_this : S_Tokens) (a1 : Int32) (res : Int32) (hM : f_Tokens_kind o_this a1 = some res) : Ctr l D cI sd yX2_kind (wsM yX2_kind cX2_kind 2 (Option.some Jvm.ClassFile.FieldType.int)) { frames := 0, cells := 0, slots := 0, locals := 0 } [.ref (ad 10), .int a1] (wK cI ad o_this) (wK cI ad o_this) (some (.int res)) := by
  refine Ctr.of (cc := cX2_kind) (maxL := 2) (own := RX2) (by decide +kernel) rfl rfl (Nat.le_of_ble_eq_true rfl) ?_
  intro p e s m below meth c A ls hx hb hr hml hown hts hlk hK hE hA hP hD hS hl
  have hl : lv_has ls 2 [(0, .ref (ad 10)), (1, .int a1)] := hl
  unfold f_Tokens_kind at hM
  refine lv_iload_n hx hb dX2_kind_0 rfl (lv_at hl 1 rfl) ?_
  refine lv_if_lt (tgt := 28) hx hb dX2_kind_1 (by decide) (fun c1 => ?_) (fun c1 => ?_)
  · replace hM := if_t c1 hM
    refine lv_bipush (v := 6) hx hb dX2_kind_28 (by decide) ?_
    cases hM
    exact rt_i hx hb hr hlk hP hD hS rfl dX2_kind_30
  · replace hM := if_f c1 hM
    refine lv_iload_n hx hb dX2_kind_4 rfl (lv_at hl 1 rfl) ?_
    refine lv_aload_n hx hb dX2_kind_5 rfl (lv_at hl 0 rfl) ?_
    refine va_get (D := D) (ci := 2) (v := .int o_this.1) (C := RX2) (T := TX2) (N := 7) hx hb hts layX2 hown hK hP 0 rfl rfl 5 (by decide) (hts _ (inA q339)) (fun _ h9 => h9) rfl dX2_kind_6 ?_
    refine lv_icmp_ge (tgt := 28) hx hb dX2_kind_9 (by decide) (fun c2 => ?_) (fun c2 => ?_)
    · replace hM := if_t c2 hM
      refine lv_bipush (v := 6) hx hb dX2_kind_28 (by decide) ?_
      cases hM
      exact rt_i hx hb hr hlk hP hD hS rfl dX2_kind_30
    · replace hM := if_f c2 hM
      refine lv_iload_n hx hb dX2_kind_12 rfl (lv_at hl 1 rfl) ?_
      refine lv_sipush (v := 8193) hx hb dX2_kind_13 (by decide) ?_
      refine lv_icmp_ge (tgt := 28) hx hb dX2_kind_16 (by decide) (fun c3 => ?_) (fun c3 => ?_)
      · replace hM := if_t c3 hM
        refine lv_bipush (v := 6) hx hb dX2_kind_28 (by decide) ?_
        cases hM
        exact rt_i hx hb hr hlk hP hD hS rfl dX2_kind_30
      · replace hM := if_f c3 hM
        refine lv_aload_n hx hb dX2_kind_19 rfl (lv_at hl 0 rfl) ?_
        refine va_get (D := D) (ci := 2) (v := .ref (ad 11)) (C := RX2) (T := TX2) (N := 7) hx hb hts layX2 hown hK hP 0 rfl rfl 2 (by decide) (hts _ (inA q333)) (fun _ h9 => h9) rfl dX2_kind_20 ?_
        refine lv_iload_n hx hb dX2_kind_23 rfl (lv_at hl 1 rfl) ?_
        obtain ⟨b4, hM⟩ := gd_use hM
        refine va_iald hx hb hK hP 1 0 rfl rfl b4 dX2_kind_24 ?_
        refine lv_goto (tgt := 30) hx hb dX2_kind_25 (by decide) ?_
        cases hM
        exact rt_i hx hb hr hlk hP hD hS rfl dX2_kind_30

set_option maxHeartbeats 4000000 in
set_option maxRecDepth 100000 in
theorem c_Tokens_place (l : Launch) (D : va_G) (cI : ClassId) (sd : Nat → Nat) (ad : Nat → Nat) (o_this : S_Tokens) (a1 : Int32) (res : Int32) (hM : f_Tokens_place o_this a1 = some res) : Ctr l D cI sd yX2_place (wsM yX2_place cX2_place 2 (Option.some Jvm.ClassFile.FieldType.int)) { frames := 0, cells := 0, slots := 0, locals := 0 } [.ref (ad 10), .int a1] (wK cI ad o_this) (wK cI ad o_this) (some (.int res)) := by
  refine Ctr.of (cc := cX2_place) (maxL := 2) (own := RX2) (by decide +kernel) rfl rfl (Nat.le_of_ble_eq_true rfl) ?_
  intro p e s m below meth c A ls hx hb hr hml hown hts hlk hK hE hA hP hD hS hl
  have hl : lv_has ls 2 [(0, .ref (ad 10)), (1, .int a1)] := hl
  unfold f_Tokens_place at hM
  refine lv_iload_n hx hb dX2_place_0 rfl (lv_at hl 1 rfl) ?_
  refine lv_if_lt (tgt := 28) hx hb dX2_place_1 (by decide) (fun c1 => ?_) (fun c1 => ?_)
  · replace hM := if_t c1 hM
    refine lv_iconst (v := (-1)) hx hb dX2_place_28 (by decide) ?_
    cases hM
    exact rt_i hx hb hr hlk hP hD hS rfl dX2_place_29
  · replace hM := if_f c1 hM
    refine lv_iload_n hx hb dX2_place_4 rfl (lv_at hl 1 rfl) ?_
    refine lv_aload_n hx hb dX2_place_5 rfl (lv_at hl 0 rfl) ?_
    refine va_get (D := D) (ci := 2) (v := .int o_this.1) (C := RX2) (T := TX2) (N := 7) hx hb hts layX2 hown hK hP 0 rfl rfl 5 (by decide) (hts _ (inA q339)) (fun _ h9 => h9) rfl dX2_place_6 ?_
    refine lv_icmp_ge (tgt := 28) hx hb dX2_place_9 (by decide) (fun c2 => ?_) (fun c2 => ?_)
    · replace hM := if_t c2 hM
      refine lv_iconst (v := (-1)) hx hb dX2_place_28 (by decide) ?_
      cases hM
      exact rt_i hx hb hr hlk hP hD hS rfl dX2_place_29
    · replace hM := if_f c2 hM
      refine lv_iload_n hx hb dX2_place_12 rfl (lv_at hl 1 rfl) ?_
      refine lv_sipush (v := 8193) hx hb dX2_place_13 (by decide) ?_
      refine lv_icmp_ge (tgt := 28) hx hb dX2_place_16 (by decide) (fun c3 => ?_) (fun c3 => ?_)
      · replace hM := if_t c3 hM
        refine lv_iconst (v := (-1)) hx hb dX2_place_28 (by decide) ?_
        cases hM
        exact rt_i hx hb hr hlk hP hD hS rfl dX2_place_29
      · replace hM := if_f c3 hM
        refine lv_aload_n hx hb dX2_place_19 rfl (lv_at hl 0 rfl) ?_
        refine va_get (D := D) (ci := 2) (v := .ref (ad 12)) (C := RX2) (T := TX2) (N := 7) hx hb hts layX2 hown hK hP 0 rfl rfl 3 (by decide) (hts _ (inA q335)) (fun _ h9 => h9) rfl dX2_place_20 ?_
        refine lv_iload_n hx hb dX2_place_23 rfl (lv_at hl 1 rfl) ?_
        obtain ⟨b4, hM⟩ := gd_use hM
        refine va_iald hx hb hK hP 2 0 rfl rfl b4 dX2_place_24 ?_
        refine lv_goto (tgt := 29) hx hb dX2_place_25 (by decide) ?_
        cases hM
        exact rt_i hx hb hr hlk hP hD hS rfl dX2_place_29

set_option maxHeartbeats 4000000 in
set_option maxRecDepth 100000 in
theorem c_Tokens_value (l : Launch) (D : va_G) (cI : ClassId) (sd : Nat → Nat) (ad : Nat → Nat) (o_this : S_Tokens) (a1 : Int32) (res : Int32) (hM : f_Tokens_value o_this a1 = some res) : Ctr l D cI sd yX2_value (wsM yX2_value cX2_value 2 (Option.some Jvm.ClassFile.FieldType.int)) { frames := 0, cells := 0, slots := 0, locals := 0 } [.ref (ad 10), .int a1] (wK cI ad o_this) (wK cI ad o_this) (some (.int res)) := by
  refine Ctr.of (cc := cX2_value) (maxL := 2) (own := RX2) (by decide +kernel) rfl rfl (Nat.le_of_ble_eq_true rfl) ?_
  intro p e s m below meth c A ls hx hb hr hml hown hts hlk hK hE hA hP hD hS hl
  have hl : lv_has ls 2 [(0, .ref (ad 10)), (1, .int a1)] := hl
  unfold f_Tokens_value at hM
  refine lv_iload_n hx hb dX2_value_0 rfl (lv_at hl 1 rfl) ?_
  refine lv_if_lt (tgt := 28) hx hb dX2_value_1 (by decide) (fun c1 => ?_) (fun c1 => ?_)
  · replace hM := if_t c1 hM
    refine lv_iconst (v := 0) hx hb dX2_value_28 (by decide) ?_
    cases hM
    exact rt_i hx hb hr hlk hP hD hS rfl dX2_value_29
  · replace hM := if_f c1 hM
    refine lv_iload_n hx hb dX2_value_4 rfl (lv_at hl 1 rfl) ?_
    refine lv_aload_n hx hb dX2_value_5 rfl (lv_at hl 0 rfl) ?_
    refine va_get (D := D) (ci := 2) (v := .int o_this.1) (C := RX2) (T := TX2) (N := 7) hx hb hts layX2 hown hK hP 0 rfl rfl 5 (by decide) (hts _ (inA q339)) (fun _ h9 => h9) rfl dX2_value_6 ?_
    refine lv_icmp_ge (tgt := 28) hx hb dX2_value_9 (by decide) (fun c2 => ?_) (fun c2 => ?_)
    · replace hM := if_t c2 hM
      refine lv_iconst (v := 0) hx hb dX2_value_28 (by decide) ?_
      cases hM
      exact rt_i hx hb hr hlk hP hD hS rfl dX2_value_29
    · replace hM := if_f c2 hM
      refine lv_iload_n hx hb dX2_value_12 rfl (lv_at hl 1 rfl) ?_
      refine lv_sipush (v := 8193) hx hb dX2_value_13 (by decide) ?_
      refine lv_icmp_ge (tgt := 28) hx hb dX2_value_16 (by decide) (fun c3 => ?_) (fun c3 => ?_)
      · replace hM := if_t c3 hM
        refine lv_iconst (v := 0) hx hb dX2_value_28 (by decide) ?_
        cases hM
        exact rt_i hx hb hr hlk hP hD hS rfl dX2_value_29
      · replace hM := if_f c3 hM
        refine lv_aload_n hx hb dX2_value_19 rfl (lv_at hl 0 rfl) ?_
        refine va_get (D := D) (ci := 2) (v := .ref (ad 13)) (C := RX2) (T := TX2) (N := 7) hx hb hts layX2 hown hK hP 0 rfl rfl 4 (by decide) (hts _ (inA q337)) (fun _ h9 => h9) rfl dX2_value_20 ?_
        refine lv_iload_n hx hb dX2_value_23 rfl (lv_at hl 1 rfl) ?_
        obtain ⟨b4, hM⟩ := gd_use hM
        refine va_iald hx hb hK hP 3 0 rfl rfl b4 dX2_value_24 ?_
        refine lv_goto (tgt := 29) hx hb dX2_value_25 (by decide) ?_
        cases hM
        exact rt_i hx hb hr hlk hP hD hS rfl dX2_value_29

set_option maxHeartbeats 4000000 in
set_option maxRecDepth 100000 in
theorem c_Tokens_add (l : Launch) (D : va_G) (cI : ClassId) (sd : Nat → Nat) (ad : Nat → Nat) (o_this : S_Tokens) (a1 : Int32) (a2 : Int32) (a3 : Int32) (res : S_Tokens) (hM : f_Tokens_add o_this a1 a2 a3 = some res) : Ctr l D cI sd yX2_add (wsM yX2_add cX2_add 4 (Option.none : Option Jvm.ClassFile.FieldType)) { frames := 0, cells := 0, slots := 0, locals := 0 } [.ref (ad 10), .int a1, .int a2, .int a3] (wK cI ad o_this) (wK cI ad res) none := by
  refine Ctr.of (cc := cX2_add) (maxL := 4) (own := RX2) (by decide +kernel) rfl rfl (Nat.le_of_ble_eq_true rfl) ?_
  intro p e s m below meth c A ls hx hb hr hml hown hts hlk hK hE hA hP hD hS hl
  have hl : lv_has ls 4 [(0, .ref (ad 10)), (1, .int a1), (2, .int a2), (3, .int a3)] := hl
  unfold f_Tokens_add at hM
  refine lv_aload_n hx hb dX2_add_0 rfl (lv_at hl 0 rfl) ?_
  refine va_get (D := D) (ci := 2) (v := .int o_this.1) (C := RX2) (T := TX2) (N := 7) hx hb hts layX2 hown hK hP 0 rfl rfl 5 (by decide) (hts _ (inA q339)) (fun _ h9 => h9) rfl dX2_add_1 ?_
  refine lv_if_lt (tgt := 57) hx hb dX2_add_4 (by decide) (fun c1 => ?_) (fun c1 => ?_)
  · replace hM := if_t c1 hM
    cases hM
    exact rt_v hx hb hr hlk hP hD hS rfl dX2_add_57
  · replace hM := if_f c1 hM
    refine lv_aload_n hx hb dX2_add_7 rfl (lv_at hl 0 rfl) ?_
    refine va_get (D := D) (ci := 2) (v := .int o_this.1) (C := RX2) (T := TX2) (N := 7) hx hb hts layX2 hown hK hP 0 rfl rfl 5 (by decide) (hts _ (inA q339)) (fun _ h9 => h9) rfl dX2_add_8 ?_
    refine lv_sipush (v := 8193) hx hb dX2_add_11 (by decide) ?_
    refine lv_icmp_ge (tgt := 57) hx hb dX2_add_14 (by decide) (fun c2 => ?_) (fun c2 => ?_)
    · replace hM := if_t c2 hM
      cases hM
      exact rt_v hx hb hr hlk hP hD hS rfl dX2_add_57
    · replace hM := if_f c2 hM
      refine lv_aload_n hx hb dX2_add_17 rfl (lv_at hl 0 rfl) ?_
      refine va_get (D := D) (ci := 2) (v := .ref (ad 11)) (C := RX2) (T := TX2) (N := 7) hx hb hts layX2 hown hK hP 0 rfl rfl 2 (by decide) (hts _ (inA q333)) (fun _ h9 => h9) rfl dX2_add_18 ?_
      refine lv_aload_n hx hb dX2_add_21 rfl (lv_at hl 0 rfl) ?_
      refine va_get (D := D) (ci := 2) (v := .int o_this.1) (C := RX2) (T := TX2) (N := 7) hx hb hts layX2 hown hK hP 0 rfl rfl 5 (by decide) (hts _ (inA q339)) (fun _ h9 => h9) rfl dX2_add_22 ?_
      refine lv_iload_n hx hb dX2_add_25 rfl (lv_at hl 1 rfl) ?_
      obtain ⟨b3, hM⟩ := gd_use hM
      refine va_iast hx hb hK hP hD hS 1 0 rfl rfl b3 dX2_add_26 (fun H locs hP hD hS => ?_)
      have hP : va_P D vwCl (wK cI ad (o_this.1, o_this.2.1, upd o_this.2.2.1 o_this.1.toNatClampNeg a1, o_this.2.2.2)) H := hP
      have hD : va_D A (wK cI ad (o_this.1, o_this.2.1, upd o_this.2.2.1 o_this.1.toNatClampNeg a1, o_this.2.2.2)) := hD
      refine lv_aload_n hx hb dX2_add_27 rfl (lv_at hl 0 rfl) ?_
      refine va_get (D := D) (ci := 2) (v := .ref (ad 12)) (C := RX2) (T := TX2) (N := 7) hx hb hts layX2 hown hK hP 0 rfl rfl 3 (by decide) (hts _ (inA q335)) (fun _ h9 => h9) rfl dX2_add_28 ?_
      refine lv_aload_n hx hb dX2_add_31 rfl (lv_at hl 0 rfl) ?_
      refine va_get (D := D) (ci := 2) (v := .int o_this.1) (C := RX2) (T := TX2) (N := 7) hx hb hts layX2 hown hK hP 0 rfl rfl 5 (by decide) (hts _ (inA q339)) (fun _ h9 => h9) rfl dX2_add_32 ?_
      refine lv_iload_n hx hb dX2_add_35 rfl (lv_at hl 2 rfl) ?_
      obtain ⟨b4, hM⟩ := gd_use hM
      refine va_iast hx hb hK hP hD hS 2 0 rfl rfl b4 dX2_add_36 (fun H locs hP hD hS => ?_)
      have hP : va_P D vwCl (wK cI ad (o_this.1, o_this.2.1, upd o_this.2.2.1 o_this.1.toNatClampNeg a1, upd o_this.2.2.2.1 o_this.1.toNatClampNeg a2, o_this.2.2.2.2)) H := hP
      have hD : va_D A (wK cI ad (o_this.1, o_this.2.1, upd o_this.2.2.1 o_this.1.toNatClampNeg a1, upd o_this.2.2.2.1 o_this.1.toNatClampNeg a2, o_this.2.2.2.2)) := hD
      refine lv_aload_n hx hb dX2_add_37 rfl (lv_at hl 0 rfl) ?_
      refine va_get (D := D) (ci := 2) (v := .ref (ad 13)) (C := RX2) (T := TX2) (N := 7) hx hb hts layX2 hown hK hP 0 rfl rfl 4 (by decide) (hts _ (inA q337)) (fun _ h9 => h9) rfl dX2_add_38 ?_
      refine lv_aload_n hx hb dX2_add_41 rfl (lv_at hl 0 rfl) ?_
      refine va_get (D := D) (ci := 2) (v := .int o_this.1) (C := RX2) (T := TX2) (N := 7) hx hb hts layX2 hown hK hP 0 rfl rfl 5 (by decide) (hts _ (inA q339)) (fun _ h9 => h9) rfl dX2_add_42 ?_
      refine lv_iload_n hx hb dX2_add_45 rfl (lv_at hl 3 rfl) ?_
      obtain ⟨b5, hM⟩ := gd_use hM
      refine va_iast hx hb hK hP hD hS 3 0 rfl rfl b5 dX2_add_46 (fun H locs hP hD hS => ?_)
      have hP : va_P D vwCl (wK cI ad (o_this.1, o_this.2.1, upd o_this.2.2.1 o_this.1.toNatClampNeg a1, upd o_this.2.2.2.1 o_this.1.toNatClampNeg a2, upd o_this.2.2.2.2 o_this.1.toNatClampNeg a3)) H := hP
      have hD : va_D A (wK cI ad (o_this.1, o_this.2.1, upd o_this.2.2.1 o_this.1.toNatClampNeg a1, upd o_this.2.2.2.1 o_this.1.toNatClampNeg a2, upd o_this.2.2.2.2 o_this.1.toNatClampNeg a3)) := hD
      refine lv_aload_n hx hb dX2_add_47 rfl (lv_at hl 0 rfl) ?_
      refine lv_dup hx hb dX2_add_48 rfl ?_
      refine va_get (D := D) (ci := 2) (v := .int o_this.1) (C := RX2) (T := TX2) (N := 7) hx hb hts layX2 hown hK hP 0 rfl rfl 5 (by decide) (hts _ (inA q339)) (fun _ h9 => h9) rfl dX2_add_49 ?_
      refine lv_iconst (v := 1) hx hb dX2_add_52 (by decide) ?_
      refine lv_iadd hx hb dX2_add_53 ?_
      refine va_put (D := D) (ci := 2) (v := .int (o_this.1 + 1)) (ty := .int) (C := RX2) (T := TX2) (N := 7) hx hb hts layX2 tyX2 tyX2_ok nmX2 hown hK hP hD hS 0 rfl rfl 5 (by decide) (hts _ (inA q339)) (fun _ h9 => h9) rfl (by decide +kernel) rfl rfl (Nat.le_of_ble_eq_true rfl) dX2_add_54 (fun H locs hP hD hS => ?_)
      have hP : va_P D vwCl (wK cI ad (o_this.1 + 1, o_this.2.1, upd o_this.2.2.1 o_this.1.toNatClampNeg a1, upd o_this.2.2.2.1 o_this.1.toNatClampNeg a2, upd o_this.2.2.2.2 o_this.1.toNatClampNeg a3)) H := hP
      have hD : va_D A (wK cI ad (o_this.1 + 1, o_this.2.1, upd o_this.2.2.1 o_this.1.toNatClampNeg a1, upd o_this.2.2.2.1 o_this.1.toNatClampNeg a2, upd o_this.2.2.2.2 o_this.1.toNatClampNeg a3)) := hD
      cases hM
      exact rt_v hx hb hr hlk hP hD hS rfl dX2_add_57

set_option maxHeartbeats 4000000 in
set_option maxRecDepth 100000 in
theorem c_Tokens_scanName (l : Launch) (D : va_G) (cI : ClassId) (sd : Nat → Nat) (ad : Nat → Nat) (o_this : S_Tokens) (o_text : S_Bytes) (o_names : S_Names) (res : S_Tokens × S_Names) (hM : f_Tokens_scanName o_this o_text o_names = some res) : Ctr l D cI sd yX2_scanName (wsM yX2_scanName cX2_scanName 3 (Option.none : Option Jvm.ClassFile.FieldType)) { frames := 3, cells := 0, slots := 0, locals := 69 } [.ref (ad 10)] (wK cI ad o_this ++ wB cI (ad 1) (ad 2) 8192 o_text ++ wN cI ad o_names) (wK cI ad res.1 ++ wB cI (ad 1) (ad 2) 8192 o_text ++ wN cI ad res.2) none := by
  refine Ctr.of (cc := cX2_scanName) (maxL := 3) (own := RX2) (by decide +kernel) rfl rfl (Nat.le_of_ble_eq_true rfl) ?_
  intro p e s m below meth c A ls hx hb hr hml hown hts hlk hK hE hA hP hD hS hl
  have hl : lv_has ls 3 [(0, .ref (ad 10))] := hl
  unfold f_Tokens_scanName at hM
  refine lv_aload_n hx hb dX2_scanName_0 rfl (lv_at hl 0 rfl) ?_
  refine va_get (D := D) (ci := 2) (v := .int o_this.2.1) (C := RX2) (T := TX2) (N := 7) hx hb hts layX2 hown hK hP 0 rfl rfl 6 (by decide) (hts _ (inA q341)) (fun _ h9 => h9) rfl dX2_scanName_1 ?_
  refine lv_istore_n (lv' := [(1, .int o_this.2.1), (0, .ref (ad 10))]) hx hb dX2_scanName_4 rfl hl (by decide) rfl (fun ls hl => ?_)
  refine lv_iconst (v := 0) hx hb dX2_scanName_5 (by decide) ?_
  refine lv_istore_n (lv' := [(2, .int 0), (1, .int o_this.2.1), (0, .ref (ad 10))]) hx hb dX2_scanName_6 rfl hl (by decide) rfl (fun ls hl => ?_)
  have lp_L7 : ∀ (w1_L7 : Int32) (o_text_L7 : S_Bytes) (o_names_L7 : S_Names) (n : Nat) (v2_L7 : Int32) (o_this_L7 : S_Tokens) (out_L7 : S_Tokens) (H : Heap) (locs : List Loc) (ls : Array Slot), f_Tokens_scanName_L7 o_text_L7 n v2_L7 o_this_L7 = some out_L7 → va_P D vwCl (wK cI ad o_this_L7 ++ wB cI (ad 1) (ad 2) 8192 o_text_L7 ++ wN cI ad o_names_L7) H → va_D A (wK cI ad o_this_L7 ++ wB cI (ad 1) (ad 2) 8192 o_text_L7 ++ wN cI ad o_names_L7) → va_S A s.heap H locs → lv_has ls 3 [(2, .int v2_L7), (1, .int w1_L7), (0, .ref (ad 10))] → (∀ (H : Heap) (locs : List Loc) (ls : Array Slot), va_P D vwCl (wK cI ad out_L7 ++ wB cI (ad 1) (ad 2) 8192 o_text_L7 ++ wN cI ad o_names_L7) H → va_D A (wK cI ad out_L7 ++ wB cI (ad 1) (ad 2) 8192 o_text_L7 ++ wN cI ad o_names_L7) → va_S A s.heap H locs → lv_has ls 3 [(1, .int w1_L7), (0, .ref (ad 10))] → W p l e { frames := 3, cells := 0, slots := 0, locals := 69 } s m [.ref (ad 10)].toArray below meth c H locs 0 0 (MQ below (CQ D A (wK cI ad res.1 ++ wB cI (ad 1) (ad 2) 8192 o_text ++ wN cI ad res.2) none) [.ref (ad 10)].toArray s 0 0 A) (F0 m 47 ls [])) → W p l e { frames := 3, cells := 0, slots := 0, locals := 69 } s m [.ref (ad 10)].toArray below meth c H locs 0 0 (MQ below (CQ D A (wK cI ad res.1 ++ wB cI (ad 1) (ad 2) 8192 o_text ++ wN cI ad res.2) none) [.ref (ad 10)].toArray s 0 0 A) (F0 m 7 ls []) := by
    intro w1_L7 o_text_L7 o_names_L7 n
    induction n with
    | zero => intro v2_L7 o_this_L7 out_L7 H locs ls hM; exact absurd (show none = some _ from hM) (by simp)
    | succ n ih_L7 =>
      intro v2_L7 o_this_L7 out_L7 H locs ls hM hP hD hS hl kx_L7
      rw [f_Tokens_scanName_L7] at hM
      refine lv_iload_n hx hb dX2_scanName_7 rfl (lv_at hl 0 rfl) ?_
      refine lv_sipush (v := 8192) hx hb dX2_scanName_8 (by decide) ?_
      refine lv_icmp_ge (tgt := 47) hx hb dX2_scanName_11 (by decide) (fun c1171 => ?_) (fun c1171 => ?_)
      · replace hM := if_t c1171 hM
        cases hM
        exact kx_L7 _ _ _ hP hD hS (lv_sub hl [1, 2] rfl)
      · replace hM := if_f c1171 hM
        refine lv_aload_n hx hb dX2_scanName_14 rfl (lv_at hl 2 rfl) ?_
        refine va_get (D := D) (ci := 2) (v := .ref (ad 1)) (C := RX2) (T := TX2) (N := 7) hx hb hts layX2 hown hK hP 0 rfl rfl 0 (by decide) (hts _ (inA q331)) (fun _ h9 => h9) rfl dX2_scanName_15 ?_
        refine lv_aload_n hx hb dX2_scanName_18 rfl (lv_at hl 2 rfl) ?_
        refine va_get (D := D) (ci := 2) (v := .int o_this_L7.2.1) (C := RX2) (T := TX2) (N := 7) hx hb hts layX2 hown hK hP 0 rfl rfl 6 (by decide) (hts _ (inA q341)) (fun _ h9 => h9) rfl dX2_scanName_19 ?_
        obtain ⟨r1172, hcr1172, hM⟩ := ob_use hM
        refine cl_V (As := [.int o_this_L7.2.1]) (rest := []) (wK cI ad o_this_L7 ++ wB cI (ad 1) (ad 2) 8192 o_text_L7 ++ wN cI ad o_names_L7) (.int r1172 :: []) ⟨hx, hb, hml, hown, hts⟩ (c_Bytes_get l D cI sd (ad 1) (ad 2) 8192 o_text_L7 o_this_L7.2.1 r1172 hcr1172) (cwV2 hts q530 mvX0_get rfl rfl ⟨(Nat.le_of_ble_eq_true rfl), (Nat.le_of_ble_eq_true rfl)⟩) hK hE hA hP hD hS 4 (T := TX0) (N := 2) (ci := 0) rfl rfl [4, 5] rfl (by decide) rfl rfl rfl rfl rfl rfl hl.1 (Nat.le_of_ble_eq_true rfl) dX2_scanName_22 ⟨Nat.zero_le _, Nat.zero_le _⟩ (fun H locs hP hD hS => ?_)
        obtain ⟨r1173, hcr1173, hM⟩ := ob_use hM
        refine cl_SN (As := [.int r1172]) (rest := []) (wK cI ad o_this_L7 ++ wB cI (ad 1) (ad 2) 8192 o_text_L7 ++ wN cI ad o_names_L7) (.int r1173 :: []) ⟨hx, hb, hml, hown, hts⟩ (c_Top_isNameByte l D cI sd ad r1172 r1173 hcr1173) (cwSN2 hts (nmE4 hE) mvX6_isNameByte rfl rfl ⟨(Nat.le_of_ble_eq_true rfl), (Nat.le_of_ble_eq_true rfl)⟩) hK hE hA hP hD hS [] rfl (by decide) rfl rfl rfl rfl rfl rfl hl.1 (Nat.le_of_ble_eq_true rfl) dX2_scanName_25 ⟨Nat.zero_le _, Nat.zero_le _⟩ (fun H locs hP hD hS => ?_)
        refine lv_if_eq (tgt := 47) hx hb dX2_scanName_28 (by decide) (fun c1174 => ?_) (fun c1174 => ?_)
        · replace hM := if_t c1174 hM
          cases hM
          exact kx_L7 _ _ _ hP hD hS (lv_sub hl [1, 2] rfl)
        · replace hM := if_f c1174 hM
          refine lv_aload_n hx hb dX2_scanName_31 rfl (lv_at hl 2 rfl) ?_
          refine lv_dup hx hb dX2_scanName_32 rfl ?_
          refine va_get (D := D) (ci := 2) (v := .int o_this_L7.2.1) (C := RX2) (T := TX2) (N := 7) hx hb hts layX2 hown hK hP 0 rfl rfl 6 (by decide) (hts _ (inA q341)) (fun _ h9 => h9) rfl dX2_scanName_33 ?_
          refine lv_iconst (v := 1) hx hb dX2_scanName_36 (by decide) ?_
          refine lv_iadd hx hb dX2_scanName_37 ?_
          refine va_put (D := D) (ci := 2) (v := .int (o_this_L7.2.1 + 1)) (ty := .int) (C := RX2) (T := TX2) (N := 7) hx hb hts layX2 tyX2 tyX2_ok nmX2 hown hK hP hD hS 0 rfl rfl 6 (by decide) (hts _ (inA q341)) (fun _ h9 => h9) rfl (by decide +kernel) rfl rfl (Nat.le_of_ble_eq_true rfl) dX2_scanName_38 (fun H locs hP hD hS => ?_)
          have hP : va_P D vwCl (wK cI ad (o_this_L7.1, o_this_L7.2.1 + 1, o_this_L7.2.2) ++ wB cI (ad 1) (ad 2) 8192 o_text_L7 ++ wN cI ad o_names_L7) H := hP
          have hD : va_D A (wK cI ad (o_this_L7.1, o_this_L7.2.1 + 1, o_this_L7.2.2) ++ wB cI (ad 1) (ad 2) 8192 o_text_L7 ++ wN cI ad o_names_L7) := hD
          obtain ⟨x1175, ex1175⟩ : ∃ y : Int32, y = v2_L7 + 1 := ⟨_, rfl⟩
          replace hM := nm_use ex1175 hM
          refine lv_iinc (v := x1175) (lv' := [(2, .int x1175), (1, .int w1_L7), (0, .ref (ad 10))]) hx hb dX2_scanName_41 hl (k := 0) rfl (by rw [ex1175]; rfl) (by decide) rfl (fun ls hl => ?_)
          refine lv_goto (tgt := 7) hx hb dX2_scanName_44 (by decide) ?_
          exact ih_L7 x1175 (o_this_L7.1, o_this_L7.2.1 + 1, o_this_L7.2.2) out_L7 _ _ _ hM hP hD hS (lv_sub hl [0, 1, 2] rfl) kx_L7
  obtain ⟨r1, hcr1, hM⟩ := ob_use hM
  refine lp_L7 o_this.2.1 o_text o_names FU 0 o_this r1 _ _ _ hcr1 hP hD hS (lv_sub hl [0, 1, 2] rfl) (fun H locs ls hP hD hS hl => ?_)
  refine lv_aload_n hx hb dX2_scanName_47 rfl (lv_at hl 1 rfl) ?_
  refine va_get (D := D) (ci := 2) (v := .int r1.2.1) (C := RX2) (T := TX2) (N := 7) hx hb hts layX2 hown hK hP 0 rfl rfl 6 (by decide) (hts _ (inA q341)) (fun _ h9 => h9) rfl dX2_scanName_48 ?_
  refine lv_iload_n hx hb dX2_scanName_51 rfl (lv_at hl 0 rfl) ?_
  refine lv_isub hx hb dX2_scanName_52 ?_
  refine lv_bipush (v := 32) hx hb dX2_scanName_53 (by decide) ?_
  refine lv_icmp_le (tgt := 66) hx hb dX2_scanName_55 (by decide) (fun c2 => ?_) (fun c2 => ?_)
  · replace hM := if_t c2 hM
    refine lv_iload_n hx hb dX2_scanName_66 rfl (lv_at hl 0 rfl) ?_
    refine lv_istore_n (lv' := [(2, .int o_this.2.1), (1, .int o_this.2.1), (0, .ref (ad 10))]) hx hb dX2_scanName_67 rfl hl (by decide) rfl (fun ls hl => ?_)
    have lp_L68 : ∀ (w1_L68 : Int32) (o_this_L68 : S_Tokens) (o_text_L68 : S_Bytes) (n : Nat) (v2_L68 : Int32) (o_names_L68 : S_Names) (out_L68 : S_Names) (H : Heap) (locs : List Loc) (ls : Array Slot), f_Tokens_scanName_L68 o_this_L68 o_text_L68 n v2_L68 o_names_L68 = some out_L68 → va_P D vwCl (wK cI ad o_this_L68 ++ wB cI (ad 1) (ad 2) 8192 o_text_L68 ++ wN cI ad o_names_L68) H → va_D A (wK cI ad o_this_L68 ++ wB cI (ad 1) (ad 2) 8192 o_text_L68 ++ wN cI ad o_names_L68) → va_S A s.heap H locs → lv_has ls 3 [(2, .int v2_L68), (1, .int w1_L68), (0, .ref (ad 10))] → (∀ (H : Heap) (locs : List Loc) (ls : Array Slot), va_P D vwCl (wK cI ad o_this_L68 ++ wB cI (ad 1) (ad 2) 8192 o_text_L68 ++ wN cI ad out_L68) H → va_D A (wK cI ad o_this_L68 ++ wB cI (ad 1) (ad 2) 8192 o_text_L68 ++ wN cI ad out_L68) → va_S A s.heap H locs → lv_has ls 3 [(1, .int w1_L68), (0, .ref (ad 10))] → W p l e { frames := 3, cells := 0, slots := 0, locals := 69 } s m [.ref (ad 10)].toArray below meth c H locs 0 0 (MQ below (CQ D A (wK cI ad res.1 ++ wB cI (ad 1) (ad 2) 8192 o_text ++ wN cI ad res.2) none) [.ref (ad 10)].toArray s 0 0 A) (F0 m 97 ls [])) → W p l e { frames := 3, cells := 0, slots := 0, locals := 69 } s m [.ref (ad 10)].toArray below meth c H locs 0 0 (MQ below (CQ D A (wK cI ad res.1 ++ wB cI (ad 1) (ad 2) 8192 o_text ++ wN cI ad res.2) none) [.ref (ad 10)].toArray s 0 0 A) (F0 m 68 ls []) := by
      intro w1_L68 o_this_L68 o_text_L68 n
      induction n with
      | zero => intro v2_L68 o_names_L68 out_L68 H locs ls hM; exact absurd (show none = some _ from hM) (by simp)
      | succ n ih_L68 =>
        intro v2_L68 o_names_L68 out_L68 H locs ls hM hP hD hS hl kx_L68
        rw [f_Tokens_scanName_L68] at hM
        refine lv_iload_n hx hb dX2_scanName_68 rfl (lv_at hl 0 rfl) ?_
        refine lv_aload_n hx hb dX2_scanName_69 rfl (lv_at hl 2 rfl) ?_
        refine va_get (D := D) (ci := 2) (v := .int o_this_L68.2.1) (C := RX2) (T := TX2) (N := 7) hx hb hts layX2 hown hK hP 0 rfl rfl 6 (by decide) (hts _ (inA q341)) (fun _ h9 => h9) rfl dX2_scanName_70 ?_
        refine lv_icmp_ge (tgt := 97) hx hb dX2_scanName_73 (by decide) (fun c1781 => ?_) (fun c1781 => ?_)
        · replace hM := if_t c1781 hM
          cases hM
          exact kx_L68 _ _ _ hP hD hS (lv_sub hl [1, 2] rfl)
        · replace hM := if_f c1781 hM
          refine lv_aload_n hx hb dX2_scanName_76 rfl (lv_at hl 2 rfl) ?_
          refine va_get (D := D) (ci := 2) (v := .ref (ad 5)) (C := RX2) (T := TX2) (N := 7) hx hb hts layX2 hown hK hP 0 rfl rfl 1 (by decide) (hts _ (inA q332)) (fun _ h9 => h9) rfl dX2_scanName_77 ?_
          refine lv_aload_n hx hb dX2_scanName_80 rfl (lv_at hl 2 rfl) ?_
          refine va_get (D := D) (ci := 2) (v := .ref (ad 1)) (C := RX2) (T := TX2) (N := 7) hx hb hts layX2 hown hK hP 0 rfl rfl 0 (by decide) (hts _ (inA q331)) (fun _ h9 => h9) rfl dX2_scanName_81 ?_
          refine lv_iload_n hx hb dX2_scanName_84 rfl (lv_at hl 0 rfl) ?_
          obtain ⟨r1782, hcr1782, hM⟩ := ob_use hM
          refine cl_V (As := [.int v2_L68]) (rest := [.ref (ad 5)]) (wK cI ad o_this_L68 ++ wB cI (ad 1) (ad 2) 8192 o_text_L68 ++ wN cI ad o_names_L68) (.int r1782 :: [.ref (ad 5)]) ⟨hx, hb, hml, hown, hts⟩ (c_Bytes_get l D cI sd (ad 1) (ad 2) 8192 o_text_L68 v2_L68 r1782 hcr1782) (cwV2 hts q530 mvX0_get rfl rfl ⟨(Nat.le_of_ble_eq_true rfl), (Nat.le_of_ble_eq_true rfl)⟩) hK hE hA hP hD hS 4 (T := TX0) (N := 2) (ci := 0) rfl rfl [4, 5] rfl (by decide) rfl rfl rfl rfl rfl rfl hl.1 (Nat.le_of_ble_eq_true rfl) dX2_scanName_85 ⟨Nat.zero_le _, Nat.zero_le _⟩ (fun H locs hP hD hS => ?_)
          obtain ⟨r1783, hcr1783, hM⟩ := ob_use hM
          refine cl_V (As := [.int r1782]) (rest := []) (wK cI ad o_this_L68 ++ wB cI (ad 1) (ad 2) 8192 o_text_L68 ++ wN cI ad r1783) [] ⟨hx, hb, hml, hown, hts⟩ (c_Names_addLetter l D cI sd ad o_names_L68 r1782 r1783 hcr1783) (cwV2 hts q584 mvX1_addLetter rfl rfl ⟨(Nat.le_of_ble_eq_true rfl), (Nat.le_of_ble_eq_true rfl)⟩) hK hE hA hP hD hS 6 (T := TX1) (N := 6) (ci := 1) rfl rfl [6, 7, 8, 9, 10] rfl (by decide) rfl rfl rfl rfl rfl rfl hl.1 (Nat.le_of_ble_eq_true rfl) dX2_scanName_88 ⟨Nat.zero_le _, Nat.zero_le _⟩ (fun H locs hP hD hS => ?_)
          obtain ⟨x1784, ex1784⟩ : ∃ y : Int32, y = v2_L68 + 1 := ⟨_, rfl⟩
          replace hM := nm_use ex1784 hM
          refine lv_iinc (v := x1784) (lv' := [(2, .int x1784), (1, .int w1_L68), (0, .ref (ad 10))]) hx hb dX2_scanName_91 hl (k := 0) rfl (by rw [ex1784]; rfl) (by decide) rfl (fun ls hl => ?_)
          refine lv_goto (tgt := 68) hx hb dX2_scanName_94 (by decide) ?_
          exact ih_L68 x1784 r1783 out_L68 _ _ _ hM hP hD hS (lv_sub hl [0, 1, 2] rfl) kx_L68
    obtain ⟨r3, hcr3, hM⟩ := ob_use hM
    refine lp_L68 o_this.2.1 r1 o_text FU o_this.2.1 o_names r3 _ _ _ hcr3 hP hD hS (lv_sub hl [0, 1, 2] rfl) (fun H locs ls hP hD hS hl => ?_)
    refine lv_aload_n hx hb dX2_scanName_97 rfl (lv_at hl 1 rfl) ?_
    refine va_get (D := D) (ci := 2) (v := .ref (ad 5)) (C := RX2) (T := TX2) (N := 7) hx hb hts layX2 hown hK hP 0 rfl rfl 1 (by decide) (hts _ (inA q332)) (fun _ h9 => h9) rfl dX2_scanName_98 ?_
    obtain ⟨r4, hcr4, hM⟩ := ob_use hM
    refine cl_V (As := []) (rest := []) (wK cI ad r1 ++ wB cI (ad 1) (ad 2) 8192 o_text ++ wN cI ad r4.2) (.int r4.1 :: []) ⟨hx, hb, hml, hown, hts⟩ (c_Names_number l D cI sd ad r3 r4 hcr4) (cwV2 hts q585 mvX1_number rfl rfl ⟨(Nat.le_of_ble_eq_true rfl), (Nat.le_of_ble_eq_true rfl)⟩) hK hE hA hP hD hS 6 (T := TX1) (N := 6) (ci := 1) rfl rfl [6, 7, 8, 9, 10] rfl (by decide) rfl rfl rfl rfl rfl rfl hl.1 (Nat.le_of_ble_eq_true rfl) dX2_scanName_101 ⟨Nat.zero_le _, Nat.zero_le _⟩ (fun H locs hP hD hS => ?_)
    refine lv_istore_n (lv' := [(2, .int r4.1), (1, .int o_this.2.1), (0, .ref (ad 10))]) hx hb dX2_scanName_104 rfl hl (by decide) rfl (fun ls hl => ?_)
    refine lv_iload_n hx hb dX2_scanName_105 rfl (lv_at hl 0 rfl) ?_
    refine lv_bipush (v := 41) hx hb dX2_scanName_106 (by decide) ?_
    refine lv_icmp_ge (tgt := 125) hx hb dX2_scanName_108 (by decide) (fun c5 => ?_) (fun c5 => ?_)
    · replace hM := if_t c5 hM
      refine lv_aload_n hx hb dX2_scanName_125 rfl (lv_at hl 2 rfl) ?_
      refine lv_iconst (v := 1) hx hb dX2_scanName_126 (by decide) ?_
      refine lv_iload_n hx hb dX2_scanName_127 rfl (lv_at hl 1 rfl) ?_
      refine lv_iload_n hx hb dX2_scanName_128 rfl (lv_at hl 0 rfl) ?_
      refine lv_bipush (v := 41) hx hb dX2_scanName_129 (by decide) ?_
      refine lv_isub hx hb dX2_scanName_131 ?_
      obtain ⟨r6, hcr6, hM⟩ := ob_use hM
      refine cl_V (As := [.int 1, .int o_this.2.1, .int (r4.1 - 41)]) (rest := []) (wK cI ad r6 ++ wB cI (ad 1) (ad 2) 8192 o_text ++ wN cI ad r4.2) [] ⟨hx, hb, hml, hown, hts⟩ (c_Tokens_add l D cI sd ad r1 1 o_this.2.1 (r4.1 - 41) r6 hcr6) (cwV2 hts q535 mvX2_add rfl rfl ⟨(Nat.le_of_ble_eq_true rfl), (Nat.le_of_ble_eq_true rfl)⟩) hK hE hA hP hD hS 0 (T := TX2) (N := 7) (ci := 2) rfl rfl [0, 1, 2, 3] rfl (by decide) rfl rfl rfl rfl rfl rfl hl.1 (Nat.le_of_ble_eq_true rfl) dX2_scanName_132 ⟨Nat.zero_le _, Nat.zero_le _⟩ (fun H locs hP hD hS => ?_)
      cases hM
      exact rt_v hx hb hr hlk hP hD hS rfl dX2_scanName_135
    · replace hM := if_f c5 hM
      refine lv_aload_n hx hb dX2_scanName_111 rfl (lv_at hl 2 rfl) ?_
      refine lv_sipush (v := 256) hx hb dX2_scanName_112 (by decide) ?_
      refine lv_iload_n hx hb dX2_scanName_115 rfl (lv_at hl 0 rfl) ?_
      refine lv_iadd hx hb dX2_scanName_116 ?_
      refine lv_iload_n hx hb dX2_scanName_117 rfl (lv_at hl 1 rfl) ?_
      refine lv_iconst (v := 0) hx hb dX2_scanName_118 (by decide) ?_
      obtain ⟨r7, hcr7, hM⟩ := ob_use hM
      refine cl_V (As := [.int (256 + r4.1), .int o_this.2.1, .int 0]) (rest := []) (wK cI ad r7 ++ wB cI (ad 1) (ad 2) 8192 o_text ++ wN cI ad r4.2) [] ⟨hx, hb, hml, hown, hts⟩ (c_Tokens_add l D cI sd ad r1 (256 + r4.1) o_this.2.1 0 r7 hcr7) (cwV2 hts q535 mvX2_add rfl rfl ⟨(Nat.le_of_ble_eq_true rfl), (Nat.le_of_ble_eq_true rfl)⟩) hK hE hA hP hD hS 0 (T := TX2) (N := 7) (ci := 2) rfl rfl [0, 1, 2, 3] rfl (by decide) rfl rfl rfl rfl rfl rfl hl.1 (Nat.le_of_ble_eq_true rfl) dX2_scanName_119 ⟨Nat.zero_le _, Nat.zero_le _⟩ (fun H locs hP hD hS => ?_)
      refine lv_goto (tgt := 135) hx hb dX2_scanName_122 (by decide) ?_
      cases hM
      exact rt_v hx hb hr hlk hP hD hS rfl dX2_scanName_135
  · replace hM := if_f c2 hM
    refine lv_aload_n hx hb dX2_scanName_58 rfl (lv_at hl 1 rfl) ?_
    refine lv_iconst (v := 5) hx hb dX2_scanName_59 (by decide) ?_
    refine lv_iload_n hx hb dX2_scanName_60 rfl (lv_at hl 0 rfl) ?_
    refine lv_iconst (v := 3) hx hb dX2_scanName_61 (by decide) ?_
    obtain ⟨r8, hcr8, hM⟩ := ob_use hM
    refine cl_V (As := [.int 5, .int o_this.2.1, .int 3]) (rest := []) (wK cI ad r8 ++ wB cI (ad 1) (ad 2) 8192 o_text ++ wN cI ad o_names) [] ⟨hx, hb, hml, hown, hts⟩ (c_Tokens_add l D cI sd ad r1 5 o_this.2.1 3 r8 hcr8) (cwV2 hts q535 mvX2_add rfl rfl ⟨(Nat.le_of_ble_eq_true rfl), (Nat.le_of_ble_eq_true rfl)⟩) hK hE hA hP hD hS 0 (T := TX2) (N := 7) (ci := 2) rfl rfl [0, 1, 2, 3] rfl (by decide) rfl rfl rfl rfl rfl rfl hl.1 (Nat.le_of_ble_eq_true rfl) dX2_scanName_62 ⟨Nat.zero_le _, Nat.zero_le _⟩ (fun H locs hP hD hS => ?_)
    cases hM
    exact rt_v hx hb hr hlk hP hD hS rfl dX2_scanName_65

set_option maxHeartbeats 4000000 in
set_option maxRecDepth 100000 in
theorem c_Tokens_addNumber (l : Launch) (D : va_G) (cI : ClassId) (sd : Nat → Nat) (ad : Nat → Nat) (o_this : S_Tokens) (o_text : S_Bytes) (a1 : Int32) (a2 : Int64) (res : S_Tokens) (hM : f_Tokens_addNumber o_this o_text a1 a2 = some res) : Ctr l D cI sd yX2_addNumber (wsM yX2_addNumber cX2_addNumber 4 (Option.none : Option Jvm.ClassFile.FieldType)) { frames := 1, cells := 0, slots := 0, locals := 23 } [.ref (ad 10), .int a1, .long a2] (wK cI ad o_this ++ wB cI (ad 1) (ad 2) 8192 o_text) (wK cI ad res ++ wB cI (ad 1) (ad 2) 8192 o_text) none := by
  refine Ctr.of (cc := cX2_addNumber) (maxL := 4) (own := RX2) (by decide +kernel) rfl rfl (Nat.le_of_ble_eq_true rfl) ?_
  intro p e s m below meth c A ls hx hb hr hml hown hts hlk hK hE hA hP hD hS hl
  have hl : lv_has ls 4 [(0, .ref (ad 10)), (1, .int a1), (2, .long a2)] := hl
  unfold f_Tokens_addNumber at hM
  refine lv_lload_n hx hb dX2_addNumber_0 rfl (lv_at hl 2 rfl) ?_
  refine lv_lconst (v := 0) hx hb dX2_addNumber_1 (by decide) ?_
  refine W.lcmp hx hb dX2_addNumber_2 ?_
  refine lv_if_lt (tgt := 31) hx hb dX2_addNumber_3 (by decide) (fun c1 => ?_) (fun c1 => ?_)
  · replace hM := if_t c1 hM
    refine lv_aload_n hx hb dX2_addNumber_31 rfl (lv_at hl 0 rfl) ?_
    refine lv_iconst (v := 5) hx hb dX2_addNumber_32 (by decide) ?_
    refine lv_iload_n hx hb dX2_addNumber_33 rfl (lv_at hl 1 rfl) ?_
    refine lv_iconst (v := 4) hx hb dX2_addNumber_34 (by decide) ?_
    obtain ⟨r2, hcr2, hM⟩ := ob_use hM
    refine cl_V (As := [.int 5, .int a1, .int 4]) (rest := []) (wK cI ad r2 ++ wB cI (ad 1) (ad 2) 8192 o_text) [] ⟨hx, hb, hml, hown, hts⟩ (c_Tokens_add l D cI sd ad o_this 5 a1 4 r2 hcr2) (cwV2 hts q535 mvX2_add rfl rfl ⟨(Nat.le_of_ble_eq_true rfl), (Nat.le_of_ble_eq_true rfl)⟩) hK hE hA hP hD hS 0 (T := TX2) (N := 7) (ci := 2) rfl rfl [0, 1, 2, 3] rfl (by decide) rfl rfl rfl rfl rfl rfl hl.1 (Nat.le_of_ble_eq_true rfl) dX2_addNumber_35 ⟨Nat.zero_le _, Nat.zero_le _⟩ (fun H locs hP hD hS => ?_)
    refine lv_goto (tgt := 49) hx hb dX2_addNumber_38 (by decide) ?_
    cases hM
    exact rt_v hx hb hr hlk hP hD hS rfl dX2_addNumber_49
  · replace hM := if_f c1 hM
    refine lv_lload_n hx hb dX2_addNumber_6 rfl (lv_at hl 2 rfl) ?_
    refine lv_ldc2 (v := 2147483647) hx hb hown (hts _ (inA q570)) dX2_addNumber_7 ?_
    refine W.lcmp hx hb dX2_addNumber_10 ?_
    refine lv_if_gt (tgt := 31) hx hb dX2_addNumber_11 (by decide) (fun c3 => ?_) (fun c3 => ?_)
    · replace hM := if_t c3 hM
      refine lv_aload_n hx hb dX2_addNumber_31 rfl (lv_at hl 0 rfl) ?_
      refine lv_iconst (v := 5) hx hb dX2_addNumber_32 (by decide) ?_
      refine lv_iload_n hx hb dX2_addNumber_33 rfl (lv_at hl 1 rfl) ?_
      refine lv_iconst (v := 4) hx hb dX2_addNumber_34 (by decide) ?_
      obtain ⟨r4, hcr4, hM⟩ := ob_use hM
      refine cl_V (As := [.int 5, .int a1, .int 4]) (rest := []) (wK cI ad r4 ++ wB cI (ad 1) (ad 2) 8192 o_text) [] ⟨hx, hb, hml, hown, hts⟩ (c_Tokens_add l D cI sd ad o_this 5 a1 4 r4 hcr4) (cwV2 hts q535 mvX2_add rfl rfl ⟨(Nat.le_of_ble_eq_true rfl), (Nat.le_of_ble_eq_true rfl)⟩) hK hE hA hP hD hS 0 (T := TX2) (N := 7) (ci := 2) rfl rfl [0, 1, 2, 3] rfl (by decide) rfl rfl rfl rfl rfl rfl hl.1 (Nat.le_of_ble_eq_true rfl) dX2_addNumber_35 ⟨Nat.zero_le _, Nat.zero_le _⟩ (fun H locs hP hD hS => ?_)
      refine lv_goto (tgt := 49) hx hb dX2_addNumber_38 (by decide) ?_
      cases hM
      exact rt_v hx hb hr hlk hP hD hS rfl dX2_addNumber_49
    · replace hM := if_f c3 hM
      refine lv_aload_n hx hb dX2_addNumber_14 rfl (lv_at hl 0 rfl) ?_
      refine va_get (D := D) (ci := 2) (v := .ref (ad 1)) (C := RX2) (T := TX2) (N := 7) hx hb hts layX2 hown hK hP 0 rfl rfl 0 (by decide) (hts _ (inA q331)) (fun _ h9 => h9) rfl dX2_addNumber_15 ?_
      refine lv_aload_n hx hb dX2_addNumber_18 rfl (lv_at hl 0 rfl) ?_
      refine va_get (D := D) (ci := 2) (v := .int o_this.2.1) (C := RX2) (T := TX2) (N := 7) hx hb hts layX2 hown hK hP 0 rfl rfl 6 (by decide) (hts _ (inA q341)) (fun _ h9 => h9) rfl dX2_addNumber_19 ?_
      obtain ⟨r5, hcr5, hM⟩ := ob_use hM
      refine cl_V (As := [.int o_this.2.1]) (rest := []) (wK cI ad o_this ++ wB cI (ad 1) (ad 2) 8192 o_text) (.int r5 :: []) ⟨hx, hb, hml, hown, hts⟩ (c_Bytes_get l D cI sd (ad 1) (ad 2) 8192 o_text o_this.2.1 r5 hcr5) (cwV2 hts q530 mvX0_get rfl rfl ⟨(Nat.le_of_ble_eq_true rfl), (Nat.le_of_ble_eq_true rfl)⟩) hK hE hA hP hD hS 4 (T := TX0) (N := 2) (ci := 0) rfl rfl [4, 5] rfl (by decide) rfl rfl rfl rfl rfl rfl hl.1 (Nat.le_of_ble_eq_true rfl) dX2_addNumber_22 ⟨Nat.zero_le _, Nat.zero_le _⟩ (fun H locs hP hD hS => ?_)
      obtain ⟨r6, hcr6, hM⟩ := ob_use hM
      refine cl_SN (As := [.int r5]) (rest := []) (wK cI ad o_this ++ wB cI (ad 1) (ad 2) 8192 o_text) (.int r6 :: []) ⟨hx, hb, hml, hown, hts⟩ (c_Top_isNameByte l D cI sd ad r5 r6 hcr6) (cwSN2 hts (nmE4 hE) mvX6_isNameByte rfl rfl ⟨(Nat.le_of_ble_eq_true rfl), (Nat.le_of_ble_eq_true rfl)⟩) hK hE hA hP hD hS [] rfl (by decide) rfl rfl rfl rfl rfl rfl hl.1 (Nat.le_of_ble_eq_true rfl) dX2_addNumber_25 ⟨Nat.zero_le _, Nat.zero_le _⟩ (fun H locs hP hD hS => ?_)
      refine lv_if_eq (tgt := 41) hx hb dX2_addNumber_28 (by decide) (fun c7 => ?_) (fun c7 => ?_)
      · replace hM := if_t c7 hM
        refine lv_aload_n hx hb dX2_addNumber_41 rfl (lv_at hl 0 rfl) ?_
        refine lv_iconst (v := 2) hx hb dX2_addNumber_42 (by decide) ?_
        refine lv_iload_n hx hb dX2_addNumber_43 rfl (lv_at hl 1 rfl) ?_
        refine lv_lload_n hx hb dX2_addNumber_44 rfl (lv_at hl 2 rfl) ?_
        refine lv_l2i hx hb dX2_addNumber_45 rfl ?_
        obtain ⟨r8, hcr8, hM⟩ := ob_use hM
        refine cl_V (As := [.int 2, .int a1, .int a2.toInt32]) (rest := []) (wK cI ad r8 ++ wB cI (ad 1) (ad 2) 8192 o_text) [] ⟨hx, hb, hml, hown, hts⟩ (c_Tokens_add l D cI sd ad o_this 2 a1 a2.toInt32 r8 hcr8) (cwV2 hts q535 mvX2_add rfl rfl ⟨(Nat.le_of_ble_eq_true rfl), (Nat.le_of_ble_eq_true rfl)⟩) hK hE hA hP hD hS 0 (T := TX2) (N := 7) (ci := 2) rfl rfl [0, 1, 2, 3] rfl (by decide) rfl rfl rfl rfl rfl rfl hl.1 (Nat.le_of_ble_eq_true rfl) dX2_addNumber_46 ⟨Nat.zero_le _, Nat.zero_le _⟩ (fun H locs hP hD hS => ?_)
        cases hM
        exact rt_v hx hb hr hlk hP hD hS rfl dX2_addNumber_49
      · replace hM := if_f c7 hM
        refine lv_aload_n hx hb dX2_addNumber_31 rfl (lv_at hl 0 rfl) ?_
        refine lv_iconst (v := 5) hx hb dX2_addNumber_32 (by decide) ?_
        refine lv_iload_n hx hb dX2_addNumber_33 rfl (lv_at hl 1 rfl) ?_
        refine lv_iconst (v := 4) hx hb dX2_addNumber_34 (by decide) ?_
        obtain ⟨r9, hcr9, hM⟩ := ob_use hM
        refine cl_V (As := [.int 5, .int a1, .int 4]) (rest := []) (wK cI ad r9 ++ wB cI (ad 1) (ad 2) 8192 o_text) [] ⟨hx, hb, hml, hown, hts⟩ (c_Tokens_add l D cI sd ad o_this 5 a1 4 r9 hcr9) (cwV2 hts q535 mvX2_add rfl rfl ⟨(Nat.le_of_ble_eq_true rfl), (Nat.le_of_ble_eq_true rfl)⟩) hK hE hA hP hD hS 0 (T := TX2) (N := 7) (ci := 2) rfl rfl [0, 1, 2, 3] rfl (by decide) rfl rfl rfl rfl rfl rfl hl.1 (Nat.le_of_ble_eq_true rfl) dX2_addNumber_35 ⟨Nat.zero_le _, Nat.zero_le _⟩ (fun H locs hP hD hS => ?_)
        refine lv_goto (tgt := 49) hx hb dX2_addNumber_38 (by decide) ?_
        cases hM
        exact rt_v hx hb hr hlk hP hD hS rfl dX2_addNumber_49

set_option maxHeartbeats 4000000 in
set_option maxRecDepth 100000 in
theorem c_Tokens_digit (l : Launch) (D : va_G) (cI : ClassId) (sd : Nat → Nat) (ad : Nat → Nat) (a1 : Int32) (res : Int32) (hM : f_Tokens_digit a1 = some res) : Ctr l D cI sd yX2_digit (wsM yX2_digit cX2_digit 2 (Option.some Jvm.ClassFile.FieldType.int)) { frames := 1, cells := 0, slots := 0, locals := 20 } [.int a1] (([] : va_W)) (([] : va_W)) (some (.int res)) := by
  refine Ctr.of (cc := cX2_digit) (maxL := 2) (own := RX2) (by decide +kernel) rfl rfl (Nat.le_of_ble_eq_true rfl) ?_
  intro p e s m below meth c A ls hx hb hr hml hown hts hlk hK hE hA hP hD hS hl
  have hl : lv_has ls 2 [(0, .int a1)] := hl
  unfold f_Tokens_digit at hM
  refine lv_iload_n hx hb dX2_digit_0 rfl (lv_at hl 0 rfl) ?_
  obtain ⟨r1, hcr1, hM⟩ := ob_use hM
  refine cl_SN (As := [.int a1]) (rest := []) (([] : va_W)) (.int r1 :: []) ⟨hx, hb, hml, hown, hts⟩ (c_Top_great l D cI sd ad a1 r1 hcr1) (cwSN2 hts (nmE2 hE) mvX6_great rfl rfl ⟨(Nat.le_of_ble_eq_true rfl), (Nat.le_of_ble_eq_true rfl)⟩) hK hE hA hP hD hS [] rfl (by decide) rfl rfl rfl rfl rfl rfl hl.1 (Nat.le_of_ble_eq_true rfl) dX2_digit_1 ⟨Nat.zero_le _, Nat.zero_le _⟩ (fun H locs hP hD hS => ?_)
  refine lv_istore_n (lv' := [(1, .int r1), (0, .int a1)]) hx hb dX2_digit_4 rfl hl (by decide) rfl (fun ls hl => ?_)
  refine lv_iload_n hx hb dX2_digit_5 rfl (lv_at hl 0 rfl) ?_
  refine lv_bipush (v := 65) hx hb dX2_digit_6 (by decide) ?_
  refine lv_icmp_lt (tgt := 25) hx hb dX2_digit_8 (by decide) (fun c2 => ?_) (fun c2 => ?_)
  · replace hM := if_t c2 hM
    refine lv_iload_n hx hb dX2_digit_25 rfl (lv_at hl 1 rfl) ?_
    obtain ⟨r3, hcr3, hM⟩ := ob_use hM
    refine cl_SN (As := [.int a1]) (rest := []) (([] : va_W)) (.int r3 :: []) ⟨hx, hb, hml, hown, hts⟩ (c_Top_isDigit l D cI sd ad a1 r3 hcr3) (cwSN2 hts (nmE3 hE) mvX6_isDigit rfl rfl ⟨(Nat.le_of_ble_eq_true rfl), (Nat.le_of_ble_eq_true rfl)⟩) hK hE hA hP hD hS [] rfl (by decide) rfl rfl rfl rfl rfl rfl hl.1 (Nat.le_of_ble_eq_true rfl) dX2_digit_26 ⟨Nat.zero_le _, Nat.zero_le _⟩ (fun H locs hP hD hS => ?_)
    refine lv_if_eq (tgt := 39) hx hb dX2_digit_29 (by decide) (fun c4 => ?_) (fun c4 => ?_)
    · replace hM := if_t c4 hM
      refine lv_iconst (v := (-1)) hx hb dX2_digit_39 (by decide) ?_
      cases hM
      exact rt_i hx hb hr hlk hP hD hS rfl dX2_digit_40
    · replace hM := if_f c4 hM
      refine lv_iload_n hx hb dX2_digit_32 rfl (lv_at hl 1 rfl) ?_
      refine lv_bipush (v := 48) hx hb dX2_digit_33 (by decide) ?_
      refine lv_isub hx hb dX2_digit_35 ?_
      refine lv_goto (tgt := 40) hx hb dX2_digit_36 (by decide) ?_
      cases hM
      exact rt_i hx hb hr hlk hP hD hS rfl dX2_digit_40
  · replace hM := if_f c2 hM
    refine lv_iload_n hx hb dX2_digit_11 rfl (lv_at hl 0 rfl) ?_
    refine lv_bipush (v := 70) hx hb dX2_digit_12 (by decide) ?_
    refine lv_icmp_gt (tgt := 25) hx hb dX2_digit_14 (by decide) (fun c5 => ?_) (fun c5 => ?_)
    · replace hM := if_t c5 hM
      refine lv_iload_n hx hb dX2_digit_25 rfl (lv_at hl 1 rfl) ?_
      obtain ⟨r6, hcr6, hM⟩ := ob_use hM
      refine cl_SN (As := [.int a1]) (rest := []) (([] : va_W)) (.int r6 :: []) ⟨hx, hb, hml, hown, hts⟩ (c_Top_isDigit l D cI sd ad a1 r6 hcr6) (cwSN2 hts (nmE3 hE) mvX6_isDigit rfl rfl ⟨(Nat.le_of_ble_eq_true rfl), (Nat.le_of_ble_eq_true rfl)⟩) hK hE hA hP hD hS [] rfl (by decide) rfl rfl rfl rfl rfl rfl hl.1 (Nat.le_of_ble_eq_true rfl) dX2_digit_26 ⟨Nat.zero_le _, Nat.zero_le _⟩ (fun H locs hP hD hS => ?_)
      refine lv_if_eq (tgt := 39) hx hb dX2_digit_29 (by decide) (fun c7 => ?_) (fun c7 => ?_)
      · replace hM := if_t c7 hM
        refine lv_iconst (v := (-1)) hx hb dX2_digit_39 (by decide) ?_
        cases hM
        exact rt_i hx hb hr hlk hP hD hS rfl dX2_digit_40
      · replace hM := if_f c7 hM
        refine lv_iload_n hx hb dX2_digit_32 rfl (lv_at hl 1 rfl) ?_
        refine lv_bipush (v := 48) hx hb dX2_digit_33 (by decide) ?_
        refine lv_isub hx hb dX2_digit_35 ?_
        refine lv_goto (tgt := 40) hx hb dX2_digit_36 (by decide) ?_
        cases hM
        exact rt_i hx hb hr hlk hP hD hS rfl dX2_digit_40
    · replace hM := if_f c5 hM
      refine lv_iload_n hx hb dX2_digit_17 rfl (lv_at hl 0 rfl) ?_
      refine lv_bipush (v := 65) hx hb dX2_digit_18 (by decide) ?_
      refine lv_isub hx hb dX2_digit_20 ?_
      refine lv_bipush (v := 10) hx hb dX2_digit_21 (by decide) ?_
      refine lv_iadd hx hb dX2_digit_23 ?_
      cases hM
      exact rt_i hx hb hr hlk hP hD hS rfl dX2_digit_24

set_option maxHeartbeats 4000000 in
set_option maxRecDepth 100000 in
theorem c_Tokens_digits (l : Launch) (D : va_G) (cI : ClassId) (sd : Nat → Nat) (ad : Nat → Nat) (o_this : S_Tokens) (o_text : S_Bytes) (a1 : Int32) (res : Int64 × S_Tokens) (hM : f_Tokens_digits o_this o_text a1 = some res) : Ctr l D cI sd yX2_digits (wsM yX2_digits cX2_digits 7 (Option.some Jvm.ClassFile.FieldType.long)) { frames := 2, cells := 0, slots := 0, locals := 41 } [.ref (ad 10), .int a1] (wK cI ad o_this ++ wB cI (ad 1) (ad 2) 8192 o_text) (wK cI ad res.2 ++ wB cI (ad 1) (ad 2) 8192 o_text) (some (.long res.1)) := by
  refine Ctr.of (cc := cX2_digits) (maxL := 7) (own := RX2) (by decide +kernel) rfl rfl (Nat.le_of_ble_eq_true rfl) ?_
  intro p e s m below meth c A ls hx hb hr hml hown hts hlk hK hE hA hP hD hS hl
  have hl : lv_has ls 7 [(0, .ref (ad 10)), (1, .int a1)] := hl
  unfold f_Tokens_digits at hM
  refine lv_lconst (v := 0) hx hb dX2_digits_0 (by decide) ?_
  refine lv_lstore_n (lv' := [(2, .long 0), (0, .ref (ad 10)), (1, .int a1)]) hx hb dX2_digits_1 rfl hl (by decide) rfl (fun ls hl => ?_)
  refine lv_aload_n hx hb dX2_digits_2 rfl (lv_at hl 1 rfl) ?_
  refine va_get (D := D) (ci := 2) (v := .int o_this.2.1) (C := RX2) (T := TX2) (N := 7) hx hb hts layX2 hown hK hP 0 rfl rfl 6 (by decide) (hts _ (inA q341)) (fun _ h9 => h9) rfl dX2_digits_3 ?_
  refine lv_istore (lv' := [(4, .int o_this.2.1), (2, .long 0), (0, .ref (ad 10)), (1, .int a1)]) hx hb dX2_digits_6 hl (by decide) rfl (fun ls hl => ?_)
  refine lv_iconst (v := 0) hx hb dX2_digits_8 (by decide) ?_
  refine lv_istore (lv' := [(5, .int 0), (4, .int o_this.2.1), (2, .long 0), (0, .ref (ad 10)), (1, .int a1)]) hx hb dX2_digits_9 hl (by decide) rfl (fun ls hl => ?_)
  have lp_L11 : ∀ (w4_L11 : Int32) (w1_L11 : Int32) (n : Nat) (v5_L11 : Int32) (v2_L11 : Int64) (o_this_L11 : S_Tokens) (H : Heap) (locs : List Loc) (ls : Array Slot), f_Tokens_digits_L11 o_text w4_L11 w1_L11 n v5_L11 v2_L11 o_this_L11 = some res → va_P D vwCl (wK cI ad o_this_L11 ++ wB cI (ad 1) (ad 2) 8192 o_text) H → va_D A (wK cI ad o_this_L11 ++ wB cI (ad 1) (ad 2) 8192 o_text) → va_S A s.heap H locs → lv_has ls 7 [(5, .int v5_L11), (4, .int w4_L11), (2, .long v2_L11), (0, .ref (ad 10)), (1, .int w1_L11)] → W p l e { frames := 2, cells := 0, slots := 0, locals := 41 } s m [.ref (ad 10), .int a1].toArray below meth c H locs 0 0 (MQ below (CQ D A (wK cI ad res.2 ++ wB cI (ad 1) (ad 2) 8192 o_text) (some (.long res.1))) [.ref (ad 10), .int a1].toArray s 0 0 A) (F0 m 11 ls []) := by
    intro w4_L11 w1_L11 n
    induction n with
    | zero => intro v5_L11 v2_L11 o_this_L11 H locs ls hM; exact absurd (show none = some _ from hM) (by simp)
    | succ n ih_L11 =>
      intro v5_L11 v2_L11 o_this_L11 H locs ls hM hP hD hS hl
      rw [f_Tokens_digits_L11] at hM
      refine lv_iload hx hb dX2_digits_11 (lv_at hl 0 rfl) ?_
      refine lv_sipush (v := 8192) hx hb dX2_digits_13 (by decide) ?_
      refine lv_icmp_ge (tgt := 81) hx hb dX2_digits_16 (by decide) (fun c1211 => ?_) (fun c1211 => ?_)
      · replace hM := if_t c1211 hM
        refine lv_aload_n hx hb dX2_digits_81 rfl (lv_at hl 3 rfl) ?_
        refine va_get (D := D) (ci := 2) (v := .int o_this_L11.2.1) (C := RX2) (T := TX2) (N := 7) hx hb hts layX2 hown hK hP 0 rfl rfl 6 (by decide) (hts _ (inA q341)) (fun _ h9 => h9) rfl dX2_digits_82 ?_
        refine lv_iload hx hb dX2_digits_85 (lv_at hl 1 rfl) ?_
        refine lv_icmp_ne (tgt := 96) hx hb dX2_digits_87 (by decide) (fun c1212 => ?_) (fun c1212 => ?_)
        · replace hM := if_f c1212 hM
          refine lv_lload_n hx hb dX2_digits_96 rfl (lv_at hl 2 rfl) ?_
          cases hM
          exact rt_l hx hb hr hlk hP hD hS rfl dX2_digits_97
        · replace hM := if_t c1212 hM
          refine lv_ldc2 (v := (-1)) hx hb hown (hts _ (inA q558)) dX2_digits_90 ?_
          refine lv_goto (tgt := 97) hx hb dX2_digits_93 (by decide) ?_
          cases hM
          exact rt_l hx hb hr hlk hP hD hS rfl dX2_digits_97
      · replace hM := if_f c1211 hM
        refine lv_aload_n hx hb dX2_digits_19 rfl (lv_at hl 3 rfl) ?_
        refine va_get (D := D) (ci := 2) (v := .ref (ad 1)) (C := RX2) (T := TX2) (N := 7) hx hb hts layX2 hown hK hP 0 rfl rfl 0 (by decide) (hts _ (inA q331)) (fun _ h9 => h9) rfl dX2_digits_20 ?_
        refine lv_aload_n hx hb dX2_digits_23 rfl (lv_at hl 3 rfl) ?_
        refine va_get (D := D) (ci := 2) (v := .int o_this_L11.2.1) (C := RX2) (T := TX2) (N := 7) hx hb hts layX2 hown hK hP 0 rfl rfl 6 (by decide) (hts _ (inA q341)) (fun _ h9 => h9) rfl dX2_digits_24 ?_
        obtain ⟨r1213, hcr1213, hM⟩ := ob_use hM
        refine cl_V (As := [.int o_this_L11.2.1]) (rest := []) (wK cI ad o_this_L11 ++ wB cI (ad 1) (ad 2) 8192 o_text) (.int r1213 :: []) ⟨hx, hb, hml, hown, hts⟩ (c_Bytes_get l D cI sd (ad 1) (ad 2) 8192 o_text o_this_L11.2.1 r1213 hcr1213) (cwV2 hts q530 mvX0_get rfl rfl ⟨(Nat.le_of_ble_eq_true rfl), (Nat.le_of_ble_eq_true rfl)⟩) hK hE hA hP hD hS 4 (T := TX0) (N := 2) (ci := 0) rfl rfl [4, 5] rfl (by decide) rfl rfl rfl rfl rfl rfl hl.1 (Nat.le_of_ble_eq_true rfl) dX2_digits_27 ⟨Nat.zero_le _, Nat.zero_le _⟩ (fun H locs hP hD hS => ?_)
        obtain ⟨r1214, hcr1214, hM⟩ := ob_use hM
        refine cl_S (As := [.int r1213]) (rest := []) (wK cI ad o_this_L11 ++ wB cI (ad 1) (ad 2) 8192 o_text) (.int r1214 :: []) ⟨hx, hb, hml, hown, hts⟩ (c_Tokens_digit l D cI sd ad r1213 r1214 hcr1214) (cwS2 hts q548 mvX2_digit rfl rfl ⟨(Nat.le_of_ble_eq_true rfl), (Nat.le_of_ble_eq_true rfl)⟩) hK hE hA hP hD hS [] rfl (by decide) rfl rfl rfl rfl rfl rfl hl.1 (Nat.le_of_ble_eq_true rfl) dX2_digits_30 ⟨Nat.zero_le _, Nat.zero_le _⟩ (fun H locs hP hD hS => ?_)
        refine lv_istore (lv' := [(6, .int r1214), (5, .int v5_L11), (4, .int w4_L11), (2, .long v2_L11), (0, .ref (ad 10)), (1, .int w1_L11)]) hx hb dX2_digits_33 hl (by decide) rfl (fun ls hl => ?_)
        refine lv_iload hx hb dX2_digits_35 (lv_at hl 0 rfl) ?_
        refine lv_iconst (v := (-1)) hx hb dX2_digits_37 (by decide) ?_
        refine lv_icmp_eq (tgt := 81) hx hb dX2_digits_38 (by decide) (fun c1215 => ?_) (fun c1215 => ?_)
        · replace hM := if_t c1215 hM
          refine lv_aload_n hx hb dX2_digits_81 rfl (lv_at hl 4 rfl) ?_
          refine va_get (D := D) (ci := 2) (v := .int o_this_L11.2.1) (C := RX2) (T := TX2) (N := 7) hx hb hts layX2 hown hK hP 0 rfl rfl 6 (by decide) (hts _ (inA q341)) (fun _ h9 => h9) rfl dX2_digits_82 ?_
          refine lv_iload hx hb dX2_digits_85 (lv_at hl 2 rfl) ?_
          refine lv_icmp_ne (tgt := 96) hx hb dX2_digits_87 (by decide) (fun c1216 => ?_) (fun c1216 => ?_)
          · replace hM := if_f c1216 hM
            refine lv_lload_n hx hb dX2_digits_96 rfl (lv_at hl 3 rfl) ?_
            cases hM
            exact rt_l hx hb hr hlk hP hD hS rfl dX2_digits_97
          · replace hM := if_t c1216 hM
            refine lv_ldc2 (v := (-1)) hx hb hown (hts _ (inA q558)) dX2_digits_90 ?_
            refine lv_goto (tgt := 97) hx hb dX2_digits_93 (by decide) ?_
            cases hM
            exact rt_l hx hb hr hlk hP hD hS rfl dX2_digits_97
        · replace hM := if_f c1215 hM
          refine lv_iload hx hb dX2_digits_41 (lv_at hl 0 rfl) ?_
          refine lv_iload_n hx hb dX2_digits_43 rfl (lv_at hl 5 rfl) ?_
          refine lv_icmp_lt (tgt := 50) hx hb dX2_digits_44 (by decide) (fun c1217 => ?_) (fun c1217 => ?_)
          · replace hM := if_t c1217 hM
            refine lv_ldc2 (v := 2147483648) hx hb hown (hts _ (inA q554)) dX2_digits_50 ?_
            refine lv_lload_n hx hb dX2_digits_53 rfl (lv_at hl 3 rfl) ?_
            refine lv_iload_n hx hb dX2_digits_54 rfl (lv_at hl 5 rfl) ?_
            refine lv_i2l hx hb dX2_digits_55 rfl ?_
            refine lv_lmul hx hb dX2_digits_56 ?_
            refine lv_iload hx hb dX2_digits_57 (lv_at hl 0 rfl) ?_
            refine lv_i2l hx hb dX2_digits_59 rfl ?_
            refine lv_ladd hx hb dX2_digits_60 ?_
            obtain ⟨r1218, hcr1218, hM⟩ := ob_use hM
            refine cl_S (As := [.long 2147483648, .long ((v2_L11 * w1_L11.toInt64) + r1214.toInt64)]) (rest := []) (wK cI ad o_this_L11 ++ wB cI (ad 1) (ad 2) 8192 o_text) (.long r1218 :: []) ⟨hx, hb, hml, hown, hts⟩ (c_Math_min l D cI sd ad 2147483648 ((v2_L11 * w1_L11.toInt64) + r1214.toInt64) r1218 hcr1218) (cwS2 hts q555 mvX10_min rfl rfl ⟨(Nat.le_of_ble_eq_true rfl), (Nat.le_of_ble_eq_true rfl)⟩) hK hE hA hP hD hS [] rfl (by decide) rfl rfl rfl rfl rfl rfl hl.1 (Nat.le_of_ble_eq_true rfl) dX2_digits_61 ⟨Nat.zero_le _, Nat.zero_le _⟩ (fun H locs hP hD hS => ?_)
            refine lv_lstore_n (lv' := [(2, .long r1218), (6, .int r1214), (5, .int v5_L11), (4, .int w4_L11), (0, .ref (ad 10)), (1, .int w1_L11)]) hx hb dX2_digits_64 rfl hl (by decide) rfl (fun ls hl => ?_)
            refine lv_aload_n hx hb dX2_digits_65 rfl (lv_at hl 4 rfl) ?_
            refine lv_dup hx hb dX2_digits_66 rfl ?_
            refine va_get (D := D) (ci := 2) (v := .int o_this_L11.2.1) (C := RX2) (T := TX2) (N := 7) hx hb hts layX2 hown hK hP 0 rfl rfl 6 (by decide) (hts _ (inA q341)) (fun _ h9 => h9) rfl dX2_digits_67 ?_
            refine lv_iconst (v := 1) hx hb dX2_digits_70 (by decide) ?_
            refine lv_iadd hx hb dX2_digits_71 ?_
            refine va_put (D := D) (ci := 2) (v := .int (o_this_L11.2.1 + 1)) (ty := .int) (C := RX2) (T := TX2) (N := 7) hx hb hts layX2 tyX2 tyX2_ok nmX2 hown hK hP hD hS 0 rfl rfl 6 (by decide) (hts _ (inA q341)) (fun _ h9 => h9) rfl (by decide +kernel) rfl rfl (Nat.le_of_ble_eq_true rfl) dX2_digits_72 (fun H locs hP hD hS => ?_)
            have hP : va_P D vwCl (wK cI ad (o_this_L11.1, o_this_L11.2.1 + 1, o_this_L11.2.2) ++ wB cI (ad 1) (ad 2) 8192 o_text) H := hP
            have hD : va_D A (wK cI ad (o_this_L11.1, o_this_L11.2.1 + 1, o_this_L11.2.2) ++ wB cI (ad 1) (ad 2) 8192 o_text) := hD
            obtain ⟨x1219, ex1219⟩ : ∃ y : Int32, y = v5_L11 + 1 := ⟨_, rfl⟩
            replace hM := nm_use ex1219 hM
            refine lv_iinc (v := x1219) (lv' := [(5, .int x1219), (2, .long r1218), (6, .int r1214), (4, .int w4_L11), (0, .ref (ad 10)), (1, .int w1_L11)]) hx hb dX2_digits_75 hl (k := 2) rfl (by rw [ex1219]; rfl) (by decide) rfl (fun ls hl => ?_)
            refine lv_goto (tgt := 11) hx hb dX2_digits_78 (by decide) ?_
            exact ih_L11 x1219 r1218 (o_this_L11.1, o_this_L11.2.1 + 1, o_this_L11.2.2) _ _ _ hM hP hD hS (lv_sub hl [0, 3, 1, 4, 5] rfl)
          · replace hM := if_f c1217 hM
            refine lv_goto (tgt := 81) hx hb dX2_digits_47 (by decide) ?_
            refine lv_aload_n hx hb dX2_digits_81 rfl (lv_at hl 4 rfl) ?_
            refine va_get (D := D) (ci := 2) (v := .int o_this_L11.2.1) (C := RX2) (T := TX2) (N := 7) hx hb hts layX2 hown hK hP 0 rfl rfl 6 (by decide) (hts _ (inA q341)) (fun _ h9 => h9) rfl dX2_digits_82 ?_
            refine lv_iload hx hb dX2_digits_85 (lv_at hl 2 rfl) ?_
            refine lv_icmp_ne (tgt := 96) hx hb dX2_digits_87 (by decide) (fun c1220 => ?_) (fun c1220 => ?_)
            · replace hM := if_f c1220 hM
              refine lv_lload_n hx hb dX2_digits_96 rfl (lv_at hl 3 rfl) ?_
              cases hM
              exact rt_l hx hb hr hlk hP hD hS rfl dX2_digits_97
            · replace hM := if_t c1220 hM
              refine lv_ldc2 (v := (-1)) hx hb hown (hts _ (inA q558)) dX2_digits_90 ?_
              refine lv_goto (tgt := 97) hx hb dX2_digits_93 (by decide) ?_
              cases hM
              exact rt_l hx hb hr hlk hP hD hS rfl dX2_digits_97
  exact lp_L11 o_this.2.1 a1 FU 0 0 o_this _ _ _ hM hP hD hS (lv_sub hl [0, 1, 2, 3, 4] rfl)

set_option maxHeartbeats 4000000 in
set_option maxRecDepth 100000 in
theorem c_Tokens_scanNumber (l : Launch) (D : va_G) (cI : ClassId) (sd : Nat → Nat) (ad : Nat → Nat) (o_this : S_Tokens) (o_text : S_Bytes) (res : S_Tokens) (hM : f_Tokens_scanNumber o_this o_text = some res) : Ctr l D cI sd yX2_scanNumber (wsM yX2_scanNumber cX2_scanNumber 4 (Option.none : Option Jvm.ClassFile.FieldType)) { frames := 3, cells := 0, slots := 0, locals := 67 } [.ref (ad 10)] (wK cI ad o_this ++ wB cI (ad 1) (ad 2) 8192 o_text) (wK cI ad res ++ wB cI (ad 1) (ad 2) 8192 o_text) none := by
  refine Ctr.of (cc := cX2_scanNumber) (maxL := 4) (own := RX2) (by decide +kernel) rfl rfl (Nat.le_of_ble_eq_true rfl) ?_
  intro p e s m below meth c A ls hx hb hr hml hown hts hlk hK hE hA hP hD hS hl
  have hl : lv_has ls 4 [(0, .ref (ad 10))] := hl
  unfold f_Tokens_scanNumber at hM
  refine lv_aload_n hx hb dX2_scanNumber_0 rfl (lv_at hl 0 rfl) ?_
  refine va_get (D := D) (ci := 2) (v := .int o_this.2.1) (C := RX2) (T := TX2) (N := 7) hx hb hts layX2 hown hK hP 0 rfl rfl 6 (by decide) (hts _ (inA q341)) (fun _ h9 => h9) rfl dX2_scanNumber_1 ?_
  refine lv_istore_n (lv' := [(1, .int o_this.2.1), (0, .ref (ad 10))]) hx hb dX2_scanNumber_4 rfl hl (by decide) rfl (fun ls hl => ?_)
  refine lv_aload_n hx hb dX2_scanNumber_5 rfl (lv_at hl 1 rfl) ?_
  refine lv_bipush (v := 10) hx hb dX2_scanNumber_6 (by decide) ?_
  obtain ⟨r1, hcr1, hM⟩ := ob_use hM
  refine cl_V (As := [.int 10]) (rest := []) (wK cI ad r1.2 ++ wB cI (ad 1) (ad 2) 8192 o_text) (.long r1.1 :: []) ⟨hx, hb, hml, hown, hts⟩ (c_Tokens_digits l D cI sd ad o_this o_text 10 r1 hcr1) (cwV2 hts q544 mvX2_digits rfl rfl ⟨(Nat.le_of_ble_eq_true rfl), (Nat.le_of_ble_eq_true rfl)⟩) hK hE hA hP hD hS 0 (T := TX2) (N := 7) (ci := 2) rfl rfl [0, 1, 2, 3, 4, 5] rfl (by decide) rfl rfl rfl rfl rfl rfl hl.1 (Nat.le_of_ble_eq_true rfl) dX2_scanNumber_8 ⟨Nat.zero_le _, Nat.zero_le _⟩ (fun H locs hP hD hS => ?_)
  refine lv_lstore_n (lv' := [(2, .long r1.1), (1, .int o_this.2.1), (0, .ref (ad 10))]) hx hb dX2_scanNumber_11 rfl hl (by decide) rfl (fun ls hl => ?_)
  refine lv_aload_n hx hb dX2_scanNumber_12 rfl (lv_at hl 2 rfl) ?_
  refine va_get (D := D) (ci := 2) (v := .ref (ad 1)) (C := RX2) (T := TX2) (N := 7) hx hb hts layX2 hown hK hP 0 rfl rfl 0 (by decide) (hts _ (inA q331)) (fun _ h9 => h9) rfl dX2_scanNumber_13 ?_
  refine lv_aload_n hx hb dX2_scanNumber_16 rfl (lv_at hl 2 rfl) ?_
  refine va_get (D := D) (ci := 2) (v := .int r1.2.2.1) (C := RX2) (T := TX2) (N := 7) hx hb hts layX2 hown hK hP 0 rfl rfl 6 (by decide) (hts _ (inA q341)) (fun _ h9 => h9) rfl dX2_scanNumber_17 ?_
  obtain ⟨r2, hcr2, hM⟩ := ob_use hM
  refine cl_V (As := [.int r1.2.2.1]) (rest := []) (wK cI ad r1.2 ++ wB cI (ad 1) (ad 2) 8192 o_text) (.int r2 :: []) ⟨hx, hb, hml, hown, hts⟩ (c_Bytes_get l D cI sd (ad 1) (ad 2) 8192 o_text r1.2.2.1 r2 hcr2) (cwV2 hts q530 mvX0_get rfl rfl ⟨(Nat.le_of_ble_eq_true rfl), (Nat.le_of_ble_eq_true rfl)⟩) hK hE hA hP hD hS 4 (T := TX0) (N := 2) (ci := 0) rfl rfl [4, 5] rfl (by decide) rfl rfl rfl rfl rfl rfl hl.1 (Nat.le_of_ble_eq_true rfl) dX2_scanNumber_20 ⟨Nat.zero_le _, Nat.zero_le _⟩ (fun H locs hP hD hS => ?_)
  refine lv_bipush (v := 35) hx hb dX2_scanNumber_23 (by decide) ?_
  refine lv_icmp_ne (tgt := 67) hx hb dX2_scanNumber_25 (by decide) (fun c3 => ?_) (fun c3 => ?_)
  · replace hM := if_f c3 hM
    refine lv_aload_n hx hb dX2_scanNumber_67 rfl (lv_at hl 2 rfl) ?_
    refine lv_iload_n hx hb dX2_scanNumber_68 rfl (lv_at hl 1 rfl) ?_
    refine lv_lload_n hx hb dX2_scanNumber_69 rfl (lv_at hl 0 rfl) ?_
    obtain ⟨r4, hcr4, hM⟩ := ob_use hM
    refine cl_V (As := [.int o_this.2.1, .long r1.1]) (rest := []) (wK cI ad r4 ++ wB cI (ad 1) (ad 2) 8192 o_text) [] ⟨hx, hb, hml, hown, hts⟩ (c_Tokens_addNumber l D cI sd ad r1.2 o_text o_this.2.1 r1.1 r4 hcr4) (cwV2 hts q566 mvX2_addNumber rfl rfl ⟨(Nat.le_of_ble_eq_true rfl), (Nat.le_of_ble_eq_true rfl)⟩) hK hE hA hP hD hS 0 (T := TX2) (N := 7) (ci := 2) rfl rfl [0, 1, 2, 3, 4, 5] rfl (by decide) rfl rfl rfl rfl rfl rfl hl.1 (Nat.le_of_ble_eq_true rfl) dX2_scanNumber_70 ⟨Nat.zero_le _, Nat.zero_le _⟩ (fun H locs hP hD hS => ?_)
    cases hM
    exact rt_v hx hb hr hlk hP hD hS rfl dX2_scanNumber_73
  · replace hM := if_t c3 hM
    refine lv_aload_n hx hb dX2_scanNumber_28 rfl (lv_at hl 2 rfl) ?_
    refine lv_dup hx hb dX2_scanNumber_29 rfl ?_
    refine va_get (D := D) (ci := 2) (v := .int r1.2.2.1) (C := RX2) (T := TX2) (N := 7) hx hb hts layX2 hown hK hP 0 rfl rfl 6 (by decide) (hts _ (inA q341)) (fun _ h9 => h9) rfl dX2_scanNumber_30 ?_
    refine lv_iconst (v := 1) hx hb dX2_scanNumber_33 (by decide) ?_
    refine lv_iadd hx hb dX2_scanNumber_34 ?_
    refine va_put (D := D) (ci := 2) (v := .int (r1.2.2.1 + 1)) (ty := .int) (C := RX2) (T := TX2) (N := 7) hx hb hts layX2 tyX2 tyX2_ok nmX2 hown hK hP hD hS 0 rfl rfl 6 (by decide) (hts _ (inA q341)) (fun _ h9 => h9) rfl (by decide +kernel) rfl rfl (Nat.le_of_ble_eq_true rfl) dX2_scanNumber_35 (fun H locs hP hD hS => ?_)
    have hP : va_P D vwCl (wK cI ad (r1.2.1, r1.2.2.1 + 1, r1.2.2.2) ++ wB cI (ad 1) (ad 2) 8192 o_text) H := hP
    have hD : va_D A (wK cI ad (r1.2.1, r1.2.2.1 + 1, r1.2.2.2) ++ wB cI (ad 1) (ad 2) 8192 o_text) := hD
    refine lv_lload_n hx hb dX2_scanNumber_38 rfl (lv_at hl 0 rfl) ?_
    refine lv_ldc2 (v := 16) hx hb hown (hts _ (inA q578)) dX2_scanNumber_39 ?_
    refine W.lcmp hx hb dX2_scanNumber_42 ?_
    refine lv_if_eq (tgt := 54) hx hb dX2_scanNumber_43 (by decide) (fun c5 => ?_) (fun c5 => ?_)
    · replace hM := if_t c5 hM
      refine lv_aload_n hx hb dX2_scanNumber_54 rfl (lv_at hl 2 rfl) ?_
      refine lv_lload_n hx hb dX2_scanNumber_55 rfl (lv_at hl 0 rfl) ?_
      refine lv_l2i hx hb dX2_scanNumber_56 rfl ?_
      obtain ⟨r6, hcr6, hM⟩ := ob_use hM
      refine cl_V (As := [.int r1.1.toInt32]) (rest := []) (wK cI ad r6.2 ++ wB cI (ad 1) (ad 2) 8192 o_text) (.long r6.1 :: []) ⟨hx, hb, hml, hown, hts⟩ (c_Tokens_digits l D cI sd ad (r1.2.1, r1.2.2.1 + 1, r1.2.2.2) o_text r1.1.toInt32 r6 hcr6) (cwV2 hts q544 mvX2_digits rfl rfl ⟨(Nat.le_of_ble_eq_true rfl), (Nat.le_of_ble_eq_true rfl)⟩) hK hE hA hP hD hS 0 (T := TX2) (N := 7) (ci := 2) rfl rfl [0, 1, 2, 3, 4, 5] rfl (by decide) rfl rfl rfl rfl rfl rfl hl.1 (Nat.le_of_ble_eq_true rfl) dX2_scanNumber_57 ⟨Nat.zero_le _, Nat.zero_le _⟩ (fun H locs hP hD hS => ?_)
      refine lv_goto (tgt := 66) hx hb dX2_scanNumber_60 (by decide) ?_
      refine lv_lstore_n (lv' := [(2, .long r6.1), (1, .int o_this.2.1), (0, .ref (ad 10))]) hx hb dX2_scanNumber_66 rfl hl (by decide) rfl (fun ls hl => ?_)
      refine lv_aload_n hx hb dX2_scanNumber_67 rfl (lv_at hl 2 rfl) ?_
      refine lv_iload_n hx hb dX2_scanNumber_68 rfl (lv_at hl 1 rfl) ?_
      refine lv_lload_n hx hb dX2_scanNumber_69 rfl (lv_at hl 0 rfl) ?_
      obtain ⟨r7, hcr7, hM⟩ := ob_use hM
      refine cl_V (As := [.int o_this.2.1, .long r6.1]) (rest := []) (wK cI ad r7 ++ wB cI (ad 1) (ad 2) 8192 o_text) [] ⟨hx, hb, hml, hown, hts⟩ (c_Tokens_addNumber l D cI sd ad r6.2 o_text o_this.2.1 r6.1 r7 hcr7) (cwV2 hts q566 mvX2_addNumber rfl rfl ⟨(Nat.le_of_ble_eq_true rfl), (Nat.le_of_ble_eq_true rfl)⟩) hK hE hA hP hD hS 0 (T := TX2) (N := 7) (ci := 2) rfl rfl [0, 1, 2, 3, 4, 5] rfl (by decide) rfl rfl rfl rfl rfl rfl hl.1 (Nat.le_of_ble_eq_true rfl) dX2_scanNumber_70 ⟨Nat.zero_le _, Nat.zero_le _⟩ (fun H locs hP hD hS => ?_)
      cases hM
      exact rt_v hx hb hr hlk hP hD hS rfl dX2_scanNumber_73
    · replace hM := if_f c5 hM
      refine lv_lload_n hx hb dX2_scanNumber_46 rfl (lv_at hl 0 rfl) ?_
      refine lv_ldc2 (v := 2) hx hb hown (hts _ (inA q579)) dX2_scanNumber_47 ?_
      refine W.lcmp hx hb dX2_scanNumber_50 ?_
      refine lv_if_ne (tgt := 63) hx hb dX2_scanNumber_51 (by decide) (fun c8 => ?_) (fun c8 => ?_)
      · replace hM := if_f c8 hM
        refine lv_ldc2 (v := (-1)) hx hb hown (hts _ (inA q558)) dX2_scanNumber_63 ?_
        refine lv_lstore_n (lv' := [(2, .long (-1)), (1, .int o_this.2.1), (0, .ref (ad 10))]) hx hb dX2_scanNumber_66 rfl hl (by decide) rfl (fun ls hl => ?_)
        refine lv_aload_n hx hb dX2_scanNumber_67 rfl (lv_at hl 2 rfl) ?_
        refine lv_iload_n hx hb dX2_scanNumber_68 rfl (lv_at hl 1 rfl) ?_
        refine lv_lload_n hx hb dX2_scanNumber_69 rfl (lv_at hl 0 rfl) ?_
        obtain ⟨r9, hcr9, hM⟩ := ob_use hM
        refine cl_V (As := [.int o_this.2.1, .long (-1)]) (rest := []) (wK cI ad r9 ++ wB cI (ad 1) (ad 2) 8192 o_text) [] ⟨hx, hb, hml, hown, hts⟩ (c_Tokens_addNumber l D cI sd ad (r1.2.1, r1.2.2.1 + 1, r1.2.2.2) o_text o_this.2.1 (-1) r9 hcr9) (cwV2 hts q566 mvX2_addNumber rfl rfl ⟨(Nat.le_of_ble_eq_true rfl), (Nat.le_of_ble_eq_true rfl)⟩) hK hE hA hP hD hS 0 (T := TX2) (N := 7) (ci := 2) rfl rfl [0, 1, 2, 3, 4, 5] rfl (by decide) rfl rfl rfl rfl rfl rfl hl.1 (Nat.le_of_ble_eq_true rfl) dX2_scanNumber_70 ⟨Nat.zero_le _, Nat.zero_le _⟩ (fun H locs hP hD hS => ?_)
        cases hM
        exact rt_v hx hb hr hlk hP hD hS rfl dX2_scanNumber_73
      · replace hM := if_t c8 hM
        refine lv_aload_n hx hb dX2_scanNumber_54 rfl (lv_at hl 2 rfl) ?_
        refine lv_lload_n hx hb dX2_scanNumber_55 rfl (lv_at hl 0 rfl) ?_
        refine lv_l2i hx hb dX2_scanNumber_56 rfl ?_
        obtain ⟨r10, hcr10, hM⟩ := ob_use hM
        refine cl_V (As := [.int r1.1.toInt32]) (rest := []) (wK cI ad r10.2 ++ wB cI (ad 1) (ad 2) 8192 o_text) (.long r10.1 :: []) ⟨hx, hb, hml, hown, hts⟩ (c_Tokens_digits l D cI sd ad (r1.2.1, r1.2.2.1 + 1, r1.2.2.2) o_text r1.1.toInt32 r10 hcr10) (cwV2 hts q544 mvX2_digits rfl rfl ⟨(Nat.le_of_ble_eq_true rfl), (Nat.le_of_ble_eq_true rfl)⟩) hK hE hA hP hD hS 0 (T := TX2) (N := 7) (ci := 2) rfl rfl [0, 1, 2, 3, 4, 5] rfl (by decide) rfl rfl rfl rfl rfl rfl hl.1 (Nat.le_of_ble_eq_true rfl) dX2_scanNumber_57 ⟨Nat.zero_le _, Nat.zero_le _⟩ (fun H locs hP hD hS => ?_)
        refine lv_goto (tgt := 66) hx hb dX2_scanNumber_60 (by decide) ?_
        refine lv_lstore_n (lv' := [(2, .long r10.1), (1, .int o_this.2.1), (0, .ref (ad 10))]) hx hb dX2_scanNumber_66 rfl hl (by decide) rfl (fun ls hl => ?_)
        refine lv_aload_n hx hb dX2_scanNumber_67 rfl (lv_at hl 2 rfl) ?_
        refine lv_iload_n hx hb dX2_scanNumber_68 rfl (lv_at hl 1 rfl) ?_
        refine lv_lload_n hx hb dX2_scanNumber_69 rfl (lv_at hl 0 rfl) ?_
        obtain ⟨r11, hcr11, hM⟩ := ob_use hM
        refine cl_V (As := [.int o_this.2.1, .long r10.1]) (rest := []) (wK cI ad r11 ++ wB cI (ad 1) (ad 2) 8192 o_text) [] ⟨hx, hb, hml, hown, hts⟩ (c_Tokens_addNumber l D cI sd ad r10.2 o_text o_this.2.1 r10.1 r11 hcr11) (cwV2 hts q566 mvX2_addNumber rfl rfl ⟨(Nat.le_of_ble_eq_true rfl), (Nat.le_of_ble_eq_true rfl)⟩) hK hE hA hP hD hS 0 (T := TX2) (N := 7) (ci := 2) rfl rfl [0, 1, 2, 3, 4, 5] rfl (by decide) rfl rfl rfl rfl rfl rfl hl.1 (Nat.le_of_ble_eq_true rfl) dX2_scanNumber_70 ⟨Nat.zero_le _, Nat.zero_le _⟩ (fun H locs hP hD hS => ?_)
        cases hM
        exact rt_v hx hb hr hlk hP hD hS rfl dX2_scanNumber_73

set_option maxHeartbeats 4000000 in
set_option maxRecDepth 100000 in
theorem c_Tokens_placeRow (l : Launch) (D : va_G) (cI : ClassId) (sd : Nat → Nat) (ad : Nat → Nat) (a1 : Int32) (a2 : Int32) (res : Int32) (hM : f_Tokens_placeRow a1 a2 = some res) : Ctr l D cI sd yX2_placeRow (wsM yX2_placeRow cX2_placeRow 3 (Option.some Jvm.ClassFile.FieldType.int)) { frames := 0, cells := 0, slots := 0, locals := 0 } [.int a1, .int a2] (([] : va_W)) (([] : va_W)) (some (.int res)) := by
  refine Ctr.of (cc := cX2_placeRow) (maxL := 3) (own := RX2) (by decide +kernel) rfl rfl (Nat.le_of_ble_eq_true rfl) ?_
  intro p e s m below meth c A ls hx hb hr hml hown hts hlk hK hE hA hP hD hS hl
  have hl : lv_has ls 3 [(0, .int a1), (1, .int a2)] := hl
  unfold f_Tokens_placeRow at hM
  refine lv_iload_n hx hb dX2_placeRow_0 rfl (lv_at hl 0 rfl) ?_
  refine lv_bipush (v := 73) hx hb dX2_placeRow_1 (by decide) ?_
  refine lv_icmp_ne (tgt := 10) hx hb dX2_placeRow_3 (by decide) (fun c1 => ?_) (fun c1 => ?_)
  · replace hM := if_f c1 hM
    refine lv_iload_n hx hb dX2_placeRow_10 rfl (lv_at hl 0 rfl) ?_
    refine lv_bipush (v := 81) hx hb dX2_placeRow_11 (by decide) ?_
    refine lv_icmp_ne (tgt := 20) hx hb dX2_placeRow_13 (by decide) (fun c2 => ?_) (fun c2 => ?_)
    · replace hM := if_f c2 hM
      refine lv_iload_n hx hb dX2_placeRow_20 rfl (lv_at hl 0 rfl) ?_
      refine lv_bipush (v := 77) hx hb dX2_placeRow_21 (by decide) ?_
      refine lv_icmp_ne (tgt := 30) hx hb dX2_placeRow_23 (by decide) (fun c3 => ?_) (fun c3 => ?_)
      · replace hM := if_f c3 hM
        refine lv_iconst (v := (-1)) hx hb dX2_placeRow_30 (by decide) ?_
        refine lv_istore_n (lv' := [(2, .int (-1)), (0, .int a1), (1, .int a2)]) hx hb dX2_placeRow_31 rfl hl (by decide) rfl (fun ls hl => ?_)
        refine lv_iload_n hx hb dX2_placeRow_32 rfl (lv_at hl 0 rfl) ?_
        refine lv_iconst (v := (-1)) hx hb dX2_placeRow_33 (by decide) ?_
        refine lv_icmp_eq (tgt := 49) hx hb dX2_placeRow_34 (by decide) (fun c4 => ?_) (fun c4 => False.elim (by revert c4; decide))
        refine lv_iconst (v := (-1)) hx hb dX2_placeRow_49 (by decide) ?_
        cases hM
        exact rt_i hx hb hr hlk hP hD hS rfl dX2_placeRow_50
      · replace hM := if_t c3 hM
        refine lv_iconst (v := 2) hx hb dX2_placeRow_26 (by decide) ?_
        refine lv_goto (tgt := 31) hx hb dX2_placeRow_27 (by decide) ?_
        refine lv_istore_n (lv' := [(2, .int 2), (0, .int a1), (1, .int a2)]) hx hb dX2_placeRow_31 rfl hl (by decide) rfl (fun ls hl => ?_)
        refine lv_iload_n hx hb dX2_placeRow_32 rfl (lv_at hl 0 rfl) ?_
        refine lv_iconst (v := (-1)) hx hb dX2_placeRow_33 (by decide) ?_
        refine lv_icmp_eq (tgt := 49) hx hb dX2_placeRow_34 (by decide) (fun c5 => False.elim (by revert c5; decide)) (fun c5 => ?_)
        refine lv_iload_n hx hb dX2_placeRow_37 rfl (lv_at hl 2 rfl) ?_
        refine lv_bipush (v := 88) hx hb dX2_placeRow_38 (by decide) ?_
        refine lv_icmp_eq (tgt := 51) hx hb dX2_placeRow_40 (by decide) (fun c6 => ?_) (fun c6 => ?_)
        · replace hM := if_t c6 hM
          refine lv_iload_n hx hb dX2_placeRow_51 rfl (lv_at hl 2 rfl) ?_
          refine lv_bipush (v := 88) hx hb dX2_placeRow_52 (by decide) ?_
          refine lv_icmp_ne (tgt := 61) hx hb dX2_placeRow_54 (by decide) (fun c7 => ?_) (fun c7 => ?_)
          · replace hM := if_f c7 hM
            refine lv_iconst (v := 3) hx hb dX2_placeRow_61 (by decide) ?_
            refine lv_iload_n hx hb dX2_placeRow_62 rfl (lv_at hl 0 rfl) ?_
            refine lv_iadd hx hb dX2_placeRow_63 ?_
            cases hM
            exact rt_i hx hb hr hlk hP hD hS rfl dX2_placeRow_64
          · replace hM := if_t c7 hM
            refine lv_iload_n hx hb dX2_placeRow_57 rfl (lv_at hl 0 rfl) ?_
            refine lv_goto (tgt := 64) hx hb dX2_placeRow_58 (by decide) ?_
            cases hM
            exact rt_i hx hb hr hlk hP hD hS rfl dX2_placeRow_64
        · replace hM := if_f c6 hM
          refine lv_iload_n hx hb dX2_placeRow_43 rfl (lv_at hl 2 rfl) ?_
          refine lv_bipush (v := 87) hx hb dX2_placeRow_44 (by decide) ?_
          refine lv_icmp_eq (tgt := 51) hx hb dX2_placeRow_46 (by decide) (fun c8 => ?_) (fun c8 => ?_)
          · replace hM := if_t c8 hM
            refine lv_iload_n hx hb dX2_placeRow_51 rfl (lv_at hl 2 rfl) ?_
            refine lv_bipush (v := 88) hx hb dX2_placeRow_52 (by decide) ?_
            refine lv_icmp_ne (tgt := 61) hx hb dX2_placeRow_54 (by decide) (fun c9 => ?_) (fun c9 => ?_)
            · replace hM := if_f c9 hM
              refine lv_iconst (v := 3) hx hb dX2_placeRow_61 (by decide) ?_
              refine lv_iload_n hx hb dX2_placeRow_62 rfl (lv_at hl 0 rfl) ?_
              refine lv_iadd hx hb dX2_placeRow_63 ?_
              cases hM
              exact rt_i hx hb hr hlk hP hD hS rfl dX2_placeRow_64
            · replace hM := if_t c9 hM
              refine lv_iload_n hx hb dX2_placeRow_57 rfl (lv_at hl 0 rfl) ?_
              refine lv_goto (tgt := 64) hx hb dX2_placeRow_58 (by decide) ?_
              cases hM
              exact rt_i hx hb hr hlk hP hD hS rfl dX2_placeRow_64
          · replace hM := if_f c8 hM
            refine lv_iconst (v := (-1)) hx hb dX2_placeRow_49 (by decide) ?_
            cases hM
            exact rt_i hx hb hr hlk hP hD hS rfl dX2_placeRow_50
    · replace hM := if_t c2 hM
      refine lv_iconst (v := 1) hx hb dX2_placeRow_16 (by decide) ?_
      refine lv_goto (tgt := 31) hx hb dX2_placeRow_17 (by decide) ?_
      refine lv_istore_n (lv' := [(2, .int 1), (0, .int a1), (1, .int a2)]) hx hb dX2_placeRow_31 rfl hl (by decide) rfl (fun ls hl => ?_)
      refine lv_iload_n hx hb dX2_placeRow_32 rfl (lv_at hl 0 rfl) ?_
      refine lv_iconst (v := (-1)) hx hb dX2_placeRow_33 (by decide) ?_
      refine lv_icmp_eq (tgt := 49) hx hb dX2_placeRow_34 (by decide) (fun c10 => False.elim (by revert c10; decide)) (fun c10 => ?_)
      refine lv_iload_n hx hb dX2_placeRow_37 rfl (lv_at hl 2 rfl) ?_
      refine lv_bipush (v := 88) hx hb dX2_placeRow_38 (by decide) ?_
      refine lv_icmp_eq (tgt := 51) hx hb dX2_placeRow_40 (by decide) (fun c11 => ?_) (fun c11 => ?_)
      · replace hM := if_t c11 hM
        refine lv_iload_n hx hb dX2_placeRow_51 rfl (lv_at hl 2 rfl) ?_
        refine lv_bipush (v := 88) hx hb dX2_placeRow_52 (by decide) ?_
        refine lv_icmp_ne (tgt := 61) hx hb dX2_placeRow_54 (by decide) (fun c12 => ?_) (fun c12 => ?_)
        · replace hM := if_f c12 hM
          refine lv_iconst (v := 3) hx hb dX2_placeRow_61 (by decide) ?_
          refine lv_iload_n hx hb dX2_placeRow_62 rfl (lv_at hl 0 rfl) ?_
          refine lv_iadd hx hb dX2_placeRow_63 ?_
          cases hM
          exact rt_i hx hb hr hlk hP hD hS rfl dX2_placeRow_64
        · replace hM := if_t c12 hM
          refine lv_iload_n hx hb dX2_placeRow_57 rfl (lv_at hl 0 rfl) ?_
          refine lv_goto (tgt := 64) hx hb dX2_placeRow_58 (by decide) ?_
          cases hM
          exact rt_i hx hb hr hlk hP hD hS rfl dX2_placeRow_64
      · replace hM := if_f c11 hM
        refine lv_iload_n hx hb dX2_placeRow_43 rfl (lv_at hl 2 rfl) ?_
        refine lv_bipush (v := 87) hx hb dX2_placeRow_44 (by decide) ?_
        refine lv_icmp_eq (tgt := 51) hx hb dX2_placeRow_46 (by decide) (fun c13 => ?_) (fun c13 => ?_)
        · replace hM := if_t c13 hM
          refine lv_iload_n hx hb dX2_placeRow_51 rfl (lv_at hl 2 rfl) ?_
          refine lv_bipush (v := 88) hx hb dX2_placeRow_52 (by decide) ?_
          refine lv_icmp_ne (tgt := 61) hx hb dX2_placeRow_54 (by decide) (fun c14 => ?_) (fun c14 => ?_)
          · replace hM := if_f c14 hM
            refine lv_iconst (v := 3) hx hb dX2_placeRow_61 (by decide) ?_
            refine lv_iload_n hx hb dX2_placeRow_62 rfl (lv_at hl 0 rfl) ?_
            refine lv_iadd hx hb dX2_placeRow_63 ?_
            cases hM
            exact rt_i hx hb hr hlk hP hD hS rfl dX2_placeRow_64
          · replace hM := if_t c14 hM
            refine lv_iload_n hx hb dX2_placeRow_57 rfl (lv_at hl 0 rfl) ?_
            refine lv_goto (tgt := 64) hx hb dX2_placeRow_58 (by decide) ?_
            cases hM
            exact rt_i hx hb hr hlk hP hD hS rfl dX2_placeRow_64
        · replace hM := if_f c13 hM
          refine lv_iconst (v := (-1)) hx hb dX2_placeRow_49 (by decide) ?_
          cases hM
          exact rt_i hx hb hr hlk hP hD hS rfl dX2_placeRow_50
  · replace hM := if_t c1 hM
    refine lv_iconst (v := 0) hx hb dX2_placeRow_6 (by decide) ?_
    refine lv_goto (tgt := 31) hx hb dX2_placeRow_7 (by decide) ?_
    refine lv_istore_n (lv' := [(2, .int 0), (0, .int a1), (1, .int a2)]) hx hb dX2_placeRow_31 rfl hl (by decide) rfl (fun ls hl => ?_)
    refine lv_iload_n hx hb dX2_placeRow_32 rfl (lv_at hl 0 rfl) ?_
    refine lv_iconst (v := (-1)) hx hb dX2_placeRow_33 (by decide) ?_
    refine lv_icmp_eq (tgt := 49) hx hb dX2_placeRow_34 (by decide) (fun c15 => False.elim (by revert c15; decide)) (fun c15 => ?_)
    refine lv_iload_n hx hb dX2_placeRow_37 rfl (lv_at hl 2 rfl) ?_
    refine lv_bipush (v := 88) hx hb dX2_placeRow_38 (by decide) ?_
    refine lv_icmp_eq (tgt := 51) hx hb dX2_placeRow_40 (by decide) (fun c16 => ?_) (fun c16 => ?_)
    · replace hM := if_t c16 hM
      refine lv_iload_n hx hb dX2_placeRow_51 rfl (lv_at hl 2 rfl) ?_
      refine lv_bipush (v := 88) hx hb dX2_placeRow_52 (by decide) ?_
      refine lv_icmp_ne (tgt := 61) hx hb dX2_placeRow_54 (by decide) (fun c17 => ?_) (fun c17 => ?_)
      · replace hM := if_f c17 hM
        refine lv_iconst (v := 3) hx hb dX2_placeRow_61 (by decide) ?_
        refine lv_iload_n hx hb dX2_placeRow_62 rfl (lv_at hl 0 rfl) ?_
        refine lv_iadd hx hb dX2_placeRow_63 ?_
        cases hM
        exact rt_i hx hb hr hlk hP hD hS rfl dX2_placeRow_64
      · replace hM := if_t c17 hM
        refine lv_iload_n hx hb dX2_placeRow_57 rfl (lv_at hl 0 rfl) ?_
        refine lv_goto (tgt := 64) hx hb dX2_placeRow_58 (by decide) ?_
        cases hM
        exact rt_i hx hb hr hlk hP hD hS rfl dX2_placeRow_64
    · replace hM := if_f c16 hM
      refine lv_iload_n hx hb dX2_placeRow_43 rfl (lv_at hl 2 rfl) ?_
      refine lv_bipush (v := 87) hx hb dX2_placeRow_44 (by decide) ?_
      refine lv_icmp_eq (tgt := 51) hx hb dX2_placeRow_46 (by decide) (fun c18 => ?_) (fun c18 => ?_)
      · replace hM := if_t c18 hM
        refine lv_iload_n hx hb dX2_placeRow_51 rfl (lv_at hl 2 rfl) ?_
        refine lv_bipush (v := 88) hx hb dX2_placeRow_52 (by decide) ?_
        refine lv_icmp_ne (tgt := 61) hx hb dX2_placeRow_54 (by decide) (fun c19 => ?_) (fun c19 => ?_)
        · replace hM := if_f c19 hM
          refine lv_iconst (v := 3) hx hb dX2_placeRow_61 (by decide) ?_
          refine lv_iload_n hx hb dX2_placeRow_62 rfl (lv_at hl 0 rfl) ?_
          refine lv_iadd hx hb dX2_placeRow_63 ?_
          cases hM
          exact rt_i hx hb hr hlk hP hD hS rfl dX2_placeRow_64
        · replace hM := if_t c19 hM
          refine lv_iload_n hx hb dX2_placeRow_57 rfl (lv_at hl 0 rfl) ?_
          refine lv_goto (tgt := 64) hx hb dX2_placeRow_58 (by decide) ?_
          cases hM
          exact rt_i hx hb hr hlk hP hD hS rfl dX2_placeRow_64
      · replace hM := if_f c18 hM
        refine lv_iconst (v := (-1)) hx hb dX2_placeRow_49 (by decide) ?_
        cases hM
        exact rt_i hx hb hr hlk hP hD hS rfl dX2_placeRow_50

set_option maxHeartbeats 4000000 in
set_option maxRecDepth 100000 in
theorem c_Tokens_scanPlace (l : Launch) (D : va_G) (cI : ClassId) (sd : Nat → Nat) (ad : Nat → Nat) (o_this : S_Tokens) (o_text : S_Bytes) (res : S_Tokens) (hM : f_Tokens_scanPlace o_this o_text = some res) : Ctr l D cI sd yX2_scanPlace (wsM yX2_scanPlace cX2_scanPlace 6 (Option.none : Option Jvm.ClassFile.FieldType)) { frames := 3, cells := 0, slots := 0, locals := 67 } [.ref (ad 10)] (wK cI ad o_this ++ wB cI (ad 1) (ad 2) 8192 o_text) (wK cI ad res ++ wB cI (ad 1) (ad 2) 8192 o_text) none := by
  refine Ctr.of (cc := cX2_scanPlace) (maxL := 6) (own := RX2) (by decide +kernel) rfl rfl (Nat.le_of_ble_eq_true rfl) ?_
  intro p e s m below meth c A ls hx hb hr hml hown hts hlk hK hE hA hP hD hS hl
  have hl : lv_has ls 6 [(0, .ref (ad 10))] := hl
  unfold f_Tokens_scanPlace at hM
  refine lv_aload_n hx hb dX2_scanPlace_0 rfl (lv_at hl 0 rfl) ?_
  refine va_get (D := D) (ci := 2) (v := .int o_this.2.1) (C := RX2) (T := TX2) (N := 7) hx hb hts layX2 hown hK hP 0 rfl rfl 6 (by decide) (hts _ (inA q341)) (fun _ h9 => h9) rfl dX2_scanPlace_1 ?_
  refine lv_istore_n (lv' := [(1, .int o_this.2.1), (0, .ref (ad 10))]) hx hb dX2_scanPlace_4 rfl hl (by decide) rfl (fun ls hl => ?_)
  refine lv_aload_n hx hb dX2_scanPlace_5 rfl (lv_at hl 1 rfl) ?_
  refine va_get (D := D) (ci := 2) (v := .ref (ad 1)) (C := RX2) (T := TX2) (N := 7) hx hb hts layX2 hown hK hP 0 rfl rfl 0 (by decide) (hts _ (inA q331)) (fun _ h9 => h9) rfl dX2_scanPlace_6 ?_
  refine lv_aload_n hx hb dX2_scanPlace_9 rfl (lv_at hl 1 rfl) ?_
  refine va_get (D := D) (ci := 2) (v := .int o_this.2.1) (C := RX2) (T := TX2) (N := 7) hx hb hts layX2 hown hK hP 0 rfl rfl 6 (by decide) (hts _ (inA q341)) (fun _ h9 => h9) rfl dX2_scanPlace_10 ?_
  refine lv_iconst (v := 1) hx hb dX2_scanPlace_13 (by decide) ?_
  refine lv_iadd hx hb dX2_scanPlace_14 ?_
  obtain ⟨r1, hcr1, hM⟩ := ob_use hM
  refine cl_V (As := [.int (o_this.2.1 + 1)]) (rest := []) (wK cI ad o_this ++ wB cI (ad 1) (ad 2) 8192 o_text) (.int r1 :: []) ⟨hx, hb, hml, hown, hts⟩ (c_Bytes_get l D cI sd (ad 1) (ad 2) 8192 o_text (o_this.2.1 + 1) r1 hcr1) (cwV2 hts q530 mvX0_get rfl rfl ⟨(Nat.le_of_ble_eq_true rfl), (Nat.le_of_ble_eq_true rfl)⟩) hK hE hA hP hD hS 4 (T := TX0) (N := 2) (ci := 0) rfl rfl [4, 5] rfl (by decide) rfl rfl rfl rfl rfl rfl hl.1 (Nat.le_of_ble_eq_true rfl) dX2_scanPlace_15 ⟨Nat.zero_le _, Nat.zero_le _⟩ (fun H locs hP hD hS => ?_)
  obtain ⟨r2, hcr2, hM⟩ := ob_use hM
  refine cl_SN (As := [.int r1]) (rest := []) (wK cI ad o_this ++ wB cI (ad 1) (ad 2) 8192 o_text) (.int r2 :: []) ⟨hx, hb, hml, hown, hts⟩ (c_Top_great l D cI sd ad r1 r2 hcr2) (cwSN2 hts (nmE2 hE) mvX6_great rfl rfl ⟨(Nat.le_of_ble_eq_true rfl), (Nat.le_of_ble_eq_true rfl)⟩) hK hE hA hP hD hS [] rfl (by decide) rfl rfl rfl rfl rfl rfl hl.1 (Nat.le_of_ble_eq_true rfl) dX2_scanPlace_18 ⟨Nat.zero_le _, Nat.zero_le _⟩ (fun H locs hP hD hS => ?_)
  refine lv_aload_n hx hb dX2_scanPlace_21 rfl (lv_at hl 1 rfl) ?_
  refine va_get (D := D) (ci := 2) (v := .ref (ad 1)) (C := RX2) (T := TX2) (N := 7) hx hb hts layX2 hown hK hP 0 rfl rfl 0 (by decide) (hts _ (inA q331)) (fun _ h9 => h9) rfl dX2_scanPlace_22 ?_
  refine lv_aload_n hx hb dX2_scanPlace_25 rfl (lv_at hl 1 rfl) ?_
  refine va_get (D := D) (ci := 2) (v := .int o_this.2.1) (C := RX2) (T := TX2) (N := 7) hx hb hts layX2 hown hK hP 0 rfl rfl 6 (by decide) (hts _ (inA q341)) (fun _ h9 => h9) rfl dX2_scanPlace_26 ?_
  refine lv_iconst (v := 2) hx hb dX2_scanPlace_29 (by decide) ?_
  refine lv_iadd hx hb dX2_scanPlace_30 ?_
  obtain ⟨r3, hcr3, hM⟩ := ob_use hM
  refine cl_V (As := [.int (o_this.2.1 + 2)]) (rest := [.int r2]) (wK cI ad o_this ++ wB cI (ad 1) (ad 2) 8192 o_text) (.int r3 :: [.int r2]) ⟨hx, hb, hml, hown, hts⟩ (c_Bytes_get l D cI sd (ad 1) (ad 2) 8192 o_text (o_this.2.1 + 2) r3 hcr3) (cwV2 hts q530 mvX0_get rfl rfl ⟨(Nat.le_of_ble_eq_true rfl), (Nat.le_of_ble_eq_true rfl)⟩) hK hE hA hP hD hS 4 (T := TX0) (N := 2) (ci := 0) rfl rfl [4, 5] rfl (by decide) rfl rfl rfl rfl rfl rfl hl.1 (Nat.le_of_ble_eq_true rfl) dX2_scanPlace_31 ⟨Nat.zero_le _, Nat.zero_le _⟩ (fun H locs hP hD hS => ?_)
  obtain ⟨r4, hcr4, hM⟩ := ob_use hM
  refine cl_SN (As := [.int r3]) (rest := [.int r2]) (wK cI ad o_this ++ wB cI (ad 1) (ad 2) 8192 o_text) (.int r4 :: [.int r2]) ⟨hx, hb, hml, hown, hts⟩ (c_Top_great l D cI sd ad r3 r4 hcr4) (cwSN2 hts (nmE2 hE) mvX6_great rfl rfl ⟨(Nat.le_of_ble_eq_true rfl), (Nat.le_of_ble_eq_true rfl)⟩) hK hE hA hP hD hS [] rfl (by decide) rfl rfl rfl rfl rfl rfl hl.1 (Nat.le_of_ble_eq_true rfl) dX2_scanPlace_34 ⟨Nat.zero_le _, Nat.zero_le _⟩ (fun H locs hP hD hS => ?_)
  obtain ⟨r5, hcr5, hM⟩ := ob_use hM
  refine cl_S (As := [.int r2, .int r4]) (rest := []) (wK cI ad o_this ++ wB cI (ad 1) (ad 2) 8192 o_text) (.int r5 :: []) ⟨hx, hb, hml, hown, hts⟩ (c_Tokens_placeRow l D cI sd ad r2 r4 r5 hcr5) (cwS2 hts q590 mvX2_placeRow rfl rfl ⟨(Nat.le_of_ble_eq_true rfl), (Nat.le_of_ble_eq_true rfl)⟩) hK hE hA hP hD hS [] rfl (by decide) rfl rfl rfl rfl rfl rfl hl.1 (Nat.le_of_ble_eq_true rfl) dX2_scanPlace_37 ⟨Nat.zero_le _, Nat.zero_le _⟩ (fun H locs hP hD hS => ?_)
  refine lv_istore_n (lv' := [(2, .int r5), (1, .int o_this.2.1), (0, .ref (ad 10))]) hx hb dX2_scanPlace_40 rfl hl (by decide) rfl (fun ls hl => ?_)
  refine lv_aload_n hx hb dX2_scanPlace_41 rfl (lv_at hl 2 rfl) ?_
  refine lv_dup hx hb dX2_scanPlace_42 rfl ?_
  refine va_get (D := D) (ci := 2) (v := .int o_this.2.1) (C := RX2) (T := TX2) (N := 7) hx hb hts layX2 hown hK hP 0 rfl rfl 6 (by decide) (hts _ (inA q341)) (fun _ h9 => h9) rfl dX2_scanPlace_43 ?_
  refine lv_iconst (v := 3) hx hb dX2_scanPlace_46 (by decide) ?_
  refine lv_iadd hx hb dX2_scanPlace_47 ?_
  refine va_put (D := D) (ci := 2) (v := .int (o_this.2.1 + 3)) (ty := .int) (C := RX2) (T := TX2) (N := 7) hx hb hts layX2 tyX2 tyX2_ok nmX2 hown hK hP hD hS 0 rfl rfl 6 (by decide) (hts _ (inA q341)) (fun _ h9 => h9) rfl (by decide +kernel) rfl rfl (Nat.le_of_ble_eq_true rfl) dX2_scanPlace_48 (fun H locs hP hD hS => ?_)
  have hP : va_P D vwCl (wK cI ad (o_this.1, o_this.2.1 + 3, o_this.2.2) ++ wB cI (ad 1) (ad 2) 8192 o_text) H := hP
  have hD : va_D A (wK cI ad (o_this.1, o_this.2.1 + 3, o_this.2.2) ++ wB cI (ad 1) (ad 2) 8192 o_text) := hD
  refine lv_aload_n hx hb dX2_scanPlace_51 rfl (lv_at hl 2 rfl) ?_
  refine lv_bipush (v := 10) hx hb dX2_scanPlace_52 (by decide) ?_
  obtain ⟨r6, hcr6, hM⟩ := ob_use hM
  refine cl_V (As := [.int 10]) (rest := []) (wK cI ad r6.2 ++ wB cI (ad 1) (ad 2) 8192 o_text) (.long r6.1 :: []) ⟨hx, hb, hml, hown, hts⟩ (c_Tokens_digits l D cI sd ad (o_this.1, o_this.2.1 + 3, o_this.2.2) o_text 10 r6 hcr6) (cwV2 hts q544 mvX2_digits rfl rfl ⟨(Nat.le_of_ble_eq_true rfl), (Nat.le_of_ble_eq_true rfl)⟩) hK hE hA hP hD hS 0 (T := TX2) (N := 7) (ci := 2) rfl rfl [0, 1, 2, 3, 4, 5] rfl (by decide) rfl rfl rfl rfl rfl rfl hl.1 (Nat.le_of_ble_eq_true rfl) dX2_scanPlace_54 ⟨Nat.zero_le _, Nat.zero_le _⟩ (fun H locs hP hD hS => ?_)
  refine lv_lstore_n (lv' := [(3, .long r6.1), (2, .int r5), (1, .int o_this.2.1), (0, .ref (ad 10))]) hx hb dX2_scanPlace_57 rfl hl (by decide) rfl (fun ls hl => ?_)
  refine lv_iload_n hx hb dX2_scanPlace_58 rfl (lv_at hl 1 rfl) ?_
  refine lv_iconst (v := 3) hx hb dX2_scanPlace_59 (by decide) ?_
  refine lv_icmp_ge (tgt := 69) hx hb dX2_scanPlace_60 (by decide) (fun c7 => ?_) (fun c7 => ?_)
  · replace hM := if_t c7 hM
    refine lv_bipush (v := 63) hx hb dX2_scanPlace_69 (by decide) ?_
    refine lv_istore (lv' := [(5, .int 63), (3, .long r6.1), (2, .int r5), (1, .int o_this.2.1), (0, .ref (ad 10))]) hx hb dX2_scanPlace_71 hl (by decide) rfl (fun ls hl => ?_)
    refine lv_iload_n hx hb dX2_scanPlace_73 rfl (lv_at hl 2 rfl) ?_
    refine lv_iconst (v := (-1)) hx hb dX2_scanPlace_74 (by decide) ?_
    refine lv_icmp_eq (tgt := 111) hx hb dX2_scanPlace_75 (by decide) (fun c8 => ?_) (fun c8 => ?_)
    · replace hM := if_t c8 hM
      refine lv_aload_n hx hb dX2_scanPlace_111 rfl (lv_at hl 4 rfl) ?_
      refine lv_iconst (v := 5) hx hb dX2_scanPlace_112 (by decide) ?_
      refine lv_iload_n hx hb dX2_scanPlace_113 rfl (lv_at hl 3 rfl) ?_
      refine lv_iconst (v := 5) hx hb dX2_scanPlace_114 (by decide) ?_
      obtain ⟨r9, hcr9, hM⟩ := ob_use hM
      refine cl_V (As := [.int 5, .int o_this.2.1, .int 5]) (rest := []) (wK cI ad r9 ++ wB cI (ad 1) (ad 2) 8192 o_text) [] ⟨hx, hb, hml, hown, hts⟩ (c_Tokens_add l D cI sd ad r6.2 5 o_this.2.1 5 r9 hcr9) (cwV2 hts q535 mvX2_add rfl rfl ⟨(Nat.le_of_ble_eq_true rfl), (Nat.le_of_ble_eq_true rfl)⟩) hK hE hA hP hD hS 0 (T := TX2) (N := 7) (ci := 2) rfl rfl [0, 1, 2, 3] rfl (by decide) rfl rfl rfl rfl rfl rfl hl.1 (Nat.le_of_ble_eq_true rfl) dX2_scanPlace_115 ⟨Nat.zero_le _, Nat.zero_le _⟩ (fun H locs hP hD hS => ?_)
      refine lv_goto (tgt := 135) hx hb dX2_scanPlace_118 (by decide) ?_
      cases hM
      exact rt_v hx hb hr hlk hP hD hS rfl dX2_scanPlace_135
    · replace hM := if_f c8 hM
      refine lv_lload_n hx hb dX2_scanPlace_78 rfl (lv_at hl 1 rfl) ?_
      refine lv_ldc2 (v := (-1)) hx hb hown (hts _ (inA q558)) dX2_scanPlace_79 ?_
      refine W.lcmp hx hb dX2_scanPlace_82 ?_
      refine lv_if_eq (tgt := 111) hx hb dX2_scanPlace_83 (by decide) (fun c10 => ?_) (fun c10 => ?_)
      · replace hM := if_t c10 hM
        refine lv_aload_n hx hb dX2_scanPlace_111 rfl (lv_at hl 4 rfl) ?_
        refine lv_iconst (v := 5) hx hb dX2_scanPlace_112 (by decide) ?_
        refine lv_iload_n hx hb dX2_scanPlace_113 rfl (lv_at hl 3 rfl) ?_
        refine lv_iconst (v := 5) hx hb dX2_scanPlace_114 (by decide) ?_
        obtain ⟨r11, hcr11, hM⟩ := ob_use hM
        refine cl_V (As := [.int 5, .int o_this.2.1, .int 5]) (rest := []) (wK cI ad r11 ++ wB cI (ad 1) (ad 2) 8192 o_text) [] ⟨hx, hb, hml, hown, hts⟩ (c_Tokens_add l D cI sd ad r6.2 5 o_this.2.1 5 r11 hcr11) (cwV2 hts q535 mvX2_add rfl rfl ⟨(Nat.le_of_ble_eq_true rfl), (Nat.le_of_ble_eq_true rfl)⟩) hK hE hA hP hD hS 0 (T := TX2) (N := 7) (ci := 2) rfl rfl [0, 1, 2, 3] rfl (by decide) rfl rfl rfl rfl rfl rfl hl.1 (Nat.le_of_ble_eq_true rfl) dX2_scanPlace_115 ⟨Nat.zero_le _, Nat.zero_le _⟩ (fun H locs hP hD hS => ?_)
        refine lv_goto (tgt := 135) hx hb dX2_scanPlace_118 (by decide) ?_
        cases hM
        exact rt_v hx hb hr hlk hP hD hS rfl dX2_scanPlace_135
      · replace hM := if_f c10 hM
        refine lv_lload_n hx hb dX2_scanPlace_86 rfl (lv_at hl 1 rfl) ?_
        refine lv_iload hx hb dX2_scanPlace_87 (lv_at hl 0 rfl) ?_
        refine lv_i2l hx hb dX2_scanPlace_89 rfl ?_
        refine W.lcmp hx hb dX2_scanPlace_90 ?_
        refine lv_if_gt (tgt := 111) hx hb dX2_scanPlace_91 (by decide) (fun c12 => ?_) (fun c12 => ?_)
        · replace hM := if_t c12 hM
          refine lv_aload_n hx hb dX2_scanPlace_111 rfl (lv_at hl 4 rfl) ?_
          refine lv_iconst (v := 5) hx hb dX2_scanPlace_112 (by decide) ?_
          refine lv_iload_n hx hb dX2_scanPlace_113 rfl (lv_at hl 3 rfl) ?_
          refine lv_iconst (v := 5) hx hb dX2_scanPlace_114 (by decide) ?_
          obtain ⟨r13, hcr13, hM⟩ := ob_use hM
          refine cl_V (As := [.int 5, .int o_this.2.1, .int 5]) (rest := []) (wK cI ad r13 ++ wB cI (ad 1) (ad 2) 8192 o_text) [] ⟨hx, hb, hml, hown, hts⟩ (c_Tokens_add l D cI sd ad r6.2 5 o_this.2.1 5 r13 hcr13) (cwV2 hts q535 mvX2_add rfl rfl ⟨(Nat.le_of_ble_eq_true rfl), (Nat.le_of_ble_eq_true rfl)⟩) hK hE hA hP hD hS 0 (T := TX2) (N := 7) (ci := 2) rfl rfl [0, 1, 2, 3] rfl (by decide) rfl rfl rfl rfl rfl rfl hl.1 (Nat.le_of_ble_eq_true rfl) dX2_scanPlace_115 ⟨Nat.zero_le _, Nat.zero_le _⟩ (fun H locs hP hD hS => ?_)
          refine lv_goto (tgt := 135) hx hb dX2_scanPlace_118 (by decide) ?_
          cases hM
          exact rt_v hx hb hr hlk hP hD hS rfl dX2_scanPlace_135
        · replace hM := if_f c12 hM
          refine lv_aload_n hx hb dX2_scanPlace_94 rfl (lv_at hl 4 rfl) ?_
          refine va_get (D := D) (ci := 2) (v := .ref (ad 1)) (C := RX2) (T := TX2) (N := 7) hx hb hts layX2 hown hK hP 0 rfl rfl 0 (by decide) (hts _ (inA q331)) (fun _ h9 => h9) rfl dX2_scanPlace_95 ?_
          refine lv_aload_n hx hb dX2_scanPlace_98 rfl (lv_at hl 4 rfl) ?_
          refine va_get (D := D) (ci := 2) (v := .int r6.2.2.1) (C := RX2) (T := TX2) (N := 7) hx hb hts layX2 hown hK hP 0 rfl rfl 6 (by decide) (hts _ (inA q341)) (fun _ h9 => h9) rfl dX2_scanPlace_99 ?_
          obtain ⟨r14, hcr14, hM⟩ := ob_use hM
          refine cl_V (As := [.int r6.2.2.1]) (rest := []) (wK cI ad r6.2 ++ wB cI (ad 1) (ad 2) 8192 o_text) (.int r14 :: []) ⟨hx, hb, hml, hown, hts⟩ (c_Bytes_get l D cI sd (ad 1) (ad 2) 8192 o_text r6.2.2.1 r14 hcr14) (cwV2 hts q530 mvX0_get rfl rfl ⟨(Nat.le_of_ble_eq_true rfl), (Nat.le_of_ble_eq_true rfl)⟩) hK hE hA hP hD hS 4 (T := TX0) (N := 2) (ci := 0) rfl rfl [4, 5] rfl (by decide) rfl rfl rfl rfl rfl rfl hl.1 (Nat.le_of_ble_eq_true rfl) dX2_scanPlace_102 ⟨Nat.zero_le _, Nat.zero_le _⟩ (fun H locs hP hD hS => ?_)
          obtain ⟨r15, hcr15, hM⟩ := ob_use hM
          refine cl_SN (As := [.int r14]) (rest := []) (wK cI ad r6.2 ++ wB cI (ad 1) (ad 2) 8192 o_text) (.int r15 :: []) ⟨hx, hb, hml, hown, hts⟩ (c_Top_isNameByte l D cI sd ad r14 r15 hcr15) (cwSN2 hts (nmE4 hE) mvX6_isNameByte rfl rfl ⟨(Nat.le_of_ble_eq_true rfl), (Nat.le_of_ble_eq_true rfl)⟩) hK hE hA hP hD hS [] rfl (by decide) rfl rfl rfl rfl rfl rfl hl.1 (Nat.le_of_ble_eq_true rfl) dX2_scanPlace_105 ⟨Nat.zero_le _, Nat.zero_le _⟩ (fun H locs hP hD hS => ?_)
          refine lv_if_eq (tgt := 121) hx hb dX2_scanPlace_108 (by decide) (fun c16 => ?_) (fun c16 => ?_)
          · replace hM := if_t c16 hM
            refine lv_aload_n hx hb dX2_scanPlace_121 rfl (lv_at hl 4 rfl) ?_
            refine lv_iconst (v := 3) hx hb dX2_scanPlace_122 (by decide) ?_
            refine lv_iload_n hx hb dX2_scanPlace_123 rfl (lv_at hl 3 rfl) ?_
            refine lv_sipush (v := 256) hx hb dX2_scanPlace_124 (by decide) ?_
            refine lv_iload_n hx hb dX2_scanPlace_127 rfl (lv_at hl 2 rfl) ?_
            refine lv_imul hx hb dX2_scanPlace_128 ?_
            refine lv_lload_n hx hb dX2_scanPlace_129 rfl (lv_at hl 1 rfl) ?_
            refine lv_l2i hx hb dX2_scanPlace_130 rfl ?_
            refine lv_iadd hx hb dX2_scanPlace_131 ?_
            obtain ⟨r17, hcr17, hM⟩ := ob_use hM
            refine cl_V (As := [.int 3, .int o_this.2.1, .int ((256 * r5) + r6.1.toInt32)]) (rest := []) (wK cI ad r17 ++ wB cI (ad 1) (ad 2) 8192 o_text) [] ⟨hx, hb, hml, hown, hts⟩ (c_Tokens_add l D cI sd ad r6.2 3 o_this.2.1 ((256 * r5) + r6.1.toInt32) r17 hcr17) (cwV2 hts q535 mvX2_add rfl rfl ⟨(Nat.le_of_ble_eq_true rfl), (Nat.le_of_ble_eq_true rfl)⟩) hK hE hA hP hD hS 0 (T := TX2) (N := 7) (ci := 2) rfl rfl [0, 1, 2, 3] rfl (by decide) rfl rfl rfl rfl rfl rfl hl.1 (Nat.le_of_ble_eq_true rfl) dX2_scanPlace_132 ⟨Nat.zero_le _, Nat.zero_le _⟩ (fun H locs hP hD hS => ?_)
            cases hM
            exact rt_v hx hb hr hlk hP hD hS rfl dX2_scanPlace_135
          · replace hM := if_f c16 hM
            refine lv_aload_n hx hb dX2_scanPlace_111 rfl (lv_at hl 4 rfl) ?_
            refine lv_iconst (v := 5) hx hb dX2_scanPlace_112 (by decide) ?_
            refine lv_iload_n hx hb dX2_scanPlace_113 rfl (lv_at hl 3 rfl) ?_
            refine lv_iconst (v := 5) hx hb dX2_scanPlace_114 (by decide) ?_
            obtain ⟨r18, hcr18, hM⟩ := ob_use hM
            refine cl_V (As := [.int 5, .int o_this.2.1, .int 5]) (rest := []) (wK cI ad r18 ++ wB cI (ad 1) (ad 2) 8192 o_text) [] ⟨hx, hb, hml, hown, hts⟩ (c_Tokens_add l D cI sd ad r6.2 5 o_this.2.1 5 r18 hcr18) (cwV2 hts q535 mvX2_add rfl rfl ⟨(Nat.le_of_ble_eq_true rfl), (Nat.le_of_ble_eq_true rfl)⟩) hK hE hA hP hD hS 0 (T := TX2) (N := 7) (ci := 2) rfl rfl [0, 1, 2, 3] rfl (by decide) rfl rfl rfl rfl rfl rfl hl.1 (Nat.le_of_ble_eq_true rfl) dX2_scanPlace_115 ⟨Nat.zero_le _, Nat.zero_le _⟩ (fun H locs hP hD hS => ?_)
            refine lv_goto (tgt := 135) hx hb dX2_scanPlace_118 (by decide) ?_
            cases hM
            exact rt_v hx hb hr hlk hP hD hS rfl dX2_scanPlace_135
  · replace hM := if_f c7 hM
    refine lv_sipush (v := 255) hx hb dX2_scanPlace_63 (by decide) ?_
    refine lv_goto (tgt := 71) hx hb dX2_scanPlace_66 (by decide) ?_
    refine lv_istore (lv' := [(5, .int 255), (3, .long r6.1), (2, .int r5), (1, .int o_this.2.1), (0, .ref (ad 10))]) hx hb dX2_scanPlace_71 hl (by decide) rfl (fun ls hl => ?_)
    refine lv_iload_n hx hb dX2_scanPlace_73 rfl (lv_at hl 2 rfl) ?_
    refine lv_iconst (v := (-1)) hx hb dX2_scanPlace_74 (by decide) ?_
    refine lv_icmp_eq (tgt := 111) hx hb dX2_scanPlace_75 (by decide) (fun c19 => ?_) (fun c19 => ?_)
    · replace hM := if_t c19 hM
      refine lv_aload_n hx hb dX2_scanPlace_111 rfl (lv_at hl 4 rfl) ?_
      refine lv_iconst (v := 5) hx hb dX2_scanPlace_112 (by decide) ?_
      refine lv_iload_n hx hb dX2_scanPlace_113 rfl (lv_at hl 3 rfl) ?_
      refine lv_iconst (v := 5) hx hb dX2_scanPlace_114 (by decide) ?_
      obtain ⟨r20, hcr20, hM⟩ := ob_use hM
      refine cl_V (As := [.int 5, .int o_this.2.1, .int 5]) (rest := []) (wK cI ad r20 ++ wB cI (ad 1) (ad 2) 8192 o_text) [] ⟨hx, hb, hml, hown, hts⟩ (c_Tokens_add l D cI sd ad r6.2 5 o_this.2.1 5 r20 hcr20) (cwV2 hts q535 mvX2_add rfl rfl ⟨(Nat.le_of_ble_eq_true rfl), (Nat.le_of_ble_eq_true rfl)⟩) hK hE hA hP hD hS 0 (T := TX2) (N := 7) (ci := 2) rfl rfl [0, 1, 2, 3] rfl (by decide) rfl rfl rfl rfl rfl rfl hl.1 (Nat.le_of_ble_eq_true rfl) dX2_scanPlace_115 ⟨Nat.zero_le _, Nat.zero_le _⟩ (fun H locs hP hD hS => ?_)
      refine lv_goto (tgt := 135) hx hb dX2_scanPlace_118 (by decide) ?_
      cases hM
      exact rt_v hx hb hr hlk hP hD hS rfl dX2_scanPlace_135
    · replace hM := if_f c19 hM
      refine lv_lload_n hx hb dX2_scanPlace_78 rfl (lv_at hl 1 rfl) ?_
      refine lv_ldc2 (v := (-1)) hx hb hown (hts _ (inA q558)) dX2_scanPlace_79 ?_
      refine W.lcmp hx hb dX2_scanPlace_82 ?_
      refine lv_if_eq (tgt := 111) hx hb dX2_scanPlace_83 (by decide) (fun c21 => ?_) (fun c21 => ?_)
      · replace hM := if_t c21 hM
        refine lv_aload_n hx hb dX2_scanPlace_111 rfl (lv_at hl 4 rfl) ?_
        refine lv_iconst (v := 5) hx hb dX2_scanPlace_112 (by decide) ?_
        refine lv_iload_n hx hb dX2_scanPlace_113 rfl (lv_at hl 3 rfl) ?_
        refine lv_iconst (v := 5) hx hb dX2_scanPlace_114 (by decide) ?_
        obtain ⟨r22, hcr22, hM⟩ := ob_use hM
        refine cl_V (As := [.int 5, .int o_this.2.1, .int 5]) (rest := []) (wK cI ad r22 ++ wB cI (ad 1) (ad 2) 8192 o_text) [] ⟨hx, hb, hml, hown, hts⟩ (c_Tokens_add l D cI sd ad r6.2 5 o_this.2.1 5 r22 hcr22) (cwV2 hts q535 mvX2_add rfl rfl ⟨(Nat.le_of_ble_eq_true rfl), (Nat.le_of_ble_eq_true rfl)⟩) hK hE hA hP hD hS 0 (T := TX2) (N := 7) (ci := 2) rfl rfl [0, 1, 2, 3] rfl (by decide) rfl rfl rfl rfl rfl rfl hl.1 (Nat.le_of_ble_eq_true rfl) dX2_scanPlace_115 ⟨Nat.zero_le _, Nat.zero_le _⟩ (fun H locs hP hD hS => ?_)
        refine lv_goto (tgt := 135) hx hb dX2_scanPlace_118 (by decide) ?_
        cases hM
        exact rt_v hx hb hr hlk hP hD hS rfl dX2_scanPlace_135
      · replace hM := if_f c21 hM
        refine lv_lload_n hx hb dX2_scanPlace_86 rfl (lv_at hl 1 rfl) ?_
        refine lv_iload hx hb dX2_scanPlace_87 (lv_at hl 0 rfl) ?_
        refine lv_i2l hx hb dX2_scanPlace_89 rfl ?_
        refine W.lcmp hx hb dX2_scanPlace_90 ?_
        refine lv_if_gt (tgt := 111) hx hb dX2_scanPlace_91 (by decide) (fun c23 => ?_) (fun c23 => ?_)
        · replace hM := if_t c23 hM
          refine lv_aload_n hx hb dX2_scanPlace_111 rfl (lv_at hl 4 rfl) ?_
          refine lv_iconst (v := 5) hx hb dX2_scanPlace_112 (by decide) ?_
          refine lv_iload_n hx hb dX2_scanPlace_113 rfl (lv_at hl 3 rfl) ?_
          refine lv_iconst (v := 5) hx hb dX2_scanPlace_114 (by decide) ?_
          obtain ⟨r24, hcr24, hM⟩ := ob_use hM
          refine cl_V (As := [.int 5, .int o_this.2.1, .int 5]) (rest := []) (wK cI ad r24 ++ wB cI (ad 1) (ad 2) 8192 o_text) [] ⟨hx, hb, hml, hown, hts⟩ (c_Tokens_add l D cI sd ad r6.2 5 o_this.2.1 5 r24 hcr24) (cwV2 hts q535 mvX2_add rfl rfl ⟨(Nat.le_of_ble_eq_true rfl), (Nat.le_of_ble_eq_true rfl)⟩) hK hE hA hP hD hS 0 (T := TX2) (N := 7) (ci := 2) rfl rfl [0, 1, 2, 3] rfl (by decide) rfl rfl rfl rfl rfl rfl hl.1 (Nat.le_of_ble_eq_true rfl) dX2_scanPlace_115 ⟨Nat.zero_le _, Nat.zero_le _⟩ (fun H locs hP hD hS => ?_)
          refine lv_goto (tgt := 135) hx hb dX2_scanPlace_118 (by decide) ?_
          cases hM
          exact rt_v hx hb hr hlk hP hD hS rfl dX2_scanPlace_135
        · replace hM := if_f c23 hM
          refine lv_aload_n hx hb dX2_scanPlace_94 rfl (lv_at hl 4 rfl) ?_
          refine va_get (D := D) (ci := 2) (v := .ref (ad 1)) (C := RX2) (T := TX2) (N := 7) hx hb hts layX2 hown hK hP 0 rfl rfl 0 (by decide) (hts _ (inA q331)) (fun _ h9 => h9) rfl dX2_scanPlace_95 ?_
          refine lv_aload_n hx hb dX2_scanPlace_98 rfl (lv_at hl 4 rfl) ?_
          refine va_get (D := D) (ci := 2) (v := .int r6.2.2.1) (C := RX2) (T := TX2) (N := 7) hx hb hts layX2 hown hK hP 0 rfl rfl 6 (by decide) (hts _ (inA q341)) (fun _ h9 => h9) rfl dX2_scanPlace_99 ?_
          obtain ⟨r25, hcr25, hM⟩ := ob_use hM
          refine cl_V (As := [.int r6.2.2.1]) (rest := []) (wK cI ad r6.2 ++ wB cI (ad 1) (ad 2) 8192 o_text) (.int r25 :: []) ⟨hx, hb, hml, hown, hts⟩ (c_Bytes_get l D cI sd (ad 1) (ad 2) 8192 o_text r6.2.2.1 r25 hcr25) (cwV2 hts q530 mvX0_get rfl rfl ⟨(Nat.le_of_ble_eq_true rfl), (Nat.le_of_ble_eq_true rfl)⟩) hK hE hA hP hD hS 4 (T := TX0) (N := 2) (ci := 0) rfl rfl [4, 5] rfl (by decide) rfl rfl rfl rfl rfl rfl hl.1 (Nat.le_of_ble_eq_true rfl) dX2_scanPlace_102 ⟨Nat.zero_le _, Nat.zero_le _⟩ (fun H locs hP hD hS => ?_)
          obtain ⟨r26, hcr26, hM⟩ := ob_use hM
          refine cl_SN (As := [.int r25]) (rest := []) (wK cI ad r6.2 ++ wB cI (ad 1) (ad 2) 8192 o_text) (.int r26 :: []) ⟨hx, hb, hml, hown, hts⟩ (c_Top_isNameByte l D cI sd ad r25 r26 hcr26) (cwSN2 hts (nmE4 hE) mvX6_isNameByte rfl rfl ⟨(Nat.le_of_ble_eq_true rfl), (Nat.le_of_ble_eq_true rfl)⟩) hK hE hA hP hD hS [] rfl (by decide) rfl rfl rfl rfl rfl rfl hl.1 (Nat.le_of_ble_eq_true rfl) dX2_scanPlace_105 ⟨Nat.zero_le _, Nat.zero_le _⟩ (fun H locs hP hD hS => ?_)
          refine lv_if_eq (tgt := 121) hx hb dX2_scanPlace_108 (by decide) (fun c27 => ?_) (fun c27 => ?_)
          · replace hM := if_t c27 hM
            refine lv_aload_n hx hb dX2_scanPlace_121 rfl (lv_at hl 4 rfl) ?_
            refine lv_iconst (v := 3) hx hb dX2_scanPlace_122 (by decide) ?_
            refine lv_iload_n hx hb dX2_scanPlace_123 rfl (lv_at hl 3 rfl) ?_
            refine lv_sipush (v := 256) hx hb dX2_scanPlace_124 (by decide) ?_
            refine lv_iload_n hx hb dX2_scanPlace_127 rfl (lv_at hl 2 rfl) ?_
            refine lv_imul hx hb dX2_scanPlace_128 ?_
            refine lv_lload_n hx hb dX2_scanPlace_129 rfl (lv_at hl 1 rfl) ?_
            refine lv_l2i hx hb dX2_scanPlace_130 rfl ?_
            refine lv_iadd hx hb dX2_scanPlace_131 ?_
            obtain ⟨r28, hcr28, hM⟩ := ob_use hM
            refine cl_V (As := [.int 3, .int o_this.2.1, .int ((256 * r5) + r6.1.toInt32)]) (rest := []) (wK cI ad r28 ++ wB cI (ad 1) (ad 2) 8192 o_text) [] ⟨hx, hb, hml, hown, hts⟩ (c_Tokens_add l D cI sd ad r6.2 3 o_this.2.1 ((256 * r5) + r6.1.toInt32) r28 hcr28) (cwV2 hts q535 mvX2_add rfl rfl ⟨(Nat.le_of_ble_eq_true rfl), (Nat.le_of_ble_eq_true rfl)⟩) hK hE hA hP hD hS 0 (T := TX2) (N := 7) (ci := 2) rfl rfl [0, 1, 2, 3] rfl (by decide) rfl rfl rfl rfl rfl rfl hl.1 (Nat.le_of_ble_eq_true rfl) dX2_scanPlace_132 ⟨Nat.zero_le _, Nat.zero_le _⟩ (fun H locs hP hD hS => ?_)
            cases hM
            exact rt_v hx hb hr hlk hP hD hS rfl dX2_scanPlace_135
          · replace hM := if_f c27 hM
            refine lv_aload_n hx hb dX2_scanPlace_111 rfl (lv_at hl 4 rfl) ?_
            refine lv_iconst (v := 5) hx hb dX2_scanPlace_112 (by decide) ?_
            refine lv_iload_n hx hb dX2_scanPlace_113 rfl (lv_at hl 3 rfl) ?_
            refine lv_iconst (v := 5) hx hb dX2_scanPlace_114 (by decide) ?_
            obtain ⟨r29, hcr29, hM⟩ := ob_use hM
            refine cl_V (As := [.int 5, .int o_this.2.1, .int 5]) (rest := []) (wK cI ad r29 ++ wB cI (ad 1) (ad 2) 8192 o_text) [] ⟨hx, hb, hml, hown, hts⟩ (c_Tokens_add l D cI sd ad r6.2 5 o_this.2.1 5 r29 hcr29) (cwV2 hts q535 mvX2_add rfl rfl ⟨(Nat.le_of_ble_eq_true rfl), (Nat.le_of_ble_eq_true rfl)⟩) hK hE hA hP hD hS 0 (T := TX2) (N := 7) (ci := 2) rfl rfl [0, 1, 2, 3] rfl (by decide) rfl rfl rfl rfl rfl rfl hl.1 (Nat.le_of_ble_eq_true rfl) dX2_scanPlace_115 ⟨Nat.zero_le _, Nat.zero_le _⟩ (fun H locs hP hD hS => ?_)
            refine lv_goto (tgt := 135) hx hb dX2_scanPlace_118 (by decide) ?_
            cases hM
            exact rt_v hx hb hr hlk hP hD hS rfl dX2_scanPlace_135

set_option maxHeartbeats 4000000 in
set_option maxRecDepth 100000 in
theorem c_Tokens_isSignOfOne (l : Launch) (D : va_G) (cI : ClassId) (sd : Nat → Nat) (ad : Nat → Nat) (a1 : Int32) (res : Int32) (hM : f_Tokens_isSignOfOne a1 = some res) : Ctr l D cI sd yX2_isSignOfOne (wsM yX2_isSignOfOne cX2_isSignOfOne 1 (Option.some Jvm.ClassFile.FieldType.boolean)) { frames := 0, cells := 0, slots := 0, locals := 0 } [.int a1] (([] : va_W)) (([] : va_W)) (some (.int res)) := by
  refine Ctr.of (cc := cX2_isSignOfOne) (maxL := 1) (own := RX2) (by decide +kernel) rfl rfl (Nat.le_of_ble_eq_true rfl) ?_
  intro p e s m below meth c A ls hx hb hr hml hown hts hlk hK hE hA hP hD hS hl
  have hl : lv_has ls 1 [(0, .int a1)] := hl
  unfold f_Tokens_isSignOfOne at hM
  refine lv_iload_n hx hb dX2_isSignOfOne_0 rfl (lv_at hl 0 rfl) ?_
  by_cases c1 : a1 = 38
  · replace hM := if_t c1 hM
    refine lv_lookup (off := 147) (tgt := 148) hx hb dX2_isSignOfOne_1 (by decide) (by exact sw_hit c1 (by decide)) (by decide) ?_
    refine lv_iconst (v := 1) hx hb dX2_isSignOfOne_148 (by decide) ?_
    cases hM
    exact rt_z hx hb hr hlk (by decide) hP hD hS rfl dX2_isSignOfOne_149
  replace hM := if_f c1 hM
  by_cases c2 : a1 = 40
  · replace hM := if_t c2 hM
    refine lv_lookup (off := 147) (tgt := 148) hx hb dX2_isSignOfOne_1 (by decide) (by rw [lv_osw c1 (by decide)]; exact sw_hit c2 (by decide)) (by decide) ?_
    refine lv_iconst (v := 1) hx hb dX2_isSignOfOne_148 (by decide) ?_
    cases hM
    exact rt_z hx hb hr hlk (by decide) hP hD hS rfl dX2_isSignOfOne_149
  replace hM := if_f c2 hM
  by_cases c3 : a1 = 41
  · replace hM := if_t c3 hM
    refine lv_lookup (off := 147) (tgt := 148) hx hb dX2_isSignOfOne_1 (by decide) (by rw [lv_osw c1 (by decide)]; rw [lv_osw c2 (by decide)]; exact sw_hit c3 (by decide)) (by decide) ?_
    refine lv_iconst (v := 1) hx hb dX2_isSignOfOne_148 (by decide) ?_
    cases hM
    exact rt_z hx hb hr hlk (by decide) hP hD hS rfl dX2_isSignOfOne_149
  replace hM := if_f c3 hM
  by_cases c4 : a1 = 42
  · replace hM := if_t c4 hM
    refine lv_lookup (off := 147) (tgt := 148) hx hb dX2_isSignOfOne_1 (by decide) (by rw [lv_osw c1 (by decide)]; rw [lv_osw c2 (by decide)]; rw [lv_osw c3 (by decide)]; exact sw_hit c4 (by decide)) (by decide) ?_
    refine lv_iconst (v := 1) hx hb dX2_isSignOfOne_148 (by decide) ?_
    cases hM
    exact rt_z hx hb hr hlk (by decide) hP hD hS rfl dX2_isSignOfOne_149
  replace hM := if_f c4 hM
  by_cases c5 : a1 = 43
  · replace hM := if_t c5 hM
    refine lv_lookup (off := 147) (tgt := 148) hx hb dX2_isSignOfOne_1 (by decide) (by rw [lv_osw c1 (by decide)]; rw [lv_osw c2 (by decide)]; rw [lv_osw c3 (by decide)]; rw [lv_osw c4 (by decide)]; exact sw_hit c5 (by decide)) (by decide) ?_
    refine lv_iconst (v := 1) hx hb dX2_isSignOfOne_148 (by decide) ?_
    cases hM
    exact rt_z hx hb hr hlk (by decide) hP hD hS rfl dX2_isSignOfOne_149
  replace hM := if_f c5 hM
  by_cases c6 : a1 = 44
  · replace hM := if_t c6 hM
    refine lv_lookup (off := 147) (tgt := 148) hx hb dX2_isSignOfOne_1 (by decide) (by rw [lv_osw c1 (by decide)]; rw [lv_osw c2 (by decide)]; rw [lv_osw c3 (by decide)]; rw [lv_osw c4 (by decide)]; rw [lv_osw c5 (by decide)]; exact sw_hit c6 (by decide)) (by decide) ?_
    refine lv_iconst (v := 1) hx hb dX2_isSignOfOne_148 (by decide) ?_
    cases hM
    exact rt_z hx hb hr hlk (by decide) hP hD hS rfl dX2_isSignOfOne_149
  replace hM := if_f c6 hM
  by_cases c7 : a1 = 45
  · replace hM := if_t c7 hM
    refine lv_lookup (off := 147) (tgt := 148) hx hb dX2_isSignOfOne_1 (by decide) (by rw [lv_osw c1 (by decide)]; rw [lv_osw c2 (by decide)]; rw [lv_osw c3 (by decide)]; rw [lv_osw c4 (by decide)]; rw [lv_osw c5 (by decide)]; rw [lv_osw c6 (by decide)]; exact sw_hit c7 (by decide)) (by decide) ?_
    refine lv_iconst (v := 1) hx hb dX2_isSignOfOne_148 (by decide) ?_
    cases hM
    exact rt_z hx hb hr hlk (by decide) hP hD hS rfl dX2_isSignOfOne_149
  replace hM := if_f c7 hM
  by_cases c8 : a1 = 46
  · replace hM := if_t c8 hM
    refine lv_lookup (off := 147) (tgt := 148) hx hb dX2_isSignOfOne_1 (by decide) (by rw [lv_osw c1 (by decide)]; rw [lv_osw c2 (by decide)]; rw [lv_osw c3 (by decide)]; rw [lv_osw c4 (by decide)]; rw [lv_osw c5 (by decide)]; rw [lv_osw c6 (by decide)]; rw [lv_osw c7 (by decide)]; exact sw_hit c8 (by decide)) (by decide) ?_
    refine lv_iconst (v := 1) hx hb dX2_isSignOfOne_148 (by decide) ?_
    cases hM
    exact rt_z hx hb hr hlk (by decide) hP hD hS rfl dX2_isSignOfOne_149
  replace hM := if_f c8 hM
  by_cases c9 : a1 = 47
  · replace hM := if_t c9 hM
    refine lv_lookup (off := 147) (tgt := 148) hx hb dX2_isSignOfOne_1 (by decide) (by rw [lv_osw c1 (by decide)]; rw [lv_osw c2 (by decide)]; rw [lv_osw c3 (by decide)]; rw [lv_osw c4 (by decide)]; rw [lv_osw c5 (by decide)]; rw [lv_osw c6 (by decide)]; rw [lv_osw c7 (by decide)]; rw [lv_osw c8 (by decide)]; exact sw_hit c9 (by decide)) (by decide) ?_
    refine lv_iconst (v := 1) hx hb dX2_isSignOfOne_148 (by decide) ?_
    cases hM
    exact rt_z hx hb hr hlk (by decide) hP hD hS rfl dX2_isSignOfOne_149
  replace hM := if_f c9 hM
  by_cases c10 : a1 = 58
  · replace hM := if_t c10 hM
    refine lv_lookup (off := 147) (tgt := 148) hx hb dX2_isSignOfOne_1 (by decide) (by rw [lv_osw c1 (by decide)]; rw [lv_osw c2 (by decide)]; rw [lv_osw c3 (by decide)]; rw [lv_osw c4 (by decide)]; rw [lv_osw c5 (by decide)]; rw [lv_osw c6 (by decide)]; rw [lv_osw c7 (by decide)]; rw [lv_osw c8 (by decide)]; rw [lv_osw c9 (by decide)]; exact sw_hit c10 (by decide)) (by decide) ?_
    refine lv_iconst (v := 1) hx hb dX2_isSignOfOne_148 (by decide) ?_
    cases hM
    exact rt_z hx hb hr hlk (by decide) hP hD hS rfl dX2_isSignOfOne_149
  replace hM := if_f c10 hM
  by_cases c11 : a1 = 59
  · replace hM := if_t c11 hM
    refine lv_lookup (off := 147) (tgt := 148) hx hb dX2_isSignOfOne_1 (by decide) (by rw [lv_osw c1 (by decide)]; rw [lv_osw c2 (by decide)]; rw [lv_osw c3 (by decide)]; rw [lv_osw c4 (by decide)]; rw [lv_osw c5 (by decide)]; rw [lv_osw c6 (by decide)]; rw [lv_osw c7 (by decide)]; rw [lv_osw c8 (by decide)]; rw [lv_osw c9 (by decide)]; rw [lv_osw c10 (by decide)]; exact sw_hit c11 (by decide)) (by decide) ?_
    refine lv_iconst (v := 1) hx hb dX2_isSignOfOne_148 (by decide) ?_
    cases hM
    exact rt_z hx hb hr hlk (by decide) hP hD hS rfl dX2_isSignOfOne_149
  replace hM := if_f c11 hM
  by_cases c12 : a1 = 60
  · replace hM := if_t c12 hM
    refine lv_lookup (off := 147) (tgt := 148) hx hb dX2_isSignOfOne_1 (by decide) (by rw [lv_osw c1 (by decide)]; rw [lv_osw c2 (by decide)]; rw [lv_osw c3 (by decide)]; rw [lv_osw c4 (by decide)]; rw [lv_osw c5 (by decide)]; rw [lv_osw c6 (by decide)]; rw [lv_osw c7 (by decide)]; rw [lv_osw c8 (by decide)]; rw [lv_osw c9 (by decide)]; rw [lv_osw c10 (by decide)]; rw [lv_osw c11 (by decide)]; exact sw_hit c12 (by decide)) (by decide) ?_
    refine lv_iconst (v := 1) hx hb dX2_isSignOfOne_148 (by decide) ?_
    cases hM
    exact rt_z hx hb hr hlk (by decide) hP hD hS rfl dX2_isSignOfOne_149
  replace hM := if_f c12 hM
  by_cases c13 : a1 = 61
  · replace hM := if_t c13 hM
    refine lv_lookup (off := 147) (tgt := 148) hx hb dX2_isSignOfOne_1 (by decide) (by rw [lv_osw c1 (by decide)]; rw [lv_osw c2 (by decide)]; rw [lv_osw c3 (by decide)]; rw [lv_osw c4 (by decide)]; rw [lv_osw c5 (by decide)]; rw [lv_osw c6 (by decide)]; rw [lv_osw c7 (by decide)]; rw [lv_osw c8 (by decide)]; rw [lv_osw c9 (by decide)]; rw [lv_osw c10 (by decide)]; rw [lv_osw c11 (by decide)]; rw [lv_osw c12 (by decide)]; exact sw_hit c13 (by decide)) (by decide) ?_
    refine lv_iconst (v := 1) hx hb dX2_isSignOfOne_148 (by decide) ?_
    cases hM
    exact rt_z hx hb hr hlk (by decide) hP hD hS rfl dX2_isSignOfOne_149
  replace hM := if_f c13 hM
  by_cases c14 : a1 = 62
  · replace hM := if_t c14 hM
    refine lv_lookup (off := 147) (tgt := 148) hx hb dX2_isSignOfOne_1 (by decide) (by rw [lv_osw c1 (by decide)]; rw [lv_osw c2 (by decide)]; rw [lv_osw c3 (by decide)]; rw [lv_osw c4 (by decide)]; rw [lv_osw c5 (by decide)]; rw [lv_osw c6 (by decide)]; rw [lv_osw c7 (by decide)]; rw [lv_osw c8 (by decide)]; rw [lv_osw c9 (by decide)]; rw [lv_osw c10 (by decide)]; rw [lv_osw c11 (by decide)]; rw [lv_osw c12 (by decide)]; rw [lv_osw c13 (by decide)]; exact sw_hit c14 (by decide)) (by decide) ?_
    refine lv_iconst (v := 1) hx hb dX2_isSignOfOne_148 (by decide) ?_
    cases hM
    exact rt_z hx hb hr hlk (by decide) hP hD hS rfl dX2_isSignOfOne_149
  replace hM := if_f c14 hM
  by_cases c15 : a1 = 91
  · replace hM := if_t c15 hM
    refine lv_lookup (off := 147) (tgt := 148) hx hb dX2_isSignOfOne_1 (by decide) (by rw [lv_osw c1 (by decide)]; rw [lv_osw c2 (by decide)]; rw [lv_osw c3 (by decide)]; rw [lv_osw c4 (by decide)]; rw [lv_osw c5 (by decide)]; rw [lv_osw c6 (by decide)]; rw [lv_osw c7 (by decide)]; rw [lv_osw c8 (by decide)]; rw [lv_osw c9 (by decide)]; rw [lv_osw c10 (by decide)]; rw [lv_osw c11 (by decide)]; rw [lv_osw c12 (by decide)]; rw [lv_osw c13 (by decide)]; rw [lv_osw c14 (by decide)]; exact sw_hit c15 (by decide)) (by decide) ?_
    refine lv_iconst (v := 1) hx hb dX2_isSignOfOne_148 (by decide) ?_
    cases hM
    exact rt_z hx hb hr hlk (by decide) hP hD hS rfl dX2_isSignOfOne_149
  replace hM := if_f c15 hM
  by_cases c16 : a1 = 93
  · replace hM := if_t c16 hM
    refine lv_lookup (off := 147) (tgt := 148) hx hb dX2_isSignOfOne_1 (by decide) (by rw [lv_osw c1 (by decide)]; rw [lv_osw c2 (by decide)]; rw [lv_osw c3 (by decide)]; rw [lv_osw c4 (by decide)]; rw [lv_osw c5 (by decide)]; rw [lv_osw c6 (by decide)]; rw [lv_osw c7 (by decide)]; rw [lv_osw c8 (by decide)]; rw [lv_osw c9 (by decide)]; rw [lv_osw c10 (by decide)]; rw [lv_osw c11 (by decide)]; rw [lv_osw c12 (by decide)]; rw [lv_osw c13 (by decide)]; rw [lv_osw c14 (by decide)]; rw [lv_osw c15 (by decide)]; exact sw_hit c16 (by decide)) (by decide) ?_
    refine lv_iconst (v := 1) hx hb dX2_isSignOfOne_148 (by decide) ?_
    cases hM
    exact rt_z hx hb hr hlk (by decide) hP hD hS rfl dX2_isSignOfOne_149
  replace hM := if_f c16 hM
  by_cases c17 : a1 = 124
  · replace hM := if_t c17 hM
    refine lv_lookup (off := 147) (tgt := 148) hx hb dX2_isSignOfOne_1 (by decide) (by rw [lv_osw c1 (by decide)]; rw [lv_osw c2 (by decide)]; rw [lv_osw c3 (by decide)]; rw [lv_osw c4 (by decide)]; rw [lv_osw c5 (by decide)]; rw [lv_osw c6 (by decide)]; rw [lv_osw c7 (by decide)]; rw [lv_osw c8 (by decide)]; rw [lv_osw c9 (by decide)]; rw [lv_osw c10 (by decide)]; rw [lv_osw c11 (by decide)]; rw [lv_osw c12 (by decide)]; rw [lv_osw c13 (by decide)]; rw [lv_osw c14 (by decide)]; rw [lv_osw c15 (by decide)]; rw [lv_osw c16 (by decide)]; exact sw_hit c17 (by decide)) (by decide) ?_
    refine lv_iconst (v := 1) hx hb dX2_isSignOfOne_148 (by decide) ?_
    cases hM
    exact rt_z hx hb hr hlk (by decide) hP hD hS rfl dX2_isSignOfOne_149
  replace hM := if_f c17 hM
  refine lv_lookup (off := 149) (tgt := 150) hx hb dX2_isSignOfOne_1 (by decide) (by rw [lv_osw c1 (by decide)]; rw [lv_osw c2 (by decide)]; rw [lv_osw c3 (by decide)]; rw [lv_osw c4 (by decide)]; rw [lv_osw c5 (by decide)]; rw [lv_osw c6 (by decide)]; rw [lv_osw c7 (by decide)]; rw [lv_osw c8 (by decide)]; rw [lv_osw c9 (by decide)]; rw [lv_osw c10 (by decide)]; rw [lv_osw c11 (by decide)]; rw [lv_osw c12 (by decide)]; rw [lv_osw c13 (by decide)]; rw [lv_osw c14 (by decide)]; rw [lv_osw c15 (by decide)]; rw [lv_osw c16 (by decide)]; rw [lv_osw c17 (by decide)]; rfl) (by decide) ?_
  refine lv_iconst (v := 0) hx hb dX2_isSignOfOne_150 (by decide) ?_
  cases hM
  exact rt_z hx hb hr hlk (by decide) hP hD hS rfl dX2_isSignOfOne_151

set_option maxHeartbeats 4000000 in
set_option maxRecDepth 100000 in
theorem c_Tokens_isSignOfTwo (l : Launch) (D : va_G) (cI : ClassId) (sd : Nat → Nat) (ad : Nat → Nat) (a1 : Int32) (res : Int32) (hM : f_Tokens_isSignOfTwo a1 = some res) : Ctr l D cI sd yX2_isSignOfTwo (wsM yX2_isSignOfTwo cX2_isSignOfTwo 1 (Option.some Jvm.ClassFile.FieldType.boolean)) { frames := 0, cells := 0, slots := 0, locals := 0 } [.int a1] (([] : va_W)) (([] : va_W)) (some (.int res)) := by
  refine Ctr.of (cc := cX2_isSignOfTwo) (maxL := 1) (own := RX2) (by decide +kernel) rfl rfl (Nat.le_of_ble_eq_true rfl) ?_
  intro p e s m below meth c A ls hx hb hr hml hown hts hlk hK hE hA hP hD hS hl
  have hl : lv_has ls 1 [(0, .int a1)] := hl
  unfold f_Tokens_isSignOfTwo at hM
  refine lv_iload_n hx hb dX2_isSignOfTwo_0 rfl (lv_at hl 0 rfl) ?_
  refine lv_sipush (v := 14909) hx hb dX2_isSignOfTwo_1 (by decide) ?_
  refine lv_icmp_eq (tgt := 35) hx hb dX2_isSignOfTwo_4 (by decide) (fun c1 => ?_) (fun c1 => ?_)
  · replace hM := if_t c1 hM
    refine lv_iconst (v := 1) hx hb dX2_isSignOfTwo_35 (by decide) ?_
    refine lv_goto (tgt := 40) hx hb dX2_isSignOfTwo_36 (by decide) ?_
    cases hM
    exact rt_z hx hb hr hlk (by decide) hP hD hS rfl dX2_isSignOfTwo_40
  · replace hM := if_f c1 hM
    refine lv_iload_n hx hb dX2_isSignOfTwo_7 rfl (lv_at hl 0 rfl) ?_
    refine lv_sipush (v := 11822) hx hb dX2_isSignOfTwo_8 (by decide) ?_
    refine lv_icmp_eq (tgt := 35) hx hb dX2_isSignOfTwo_11 (by decide) (fun c2 => ?_) (fun c2 => ?_)
    · replace hM := if_t c2 hM
      refine lv_iconst (v := 1) hx hb dX2_isSignOfTwo_35 (by decide) ?_
      refine lv_goto (tgt := 40) hx hb dX2_isSignOfTwo_36 (by decide) ?_
      cases hM
      exact rt_z hx hb hr hlk (by decide) hP hD hS rfl dX2_isSignOfTwo_40
    · replace hM := if_f c2 hM
      refine lv_iload_n hx hb dX2_isSignOfTwo_14 rfl (lv_at hl 0 rfl) ?_
      refine lv_sipush (v := 15421) hx hb dX2_isSignOfTwo_15 (by decide) ?_
      refine lv_icmp_eq (tgt := 35) hx hb dX2_isSignOfTwo_18 (by decide) (fun c3 => ?_) (fun c3 => ?_)
      · replace hM := if_t c3 hM
        refine lv_iconst (v := 1) hx hb dX2_isSignOfTwo_35 (by decide) ?_
        refine lv_goto (tgt := 40) hx hb dX2_isSignOfTwo_36 (by decide) ?_
        cases hM
        exact rt_z hx hb hr hlk (by decide) hP hD hS rfl dX2_isSignOfTwo_40
      · replace hM := if_f c3 hM
        refine lv_iload_n hx hb dX2_isSignOfTwo_21 rfl (lv_at hl 0 rfl) ?_
        refine lv_sipush (v := 15933) hx hb dX2_isSignOfTwo_22 (by decide) ?_
        refine lv_icmp_eq (tgt := 35) hx hb dX2_isSignOfTwo_25 (by decide) (fun c4 => ?_) (fun c4 => ?_)
        · replace hM := if_t c4 hM
          refine lv_iconst (v := 1) hx hb dX2_isSignOfTwo_35 (by decide) ?_
          refine lv_goto (tgt := 40) hx hb dX2_isSignOfTwo_36 (by decide) ?_
          cases hM
          exact rt_z hx hb hr hlk (by decide) hP hD hS rfl dX2_isSignOfTwo_40
        · replace hM := if_f c4 hM
          refine lv_iload_n hx hb dX2_isSignOfTwo_28 rfl (lv_at hl 0 rfl) ?_
          refine lv_sipush (v := 15422) hx hb dX2_isSignOfTwo_29 (by decide) ?_
          refine lv_icmp_ne (tgt := 39) hx hb dX2_isSignOfTwo_32 (by decide) (fun c5 => ?_) (fun c5 => ?_)
          · replace hM := if_f c5 hM
            refine lv_iconst (v := 0) hx hb dX2_isSignOfTwo_39 (by decide) ?_
            cases hM
            exact rt_z hx hb hr hlk (by decide) hP hD hS rfl dX2_isSignOfTwo_40
          · replace hM := if_t c5 hM
            refine lv_iconst (v := 1) hx hb dX2_isSignOfTwo_35 (by decide) ?_
            refine lv_goto (tgt := 40) hx hb dX2_isSignOfTwo_36 (by decide) ?_
            cases hM
            exact rt_z hx hb hr hlk (by decide) hP hD hS rfl dX2_isSignOfTwo_40

set_option maxHeartbeats 4000000 in
set_option maxRecDepth 100000 in
theorem c_Tokens_scanSign (l : Launch) (D : va_G) (cI : ClassId) (sd : Nat → Nat) (ad : Nat → Nat) (o_this : S_Tokens) (o_text : S_Bytes) (res : S_Tokens) (hM : f_Tokens_scanSign o_this o_text = some res) : Ctr l D cI sd yX2_scanSign (wsM yX2_scanSign cX2_scanSign 4 (Option.none : Option Jvm.ClassFile.FieldType)) { frames := 1, cells := 0, slots := 0, locals := 23 } [.ref (ad 10)] (wK cI ad o_this ++ wB cI (ad 1) (ad 2) 8192 o_text) (wK cI ad res ++ wB cI (ad 1) (ad 2) 8192 o_text) none := by
  refine Ctr.of (cc := cX2_scanSign) (maxL := 4) (own := RX2) (by decide +kernel) rfl rfl (Nat.le_of_ble_eq_true rfl) ?_
  intro p e s m below meth c A ls hx hb hr hml hown hts hlk hK hE hA hP hD hS hl
  have hl : lv_has ls 4 [(0, .ref (ad 10))] := hl
  unfold f_Tokens_scanSign at hM
  refine lv_aload_n hx hb dX2_scanSign_0 rfl (lv_at hl 0 rfl) ?_
  refine va_get (D := D) (ci := 2) (v := .int o_this.2.1) (C := RX2) (T := TX2) (N := 7) hx hb hts layX2 hown hK hP 0 rfl rfl 6 (by decide) (hts _ (inA q341)) (fun _ h9 => h9) rfl dX2_scanSign_1 ?_
  refine lv_istore_n (lv' := [(1, .int o_this.2.1), (0, .ref (ad 10))]) hx hb dX2_scanSign_4 rfl hl (by decide) rfl (fun ls hl => ?_)
  refine lv_aload_n hx hb dX2_scanSign_5 rfl (lv_at hl 1 rfl) ?_
  refine va_get (D := D) (ci := 2) (v := .ref (ad 1)) (C := RX2) (T := TX2) (N := 7) hx hb hts layX2 hown hK hP 0 rfl rfl 0 (by decide) (hts _ (inA q331)) (fun _ h9 => h9) rfl dX2_scanSign_6 ?_
  refine lv_aload_n hx hb dX2_scanSign_9 rfl (lv_at hl 1 rfl) ?_
  refine va_get (D := D) (ci := 2) (v := .int o_this.2.1) (C := RX2) (T := TX2) (N := 7) hx hb hts layX2 hown hK hP 0 rfl rfl 6 (by decide) (hts _ (inA q341)) (fun _ h9 => h9) rfl dX2_scanSign_10 ?_
  obtain ⟨r1, hcr1, hM⟩ := ob_use hM
  refine cl_V (As := [.int o_this.2.1]) (rest := []) (wK cI ad o_this ++ wB cI (ad 1) (ad 2) 8192 o_text) (.int r1 :: []) ⟨hx, hb, hml, hown, hts⟩ (c_Bytes_get l D cI sd (ad 1) (ad 2) 8192 o_text o_this.2.1 r1 hcr1) (cwV2 hts q530 mvX0_get rfl rfl ⟨(Nat.le_of_ble_eq_true rfl), (Nat.le_of_ble_eq_true rfl)⟩) hK hE hA hP hD hS 4 (T := TX0) (N := 2) (ci := 0) rfl rfl [4, 5] rfl (by decide) rfl rfl rfl rfl rfl rfl hl.1 (Nat.le_of_ble_eq_true rfl) dX2_scanSign_13 ⟨Nat.zero_le _, Nat.zero_le _⟩ (fun H locs hP hD hS => ?_)
  refine lv_istore_n (lv' := [(2, .int r1), (1, .int o_this.2.1), (0, .ref (ad 10))]) hx hb dX2_scanSign_16 rfl hl (by decide) rfl (fun ls hl => ?_)
  refine lv_iload_n hx hb dX2_scanSign_17 rfl (lv_at hl 0 rfl) ?_
  refine lv_bipush (v := 8) hx hb dX2_scanSign_18 (by decide) ?_
  refine lv_ishl hx hb dX2_scanSign_20 ?_
  refine lv_iconst (v := 0) hx hb dX2_scanSign_21 (by decide) ?_
  refine lv_aload_n hx hb dX2_scanSign_22 rfl (lv_at hl 2 rfl) ?_
  refine va_get (D := D) (ci := 2) (v := .ref (ad 1)) (C := RX2) (T := TX2) (N := 7) hx hb hts layX2 hown hK hP 0 rfl rfl 0 (by decide) (hts _ (inA q331)) (fun _ h9 => h9) rfl dX2_scanSign_23 ?_
  refine lv_aload_n hx hb dX2_scanSign_26 rfl (lv_at hl 2 rfl) ?_
  refine va_get (D := D) (ci := 2) (v := .int o_this.2.1) (C := RX2) (T := TX2) (N := 7) hx hb hts layX2 hown hK hP 0 rfl rfl 6 (by decide) (hts _ (inA q341)) (fun _ h9 => h9) rfl dX2_scanSign_27 ?_
  refine lv_iconst (v := 1) hx hb dX2_scanSign_30 (by decide) ?_
  refine lv_iadd hx hb dX2_scanSign_31 ?_
  obtain ⟨r2, hcr2, hM⟩ := ob_use hM
  refine cl_V (As := [.int (o_this.2.1 + 1)]) (rest := [.int 0, .int (r1 <<< (8 &&& 31))]) (wK cI ad o_this ++ wB cI (ad 1) (ad 2) 8192 o_text) (.int r2 :: [.int 0, .int (r1 <<< (8 &&& 31))]) ⟨hx, hb, hml, hown, hts⟩ (c_Bytes_get l D cI sd (ad 1) (ad 2) 8192 o_text (o_this.2.1 + 1) r2 hcr2) (cwV2 hts q530 mvX0_get rfl rfl ⟨(Nat.le_of_ble_eq_true rfl), (Nat.le_of_ble_eq_true rfl)⟩) hK hE hA hP hD hS 4 (T := TX0) (N := 2) (ci := 0) rfl rfl [4, 5] rfl (by decide) rfl rfl rfl rfl rfl rfl hl.1 (Nat.le_of_ble_eq_true rfl) dX2_scanSign_32 ⟨Nat.zero_le _, Nat.zero_le _⟩ (fun H locs hP hD hS => ?_)
  obtain ⟨r3, hcr3, hM⟩ := ob_use hM
  refine cl_S (As := [.int 0, .int r2]) (rest := [.int (r1 <<< (8 &&& 31))]) (wK cI ad o_this ++ wB cI (ad 1) (ad 2) 8192 o_text) (.int r3 :: [.int (r1 <<< (8 &&& 31))]) ⟨hx, hb, hml, hown, hts⟩ (c_Math_max l D cI sd ad 0 r2 r3 hcr3) (cwS2 hts q597 mvX10_max rfl rfl ⟨(Nat.le_of_ble_eq_true rfl), (Nat.le_of_ble_eq_true rfl)⟩) hK hE hA hP hD hS [] rfl (by decide) rfl rfl rfl rfl rfl rfl hl.1 (Nat.le_of_ble_eq_true rfl) dX2_scanSign_35 ⟨Nat.zero_le _, Nat.zero_le _⟩ (fun H locs hP hD hS => ?_)
  refine lv_ior hx hb dX2_scanSign_38 ?_
  refine lv_topi (fun x4 ex4 => ?_)
  replace hM := nm_use ex4 hM
  refine lv_istore_n (lv' := [(3, .int x4), (2, .int r1), (1, .int o_this.2.1), (0, .ref (ad 10))]) hx hb dX2_scanSign_39 rfl hl (by decide) rfl (fun ls hl => ?_)
  refine lv_iload_n hx hb dX2_scanSign_40 rfl (lv_at hl 0 rfl) ?_
  obtain ⟨r5, hcr5, hM⟩ := ob_use hM
  refine cl_S (As := [.int x4]) (rest := []) (wK cI ad o_this ++ wB cI (ad 1) (ad 2) 8192 o_text) (.int r5 :: []) ⟨hx, hb, hml, hown, hts⟩ (c_Tokens_isSignOfTwo l D cI sd ad x4 r5 hcr5) (cwS2 hts q600 mvX2_isSignOfTwo rfl rfl ⟨(Nat.le_of_ble_eq_true rfl), (Nat.le_of_ble_eq_true rfl)⟩) hK hE hA hP hD hS [] rfl (by decide) rfl rfl rfl rfl rfl rfl hl.1 (Nat.le_of_ble_eq_true rfl) dX2_scanSign_41 ⟨Nat.zero_le _, Nat.zero_le _⟩ (fun H locs hP hD hS => ?_)
  refine lv_if_eq (tgt := 67) hx hb dX2_scanSign_44 (by decide) (fun c6 => ?_) (fun c6 => ?_)
  · replace hM := if_t c6 hM
    refine lv_iload_n hx hb dX2_scanSign_67 rfl (lv_at hl 1 rfl) ?_
    obtain ⟨r7, hcr7, hM⟩ := ob_use hM
    refine cl_S (As := [.int r1]) (rest := []) (wK cI ad o_this ++ wB cI (ad 1) (ad 2) 8192 o_text) (.int r7 :: []) ⟨hx, hb, hml, hown, hts⟩ (c_Tokens_isSignOfOne l D cI sd ad r1 r7 hcr7) (cwS2 hts q603 mvX2_isSignOfOne rfl rfl ⟨(Nat.le_of_ble_eq_true rfl), (Nat.le_of_ble_eq_true rfl)⟩) hK hE hA hP hD hS [] rfl (by decide) rfl rfl rfl rfl rfl rfl hl.1 (Nat.le_of_ble_eq_true rfl) dX2_scanSign_68 ⟨Nat.zero_le _, Nat.zero_le _⟩ (fun H locs hP hD hS => ?_)
    refine lv_if_eq (tgt := 94) hx hb dX2_scanSign_71 (by decide) (fun c8 => ?_) (fun c8 => ?_)
    · replace hM := if_t c8 hM
      refine lv_aload_n hx hb dX2_scanSign_94 rfl (lv_at hl 3 rfl) ?_
      refine lv_iconst (v := 5) hx hb dX2_scanSign_95 (by decide) ?_
      refine lv_iload_n hx hb dX2_scanSign_96 rfl (lv_at hl 2 rfl) ?_
      refine lv_iconst (v := 1) hx hb dX2_scanSign_97 (by decide) ?_
      obtain ⟨r9, hcr9, hM⟩ := ob_use hM
      refine cl_V (As := [.int 5, .int o_this.2.1, .int 1]) (rest := []) (wK cI ad r9 ++ wB cI (ad 1) (ad 2) 8192 o_text) [] ⟨hx, hb, hml, hown, hts⟩ (c_Tokens_add l D cI sd ad o_this 5 o_this.2.1 1 r9 hcr9) (cwV2 hts q535 mvX2_add rfl rfl ⟨(Nat.le_of_ble_eq_true rfl), (Nat.le_of_ble_eq_true rfl)⟩) hK hE hA hP hD hS 0 (T := TX2) (N := 7) (ci := 2) rfl rfl [0, 1, 2, 3] rfl (by decide) rfl rfl rfl rfl rfl rfl hl.1 (Nat.le_of_ble_eq_true rfl) dX2_scanSign_98 ⟨Nat.zero_le _, Nat.zero_le _⟩ (fun H locs hP hD hS => ?_)
      cases hM
      exact rt_v hx hb hr hlk hP hD hS rfl dX2_scanSign_101
    · replace hM := if_f c8 hM
      refine lv_aload_n hx hb dX2_scanSign_74 rfl (lv_at hl 3 rfl) ?_
      refine lv_dup hx hb dX2_scanSign_75 rfl ?_
      refine va_get (D := D) (ci := 2) (v := .int o_this.2.1) (C := RX2) (T := TX2) (N := 7) hx hb hts layX2 hown hK hP 0 rfl rfl 6 (by decide) (hts _ (inA q341)) (fun _ h9 => h9) rfl dX2_scanSign_76 ?_
      refine lv_iconst (v := 1) hx hb dX2_scanSign_79 (by decide) ?_
      refine lv_iadd hx hb dX2_scanSign_80 ?_
      refine va_put (D := D) (ci := 2) (v := .int (o_this.2.1 + 1)) (ty := .int) (C := RX2) (T := TX2) (N := 7) hx hb hts layX2 tyX2 tyX2_ok nmX2 hown hK hP hD hS 0 rfl rfl 6 (by decide) (hts _ (inA q341)) (fun _ h9 => h9) rfl (by decide +kernel) rfl rfl (Nat.le_of_ble_eq_true rfl) dX2_scanSign_81 (fun H locs hP hD hS => ?_)
      have hP : va_P D vwCl (wK cI ad (o_this.1, o_this.2.1 + 1, o_this.2.2) ++ wB cI (ad 1) (ad 2) 8192 o_text) H := hP
      have hD : va_D A (wK cI ad (o_this.1, o_this.2.1 + 1, o_this.2.2) ++ wB cI (ad 1) (ad 2) 8192 o_text) := hD
      refine lv_aload_n hx hb dX2_scanSign_84 rfl (lv_at hl 3 rfl) ?_
      refine lv_iload_n hx hb dX2_scanSign_85 rfl (lv_at hl 1 rfl) ?_
      refine lv_iload_n hx hb dX2_scanSign_86 rfl (lv_at hl 2 rfl) ?_
      refine lv_iconst (v := 0) hx hb dX2_scanSign_87 (by decide) ?_
      obtain ⟨r10, hcr10, hM⟩ := ob_use hM
      refine cl_V (As := [.int r1, .int o_this.2.1, .int 0]) (rest := []) (wK cI ad r10 ++ wB cI (ad 1) (ad 2) 8192 o_text) [] ⟨hx, hb, hml, hown, hts⟩ (c_Tokens_add l D cI sd ad (o_this.1, o_this.2.1 + 1, o_this.2.2) r1 o_this.2.1 0 r10 hcr10) (cwV2 hts q535 mvX2_add rfl rfl ⟨(Nat.le_of_ble_eq_true rfl), (Nat.le_of_ble_eq_true rfl)⟩) hK hE hA hP hD hS 0 (T := TX2) (N := 7) (ci := 2) rfl rfl [0, 1, 2, 3] rfl (by decide) rfl rfl rfl rfl rfl rfl hl.1 (Nat.le_of_ble_eq_true rfl) dX2_scanSign_88 ⟨Nat.zero_le _, Nat.zero_le _⟩ (fun H locs hP hD hS => ?_)
      refine lv_goto (tgt := 101) hx hb dX2_scanSign_91 (by decide) ?_
      cases hM
      exact rt_v hx hb hr hlk hP hD hS rfl dX2_scanSign_101
  · replace hM := if_f c6 hM
    refine lv_aload_n hx hb dX2_scanSign_47 rfl (lv_at hl 3 rfl) ?_
    refine lv_dup hx hb dX2_scanSign_48 rfl ?_
    refine va_get (D := D) (ci := 2) (v := .int o_this.2.1) (C := RX2) (T := TX2) (N := 7) hx hb hts layX2 hown hK hP 0 rfl rfl 6 (by decide) (hts _ (inA q341)) (fun _ h9 => h9) rfl dX2_scanSign_49 ?_
    refine lv_iconst (v := 2) hx hb dX2_scanSign_52 (by decide) ?_
    refine lv_iadd hx hb dX2_scanSign_53 ?_
    refine va_put (D := D) (ci := 2) (v := .int (o_this.2.1 + 2)) (ty := .int) (C := RX2) (T := TX2) (N := 7) hx hb hts layX2 tyX2 tyX2_ok nmX2 hown hK hP hD hS 0 rfl rfl 6 (by decide) (hts _ (inA q341)) (fun _ h9 => h9) rfl (by decide +kernel) rfl rfl (Nat.le_of_ble_eq_true rfl) dX2_scanSign_54 (fun H locs hP hD hS => ?_)
    have hP : va_P D vwCl (wK cI ad (o_this.1, o_this.2.1 + 2, o_this.2.2) ++ wB cI (ad 1) (ad 2) 8192 o_text) H := hP
    have hD : va_D A (wK cI ad (o_this.1, o_this.2.1 + 2, o_this.2.2) ++ wB cI (ad 1) (ad 2) 8192 o_text) := hD
    refine lv_aload_n hx hb dX2_scanSign_57 rfl (lv_at hl 3 rfl) ?_
    refine lv_iload_n hx hb dX2_scanSign_58 rfl (lv_at hl 0 rfl) ?_
    refine lv_iload_n hx hb dX2_scanSign_59 rfl (lv_at hl 2 rfl) ?_
    refine lv_iconst (v := 0) hx hb dX2_scanSign_60 (by decide) ?_
    obtain ⟨r11, hcr11, hM⟩ := ob_use hM
    refine cl_V (As := [.int x4, .int o_this.2.1, .int 0]) (rest := []) (wK cI ad r11 ++ wB cI (ad 1) (ad 2) 8192 o_text) [] ⟨hx, hb, hml, hown, hts⟩ (c_Tokens_add l D cI sd ad (o_this.1, o_this.2.1 + 2, o_this.2.2) x4 o_this.2.1 0 r11 hcr11) (cwV2 hts q535 mvX2_add rfl rfl ⟨(Nat.le_of_ble_eq_true rfl), (Nat.le_of_ble_eq_true rfl)⟩) hK hE hA hP hD hS 0 (T := TX2) (N := 7) (ci := 2) rfl rfl [0, 1, 2, 3] rfl (by decide) rfl rfl rfl rfl rfl rfl hl.1 (Nat.le_of_ble_eq_true rfl) dX2_scanSign_61 ⟨Nat.zero_le _, Nat.zero_le _⟩ (fun H locs hP hD hS => ?_)
    refine lv_goto (tgt := 101) hx hb dX2_scanSign_64 (by decide) ?_
    cases hM
    exact rt_v hx hb hr hlk hP hD hS rfl dX2_scanSign_101

set_option maxHeartbeats 4000000 in
set_option maxRecDepth 100000 in
theorem c_Tokens_unit (l : Launch) (D : va_G) (cI : ClassId) (sd : Nat → Nat) (ad : Nat → Nat) (o_this : S_Tokens) (o_text : S_Bytes) (res : Int64 × S_Tokens) (hM : f_Tokens_unit o_this o_text = some res) : Ctr l D cI sd yX2_unit (wsM yX2_unit cX2_unit 2 (Option.some Jvm.ClassFile.FieldType.long)) { frames := 1, cells := 0, slots := 0, locals := 21 } [.ref (ad 10)] (wK cI ad o_this ++ wB cI (ad 1) (ad 2) 8192 o_text) (wK cI ad res.2 ++ wB cI (ad 1) (ad 2) 8192 o_text) (some (.long res.1)) := by
  refine Ctr.of (cc := cX2_unit) (maxL := 2) (own := RX2) (by decide +kernel) rfl rfl (Nat.le_of_ble_eq_true rfl) ?_
  intro p e s m below meth c A ls hx hb hr hml hown hts hlk hK hE hA hP hD hS hl
  have hl : lv_has ls 2 [(0, .ref (ad 10))] := hl
  unfold f_Tokens_unit at hM
  refine lv_aload_n hx hb dX2_unit_0 rfl (lv_at hl 0 rfl) ?_
  refine va_get (D := D) (ci := 2) (v := .ref (ad 1)) (C := RX2) (T := TX2) (N := 7) hx hb hts layX2 hown hK hP 0 rfl rfl 0 (by decide) (hts _ (inA q331)) (fun _ h9 => h9) rfl dX2_unit_1 ?_
  refine lv_aload_n hx hb dX2_unit_4 rfl (lv_at hl 0 rfl) ?_
  refine va_get (D := D) (ci := 2) (v := .int o_this.2.1) (C := RX2) (T := TX2) (N := 7) hx hb hts layX2 hown hK hP 0 rfl rfl 6 (by decide) (hts _ (inA q341)) (fun _ h9 => h9) rfl dX2_unit_5 ?_
  obtain ⟨r1, hcr1, hM⟩ := ob_use hM
  refine cl_V (As := [.int o_this.2.1]) (rest := []) (wK cI ad o_this ++ wB cI (ad 1) (ad 2) 8192 o_text) (.int r1 :: []) ⟨hx, hb, hml, hown, hts⟩ (c_Bytes_get l D cI sd (ad 1) (ad 2) 8192 o_text o_this.2.1 r1 hcr1) (cwV2 hts q530 mvX0_get rfl rfl ⟨(Nat.le_of_ble_eq_true rfl), (Nat.le_of_ble_eq_true rfl)⟩) hK hE hA hP hD hS 4 (T := TX0) (N := 2) (ci := 0) rfl rfl [4, 5] rfl (by decide) rfl rfl rfl rfl rfl rfl hl.1 (Nat.le_of_ble_eq_true rfl) dX2_unit_8 ⟨Nat.zero_le _, Nat.zero_le _⟩ (fun H locs hP hD hS => ?_)
  obtain ⟨r2, hcr2, hM⟩ := ob_use hM
  refine cl_SN (As := [.int r1]) (rest := []) (wK cI ad o_this ++ wB cI (ad 1) (ad 2) 8192 o_text) (.int r2 :: []) ⟨hx, hb, hml, hown, hts⟩ (c_Top_great l D cI sd ad r1 r2 hcr2) (cwSN2 hts (nmE2 hE) mvX6_great rfl rfl ⟨(Nat.le_of_ble_eq_true rfl), (Nat.le_of_ble_eq_true rfl)⟩) hK hE hA hP hD hS [] rfl (by decide) rfl rfl rfl rfl rfl rfl hl.1 (Nat.le_of_ble_eq_true rfl) dX2_unit_11 ⟨Nat.zero_le _, Nat.zero_le _⟩ (fun H locs hP hD hS => ?_)
  refine lv_istore_n (lv' := [(1, .int r2), (0, .ref (ad 10))]) hx hb dX2_unit_14 rfl hl (by decide) rfl (fun ls hl => ?_)
  refine lv_iload_n hx hb dX2_unit_15 rfl (lv_at hl 0 rfl) ?_
  refine lv_bipush (v := 77) hx hb dX2_unit_16 (by decide) ?_
  refine lv_icmp_ne (tgt := 54) hx hb dX2_unit_18 (by decide) (fun c3 => ?_) (fun c3 => ?_)
  · replace hM := if_f c3 hM
    refine lv_aload_n hx hb dX2_unit_54 rfl (lv_at hl 1 rfl) ?_
    refine lv_dup hx hb dX2_unit_55 rfl ?_
    refine va_get (D := D) (ci := 2) (v := .int o_this.2.1) (C := RX2) (T := TX2) (N := 7) hx hb hts layX2 hown hK hP 0 rfl rfl 6 (by decide) (hts _ (inA q341)) (fun _ h9 => h9) rfl dX2_unit_56 ?_
    refine lv_iconst (v := 1) hx hb dX2_unit_59 (by decide) ?_
    refine lv_iadd hx hb dX2_unit_60 ?_
    refine va_put (D := D) (ci := 2) (v := .int (o_this.2.1 + 1)) (ty := .int) (C := RX2) (T := TX2) (N := 7) hx hb hts layX2 tyX2 tyX2_ok nmX2 hown hK hP hD hS 0 rfl rfl 6 (by decide) (hts _ (inA q341)) (fun _ h9 => h9) rfl (by decide +kernel) rfl rfl (Nat.le_of_ble_eq_true rfl) dX2_unit_61 (fun H locs hP hD hS => ?_)
    have hP : va_P D vwCl (wK cI ad (o_this.1, o_this.2.1 + 1, o_this.2.2) ++ wB cI (ad 1) (ad 2) 8192 o_text) H := hP
    have hD : va_D A (wK cI ad (o_this.1, o_this.2.1 + 1, o_this.2.2) ++ wB cI (ad 1) (ad 2) 8192 o_text) := hD
    refine lv_iload_n hx hb dX2_unit_64 rfl (lv_at hl 0 rfl) ?_
    by_cases c4 : r2 = 72
    · replace hM := if_t c4 hM
      refine lv_lookup (off := 43) (tgt := 108) hx hb dX2_unit_65 (by decide) (by exact sw_hit c4 (by decide)) (by decide) ?_
      refine lv_ldc2 (v := 3600000) hx hb hown (hts _ (inA q565)) dX2_unit_108 ?_
      cases hM
      exact rt_l hx hb hr hlk hP hD hS rfl dX2_unit_111
    replace hM := if_f c4 hM
    by_cases c5 : r2 = 77
    · replace hM := if_t c5 hM
      refine lv_lookup (off := 39) (tgt := 104) hx hb dX2_unit_65 (by decide) (by rw [lv_osw c4 (by decide)]; exact sw_hit c5 (by decide)) (by decide) ?_
      refine lv_ldc2 (v := 60000) hx hb hown (hts _ (inA q564)) dX2_unit_104 ?_
      cases hM
      exact rt_l hx hb hr hlk hP hD hS rfl dX2_unit_107
    replace hM := if_f c5 hM
    by_cases c6 : r2 = 83
    · replace hM := if_t c6 hM
      refine lv_lookup (off := 35) (tgt := 100) hx hb dX2_unit_65 (by decide) (by rw [lv_osw c4 (by decide)]; rw [lv_osw c5 (by decide)]; exact sw_hit c6 (by decide)) (by decide) ?_
      refine lv_ldc2 (v := 1000) hx hb hown (hts _ (inA q563)) dX2_unit_100 ?_
      cases hM
      exact rt_l hx hb hr hlk hP hD hS rfl dX2_unit_103
    replace hM := if_f c6 hM
    refine lv_lookup (off := 47) (tgt := 112) hx hb dX2_unit_65 (by decide) (by rw [lv_osw c4 (by decide)]; rw [lv_osw c5 (by decide)]; rw [lv_osw c6 (by decide)]; rfl) (by decide) ?_
    refine lv_ldc2 (v := (-1)) hx hb hown (hts _ (inA q558)) dX2_unit_112 ?_
    cases hM
    exact rt_l hx hb hr hlk hP hD hS rfl dX2_unit_115
  · replace hM := if_t c3 hM
    refine lv_aload_n hx hb dX2_unit_21 rfl (lv_at hl 1 rfl) ?_
    refine va_get (D := D) (ci := 2) (v := .ref (ad 1)) (C := RX2) (T := TX2) (N := 7) hx hb hts layX2 hown hK hP 0 rfl rfl 0 (by decide) (hts _ (inA q331)) (fun _ h9 => h9) rfl dX2_unit_22 ?_
    refine lv_aload_n hx hb dX2_unit_25 rfl (lv_at hl 1 rfl) ?_
    refine va_get (D := D) (ci := 2) (v := .int o_this.2.1) (C := RX2) (T := TX2) (N := 7) hx hb hts layX2 hown hK hP 0 rfl rfl 6 (by decide) (hts _ (inA q341)) (fun _ h9 => h9) rfl dX2_unit_26 ?_
    refine lv_iconst (v := 1) hx hb dX2_unit_29 (by decide) ?_
    refine lv_iadd hx hb dX2_unit_30 ?_
    obtain ⟨r7, hcr7, hM⟩ := ob_use hM
    refine cl_V (As := [.int (o_this.2.1 + 1)]) (rest := []) (wK cI ad o_this ++ wB cI (ad 1) (ad 2) 8192 o_text) (.int r7 :: []) ⟨hx, hb, hml, hown, hts⟩ (c_Bytes_get l D cI sd (ad 1) (ad 2) 8192 o_text (o_this.2.1 + 1) r7 hcr7) (cwV2 hts q530 mvX0_get rfl rfl ⟨(Nat.le_of_ble_eq_true rfl), (Nat.le_of_ble_eq_true rfl)⟩) hK hE hA hP hD hS 4 (T := TX0) (N := 2) (ci := 0) rfl rfl [4, 5] rfl (by decide) rfl rfl rfl rfl rfl rfl hl.1 (Nat.le_of_ble_eq_true rfl) dX2_unit_31 ⟨Nat.zero_le _, Nat.zero_le _⟩ (fun H locs hP hD hS => ?_)
    obtain ⟨r8, hcr8, hM⟩ := ob_use hM
    refine cl_SN (As := [.int r7]) (rest := []) (wK cI ad o_this ++ wB cI (ad 1) (ad 2) 8192 o_text) (.int r8 :: []) ⟨hx, hb, hml, hown, hts⟩ (c_Top_great l D cI sd ad r7 r8 hcr8) (cwSN2 hts (nmE2 hE) mvX6_great rfl rfl ⟨(Nat.le_of_ble_eq_true rfl), (Nat.le_of_ble_eq_true rfl)⟩) hK hE hA hP hD hS [] rfl (by decide) rfl rfl rfl rfl rfl rfl hl.1 (Nat.le_of_ble_eq_true rfl) dX2_unit_34 ⟨Nat.zero_le _, Nat.zero_le _⟩ (fun H locs hP hD hS => ?_)
    refine lv_bipush (v := 83) hx hb dX2_unit_37 (by decide) ?_
    refine lv_icmp_ne (tgt := 54) hx hb dX2_unit_39 (by decide) (fun c9 => ?_) (fun c9 => ?_)
    · replace hM := if_f c9 hM
      refine lv_aload_n hx hb dX2_unit_54 rfl (lv_at hl 1 rfl) ?_
      refine lv_dup hx hb dX2_unit_55 rfl ?_
      refine va_get (D := D) (ci := 2) (v := .int o_this.2.1) (C := RX2) (T := TX2) (N := 7) hx hb hts layX2 hown hK hP 0 rfl rfl 6 (by decide) (hts _ (inA q341)) (fun _ h9 => h9) rfl dX2_unit_56 ?_
      refine lv_iconst (v := 1) hx hb dX2_unit_59 (by decide) ?_
      refine lv_iadd hx hb dX2_unit_60 ?_
      refine va_put (D := D) (ci := 2) (v := .int (o_this.2.1 + 1)) (ty := .int) (C := RX2) (T := TX2) (N := 7) hx hb hts layX2 tyX2 tyX2_ok nmX2 hown hK hP hD hS 0 rfl rfl 6 (by decide) (hts _ (inA q341)) (fun _ h9 => h9) rfl (by decide +kernel) rfl rfl (Nat.le_of_ble_eq_true rfl) dX2_unit_61 (fun H locs hP hD hS => ?_)
      have hP : va_P D vwCl (wK cI ad (o_this.1, o_this.2.1 + 1, o_this.2.2) ++ wB cI (ad 1) (ad 2) 8192 o_text) H := hP
      have hD : va_D A (wK cI ad (o_this.1, o_this.2.1 + 1, o_this.2.2) ++ wB cI (ad 1) (ad 2) 8192 o_text) := hD
      refine lv_iload_n hx hb dX2_unit_64 rfl (lv_at hl 0 rfl) ?_
      by_cases c10 : r2 = 72
      · replace hM := if_t c10 hM
        refine lv_lookup (off := 43) (tgt := 108) hx hb dX2_unit_65 (by decide) (by exact sw_hit c10 (by decide)) (by decide) ?_
        refine lv_ldc2 (v := 3600000) hx hb hown (hts _ (inA q565)) dX2_unit_108 ?_
        cases hM
        exact rt_l hx hb hr hlk hP hD hS rfl dX2_unit_111
      replace hM := if_f c10 hM
      by_cases c11 : r2 = 77
      · replace hM := if_t c11 hM
        refine lv_lookup (off := 39) (tgt := 104) hx hb dX2_unit_65 (by decide) (by rw [lv_osw c10 (by decide)]; exact sw_hit c11 (by decide)) (by decide) ?_
        refine lv_ldc2 (v := 60000) hx hb hown (hts _ (inA q564)) dX2_unit_104 ?_
        cases hM
        exact rt_l hx hb hr hlk hP hD hS rfl dX2_unit_107
      replace hM := if_f c11 hM
      by_cases c12 : r2 = 83
      · replace hM := if_t c12 hM
        refine lv_lookup (off := 35) (tgt := 100) hx hb dX2_unit_65 (by decide) (by rw [lv_osw c10 (by decide)]; rw [lv_osw c11 (by decide)]; exact sw_hit c12 (by decide)) (by decide) ?_
        refine lv_ldc2 (v := 1000) hx hb hown (hts _ (inA q563)) dX2_unit_100 ?_
        cases hM
        exact rt_l hx hb hr hlk hP hD hS rfl dX2_unit_103
      replace hM := if_f c12 hM
      refine lv_lookup (off := 47) (tgt := 112) hx hb dX2_unit_65 (by decide) (by rw [lv_osw c10 (by decide)]; rw [lv_osw c11 (by decide)]; rw [lv_osw c12 (by decide)]; rfl) (by decide) ?_
      refine lv_ldc2 (v := (-1)) hx hb hown (hts _ (inA q558)) dX2_unit_112 ?_
      cases hM
      exact rt_l hx hb hr hlk hP hD hS rfl dX2_unit_115
    · replace hM := if_t c9 hM
      refine lv_aload_n hx hb dX2_unit_42 rfl (lv_at hl 1 rfl) ?_
      refine lv_dup hx hb dX2_unit_43 rfl ?_
      refine va_get (D := D) (ci := 2) (v := .int o_this.2.1) (C := RX2) (T := TX2) (N := 7) hx hb hts layX2 hown hK hP 0 rfl rfl 6 (by decide) (hts _ (inA q341)) (fun _ h9 => h9) rfl dX2_unit_44 ?_
      refine lv_iconst (v := 2) hx hb dX2_unit_47 (by decide) ?_
      refine lv_iadd hx hb dX2_unit_48 ?_
      refine va_put (D := D) (ci := 2) (v := .int (o_this.2.1 + 2)) (ty := .int) (C := RX2) (T := TX2) (N := 7) hx hb hts layX2 tyX2 tyX2_ok nmX2 hown hK hP hD hS 0 rfl rfl 6 (by decide) (hts _ (inA q341)) (fun _ h9 => h9) rfl (by decide +kernel) rfl rfl (Nat.le_of_ble_eq_true rfl) dX2_unit_49 (fun H locs hP hD hS => ?_)
      have hP : va_P D vwCl (wK cI ad (o_this.1, o_this.2.1 + 2, o_this.2.2) ++ wB cI (ad 1) (ad 2) 8192 o_text) H := hP
      have hD : va_D A (wK cI ad (o_this.1, o_this.2.1 + 2, o_this.2.2) ++ wB cI (ad 1) (ad 2) 8192 o_text) := hD
      refine lv_lconst (v := 1) hx hb dX2_unit_52 (by decide) ?_
      cases hM
      exact rt_l hx hb hr hlk hP hD hS rfl dX2_unit_53

set_option maxHeartbeats 4000000 in
set_option maxRecDepth 100000 in
theorem c_Tokens_scanTime (l : Launch) (D : va_G) (cI : ClassId) (sd : Nat → Nat) (ad : Nat → Nat) (o_this : S_Tokens) (o_text : S_Bytes) (res : S_Tokens) (hM : f_Tokens_scanTime o_this o_text = some res) : Ctr l D cI sd yX2_scanTime (wsM yX2_scanTime cX2_scanTime 6 (Option.none : Option Jvm.ClassFile.FieldType)) { frames := 3, cells := 0, slots := 0, locals := 67 } [.ref (ad 10)] (wK cI ad o_this ++ wB cI (ad 1) (ad 2) 8192 o_text) (wK cI ad res ++ wB cI (ad 1) (ad 2) 8192 o_text) none := by
  refine Ctr.of (cc := cX2_scanTime) (maxL := 6) (own := RX2) (by decide +kernel) rfl rfl (Nat.le_of_ble_eq_true rfl) ?_
  intro p e s m below meth c A ls hx hb hr hml hown hts hlk hK hE hA hP hD hS hl
  have hl : lv_has ls 6 [(0, .ref (ad 10))] := hl
  unfold f_Tokens_scanTime at hM
  refine lv_aload_n hx hb dX2_scanTime_0 rfl (lv_at hl 0 rfl) ?_
  refine va_get (D := D) (ci := 2) (v := .int o_this.2.1) (C := RX2) (T := TX2) (N := 7) hx hb hts layX2 hown hK hP 0 rfl rfl 6 (by decide) (hts _ (inA q341)) (fun _ h9 => h9) rfl dX2_scanTime_1 ?_
  refine lv_istore_n (lv' := [(1, .int o_this.2.1), (0, .ref (ad 10))]) hx hb dX2_scanTime_4 rfl hl (by decide) rfl (fun ls hl => ?_)
  refine lv_aload_n hx hb dX2_scanTime_5 rfl (lv_at hl 1 rfl) ?_
  refine lv_dup hx hb dX2_scanTime_6 rfl ?_
  refine va_get (D := D) (ci := 2) (v := .int o_this.2.1) (C := RX2) (T := TX2) (N := 7) hx hb hts layX2 hown hK hP 0 rfl rfl 6 (by decide) (hts _ (inA q341)) (fun _ h9 => h9) rfl dX2_scanTime_7 ?_
  refine lv_iconst (v := 2) hx hb dX2_scanTime_10 (by decide) ?_
  refine lv_iadd hx hb dX2_scanTime_11 ?_
  refine va_put (D := D) (ci := 2) (v := .int (o_this.2.1 + 2)) (ty := .int) (C := RX2) (T := TX2) (N := 7) hx hb hts layX2 tyX2 tyX2_ok nmX2 hown hK hP hD hS 0 rfl rfl 6 (by decide) (hts _ (inA q341)) (fun _ h9 => h9) rfl (by decide +kernel) rfl rfl (Nat.le_of_ble_eq_true rfl) dX2_scanTime_12 (fun H locs hP hD hS => ?_)
  have hP : va_P D vwCl (wK cI ad (o_this.1, o_this.2.1 + 2, o_this.2.2) ++ wB cI (ad 1) (ad 2) 8192 o_text) H := hP
  have hD : va_D A (wK cI ad (o_this.1, o_this.2.1 + 2, o_this.2.2) ++ wB cI (ad 1) (ad 2) 8192 o_text) := hD
  refine lv_aload_n hx hb dX2_scanTime_15 rfl (lv_at hl 1 rfl) ?_
  refine lv_bipush (v := 10) hx hb dX2_scanTime_16 (by decide) ?_
  obtain ⟨r1, hcr1, hM⟩ := ob_use hM
  refine cl_V (As := [.int 10]) (rest := []) (wK cI ad r1.2 ++ wB cI (ad 1) (ad 2) 8192 o_text) (.long r1.1 :: []) ⟨hx, hb, hml, hown, hts⟩ (c_Tokens_digits l D cI sd ad (o_this.1, o_this.2.1 + 2, o_this.2.2) o_text 10 r1 hcr1) (cwV2 hts q544 mvX2_digits rfl rfl ⟨(Nat.le_of_ble_eq_true rfl), (Nat.le_of_ble_eq_true rfl)⟩) hK hE hA hP hD hS 0 (T := TX2) (N := 7) (ci := 2) rfl rfl [0, 1, 2, 3, 4, 5] rfl (by decide) rfl rfl rfl rfl rfl rfl hl.1 (Nat.le_of_ble_eq_true rfl) dX2_scanTime_18 ⟨Nat.zero_le _, Nat.zero_le _⟩ (fun H locs hP hD hS => ?_)
  refine lv_lstore_n (lv' := [(2, .long r1.1), (1, .int o_this.2.1), (0, .ref (ad 10))]) hx hb dX2_scanTime_21 rfl hl (by decide) rfl (fun ls hl => ?_)
  refine lv_aload_n hx hb dX2_scanTime_22 rfl (lv_at hl 2 rfl) ?_
  obtain ⟨r2, hcr2, hM⟩ := ob_use hM
  refine cl_V (As := []) (rest := []) (wK cI ad r2.2 ++ wB cI (ad 1) (ad 2) 8192 o_text) (.long r2.1 :: []) ⟨hx, hb, hml, hown, hts⟩ (c_Tokens_unit l D cI sd ad r1.2 o_text r2 hcr2) (cwV2 hts q559 mvX2_unit rfl rfl ⟨(Nat.le_of_ble_eq_true rfl), (Nat.le_of_ble_eq_true rfl)⟩) hK hE hA hP hD hS 0 (T := TX2) (N := 7) (ci := 2) rfl rfl [0, 1, 2, 3, 4, 5] rfl (by decide) rfl rfl rfl rfl rfl rfl hl.1 (Nat.le_of_ble_eq_true rfl) dX2_scanTime_23 ⟨Nat.zero_le _, Nat.zero_le _⟩ (fun H locs hP hD hS => ?_)
  refine lv_lstore (lv' := [(4, .long r2.1), (2, .long r1.1), (1, .int o_this.2.1), (0, .ref (ad 10))]) hx hb dX2_scanTime_26 hl (by decide) rfl (fun ls hl => ?_)
  refine lv_aload_n hx hb dX2_scanTime_28 rfl (lv_at hl 3 rfl) ?_
  refine lv_iload_n hx hb dX2_scanTime_29 rfl (lv_at hl 2 rfl) ?_
  refine lv_lload_n hx hb dX2_scanTime_30 rfl (lv_at hl 1 rfl) ?_
  refine lv_ldc2 (v := (-1)) hx hb hown (hts _ (inA q558)) dX2_scanTime_31 ?_
  refine W.lcmp hx hb dX2_scanTime_34 ?_
  refine lv_if_eq (tgt := 47) hx hb dX2_scanTime_35 (by decide) (fun c3 => ?_) (fun c3 => ?_)
  · replace hM := if_t c3 hM
    refine lv_ldc2 (v := (-1)) hx hb hown (hts _ (inA q558)) dX2_scanTime_47 ?_
    refine lv_goto (tgt := 57) hx hb dX2_scanTime_50 (by decide) ?_
    obtain ⟨r4, hcr4, hM⟩ := ob_use hM
    refine cl_V (As := [.int o_this.2.1, .long (-1)]) (rest := []) (wK cI ad r4 ++ wB cI (ad 1) (ad 2) 8192 o_text) [] ⟨hx, hb, hml, hown, hts⟩ (c_Tokens_addNumber l D cI sd ad r2.2 o_text o_this.2.1 (-1) r4 hcr4) (cwV2 hts q566 mvX2_addNumber rfl rfl ⟨(Nat.le_of_ble_eq_true rfl), (Nat.le_of_ble_eq_true rfl)⟩) hK hE hA hP hD hS 0 (T := TX2) (N := 7) (ci := 2) rfl rfl [0, 1, 2, 3, 4, 5] rfl (by decide) rfl rfl rfl rfl rfl rfl hl.1 (Nat.le_of_ble_eq_true rfl) dX2_scanTime_57 ⟨Nat.zero_le _, Nat.zero_le _⟩ (fun H locs hP hD hS => ?_)
    cases hM
    exact rt_v hx hb hr hlk hP hD hS rfl dX2_scanTime_60
  · replace hM := if_f c3 hM
    refine lv_lload hx hb dX2_scanTime_38 (lv_at hl 0 rfl) ?_
    refine lv_ldc2 (v := (-1)) hx hb hown (hts _ (inA q558)) dX2_scanTime_40 ?_
    refine W.lcmp hx hb dX2_scanTime_43 ?_
    refine lv_if_ne (tgt := 53) hx hb dX2_scanTime_44 (by decide) (fun c5 => ?_) (fun c5 => ?_)
    · replace hM := if_f c5 hM
      refine lv_lload_n hx hb dX2_scanTime_53 rfl (lv_at hl 1 rfl) ?_
      refine lv_lload hx hb dX2_scanTime_54 (lv_at hl 0 rfl) ?_
      refine lv_lmul hx hb dX2_scanTime_56 ?_
      obtain ⟨r6, hcr6, hM⟩ := ob_use hM
      refine cl_V (As := [.int o_this.2.1, .long (r1.1 * r2.1)]) (rest := []) (wK cI ad r6 ++ wB cI (ad 1) (ad 2) 8192 o_text) [] ⟨hx, hb, hml, hown, hts⟩ (c_Tokens_addNumber l D cI sd ad r2.2 o_text o_this.2.1 (r1.1 * r2.1) r6 hcr6) (cwV2 hts q566 mvX2_addNumber rfl rfl ⟨(Nat.le_of_ble_eq_true rfl), (Nat.le_of_ble_eq_true rfl)⟩) hK hE hA hP hD hS 0 (T := TX2) (N := 7) (ci := 2) rfl rfl [0, 1, 2, 3, 4, 5] rfl (by decide) rfl rfl rfl rfl rfl rfl hl.1 (Nat.le_of_ble_eq_true rfl) dX2_scanTime_57 ⟨Nat.zero_le _, Nat.zero_le _⟩ (fun H locs hP hD hS => ?_)
      cases hM
      exact rt_v hx hb hr hlk hP hD hS rfl dX2_scanTime_60
    · replace hM := if_t c5 hM
      refine lv_ldc2 (v := (-1)) hx hb hown (hts _ (inA q558)) dX2_scanTime_47 ?_
      refine lv_goto (tgt := 57) hx hb dX2_scanTime_50 (by decide) ?_
      obtain ⟨r7, hcr7, hM⟩ := ob_use hM
      refine cl_V (As := [.int o_this.2.1, .long (-1)]) (rest := []) (wK cI ad r7 ++ wB cI (ad 1) (ad 2) 8192 o_text) [] ⟨hx, hb, hml, hown, hts⟩ (c_Tokens_addNumber l D cI sd ad r2.2 o_text o_this.2.1 (-1) r7 hcr7) (cwV2 hts q566 mvX2_addNumber rfl rfl ⟨(Nat.le_of_ble_eq_true rfl), (Nat.le_of_ble_eq_true rfl)⟩) hK hE hA hP hD hS 0 (T := TX2) (N := 7) (ci := 2) rfl rfl [0, 1, 2, 3, 4, 5] rfl (by decide) rfl rfl rfl rfl rfl rfl hl.1 (Nat.le_of_ble_eq_true rfl) dX2_scanTime_57 ⟨Nat.zero_le _, Nat.zero_le _⟩ (fun H locs hP hD hS => ?_)
      cases hM
      exact rt_v hx hb hr hlk hP hD hS rfl dX2_scanTime_60

set_option maxHeartbeats 4000000 in
set_option maxRecDepth 100000 in
theorem c_Tokens_endOfComment (l : Launch) (D : va_G) (cI : ClassId) (sd : Nat → Nat) (ad : Nat → Nat) (o_this : S_Tokens) (o_text : S_Bytes) (a1 : Int32) (res : Int32) (hM : f_Tokens_endOfComment o_this o_text a1 = some res) : Ctr l D cI sd yX2_endOfComment (wsM yX2_endOfComment cX2_endOfComment 3 (Option.some Jvm.ClassFile.FieldType.int)) { frames := 1, cells := 0, slots := 0, locals := 21 } [.ref (ad 10), .int a1] (wK cI ad o_this ++ wB cI (ad 1) (ad 2) 8192 o_text) (wK cI ad o_this ++ wB cI (ad 1) (ad 2) 8192 o_text) (some (.int res)) := by
  refine Ctr.of (cc := cX2_endOfComment) (maxL := 3) (own := RX2) (by decide +kernel) rfl rfl (Nat.le_of_ble_eq_true rfl) ?_
  intro p e s m below meth c A ls hx hb hr hml hown hts hlk hK hE hA hP hD hS hl
  have hl : lv_has ls 3 [(0, .ref (ad 10)), (1, .int a1)] := hl
  unfold f_Tokens_endOfComment at hM
  refine lv_iload_n hx hb dX2_endOfComment_0 rfl (lv_at hl 1 rfl) ?_
  refine lv_istore_n (lv' := [(2, .int a1), (0, .ref (ad 10)), (1, .int a1)]) hx hb dX2_endOfComment_1 rfl hl (by decide) rfl (fun ls hl => ?_)
  have lp_L2 : ∀ (n : Nat) (v2_L2 : Int32) (H : Heap) (locs : List Loc) (ls : Array Slot), f_Tokens_endOfComment_L2 o_text n v2_L2 = some res → va_P D vwCl (wK cI ad o_this ++ wB cI (ad 1) (ad 2) 8192 o_text) H → va_D A (wK cI ad o_this ++ wB cI (ad 1) (ad 2) 8192 o_text) → va_S A s.heap H locs → lv_has ls 3 [(2, .int v2_L2), (0, .ref (ad 10))] → W p l e { frames := 1, cells := 0, slots := 0, locals := 21 } s m [.ref (ad 10), .int a1].toArray below meth c H locs 0 0 (MQ below (CQ D A (wK cI ad o_this ++ wB cI (ad 1) (ad 2) 8192 o_text) (some (.int res))) [.ref (ad 10), .int a1].toArray s 0 0 A) (F0 m 2 ls []) := by
    intro  n
    induction n with
    | zero => intro v2_L2 H locs ls hM; exact absurd (show none = some _ from hM) (by simp)
    | succ n ih_L2 =>
      intro v2_L2 H locs ls hM hP hD hS hl
      rw [f_Tokens_endOfComment_L2] at hM
      refine lv_iload_n hx hb dX2_endOfComment_2 rfl (lv_at hl 0 rfl) ?_
      refine lv_aload_n hx hb dX2_endOfComment_3 rfl (lv_at hl 1 rfl) ?_
      refine va_get (D := D) (ci := 2) (v := .ref (ad 1)) (C := RX2) (T := TX2) (N := 7) hx hb hts layX2 hown hK hP 0 rfl rfl 0 (by decide) (hts _ (inA q331)) (fun _ h9 => h9) rfl dX2_endOfComment_4 ?_
      refine va_getN (D := D) (ci := 0) (v := .int o_text.1) (C := RX0) (T := TX0) (N := 2) hx hb hts layX0 hown hK hP 4 rfl rfl 1 (by decide) (nfE1 hE) (fun _ h9 => h9) rfl dX2_endOfComment_7 ?_
      refine lv_icmp_ge (tgt := 51) hx hb dX2_endOfComment_10 (by decide) (fun c1121 => ?_) (fun c1121 => ?_)
      · replace hM := if_t c1121 hM
        refine lv_iconst (v := (-1)) hx hb dX2_endOfComment_51 (by decide) ?_
        cases hM
        exact rt_i hx hb hr hlk hP hD hS rfl dX2_endOfComment_52
      · replace hM := if_f c1121 hM
        refine lv_aload_n hx hb dX2_endOfComment_13 rfl (lv_at hl 1 rfl) ?_
        refine va_get (D := D) (ci := 2) (v := .ref (ad 1)) (C := RX2) (T := TX2) (N := 7) hx hb hts layX2 hown hK hP 0 rfl rfl 0 (by decide) (hts _ (inA q331)) (fun _ h9 => h9) rfl dX2_endOfComment_14 ?_
        refine lv_iload_n hx hb dX2_endOfComment_17 rfl (lv_at hl 0 rfl) ?_
        obtain ⟨r1122, hcr1122, hM⟩ := ob_use hM
        refine cl_V (As := [.int v2_L2]) (rest := []) (wK cI ad o_this ++ wB cI (ad 1) (ad 2) 8192 o_text) (.int r1122 :: []) ⟨hx, hb, hml, hown, hts⟩ (c_Bytes_get l D cI sd (ad 1) (ad 2) 8192 o_text v2_L2 r1122 hcr1122) (cwV2 hts q530 mvX0_get rfl rfl ⟨(Nat.le_of_ble_eq_true rfl), (Nat.le_of_ble_eq_true rfl)⟩) hK hE hA hP hD hS 4 (T := TX0) (N := 2) (ci := 0) rfl rfl [4, 5] rfl (by decide) rfl rfl rfl rfl rfl rfl hl.1 (Nat.le_of_ble_eq_true rfl) dX2_endOfComment_18 ⟨Nat.zero_le _, Nat.zero_le _⟩ (fun H locs hP hD hS => ?_)
        refine lv_bipush (v := 42) hx hb dX2_endOfComment_21 (by decide) ?_
        refine lv_icmp_ne (tgt := 45) hx hb dX2_endOfComment_23 (by decide) (fun c1123 => ?_) (fun c1123 => ?_)
        · replace hM := if_f c1123 hM
          obtain ⟨x1124, ex1124⟩ : ∃ y : Int32, y = v2_L2 + 1 := ⟨_, rfl⟩
          replace hM := nm_use ex1124 hM
          refine lv_iinc (v := x1124) (lv' := [(2, .int x1124), (0, .ref (ad 10))]) hx hb dX2_endOfComment_45 hl (k := 0) rfl (by rw [ex1124]; rfl) (by decide) rfl (fun ls hl => ?_)
          refine lv_goto (tgt := 2) hx hb dX2_endOfComment_48 (by decide) ?_
          exact ih_L2 x1124 _ _ _ hM hP hD hS (lv_sub hl [0, 1] rfl)
        · replace hM := if_t c1123 hM
          refine lv_aload_n hx hb dX2_endOfComment_26 rfl (lv_at hl 1 rfl) ?_
          refine va_get (D := D) (ci := 2) (v := .ref (ad 1)) (C := RX2) (T := TX2) (N := 7) hx hb hts layX2 hown hK hP 0 rfl rfl 0 (by decide) (hts _ (inA q331)) (fun _ h9 => h9) rfl dX2_endOfComment_27 ?_
          refine lv_iload_n hx hb dX2_endOfComment_30 rfl (lv_at hl 0 rfl) ?_
          refine lv_iconst (v := 1) hx hb dX2_endOfComment_31 (by decide) ?_
          refine lv_iadd hx hb dX2_endOfComment_32 ?_
          obtain ⟨r1125, hcr1125, hM⟩ := ob_use hM
          refine cl_V (As := [.int (v2_L2 + 1)]) (rest := []) (wK cI ad o_this ++ wB cI (ad 1) (ad 2) 8192 o_text) (.int r1125 :: []) ⟨hx, hb, hml, hown, hts⟩ (c_Bytes_get l D cI sd (ad 1) (ad 2) 8192 o_text (v2_L2 + 1) r1125 hcr1125) (cwV2 hts q530 mvX0_get rfl rfl ⟨(Nat.le_of_ble_eq_true rfl), (Nat.le_of_ble_eq_true rfl)⟩) hK hE hA hP hD hS 4 (T := TX0) (N := 2) (ci := 0) rfl rfl [4, 5] rfl (by decide) rfl rfl rfl rfl rfl rfl hl.1 (Nat.le_of_ble_eq_true rfl) dX2_endOfComment_33 ⟨Nat.zero_le _, Nat.zero_le _⟩ (fun H locs hP hD hS => ?_)
          refine lv_bipush (v := 41) hx hb dX2_endOfComment_36 (by decide) ?_
          refine lv_icmp_ne (tgt := 45) hx hb dX2_endOfComment_38 (by decide) (fun c1126 => ?_) (fun c1126 => ?_)
          · replace hM := if_f c1126 hM
            obtain ⟨x1127, ex1127⟩ : ∃ y : Int32, y = v2_L2 + 1 := ⟨_, rfl⟩
            replace hM := nm_use ex1127 hM
            refine lv_iinc (v := x1127) (lv' := [(2, .int x1127), (0, .ref (ad 10))]) hx hb dX2_endOfComment_45 hl (k := 0) rfl (by rw [ex1127]; rfl) (by decide) rfl (fun ls hl => ?_)
            refine lv_goto (tgt := 2) hx hb dX2_endOfComment_48 (by decide) ?_
            exact ih_L2 x1127 _ _ _ hM hP hD hS (lv_sub hl [0, 1] rfl)
          · replace hM := if_t c1126 hM
            refine lv_iload_n hx hb dX2_endOfComment_41 rfl (lv_at hl 0 rfl) ?_
            refine lv_iconst (v := 2) hx hb dX2_endOfComment_42 (by decide) ?_
            refine lv_iadd hx hb dX2_endOfComment_43 ?_
            cases hM
            exact rt_i hx hb hr hlk hP hD hS rfl dX2_endOfComment_44
  exact lp_L2 FU a1 _ _ _ hM hP hD hS (lv_sub hl [0, 1] rfl)

set_option maxHeartbeats 4000000 in
set_option maxRecDepth 100000 in
theorem c_Tokens_skipBlanks (l : Launch) (D : va_G) (cI : ClassId) (sd : Nat → Nat) (ad : Nat → Nat) (o_this : S_Tokens) (o_text : S_Bytes) (res : Int32 × S_Tokens) (hM : f_Tokens_skipBlanks o_this o_text = some res) : Ctr l D cI sd yX2_skipBlanks (wsM yX2_skipBlanks cX2_skipBlanks 4 (Option.some Jvm.ClassFile.FieldType.boolean)) { frames := 2, cells := 0, slots := 0, locals := 43 } [.ref (ad 10)] (wK cI ad o_this ++ wB cI (ad 1) (ad 2) 8192 o_text) (wK cI ad res.2 ++ wB cI (ad 1) (ad 2) 8192 o_text) (some (.int res.1)) := by
  refine Ctr.of (cc := cX2_skipBlanks) (maxL := 4) (own := RX2) (by decide +kernel) rfl rfl (Nat.le_of_ble_eq_true rfl) ?_
  intro p e s m below meth c A ls hx hb hr hml hown hts hlk hK hE hA hP hD hS hl
  have hl : lv_has ls 4 [(0, .ref (ad 10))] := hl
  unfold f_Tokens_skipBlanks at hM
  refine lv_iconst (v := 0) hx hb dX2_skipBlanks_0 (by decide) ?_
  refine lv_istore_n (lv' := [(1, .int 0), (0, .ref (ad 10))]) hx hb dX2_skipBlanks_1 rfl hl (by decide) rfl (fun ls hl => ?_)
  have lp_L2 : ∀ (n : Nat) (v1_L2 : Int32) (o_this_L2 : S_Tokens) (H : Heap) (locs : List Loc) (ls : Array Slot), f_Tokens_skipBlanks_L2 o_text n v1_L2 o_this_L2 = some res → va_P D vwCl (wK cI ad o_this_L2 ++ wB cI (ad 1) (ad 2) 8192 o_text) H → va_D A (wK cI ad o_this_L2 ++ wB cI (ad 1) (ad 2) 8192 o_text) → va_S A s.heap H locs → lv_has ls 4 [(1, .int v1_L2), (0, .ref (ad 10))] → W p l e { frames := 2, cells := 0, slots := 0, locals := 43 } s m [.ref (ad 10)].toArray below meth c H locs 0 0 (MQ below (CQ D A (wK cI ad res.2 ++ wB cI (ad 1) (ad 2) 8192 o_text) (some (.int res.1))) [.ref (ad 10)].toArray s 0 0 A) (F0 m 2 ls []) := by
    intro  n
    induction n with
    | zero => intro v1_L2 o_this_L2 H locs ls hM; exact absurd (show none = some _ from hM) (by simp)
    | succ n ih_L2 =>
      intro v1_L2 o_this_L2 H locs ls hM hP hD hS hl
      rw [f_Tokens_skipBlanks_L2] at hM
      refine lv_iload_n hx hb dX2_skipBlanks_2 rfl (lv_at hl 0 rfl) ?_
      refine lv_sipush (v := 8192) hx hb dX2_skipBlanks_3 (by decide) ?_
      refine lv_icmp_gt (tgt := 116) hx hb dX2_skipBlanks_6 (by decide) (fun c1121 => ?_) (fun c1121 => ?_)
      · replace hM := if_t c1121 hM
        refine lv_iconst (v := 1) hx hb dX2_skipBlanks_116 (by decide) ?_
        cases hM
        exact rt_z hx hb hr hlk (by decide) hP hD hS rfl dX2_skipBlanks_117
      · replace hM := if_f c1121 hM
        refine lv_aload_n hx hb dX2_skipBlanks_9 rfl (lv_at hl 1 rfl) ?_
        refine va_get (D := D) (ci := 2) (v := .ref (ad 1)) (C := RX2) (T := TX2) (N := 7) hx hb hts layX2 hown hK hP 0 rfl rfl 0 (by decide) (hts _ (inA q331)) (fun _ h9 => h9) rfl dX2_skipBlanks_10 ?_
        refine lv_aload_n hx hb dX2_skipBlanks_13 rfl (lv_at hl 1 rfl) ?_
        refine va_get (D := D) (ci := 2) (v := .int o_this_L2.2.1) (C := RX2) (T := TX2) (N := 7) hx hb hts layX2 hown hK hP 0 rfl rfl 6 (by decide) (hts _ (inA q341)) (fun _ h9 => h9) rfl dX2_skipBlanks_14 ?_
        obtain ⟨r1122, hcr1122, hM⟩ := ob_use hM
        refine cl_V (As := [.int o_this_L2.2.1]) (rest := []) (wK cI ad o_this_L2 ++ wB cI (ad 1) (ad 2) 8192 o_text) (.int r1122 :: []) ⟨hx, hb, hml, hown, hts⟩ (c_Bytes_get l D cI sd (ad 1) (ad 2) 8192 o_text o_this_L2.2.1 r1122 hcr1122) (cwV2 hts q530 mvX0_get rfl rfl ⟨(Nat.le_of_ble_eq_true rfl), (Nat.le_of_ble_eq_true rfl)⟩) hK hE hA hP hD hS 4 (T := TX0) (N := 2) (ci := 0) rfl rfl [4, 5] rfl (by decide) rfl rfl rfl rfl rfl rfl hl.1 (Nat.le_of_ble_eq_true rfl) dX2_skipBlanks_17 ⟨Nat.zero_le _, Nat.zero_le _⟩ (fun H locs hP hD hS => ?_)
        refine lv_istore_n (lv' := [(2, .int r1122), (1, .int v1_L2), (0, .ref (ad 10))]) hx hb dX2_skipBlanks_20 rfl hl (by decide) rfl (fun ls hl => ?_)
        refine lv_iload_n hx hb dX2_skipBlanks_21 rfl (lv_at hl 0 rfl) ?_
        refine lv_bipush (v := 40) hx hb dX2_skipBlanks_22 (by decide) ?_
        refine lv_icmp_ne (tgt := 71) hx hb dX2_skipBlanks_24 (by decide) (fun c1123 => ?_) (fun c1123 => ?_)
        · replace hM := if_f c1123 hM
          refine lv_iload_n hx hb dX2_skipBlanks_71 rfl (lv_at hl 0 rfl) ?_
          refine lv_bipush (v := 9) hx hb dX2_skipBlanks_72 (by decide) ?_
          refine lv_icmp_eq (tgt := 95) hx hb dX2_skipBlanks_74 (by decide) (fun c1124 => ?_) (fun c1124 => ?_)
          · replace hM := if_t c1124 hM
            refine lv_aload_n hx hb dX2_skipBlanks_95 rfl (lv_at hl 2 rfl) ?_
            refine lv_dup hx hb dX2_skipBlanks_96 rfl ?_
            refine va_get (D := D) (ci := 2) (v := .int o_this_L2.2.1) (C := RX2) (T := TX2) (N := 7) hx hb hts layX2 hown hK hP 0 rfl rfl 6 (by decide) (hts _ (inA q341)) (fun _ h9 => h9) rfl dX2_skipBlanks_97 ?_
            refine lv_iconst (v := 1) hx hb dX2_skipBlanks_100 (by decide) ?_
            refine lv_iadd hx hb dX2_skipBlanks_101 ?_
            refine va_put (D := D) (ci := 2) (v := .int (o_this_L2.2.1 + 1)) (ty := .int) (C := RX2) (T := TX2) (N := 7) hx hb hts layX2 tyX2 tyX2_ok nmX2 hown hK hP hD hS 0 rfl rfl 6 (by decide) (hts _ (inA q341)) (fun _ h9 => h9) rfl (by decide +kernel) rfl rfl (Nat.le_of_ble_eq_true rfl) dX2_skipBlanks_102 (fun H locs hP hD hS => ?_)
            have hP : va_P D vwCl (wK cI ad (o_this_L2.1, o_this_L2.2.1 + 1, o_this_L2.2.2) ++ wB cI (ad 1) (ad 2) 8192 o_text) H := hP
            have hD : va_D A (wK cI ad (o_this_L2.1, o_this_L2.2.1 + 1, o_this_L2.2.2) ++ wB cI (ad 1) (ad 2) 8192 o_text) := hD
            refine lv_goto (tgt := 110) hx hb dX2_skipBlanks_105 (by decide) ?_
            obtain ⟨x1125, ex1125⟩ : ∃ y : Int32, y = v1_L2 + 1 := ⟨_, rfl⟩
            replace hM := nm_use ex1125 hM
            refine lv_iinc (v := x1125) (lv' := [(1, .int x1125), (2, .int r1122), (0, .ref (ad 10))]) hx hb dX2_skipBlanks_110 hl (k := 1) rfl (by rw [ex1125]; rfl) (by decide) rfl (fun ls hl => ?_)
            refine lv_goto (tgt := 2) hx hb dX2_skipBlanks_113 (by decide) ?_
            exact ih_L2 x1125 (o_this_L2.1, o_this_L2.2.1 + 1, o_this_L2.2.2) _ _ _ hM hP hD hS (lv_sub hl [0, 2] rfl)
          · replace hM := if_f c1124 hM
            refine lv_iload_n hx hb dX2_skipBlanks_77 rfl (lv_at hl 0 rfl) ?_
            refine lv_bipush (v := 10) hx hb dX2_skipBlanks_78 (by decide) ?_
            refine lv_icmp_eq (tgt := 95) hx hb dX2_skipBlanks_80 (by decide) (fun c1126 => ?_) (fun c1126 => ?_)
            · replace hM := if_t c1126 hM
              refine lv_aload_n hx hb dX2_skipBlanks_95 rfl (lv_at hl 2 rfl) ?_
              refine lv_dup hx hb dX2_skipBlanks_96 rfl ?_
              refine va_get (D := D) (ci := 2) (v := .int o_this_L2.2.1) (C := RX2) (T := TX2) (N := 7) hx hb hts layX2 hown hK hP 0 rfl rfl 6 (by decide) (hts _ (inA q341)) (fun _ h9 => h9) rfl dX2_skipBlanks_97 ?_
              refine lv_iconst (v := 1) hx hb dX2_skipBlanks_100 (by decide) ?_
              refine lv_iadd hx hb dX2_skipBlanks_101 ?_
              refine va_put (D := D) (ci := 2) (v := .int (o_this_L2.2.1 + 1)) (ty := .int) (C := RX2) (T := TX2) (N := 7) hx hb hts layX2 tyX2 tyX2_ok nmX2 hown hK hP hD hS 0 rfl rfl 6 (by decide) (hts _ (inA q341)) (fun _ h9 => h9) rfl (by decide +kernel) rfl rfl (Nat.le_of_ble_eq_true rfl) dX2_skipBlanks_102 (fun H locs hP hD hS => ?_)
              have hP : va_P D vwCl (wK cI ad (o_this_L2.1, o_this_L2.2.1 + 1, o_this_L2.2.2) ++ wB cI (ad 1) (ad 2) 8192 o_text) H := hP
              have hD : va_D A (wK cI ad (o_this_L2.1, o_this_L2.2.1 + 1, o_this_L2.2.2) ++ wB cI (ad 1) (ad 2) 8192 o_text) := hD
              refine lv_goto (tgt := 110) hx hb dX2_skipBlanks_105 (by decide) ?_
              obtain ⟨x1127, ex1127⟩ : ∃ y : Int32, y = v1_L2 + 1 := ⟨_, rfl⟩
              replace hM := nm_use ex1127 hM
              refine lv_iinc (v := x1127) (lv' := [(1, .int x1127), (2, .int r1122), (0, .ref (ad 10))]) hx hb dX2_skipBlanks_110 hl (k := 1) rfl (by rw [ex1127]; rfl) (by decide) rfl (fun ls hl => ?_)
              refine lv_goto (tgt := 2) hx hb dX2_skipBlanks_113 (by decide) ?_
              exact ih_L2 x1127 (o_this_L2.1, o_this_L2.2.1 + 1, o_this_L2.2.2) _ _ _ hM hP hD hS (lv_sub hl [0, 2] rfl)
            · replace hM := if_f c1126 hM
              refine lv_iload_n hx hb dX2_skipBlanks_83 rfl (lv_at hl 0 rfl) ?_
              refine lv_bipush (v := 13) hx hb dX2_skipBlanks_84 (by decide) ?_
              refine lv_icmp_eq (tgt := 95) hx hb dX2_skipBlanks_86 (by decide) (fun c1128 => ?_) (fun c1128 => ?_)
              · replace hM := if_t c1128 hM
                refine lv_aload_n hx hb dX2_skipBlanks_95 rfl (lv_at hl 2 rfl) ?_
                refine lv_dup hx hb dX2_skipBlanks_96 rfl ?_
                refine va_get (D := D) (ci := 2) (v := .int o_this_L2.2.1) (C := RX2) (T := TX2) (N := 7) hx hb hts layX2 hown hK hP 0 rfl rfl 6 (by decide) (hts _ (inA q341)) (fun _ h9 => h9) rfl dX2_skipBlanks_97 ?_
                refine lv_iconst (v := 1) hx hb dX2_skipBlanks_100 (by decide) ?_
                refine lv_iadd hx hb dX2_skipBlanks_101 ?_
                refine va_put (D := D) (ci := 2) (v := .int (o_this_L2.2.1 + 1)) (ty := .int) (C := RX2) (T := TX2) (N := 7) hx hb hts layX2 tyX2 tyX2_ok nmX2 hown hK hP hD hS 0 rfl rfl 6 (by decide) (hts _ (inA q341)) (fun _ h9 => h9) rfl (by decide +kernel) rfl rfl (Nat.le_of_ble_eq_true rfl) dX2_skipBlanks_102 (fun H locs hP hD hS => ?_)
                have hP : va_P D vwCl (wK cI ad (o_this_L2.1, o_this_L2.2.1 + 1, o_this_L2.2.2) ++ wB cI (ad 1) (ad 2) 8192 o_text) H := hP
                have hD : va_D A (wK cI ad (o_this_L2.1, o_this_L2.2.1 + 1, o_this_L2.2.2) ++ wB cI (ad 1) (ad 2) 8192 o_text) := hD
                refine lv_goto (tgt := 110) hx hb dX2_skipBlanks_105 (by decide) ?_
                obtain ⟨x1129, ex1129⟩ : ∃ y : Int32, y = v1_L2 + 1 := ⟨_, rfl⟩
                replace hM := nm_use ex1129 hM
                refine lv_iinc (v := x1129) (lv' := [(1, .int x1129), (2, .int r1122), (0, .ref (ad 10))]) hx hb dX2_skipBlanks_110 hl (k := 1) rfl (by rw [ex1129]; rfl) (by decide) rfl (fun ls hl => ?_)
                refine lv_goto (tgt := 2) hx hb dX2_skipBlanks_113 (by decide) ?_
                exact ih_L2 x1129 (o_this_L2.1, o_this_L2.2.1 + 1, o_this_L2.2.2) _ _ _ hM hP hD hS (lv_sub hl [0, 2] rfl)
              · replace hM := if_f c1128 hM
                refine lv_iload_n hx hb dX2_skipBlanks_89 rfl (lv_at hl 0 rfl) ?_
                refine lv_bipush (v := 32) hx hb dX2_skipBlanks_90 (by decide) ?_
                refine lv_icmp_ne (tgt := 108) hx hb dX2_skipBlanks_92 (by decide) (fun c1130 => ?_) (fun c1130 => ?_)
                · replace hM := if_f c1130 hM
                  refine lv_iconst (v := 1) hx hb dX2_skipBlanks_108 (by decide) ?_
                  cases hM
                  exact rt_z hx hb hr hlk (by decide) hP hD hS rfl dX2_skipBlanks_109
                · replace hM := if_t c1130 hM
                  refine lv_aload_n hx hb dX2_skipBlanks_95 rfl (lv_at hl 2 rfl) ?_
                  refine lv_dup hx hb dX2_skipBlanks_96 rfl ?_
                  refine va_get (D := D) (ci := 2) (v := .int o_this_L2.2.1) (C := RX2) (T := TX2) (N := 7) hx hb hts layX2 hown hK hP 0 rfl rfl 6 (by decide) (hts _ (inA q341)) (fun _ h9 => h9) rfl dX2_skipBlanks_97 ?_
                  refine lv_iconst (v := 1) hx hb dX2_skipBlanks_100 (by decide) ?_
                  refine lv_iadd hx hb dX2_skipBlanks_101 ?_
                  refine va_put (D := D) (ci := 2) (v := .int (o_this_L2.2.1 + 1)) (ty := .int) (C := RX2) (T := TX2) (N := 7) hx hb hts layX2 tyX2 tyX2_ok nmX2 hown hK hP hD hS 0 rfl rfl 6 (by decide) (hts _ (inA q341)) (fun _ h9 => h9) rfl (by decide +kernel) rfl rfl (Nat.le_of_ble_eq_true rfl) dX2_skipBlanks_102 (fun H locs hP hD hS => ?_)
                  have hP : va_P D vwCl (wK cI ad (o_this_L2.1, o_this_L2.2.1 + 1, o_this_L2.2.2) ++ wB cI (ad 1) (ad 2) 8192 o_text) H := hP
                  have hD : va_D A (wK cI ad (o_this_L2.1, o_this_L2.2.1 + 1, o_this_L2.2.2) ++ wB cI (ad 1) (ad 2) 8192 o_text) := hD
                  refine lv_goto (tgt := 110) hx hb dX2_skipBlanks_105 (by decide) ?_
                  obtain ⟨x1131, ex1131⟩ : ∃ y : Int32, y = v1_L2 + 1 := ⟨_, rfl⟩
                  replace hM := nm_use ex1131 hM
                  refine lv_iinc (v := x1131) (lv' := [(1, .int x1131), (2, .int r1122), (0, .ref (ad 10))]) hx hb dX2_skipBlanks_110 hl (k := 1) rfl (by rw [ex1131]; rfl) (by decide) rfl (fun ls hl => ?_)
                  refine lv_goto (tgt := 2) hx hb dX2_skipBlanks_113 (by decide) ?_
                  exact ih_L2 x1131 (o_this_L2.1, o_this_L2.2.1 + 1, o_this_L2.2.2) _ _ _ hM hP hD hS (lv_sub hl [0, 2] rfl)
        · replace hM := if_t c1123 hM
          refine lv_aload_n hx hb dX2_skipBlanks_27 rfl (lv_at hl 2 rfl) ?_
          refine va_get (D := D) (ci := 2) (v := .ref (ad 1)) (C := RX2) (T := TX2) (N := 7) hx hb hts layX2 hown hK hP 0 rfl rfl 0 (by decide) (hts _ (inA q331)) (fun _ h9 => h9) rfl dX2_skipBlanks_28 ?_
          refine lv_aload_n hx hb dX2_skipBlanks_31 rfl (lv_at hl 2 rfl) ?_
          refine va_get (D := D) (ci := 2) (v := .int o_this_L2.2.1) (C := RX2) (T := TX2) (N := 7) hx hb hts layX2 hown hK hP 0 rfl rfl 6 (by decide) (hts _ (inA q341)) (fun _ h9 => h9) rfl dX2_skipBlanks_32 ?_
          refine lv_iconst (v := 1) hx hb dX2_skipBlanks_35 (by decide) ?_
          refine lv_iadd hx hb dX2_skipBlanks_36 ?_
          obtain ⟨r1132, hcr1132, hM⟩ := ob_use hM
          refine cl_V (As := [.int (o_this_L2.2.1 + 1)]) (rest := []) (wK cI ad o_this_L2 ++ wB cI (ad 1) (ad 2) 8192 o_text) (.int r1132 :: []) ⟨hx, hb, hml, hown, hts⟩ (c_Bytes_get l D cI sd (ad 1) (ad 2) 8192 o_text (o_this_L2.2.1 + 1) r1132 hcr1132) (cwV2 hts q530 mvX0_get rfl rfl ⟨(Nat.le_of_ble_eq_true rfl), (Nat.le_of_ble_eq_true rfl)⟩) hK hE hA hP hD hS 4 (T := TX0) (N := 2) (ci := 0) rfl rfl [4, 5] rfl (by decide) rfl rfl rfl rfl rfl rfl hl.1 (Nat.le_of_ble_eq_true rfl) dX2_skipBlanks_37 ⟨Nat.zero_le _, Nat.zero_le _⟩ (fun H locs hP hD hS => ?_)
          refine lv_bipush (v := 42) hx hb dX2_skipBlanks_40 (by decide) ?_
          refine lv_icmp_ne (tgt := 71) hx hb dX2_skipBlanks_42 (by decide) (fun c1133 => ?_) (fun c1133 => ?_)
          · replace hM := if_f c1133 hM
            refine lv_iload_n hx hb dX2_skipBlanks_71 rfl (lv_at hl 0 rfl) ?_
            refine lv_bipush (v := 9) hx hb dX2_skipBlanks_72 (by decide) ?_
            refine lv_icmp_eq (tgt := 95) hx hb dX2_skipBlanks_74 (by decide) (fun c1134 => ?_) (fun c1134 => ?_)
            · replace hM := if_t c1134 hM
              refine lv_aload_n hx hb dX2_skipBlanks_95 rfl (lv_at hl 2 rfl) ?_
              refine lv_dup hx hb dX2_skipBlanks_96 rfl ?_
              refine va_get (D := D) (ci := 2) (v := .int o_this_L2.2.1) (C := RX2) (T := TX2) (N := 7) hx hb hts layX2 hown hK hP 0 rfl rfl 6 (by decide) (hts _ (inA q341)) (fun _ h9 => h9) rfl dX2_skipBlanks_97 ?_
              refine lv_iconst (v := 1) hx hb dX2_skipBlanks_100 (by decide) ?_
              refine lv_iadd hx hb dX2_skipBlanks_101 ?_
              refine va_put (D := D) (ci := 2) (v := .int (o_this_L2.2.1 + 1)) (ty := .int) (C := RX2) (T := TX2) (N := 7) hx hb hts layX2 tyX2 tyX2_ok nmX2 hown hK hP hD hS 0 rfl rfl 6 (by decide) (hts _ (inA q341)) (fun _ h9 => h9) rfl (by decide +kernel) rfl rfl (Nat.le_of_ble_eq_true rfl) dX2_skipBlanks_102 (fun H locs hP hD hS => ?_)
              have hP : va_P D vwCl (wK cI ad (o_this_L2.1, o_this_L2.2.1 + 1, o_this_L2.2.2) ++ wB cI (ad 1) (ad 2) 8192 o_text) H := hP
              have hD : va_D A (wK cI ad (o_this_L2.1, o_this_L2.2.1 + 1, o_this_L2.2.2) ++ wB cI (ad 1) (ad 2) 8192 o_text) := hD
              refine lv_goto (tgt := 110) hx hb dX2_skipBlanks_105 (by decide) ?_
              obtain ⟨x1135, ex1135⟩ : ∃ y : Int32, y = v1_L2 + 1 := ⟨_, rfl⟩
              replace hM := nm_use ex1135 hM
              refine lv_iinc (v := x1135) (lv' := [(1, .int x1135), (2, .int r1122), (0, .ref (ad 10))]) hx hb dX2_skipBlanks_110 hl (k := 1) rfl (by rw [ex1135]; rfl) (by decide) rfl (fun ls hl => ?_)
              refine lv_goto (tgt := 2) hx hb dX2_skipBlanks_113 (by decide) ?_
              exact ih_L2 x1135 (o_this_L2.1, o_this_L2.2.1 + 1, o_this_L2.2.2) _ _ _ hM hP hD hS (lv_sub hl [0, 2] rfl)
            · replace hM := if_f c1134 hM
              refine lv_iload_n hx hb dX2_skipBlanks_77 rfl (lv_at hl 0 rfl) ?_
              refine lv_bipush (v := 10) hx hb dX2_skipBlanks_78 (by decide) ?_
              refine lv_icmp_eq (tgt := 95) hx hb dX2_skipBlanks_80 (by decide) (fun c1136 => ?_) (fun c1136 => ?_)
              · replace hM := if_t c1136 hM
                refine lv_aload_n hx hb dX2_skipBlanks_95 rfl (lv_at hl 2 rfl) ?_
                refine lv_dup hx hb dX2_skipBlanks_96 rfl ?_
                refine va_get (D := D) (ci := 2) (v := .int o_this_L2.2.1) (C := RX2) (T := TX2) (N := 7) hx hb hts layX2 hown hK hP 0 rfl rfl 6 (by decide) (hts _ (inA q341)) (fun _ h9 => h9) rfl dX2_skipBlanks_97 ?_
                refine lv_iconst (v := 1) hx hb dX2_skipBlanks_100 (by decide) ?_
                refine lv_iadd hx hb dX2_skipBlanks_101 ?_
                refine va_put (D := D) (ci := 2) (v := .int (o_this_L2.2.1 + 1)) (ty := .int) (C := RX2) (T := TX2) (N := 7) hx hb hts layX2 tyX2 tyX2_ok nmX2 hown hK hP hD hS 0 rfl rfl 6 (by decide) (hts _ (inA q341)) (fun _ h9 => h9) rfl (by decide +kernel) rfl rfl (Nat.le_of_ble_eq_true rfl) dX2_skipBlanks_102 (fun H locs hP hD hS => ?_)
                have hP : va_P D vwCl (wK cI ad (o_this_L2.1, o_this_L2.2.1 + 1, o_this_L2.2.2) ++ wB cI (ad 1) (ad 2) 8192 o_text) H := hP
                have hD : va_D A (wK cI ad (o_this_L2.1, o_this_L2.2.1 + 1, o_this_L2.2.2) ++ wB cI (ad 1) (ad 2) 8192 o_text) := hD
                refine lv_goto (tgt := 110) hx hb dX2_skipBlanks_105 (by decide) ?_
                obtain ⟨x1137, ex1137⟩ : ∃ y : Int32, y = v1_L2 + 1 := ⟨_, rfl⟩
                replace hM := nm_use ex1137 hM
                refine lv_iinc (v := x1137) (lv' := [(1, .int x1137), (2, .int r1122), (0, .ref (ad 10))]) hx hb dX2_skipBlanks_110 hl (k := 1) rfl (by rw [ex1137]; rfl) (by decide) rfl (fun ls hl => ?_)
                refine lv_goto (tgt := 2) hx hb dX2_skipBlanks_113 (by decide) ?_
                exact ih_L2 x1137 (o_this_L2.1, o_this_L2.2.1 + 1, o_this_L2.2.2) _ _ _ hM hP hD hS (lv_sub hl [0, 2] rfl)
              · replace hM := if_f c1136 hM
                refine lv_iload_n hx hb dX2_skipBlanks_83 rfl (lv_at hl 0 rfl) ?_
                refine lv_bipush (v := 13) hx hb dX2_skipBlanks_84 (by decide) ?_
                refine lv_icmp_eq (tgt := 95) hx hb dX2_skipBlanks_86 (by decide) (fun c1138 => ?_) (fun c1138 => ?_)
                · replace hM := if_t c1138 hM
                  refine lv_aload_n hx hb dX2_skipBlanks_95 rfl (lv_at hl 2 rfl) ?_
                  refine lv_dup hx hb dX2_skipBlanks_96 rfl ?_
                  refine va_get (D := D) (ci := 2) (v := .int o_this_L2.2.1) (C := RX2) (T := TX2) (N := 7) hx hb hts layX2 hown hK hP 0 rfl rfl 6 (by decide) (hts _ (inA q341)) (fun _ h9 => h9) rfl dX2_skipBlanks_97 ?_
                  refine lv_iconst (v := 1) hx hb dX2_skipBlanks_100 (by decide) ?_
                  refine lv_iadd hx hb dX2_skipBlanks_101 ?_
                  refine va_put (D := D) (ci := 2) (v := .int (o_this_L2.2.1 + 1)) (ty := .int) (C := RX2) (T := TX2) (N := 7) hx hb hts layX2 tyX2 tyX2_ok nmX2 hown hK hP hD hS 0 rfl rfl 6 (by decide) (hts _ (inA q341)) (fun _ h9 => h9) rfl (by decide +kernel) rfl rfl (Nat.le_of_ble_eq_true rfl) dX2_skipBlanks_102 (fun H locs hP hD hS => ?_)
                  have hP : va_P D vwCl (wK cI ad (o_this_L2.1, o_this_L2.2.1 + 1, o_this_L2.2.2) ++ wB cI (ad 1) (ad 2) 8192 o_text) H := hP
                  have hD : va_D A (wK cI ad (o_this_L2.1, o_this_L2.2.1 + 1, o_this_L2.2.2) ++ wB cI (ad 1) (ad 2) 8192 o_text) := hD
                  refine lv_goto (tgt := 110) hx hb dX2_skipBlanks_105 (by decide) ?_
                  obtain ⟨x1139, ex1139⟩ : ∃ y : Int32, y = v1_L2 + 1 := ⟨_, rfl⟩
                  replace hM := nm_use ex1139 hM
                  refine lv_iinc (v := x1139) (lv' := [(1, .int x1139), (2, .int r1122), (0, .ref (ad 10))]) hx hb dX2_skipBlanks_110 hl (k := 1) rfl (by rw [ex1139]; rfl) (by decide) rfl (fun ls hl => ?_)
                  refine lv_goto (tgt := 2) hx hb dX2_skipBlanks_113 (by decide) ?_
                  exact ih_L2 x1139 (o_this_L2.1, o_this_L2.2.1 + 1, o_this_L2.2.2) _ _ _ hM hP hD hS (lv_sub hl [0, 2] rfl)
                · replace hM := if_f c1138 hM
                  refine lv_iload_n hx hb dX2_skipBlanks_89 rfl (lv_at hl 0 rfl) ?_
                  refine lv_bipush (v := 32) hx hb dX2_skipBlanks_90 (by decide) ?_
                  refine lv_icmp_ne (tgt := 108) hx hb dX2_skipBlanks_92 (by decide) (fun c1140 => ?_) (fun c1140 => ?_)
                  · replace hM := if_f c1140 hM
                    refine lv_iconst (v := 1) hx hb dX2_skipBlanks_108 (by decide) ?_
                    cases hM
                    exact rt_z hx hb hr hlk (by decide) hP hD hS rfl dX2_skipBlanks_109
                  · replace hM := if_t c1140 hM
                    refine lv_aload_n hx hb dX2_skipBlanks_95 rfl (lv_at hl 2 rfl) ?_
                    refine lv_dup hx hb dX2_skipBlanks_96 rfl ?_
                    refine va_get (D := D) (ci := 2) (v := .int o_this_L2.2.1) (C := RX2) (T := TX2) (N := 7) hx hb hts layX2 hown hK hP 0 rfl rfl 6 (by decide) (hts _ (inA q341)) (fun _ h9 => h9) rfl dX2_skipBlanks_97 ?_
                    refine lv_iconst (v := 1) hx hb dX2_skipBlanks_100 (by decide) ?_
                    refine lv_iadd hx hb dX2_skipBlanks_101 ?_
                    refine va_put (D := D) (ci := 2) (v := .int (o_this_L2.2.1 + 1)) (ty := .int) (C := RX2) (T := TX2) (N := 7) hx hb hts layX2 tyX2 tyX2_ok nmX2 hown hK hP hD hS 0 rfl rfl 6 (by decide) (hts _ (inA q341)) (fun _ h9 => h9) rfl (by decide +kernel) rfl rfl (Nat.le_of_ble_eq_true rfl) dX2_skipBlanks_102 (fun H locs hP hD hS => ?_)
                    have hP : va_P D vwCl (wK cI ad (o_this_L2.1, o_this_L2.2.1 + 1, o_this_L2.2.2) ++ wB cI (ad 1) (ad 2) 8192 o_text) H := hP
                    have hD : va_D A (wK cI ad (o_this_L2.1, o_this_L2.2.1 + 1, o_this_L2.2.2) ++ wB cI (ad 1) (ad 2) 8192 o_text) := hD
                    refine lv_goto (tgt := 110) hx hb dX2_skipBlanks_105 (by decide) ?_
                    obtain ⟨x1141, ex1141⟩ : ∃ y : Int32, y = v1_L2 + 1 := ⟨_, rfl⟩
                    replace hM := nm_use ex1141 hM
                    refine lv_iinc (v := x1141) (lv' := [(1, .int x1141), (2, .int r1122), (0, .ref (ad 10))]) hx hb dX2_skipBlanks_110 hl (k := 1) rfl (by rw [ex1141]; rfl) (by decide) rfl (fun ls hl => ?_)
                    refine lv_goto (tgt := 2) hx hb dX2_skipBlanks_113 (by decide) ?_
                    exact ih_L2 x1141 (o_this_L2.1, o_this_L2.2.1 + 1, o_this_L2.2.2) _ _ _ hM hP hD hS (lv_sub hl [0, 2] rfl)
          · replace hM := if_t c1133 hM
            refine lv_aload_n hx hb dX2_skipBlanks_45 rfl (lv_at hl 2 rfl) ?_
            refine lv_aload_n hx hb dX2_skipBlanks_46 rfl (lv_at hl 2 rfl) ?_
            refine va_get (D := D) (ci := 2) (v := .int o_this_L2.2.1) (C := RX2) (T := TX2) (N := 7) hx hb hts layX2 hown hK hP 0 rfl rfl 6 (by decide) (hts _ (inA q341)) (fun _ h9 => h9) rfl dX2_skipBlanks_47 ?_
            refine lv_iconst (v := 2) hx hb dX2_skipBlanks_50 (by decide) ?_
            refine lv_iadd hx hb dX2_skipBlanks_51 ?_
            obtain ⟨r1142, hcr1142, hM⟩ := ob_use hM
            refine cl_V (As := [.int (o_this_L2.2.1 + 2)]) (rest := []) (wK cI ad o_this_L2 ++ wB cI (ad 1) (ad 2) 8192 o_text) (.int r1142 :: []) ⟨hx, hb, hml, hown, hts⟩ (c_Tokens_endOfComment l D cI sd ad o_this_L2 o_text (o_this_L2.2.1 + 2) r1142 hcr1142) (cwV2 hts q531 mvX2_endOfComment rfl rfl ⟨(Nat.le_of_ble_eq_true rfl), (Nat.le_of_ble_eq_true rfl)⟩) hK hE hA hP hD hS 0 (T := TX2) (N := 7) (ci := 2) rfl rfl [0, 1, 2, 3, 4, 5] rfl (by decide) rfl rfl rfl rfl rfl rfl hl.1 (Nat.le_of_ble_eq_true rfl) dX2_skipBlanks_52 ⟨Nat.zero_le _, Nat.zero_le _⟩ (fun H locs hP hD hS => ?_)
            refine lv_istore_n (lv' := [(3, .int r1142), (2, .int r1122), (1, .int v1_L2), (0, .ref (ad 10))]) hx hb dX2_skipBlanks_55 rfl hl (by decide) rfl (fun ls hl => ?_)
            refine lv_iload_n hx hb dX2_skipBlanks_56 rfl (lv_at hl 0 rfl) ?_
            refine lv_iconst (v := (-1)) hx hb dX2_skipBlanks_57 (by decide) ?_
            refine lv_icmp_ne (tgt := 63) hx hb dX2_skipBlanks_58 (by decide) (fun c1143 => ?_) (fun c1143 => ?_)
            · replace hM := if_f c1143 hM
              refine lv_aload_n hx hb dX2_skipBlanks_63 rfl (lv_at hl 3 rfl) ?_
              refine lv_iload_n hx hb dX2_skipBlanks_64 rfl (lv_at hl 0 rfl) ?_
              refine va_put (D := D) (ci := 2) (v := .int r1142) (ty := .int) (C := RX2) (T := TX2) (N := 7) hx hb hts layX2 tyX2 tyX2_ok nmX2 hown hK hP hD hS 0 rfl rfl 6 (by decide) (hts _ (inA q341)) (fun _ h9 => h9) rfl (by decide +kernel) rfl rfl (Nat.le_of_ble_eq_true rfl) dX2_skipBlanks_65 (fun H locs hP hD hS => ?_)
              have hP : va_P D vwCl (wK cI ad (o_this_L2.1, r1142, o_this_L2.2.2) ++ wB cI (ad 1) (ad 2) 8192 o_text) H := hP
              have hD : va_D A (wK cI ad (o_this_L2.1, r1142, o_this_L2.2.2) ++ wB cI (ad 1) (ad 2) 8192 o_text) := hD
              refine lv_goto (tgt := 110) hx hb dX2_skipBlanks_68 (by decide) ?_
              obtain ⟨x1144, ex1144⟩ : ∃ y : Int32, y = v1_L2 + 1 := ⟨_, rfl⟩
              replace hM := nm_use ex1144 hM
              refine lv_iinc (v := x1144) (lv' := [(1, .int x1144), (3, .int r1142), (2, .int r1122), (0, .ref (ad 10))]) hx hb dX2_skipBlanks_110 hl (k := 2) rfl (by rw [ex1144]; rfl) (by decide) rfl (fun ls hl => ?_)
              refine lv_goto (tgt := 2) hx hb dX2_skipBlanks_113 (by decide) ?_
              exact ih_L2 x1144 (o_this_L2.1, r1142, o_this_L2.2.2) _ _ _ hM hP hD hS (lv_sub hl [0, 3] rfl)
            · replace hM := if_t c1143 hM
              refine lv_iconst (v := 0) hx hb dX2_skipBlanks_61 (by decide) ?_
              cases hM
              exact rt_z hx hb hr hlk (by decide) hP hD hS rfl dX2_skipBlanks_62
  exact lp_L2 FU 0 o_this _ _ _ hM hP hD hS (lv_sub hl [0, 1] rfl)

set_option maxHeartbeats 4000000 in
set_option maxRecDepth 100000 in
theorem c_Tokens_scanToken (l : Launch) (D : va_G) (cI : ClassId) (sd : Nat → Nat) (ad : Nat → Nat) (o_this : S_Tokens) (o_text : S_Bytes) (o_names : S_Names) (res : S_Tokens × S_Names) (hM : f_Tokens_scanToken o_this o_text o_names = some res) : Ctr l D cI sd yX2_scanToken (wsM yX2_scanToken cX2_scanToken 3 (Option.none : Option Jvm.ClassFile.FieldType)) { frames := 4, cells := 0, slots := 0, locals := 92 } [.ref (ad 10)] (wK cI ad o_this ++ wB cI (ad 1) (ad 2) 8192 o_text ++ wN cI ad o_names) (wK cI ad res.1 ++ wB cI (ad 1) (ad 2) 8192 o_text ++ wN cI ad res.2) none := by
  refine Ctr.of (cc := cX2_scanToken) (maxL := 3) (own := RX2) (by decide +kernel) rfl rfl (Nat.le_of_ble_eq_true rfl) ?_
  intro p e s m below meth c A ls hx hb hr hml hown hts hlk hK hE hA hP hD hS hl
  have hl : lv_has ls 3 [(0, .ref (ad 10))] := hl
  unfold f_Tokens_scanToken at hM
  refine lv_aload_n hx hb dX2_scanToken_0 rfl (lv_at hl 0 rfl) ?_
  obtain ⟨r1, hcr1, hM⟩ := ob_use hM
  refine cl_V (As := []) (rest := []) (wK cI ad r1.2 ++ wB cI (ad 1) (ad 2) 8192 o_text ++ wN cI ad o_names) (.int r1.1 :: []) ⟨hx, hb, hml, hown, hts⟩ (c_Tokens_skipBlanks l D cI sd ad o_this o_text r1 hcr1) (cwV2 hts q526 mvX2_skipBlanks rfl rfl ⟨(Nat.le_of_ble_eq_true rfl), (Nat.le_of_ble_eq_true rfl)⟩) hK hE hA hP hD hS 0 (T := TX2) (N := 7) (ci := 2) rfl rfl [0, 1, 2, 3, 4, 5] rfl (by decide) rfl rfl rfl rfl rfl rfl hl.1 (Nat.le_of_ble_eq_true rfl) dX2_scanToken_1 ⟨Nat.zero_le _, Nat.zero_le _⟩ (fun H locs hP hD hS => ?_)
  refine lv_istore_n (lv' := [(1, .int r1.1), (0, .ref (ad 10))]) hx hb dX2_scanToken_4 rfl hl (by decide) rfl (fun ls hl => ?_)
  refine lv_aload_n hx hb dX2_scanToken_5 rfl (lv_at hl 1 rfl) ?_
  refine va_get (D := D) (ci := 2) (v := .ref (ad 1)) (C := RX2) (T := TX2) (N := 7) hx hb hts layX2 hown hK hP 0 rfl rfl 0 (by decide) (hts _ (inA q331)) (fun _ h9 => h9) rfl dX2_scanToken_6 ?_
  refine lv_aload_n hx hb dX2_scanToken_9 rfl (lv_at hl 1 rfl) ?_
  refine va_get (D := D) (ci := 2) (v := .int r1.2.2.1) (C := RX2) (T := TX2) (N := 7) hx hb hts layX2 hown hK hP 0 rfl rfl 6 (by decide) (hts _ (inA q341)) (fun _ h9 => h9) rfl dX2_scanToken_10 ?_
  obtain ⟨r2, hcr2, hM⟩ := ob_use hM
  refine cl_V (As := [.int r1.2.2.1]) (rest := []) (wK cI ad r1.2 ++ wB cI (ad 1) (ad 2) 8192 o_text ++ wN cI ad o_names) (.int r2 :: []) ⟨hx, hb, hml, hown, hts⟩ (c_Bytes_get l D cI sd (ad 1) (ad 2) 8192 o_text r1.2.2.1 r2 hcr2) (cwV2 hts q530 mvX0_get rfl rfl ⟨(Nat.le_of_ble_eq_true rfl), (Nat.le_of_ble_eq_true rfl)⟩) hK hE hA hP hD hS 4 (T := TX0) (N := 2) (ci := 0) rfl rfl [4, 5] rfl (by decide) rfl rfl rfl rfl rfl rfl hl.1 (Nat.le_of_ble_eq_true rfl) dX2_scanToken_13 ⟨Nat.zero_le _, Nat.zero_le _⟩ (fun H locs hP hD hS => ?_)
  refine lv_istore_n (lv' := [(2, .int r2), (1, .int r1.1), (0, .ref (ad 10))]) hx hb dX2_scanToken_16 rfl hl (by decide) rfl (fun ls hl => ?_)
  refine lv_iload_n hx hb dX2_scanToken_17 rfl (lv_at hl 1 rfl) ?_
  refine lv_if_ne (tgt := 34) hx hb dX2_scanToken_18 (by decide) (fun c3 => ?_) (fun c3 => ?_)
  · replace hM := if_f c3 hM
    refine lv_iload_n hx hb dX2_scanToken_34 rfl (lv_at hl 0 rfl) ?_
    refine lv_iconst (v := (-1)) hx hb dX2_scanToken_35 (by decide) ?_
    refine lv_icmp_ne (tgt := 52) hx hb dX2_scanToken_36 (by decide) (fun c4 => ?_) (fun c4 => ?_)
    · replace hM := if_f c4 hM
      refine lv_iload_n hx hb dX2_scanToken_52 rfl (lv_at hl 0 rfl) ?_
      obtain ⟨r5, hcr5, hM⟩ := ob_use hM
      refine cl_SN (As := [.int r2]) (rest := []) (wK cI ad r1.2 ++ wB cI (ad 1) (ad 2) 8192 o_text ++ wN cI ad o_names) (.int r5 :: []) ⟨hx, hb, hml, hown, hts⟩ (c_Top_great l D cI sd ad r2 r5 hcr5) (cwSN2 hts (nmE2 hE) mvX6_great rfl rfl ⟨(Nat.le_of_ble_eq_true rfl), (Nat.le_of_ble_eq_true rfl)⟩) hK hE hA hP hD hS [] rfl (by decide) rfl rfl rfl rfl rfl rfl hl.1 (Nat.le_of_ble_eq_true rfl) dX2_scanToken_53 ⟨Nat.zero_le _, Nat.zero_le _⟩ (fun H locs hP hD hS => ?_)
      refine lv_bipush (v := 84) hx hb dX2_scanToken_56 (by decide) ?_
      refine lv_icmp_ne (tgt := 86) hx hb dX2_scanToken_58 (by decide) (fun c6 => ?_) (fun c6 => ?_)
      · replace hM := if_f c6 hM
        refine lv_iload_n hx hb dX2_scanToken_86 rfl (lv_at hl 0 rfl) ?_
        obtain ⟨r7, hcr7, hM⟩ := ob_use hM
        refine cl_SN (As := [.int r2]) (rest := []) (wK cI ad r1.2 ++ wB cI (ad 1) (ad 2) 8192 o_text ++ wN cI ad o_names) (.int r7 :: []) ⟨hx, hb, hml, hown, hts⟩ (c_Top_isDigit l D cI sd ad r2 r7 hcr7) (cwSN2 hts (nmE3 hE) mvX6_isDigit rfl rfl ⟨(Nat.le_of_ble_eq_true rfl), (Nat.le_of_ble_eq_true rfl)⟩) hK hE hA hP hD hS [] rfl (by decide) rfl rfl rfl rfl rfl rfl hl.1 (Nat.le_of_ble_eq_true rfl) dX2_scanToken_87 ⟨Nat.zero_le _, Nat.zero_le _⟩ (fun H locs hP hD hS => ?_)
        refine lv_if_eq (tgt := 100) hx hb dX2_scanToken_90 (by decide) (fun c8 => ?_) (fun c8 => ?_)
        · replace hM := if_t c8 hM
          refine lv_iload_n hx hb dX2_scanToken_100 rfl (lv_at hl 0 rfl) ?_
          obtain ⟨r9, hcr9, hM⟩ := ob_use hM
          refine cl_SN (As := [.int r2]) (rest := []) (wK cI ad r1.2 ++ wB cI (ad 1) (ad 2) 8192 o_text ++ wN cI ad o_names) (.int r9 :: []) ⟨hx, hb, hml, hown, hts⟩ (c_Top_isNameByte l D cI sd ad r2 r9 hcr9) (cwSN2 hts (nmE4 hE) mvX6_isNameByte rfl rfl ⟨(Nat.le_of_ble_eq_true rfl), (Nat.le_of_ble_eq_true rfl)⟩) hK hE hA hP hD hS [] rfl (by decide) rfl rfl rfl rfl rfl rfl hl.1 (Nat.le_of_ble_eq_true rfl) dX2_scanToken_101 ⟨Nat.zero_le _, Nat.zero_le _⟩ (fun H locs hP hD hS => ?_)
          refine lv_if_eq (tgt := 114) hx hb dX2_scanToken_104 (by decide) (fun c10 => ?_) (fun c10 => ?_)
          · replace hM := if_t c10 hM
            refine lv_iload_n hx hb dX2_scanToken_114 rfl (lv_at hl 0 rfl) ?_
            refine lv_bipush (v := 37) hx hb dX2_scanToken_115 (by decide) ?_
            refine lv_icmp_ne (tgt := 127) hx hb dX2_scanToken_117 (by decide) (fun c11 => ?_) (fun c11 => ?_)
            · replace hM := if_f c11 hM
              refine lv_aload_n hx hb dX2_scanToken_127 rfl (lv_at hl 2 rfl) ?_
              obtain ⟨r12, hcr12, hM⟩ := ob_use hM
              refine cl_V (As := []) (rest := []) (wK cI ad r12 ++ wB cI (ad 1) (ad 2) 8192 o_text ++ wN cI ad o_names) [] ⟨hx, hb, hml, hown, hts⟩ (c_Tokens_scanSign l D cI sd ad r1.2 o_text r12 hcr12) (cwV2 hts q593 mvX2_scanSign rfl rfl ⟨(Nat.le_of_ble_eq_true rfl), (Nat.le_of_ble_eq_true rfl)⟩) hK hE hA hP hD hS 0 (T := TX2) (N := 7) (ci := 2) rfl rfl [0, 1, 2, 3, 4, 5] rfl (by decide) rfl rfl rfl rfl rfl rfl hl.1 (Nat.le_of_ble_eq_true rfl) dX2_scanToken_128 ⟨Nat.zero_le _, Nat.zero_le _⟩ (fun H locs hP hD hS => ?_)
              cases hM
              exact rt_v hx hb hr hlk hP hD hS rfl dX2_scanToken_131
            · replace hM := if_t c11 hM
              refine lv_aload_n hx hb dX2_scanToken_120 rfl (lv_at hl 2 rfl) ?_
              obtain ⟨r13, hcr13, hM⟩ := ob_use hM
              refine cl_V (As := []) (rest := []) (wK cI ad r13 ++ wB cI (ad 1) (ad 2) 8192 o_text ++ wN cI ad o_names) [] ⟨hx, hb, hml, hown, hts⟩ (c_Tokens_scanPlace l D cI sd ad r1.2 o_text r13 hcr13) (cwV2 hts q586 mvX2_scanPlace rfl rfl ⟨(Nat.le_of_ble_eq_true rfl), (Nat.le_of_ble_eq_true rfl)⟩) hK hE hA hP hD hS 0 (T := TX2) (N := 7) (ci := 2) rfl rfl [0, 1, 2, 3, 4, 5] rfl (by decide) rfl rfl rfl rfl rfl rfl hl.1 (Nat.le_of_ble_eq_true rfl) dX2_scanToken_121 ⟨Nat.zero_le _, Nat.zero_le _⟩ (fun H locs hP hD hS => ?_)
              refine lv_goto (tgt := 131) hx hb dX2_scanToken_124 (by decide) ?_
              cases hM
              exact rt_v hx hb hr hlk hP hD hS rfl dX2_scanToken_131
          · replace hM := if_f c10 hM
            refine lv_aload_n hx hb dX2_scanToken_107 rfl (lv_at hl 2 rfl) ?_
            obtain ⟨r14, hcr14, hM⟩ := ob_use hM
            refine cl_V (As := []) (rest := []) (wK cI ad r14.1 ++ wB cI (ad 1) (ad 2) 8192 o_text ++ wN cI ad r14.2) [] ⟨hx, hb, hml, hown, hts⟩ (c_Tokens_scanName l D cI sd ad r1.2 o_text o_names r14 hcr14) (cwV2 hts q580 mvX2_scanName rfl rfl ⟨(Nat.le_of_ble_eq_true rfl), (Nat.le_of_ble_eq_true rfl)⟩) hK hE hA hP hD hS 0 (T := TX2) (N := 7) (ci := 2) rfl rfl [0, 1, 2, 3, 4, 5, 6, 7, 8, 9, 10] rfl (by decide) rfl rfl rfl rfl rfl rfl hl.1 (Nat.le_of_ble_eq_true rfl) dX2_scanToken_108 ⟨Nat.zero_le _, Nat.zero_le _⟩ (fun H locs hP hD hS => ?_)
            refine lv_goto (tgt := 131) hx hb dX2_scanToken_111 (by decide) ?_
            cases hM
            exact rt_v hx hb hr hlk hP hD hS rfl dX2_scanToken_131
        · replace hM := if_f c8 hM
          refine lv_aload_n hx hb dX2_scanToken_93 rfl (lv_at hl 2 rfl) ?_
          obtain ⟨r15, hcr15, hM⟩ := ob_use hM
          refine cl_V (As := []) (rest := []) (wK cI ad r15 ++ wB cI (ad 1) (ad 2) 8192 o_text ++ wN cI ad o_names) [] ⟨hx, hb, hml, hown, hts⟩ (c_Tokens_scanNumber l D cI sd ad r1.2 o_text r15 hcr15) (cwV2 hts q574 mvX2_scanNumber rfl rfl ⟨(Nat.le_of_ble_eq_true rfl), (Nat.le_of_ble_eq_true rfl)⟩) hK hE hA hP hD hS 0 (T := TX2) (N := 7) (ci := 2) rfl rfl [0, 1, 2, 3, 4, 5] rfl (by decide) rfl rfl rfl rfl rfl rfl hl.1 (Nat.le_of_ble_eq_true rfl) dX2_scanToken_94 ⟨Nat.zero_le _, Nat.zero_le _⟩ (fun H locs hP hD hS => ?_)
          refine lv_goto (tgt := 131) hx hb dX2_scanToken_97 (by decide) ?_
          cases hM
          exact rt_v hx hb hr hlk hP hD hS rfl dX2_scanToken_131
      · replace hM := if_t c6 hM
        refine lv_aload_n hx hb dX2_scanToken_61 rfl (lv_at hl 2 rfl) ?_
        refine va_get (D := D) (ci := 2) (v := .ref (ad 1)) (C := RX2) (T := TX2) (N := 7) hx hb hts layX2 hown hK hP 0 rfl rfl 0 (by decide) (hts _ (inA q331)) (fun _ h9 => h9) rfl dX2_scanToken_62 ?_
        refine lv_aload_n hx hb dX2_scanToken_65 rfl (lv_at hl 2 rfl) ?_
        refine va_get (D := D) (ci := 2) (v := .int r1.2.2.1) (C := RX2) (T := TX2) (N := 7) hx hb hts layX2 hown hK hP 0 rfl rfl 6 (by decide) (hts _ (inA q341)) (fun _ h9 => h9) rfl dX2_scanToken_66 ?_
        refine lv_iconst (v := 1) hx hb dX2_scanToken_69 (by decide) ?_
        refine lv_iadd hx hb dX2_scanToken_70 ?_
        obtain ⟨r16, hcr16, hM⟩ := ob_use hM
        refine cl_V (As := [.int (r1.2.2.1 + 1)]) (rest := []) (wK cI ad r1.2 ++ wB cI (ad 1) (ad 2) 8192 o_text ++ wN cI ad o_names) (.int r16 :: []) ⟨hx, hb, hml, hown, hts⟩ (c_Bytes_get l D cI sd (ad 1) (ad 2) 8192 o_text (r1.2.2.1 + 1) r16 hcr16) (cwV2 hts q530 mvX0_get rfl rfl ⟨(Nat.le_of_ble_eq_true rfl), (Nat.le_of_ble_eq_true rfl)⟩) hK hE hA hP hD hS 4 (T := TX0) (N := 2) (ci := 0) rfl rfl [4, 5] rfl (by decide) rfl rfl rfl rfl rfl rfl hl.1 (Nat.le_of_ble_eq_true rfl) dX2_scanToken_71 ⟨Nat.zero_le _, Nat.zero_le _⟩ (fun H locs hP hD hS => ?_)
        refine lv_bipush (v := 35) hx hb dX2_scanToken_74 (by decide) ?_
        refine lv_icmp_ne (tgt := 86) hx hb dX2_scanToken_76 (by decide) (fun c17 => ?_) (fun c17 => ?_)
        · replace hM := if_f c17 hM
          refine lv_iload_n hx hb dX2_scanToken_86 rfl (lv_at hl 0 rfl) ?_
          obtain ⟨r18, hcr18, hM⟩ := ob_use hM
          refine cl_SN (As := [.int r2]) (rest := []) (wK cI ad r1.2 ++ wB cI (ad 1) (ad 2) 8192 o_text ++ wN cI ad o_names) (.int r18 :: []) ⟨hx, hb, hml, hown, hts⟩ (c_Top_isDigit l D cI sd ad r2 r18 hcr18) (cwSN2 hts (nmE3 hE) mvX6_isDigit rfl rfl ⟨(Nat.le_of_ble_eq_true rfl), (Nat.le_of_ble_eq_true rfl)⟩) hK hE hA hP hD hS [] rfl (by decide) rfl rfl rfl rfl rfl rfl hl.1 (Nat.le_of_ble_eq_true rfl) dX2_scanToken_87 ⟨Nat.zero_le _, Nat.zero_le _⟩ (fun H locs hP hD hS => ?_)
          refine lv_if_eq (tgt := 100) hx hb dX2_scanToken_90 (by decide) (fun c19 => ?_) (fun c19 => ?_)
          · replace hM := if_t c19 hM
            refine lv_iload_n hx hb dX2_scanToken_100 rfl (lv_at hl 0 rfl) ?_
            obtain ⟨r20, hcr20, hM⟩ := ob_use hM
            refine cl_SN (As := [.int r2]) (rest := []) (wK cI ad r1.2 ++ wB cI (ad 1) (ad 2) 8192 o_text ++ wN cI ad o_names) (.int r20 :: []) ⟨hx, hb, hml, hown, hts⟩ (c_Top_isNameByte l D cI sd ad r2 r20 hcr20) (cwSN2 hts (nmE4 hE) mvX6_isNameByte rfl rfl ⟨(Nat.le_of_ble_eq_true rfl), (Nat.le_of_ble_eq_true rfl)⟩) hK hE hA hP hD hS [] rfl (by decide) rfl rfl rfl rfl rfl rfl hl.1 (Nat.le_of_ble_eq_true rfl) dX2_scanToken_101 ⟨Nat.zero_le _, Nat.zero_le _⟩ (fun H locs hP hD hS => ?_)
            refine lv_if_eq (tgt := 114) hx hb dX2_scanToken_104 (by decide) (fun c21 => ?_) (fun c21 => ?_)
            · replace hM := if_t c21 hM
              refine lv_iload_n hx hb dX2_scanToken_114 rfl (lv_at hl 0 rfl) ?_
              refine lv_bipush (v := 37) hx hb dX2_scanToken_115 (by decide) ?_
              refine lv_icmp_ne (tgt := 127) hx hb dX2_scanToken_117 (by decide) (fun c22 => ?_) (fun c22 => ?_)
              · replace hM := if_f c22 hM
                refine lv_aload_n hx hb dX2_scanToken_127 rfl (lv_at hl 2 rfl) ?_
                obtain ⟨r23, hcr23, hM⟩ := ob_use hM
                refine cl_V (As := []) (rest := []) (wK cI ad r23 ++ wB cI (ad 1) (ad 2) 8192 o_text ++ wN cI ad o_names) [] ⟨hx, hb, hml, hown, hts⟩ (c_Tokens_scanSign l D cI sd ad r1.2 o_text r23 hcr23) (cwV2 hts q593 mvX2_scanSign rfl rfl ⟨(Nat.le_of_ble_eq_true rfl), (Nat.le_of_ble_eq_true rfl)⟩) hK hE hA hP hD hS 0 (T := TX2) (N := 7) (ci := 2) rfl rfl [0, 1, 2, 3, 4, 5] rfl (by decide) rfl rfl rfl rfl rfl rfl hl.1 (Nat.le_of_ble_eq_true rfl) dX2_scanToken_128 ⟨Nat.zero_le _, Nat.zero_le _⟩ (fun H locs hP hD hS => ?_)
                cases hM
                exact rt_v hx hb hr hlk hP hD hS rfl dX2_scanToken_131
              · replace hM := if_t c22 hM
                refine lv_aload_n hx hb dX2_scanToken_120 rfl (lv_at hl 2 rfl) ?_
                obtain ⟨r24, hcr24, hM⟩ := ob_use hM
                refine cl_V (As := []) (rest := []) (wK cI ad r24 ++ wB cI (ad 1) (ad 2) 8192 o_text ++ wN cI ad o_names) [] ⟨hx, hb, hml, hown, hts⟩ (c_Tokens_scanPlace l D cI sd ad r1.2 o_text r24 hcr24) (cwV2 hts q586 mvX2_scanPlace rfl rfl ⟨(Nat.le_of_ble_eq_true rfl), (Nat.le_of_ble_eq_true rfl)⟩) hK hE hA hP hD hS 0 (T := TX2) (N := 7) (ci := 2) rfl rfl [0, 1, 2, 3, 4, 5] rfl (by decide) rfl rfl rfl rfl rfl rfl hl.1 (Nat.le_of_ble_eq_true rfl) dX2_scanToken_121 ⟨Nat.zero_le _, Nat.zero_le _⟩ (fun H locs hP hD hS => ?_)
                refine lv_goto (tgt := 131) hx hb dX2_scanToken_124 (by decide) ?_
                cases hM
                exact rt_v hx hb hr hlk hP hD hS rfl dX2_scanToken_131
            · replace hM := if_f c21 hM
              refine lv_aload_n hx hb dX2_scanToken_107 rfl (lv_at hl 2 rfl) ?_
              obtain ⟨r25, hcr25, hM⟩ := ob_use hM
              refine cl_V (As := []) (rest := []) (wK cI ad r25.1 ++ wB cI (ad 1) (ad 2) 8192 o_text ++ wN cI ad r25.2) [] ⟨hx, hb, hml, hown, hts⟩ (c_Tokens_scanName l D cI sd ad r1.2 o_text o_names r25 hcr25) (cwV2 hts q580 mvX2_scanName rfl rfl ⟨(Nat.le_of_ble_eq_true rfl), (Nat.le_of_ble_eq_true rfl)⟩) hK hE hA hP hD hS 0 (T := TX2) (N := 7) (ci := 2) rfl rfl [0, 1, 2, 3, 4, 5, 6, 7, 8, 9, 10] rfl (by decide) rfl rfl rfl rfl rfl rfl hl.1 (Nat.le_of_ble_eq_true rfl) dX2_scanToken_108 ⟨Nat.zero_le _, Nat.zero_le _⟩ (fun H locs hP hD hS => ?_)
              refine lv_goto (tgt := 131) hx hb dX2_scanToken_111 (by decide) ?_
              cases hM
              exact rt_v hx hb hr hlk hP hD hS rfl dX2_scanToken_131
          · replace hM := if_f c19 hM
            refine lv_aload_n hx hb dX2_scanToken_93 rfl (lv_at hl 2 rfl) ?_
            obtain ⟨r26, hcr26, hM⟩ := ob_use hM
            refine cl_V (As := []) (rest := []) (wK cI ad r26 ++ wB cI (ad 1) (ad 2) 8192 o_text ++ wN cI ad o_names) [] ⟨hx, hb, hml, hown, hts⟩ (c_Tokens_scanNumber l D cI sd ad r1.2 o_text r26 hcr26) (cwV2 hts q574 mvX2_scanNumber rfl rfl ⟨(Nat.le_of_ble_eq_true rfl), (Nat.le_of_ble_eq_true rfl)⟩) hK hE hA hP hD hS 0 (T := TX2) (N := 7) (ci := 2) rfl rfl [0, 1, 2, 3, 4, 5] rfl (by decide) rfl rfl rfl rfl rfl rfl hl.1 (Nat.le_of_ble_eq_true rfl) dX2_scanToken_94 ⟨Nat.zero_le _, Nat.zero_le _⟩ (fun H locs hP hD hS => ?_)
            refine lv_goto (tgt := 131) hx hb dX2_scanToken_97 (by decide) ?_
            cases hM
            exact rt_v hx hb hr hlk hP hD hS rfl dX2_scanToken_131
        · replace hM := if_t c17 hM
          refine lv_aload_n hx hb dX2_scanToken_79 rfl (lv_at hl 2 rfl) ?_
          obtain ⟨r27, hcr27, hM⟩ := ob_use hM
          refine cl_V (As := []) (rest := []) (wK cI ad r27 ++ wB cI (ad 1) (ad 2) 8192 o_text ++ wN cI ad o_names) [] ⟨hx, hb, hml, hown, hts⟩ (c_Tokens_scanTime l D cI sd ad r1.2 o_text r27 hcr27) (cwV2 hts q540 mvX2_scanTime rfl rfl ⟨(Nat.le_of_ble_eq_true rfl), (Nat.le_of_ble_eq_true rfl)⟩) hK hE hA hP hD hS 0 (T := TX2) (N := 7) (ci := 2) rfl rfl [0, 1, 2, 3, 4, 5] rfl (by decide) rfl rfl rfl rfl rfl rfl hl.1 (Nat.le_of_ble_eq_true rfl) dX2_scanToken_80 ⟨Nat.zero_le _, Nat.zero_le _⟩ (fun H locs hP hD hS => ?_)
          refine lv_goto (tgt := 131) hx hb dX2_scanToken_83 (by decide) ?_
          cases hM
          exact rt_v hx hb hr hlk hP hD hS rfl dX2_scanToken_131
    · replace hM := if_t c4 hM
      refine lv_aload_n hx hb dX2_scanToken_39 rfl (lv_at hl 2 rfl) ?_
      refine lv_iconst (v := 4) hx hb dX2_scanToken_40 (by decide) ?_
      refine lv_aload_n hx hb dX2_scanToken_41 rfl (lv_at hl 2 rfl) ?_
      refine va_get (D := D) (ci := 2) (v := .int r1.2.2.1) (C := RX2) (T := TX2) (N := 7) hx hb hts layX2 hown hK hP 0 rfl rfl 6 (by decide) (hts _ (inA q341)) (fun _ h9 => h9) rfl dX2_scanToken_42 ?_
      refine lv_iconst (v := 0) hx hb dX2_scanToken_45 (by decide) ?_
      obtain ⟨r28, hcr28, hM⟩ := ob_use hM
      refine cl_V (As := [.int 4, .int r1.2.2.1, .int 0]) (rest := []) (wK cI ad r28 ++ wB cI (ad 1) (ad 2) 8192 o_text ++ wN cI ad o_names) [] ⟨hx, hb, hml, hown, hts⟩ (c_Tokens_add l D cI sd ad r1.2 4 r1.2.2.1 0 r28 hcr28) (cwV2 hts q535 mvX2_add rfl rfl ⟨(Nat.le_of_ble_eq_true rfl), (Nat.le_of_ble_eq_true rfl)⟩) hK hE hA hP hD hS 0 (T := TX2) (N := 7) (ci := 2) rfl rfl [0, 1, 2, 3] rfl (by decide) rfl rfl rfl rfl rfl rfl hl.1 (Nat.le_of_ble_eq_true rfl) dX2_scanToken_46 ⟨Nat.zero_le _, Nat.zero_le _⟩ (fun H locs hP hD hS => ?_)
      refine lv_goto (tgt := 131) hx hb dX2_scanToken_49 (by decide) ?_
      cases hM
      exact rt_v hx hb hr hlk hP hD hS rfl dX2_scanToken_131
  · replace hM := if_t c3 hM
    refine lv_aload_n hx hb dX2_scanToken_21 rfl (lv_at hl 2 rfl) ?_
    refine lv_iconst (v := 5) hx hb dX2_scanToken_22 (by decide) ?_
    refine lv_aload_n hx hb dX2_scanToken_23 rfl (lv_at hl 2 rfl) ?_
    refine va_get (D := D) (ci := 2) (v := .int r1.2.2.1) (C := RX2) (T := TX2) (N := 7) hx hb hts layX2 hown hK hP 0 rfl rfl 6 (by decide) (hts _ (inA q341)) (fun _ h9 => h9) rfl dX2_scanToken_24 ?_
    refine lv_iconst (v := 2) hx hb dX2_scanToken_27 (by decide) ?_
    obtain ⟨r29, hcr29, hM⟩ := ob_use hM
    refine cl_V (As := [.int 5, .int r1.2.2.1, .int 2]) (rest := []) (wK cI ad r29 ++ wB cI (ad 1) (ad 2) 8192 o_text ++ wN cI ad o_names) [] ⟨hx, hb, hml, hown, hts⟩ (c_Tokens_add l D cI sd ad r1.2 5 r1.2.2.1 2 r29 hcr29) (cwV2 hts q535 mvX2_add rfl rfl ⟨(Nat.le_of_ble_eq_true rfl), (Nat.le_of_ble_eq_true rfl)⟩) hK hE hA hP hD hS 0 (T := TX2) (N := 7) (ci := 2) rfl rfl [0, 1, 2, 3] rfl (by decide) rfl rfl rfl rfl rfl rfl hl.1 (Nat.le_of_ble_eq_true rfl) dX2_scanToken_28 ⟨Nat.zero_le _, Nat.zero_le _⟩ (fun H locs hP hD hS => ?_)
    refine lv_goto (tgt := 131) hx hb dX2_scanToken_31 (by decide) ?_
    cases hM
    exact rt_v hx hb hr hlk hP hD hS rfl dX2_scanToken_131

set_option maxHeartbeats 4000000 in
set_option maxRecDepth 100000 in
theorem c_Tokens_scan (l : Launch) (D : va_G) (cI : ClassId) (sd : Nat → Nat) (ad : Nat → Nat) (o_this : S_Tokens) (o_text : S_Bytes) (o_names : S_Names) (res : S_Tokens × S_Names) (hM : f_Tokens_scan o_this o_text o_names = some res) : Ctr l D cI sd yX2_scan (wsM yX2_scan cX2_scan 4 (Option.none : Option Jvm.ClassFile.FieldType)) { frames := 5, cells := 0, slots := 0, locals := 114 } [.ref (ad 10)] (wK cI ad o_this ++ wB cI (ad 1) (ad 2) 8192 o_text ++ wN cI ad o_names) (wK cI ad res.1 ++ wB cI (ad 1) (ad 2) 8192 o_text ++ wN cI ad res.2) none := by
  refine Ctr.of (cc := cX2_scan) (maxL := 4) (own := RX2) (by decide +kernel) rfl rfl (Nat.le_of_ble_eq_true rfl) ?_
  intro p e s m below meth c A ls hx hb hr hml hown hts hlk hK hE hA hP hD hS hl
  have hl : lv_has ls 4 [(0, .ref (ad 10))] := hl
  unfold f_Tokens_scan at hM
  refine lv_aload_n hx hb dX2_scan_0 rfl (lv_at hl 0 rfl) ?_
  refine va_get (D := D) (ci := 2) (v := .ref (ad 5)) (C := RX2) (T := TX2) (N := 7) hx hb hts layX2 hown hK hP 0 rfl rfl 1 (by decide) (hts _ (inA q332)) (fun _ h9 => h9) rfl dX2_scan_1 ?_
  obtain ⟨r1, hcr1, hM⟩ := ob_use hM
  refine cl_V (As := []) (rest := []) (wK cI ad o_this ++ wB cI (ad 1) (ad 2) 8192 o_text ++ wN cI ad r1) [] ⟨hx, hb, hml, hown, hts⟩ (c_Names_forget l D cI sd ad o_names r1 hcr1) (cwV2 hts q518 mvX1_forget rfl rfl ⟨(Nat.le_of_ble_eq_true rfl), (Nat.le_of_ble_eq_true rfl)⟩) hK hE hA hP hD hS 6 (T := TX1) (N := 6) (ci := 1) rfl rfl [6, 7, 8, 9, 10] rfl (by decide) rfl rfl rfl rfl rfl rfl hl.1 (Nat.le_of_ble_eq_true rfl) dX2_scan_4 ⟨Nat.zero_le _, Nat.zero_le _⟩ (fun H locs hP hD hS => ?_)
  refine lv_aload_n hx hb dX2_scan_7 rfl (lv_at hl 0 rfl) ?_
  refine lv_iconst (v := 0) hx hb dX2_scan_8 (by decide) ?_
  refine va_put (D := D) (ci := 2) (v := .int 0) (ty := .int) (C := RX2) (T := TX2) (N := 7) hx hb hts layX2 tyX2 tyX2_ok nmX2 hown hK hP hD hS 0 rfl rfl 5 (by decide) (hts _ (inA q339)) (fun _ h9 => h9) rfl (by decide +kernel) rfl rfl (Nat.le_of_ble_eq_true rfl) dX2_scan_9 (fun H locs hP hD hS => ?_)
  have hP : va_P D vwCl (wK cI ad (0, o_this.2) ++ wB cI (ad 1) (ad 2) 8192 o_text ++ wN cI ad r1) H := hP
  have hD : va_D A (wK cI ad (0, o_this.2) ++ wB cI (ad 1) (ad 2) 8192 o_text ++ wN cI ad r1) := hD
  refine lv_aload_n hx hb dX2_scan_12 rfl (lv_at hl 0 rfl) ?_
  refine lv_iconst (v := 0) hx hb dX2_scan_13 (by decide) ?_
  refine va_put (D := D) (ci := 2) (v := .int 0) (ty := .int) (C := RX2) (T := TX2) (N := 7) hx hb hts layX2 tyX2 tyX2_ok nmX2 hown hK hP hD hS 0 rfl rfl 6 (by decide) (hts _ (inA q341)) (fun _ h9 => h9) rfl (by decide +kernel) rfl rfl (Nat.le_of_ble_eq_true rfl) dX2_scan_14 (fun H locs hP hD hS => ?_)
  have hP : va_P D vwCl (wK cI ad (0, 0, o_this.2.2) ++ wB cI (ad 1) (ad 2) 8192 o_text ++ wN cI ad r1) H := hP
  have hD : va_D A (wK cI ad (0, 0, o_this.2.2) ++ wB cI (ad 1) (ad 2) 8192 o_text ++ wN cI ad r1) := hD
  refine lv_iconst (v := 1) hx hb dX2_scan_17 (by decide) ?_
  refine lv_istore_n (lv' := [(1, .int 1), (0, .ref (ad 10))]) hx hb dX2_scan_18 rfl hl (by decide) rfl (fun ls hl => ?_)
  refine lv_iconst (v := 0) hx hb dX2_scan_19 (by decide) ?_
  refine lv_istore_n (lv' := [(2, .int 0), (1, .int 1), (0, .ref (ad 10))]) hx hb dX2_scan_20 rfl hl (by decide) rfl (fun ls hl => ?_)
  have lp_L21 : ∀ (o_text_L21 : S_Bytes) (n : Nat) (v2_L21 : Int32) (v1_L21 : Int32) (o_this_L21 : S_Tokens) (o_names_L21 : S_Names) (out_L21 : S_Tokens × S_Names) (H : Heap) (locs : List Loc) (ls : Array Slot), f_Tokens_scan_L21 o_text_L21 n v2_L21 v1_L21 o_this_L21 o_names_L21 = some out_L21 → va_P D vwCl (wK cI ad o_this_L21 ++ wB cI (ad 1) (ad 2) 8192 o_text_L21 ++ wN cI ad o_names_L21) H → va_D A (wK cI ad o_this_L21 ++ wB cI (ad 1) (ad 2) 8192 o_text_L21 ++ wN cI ad o_names_L21) → va_S A s.heap H locs → lv_has ls 4 [(2, .int v2_L21), (1, .int v1_L21), (0, .ref (ad 10))] → (∀ (H : Heap) (locs : List Loc) (ls : Array Slot), va_P D vwCl (wK cI ad out_L21.1 ++ wB cI (ad 1) (ad 2) 8192 o_text_L21 ++ wN cI ad out_L21.2) H → va_D A (wK cI ad out_L21.1 ++ wB cI (ad 1) (ad 2) 8192 o_text_L21 ++ wN cI ad out_L21.2) → va_S A s.heap H locs → lv_has ls 4 [(0, .ref (ad 10))] → W p l e { frames := 5, cells := 0, slots := 0, locals := 114 } s m [.ref (ad 10)].toArray below meth c H locs 0 0 (MQ below (CQ D A (wK cI ad res.1 ++ wB cI (ad 1) (ad 2) 8192 o_text ++ wN cI ad res.2) none) [.ref (ad 10)].toArray s 0 0 A) (F0 m 69 ls [])) → W p l e { frames := 5, cells := 0, slots := 0, locals := 114 } s m [.ref (ad 10)].toArray below meth c H locs 0 0 (MQ below (CQ D A (wK cI ad res.1 ++ wB cI (ad 1) (ad 2) 8192 o_text ++ wN cI ad res.2) none) [.ref (ad 10)].toArray s 0 0 A) (F0 m 21 ls []) := by
    intro o_text_L21 n
    induction n with
    | zero => intro v2_L21 v1_L21 o_this_L21 o_names_L21 out_L21 H locs ls hM; exact absurd (show none = some _ from hM) (by simp)
    | succ n ih_L21 =>
      intro v2_L21 v1_L21 o_this_L21 o_names_L21 out_L21 H locs ls hM hP hD hS hl kx_L21
      rw [f_Tokens_scan_L21] at hM
      refine lv_iload_n hx hb dX2_scan_21 rfl (lv_at hl 1 rfl) ?_
      refine lv_if_eq (tgt := 69) hx hb dX2_scan_22 (by decide) (fun c1311 => ?_) (fun c1311 => ?_)
      · replace hM := if_t c1311 hM
        cases hM
        exact kx_L21 _ _ _ hP hD hS (lv_sub hl [2] rfl)
      · replace hM := if_f c1311 hM
        refine lv_iload_n hx hb dX2_scan_25 rfl (lv_at hl 0 rfl) ?_
        refine lv_sipush (v := 8193) hx hb dX2_scan_26 (by decide) ?_
        refine lv_icmp_ge (tgt := 69) hx hb dX2_scan_29 (by decide) (fun c1312 => ?_) (fun c1312 => ?_)
        · replace hM := if_t c1312 hM
          cases hM
          exact kx_L21 _ _ _ hP hD hS (lv_sub hl [2] rfl)
        · replace hM := if_f c1312 hM
          refine lv_aload_n hx hb dX2_scan_32 rfl (lv_at hl 2 rfl) ?_
          obtain ⟨r1313, hcr1313, hM⟩ := ob_use hM
          refine cl_V (As := []) (rest := []) (wK cI ad r1313.1 ++ wB cI (ad 1) (ad 2) 8192 o_text_L21 ++ wN cI ad r1313.2) [] ⟨hx, hb, hml, hown, hts⟩ (c_Tokens_scanToken l D cI sd ad o_this_L21 o_text_L21 o_names_L21 r1313 hcr1313) (cwV2 hts q522 mvX2_scanToken rfl rfl ⟨(Nat.le_of_ble_eq_true rfl), (Nat.le_of_ble_eq_true rfl)⟩) hK hE hA hP hD hS 0 (T := TX2) (N := 7) (ci := 2) rfl rfl [0, 1, 2, 3, 4, 5, 6, 7, 8, 9, 10] rfl (by decide) rfl rfl rfl rfl rfl rfl hl.1 (Nat.le_of_ble_eq_true rfl) dX2_scan_33 ⟨Nat.zero_le _, Nat.zero_le _⟩ (fun H locs hP hD hS => ?_)
          refine lv_aload_n hx hb dX2_scan_36 rfl (lv_at hl 2 rfl) ?_
          refine lv_aload_n hx hb dX2_scan_37 rfl (lv_at hl 2 rfl) ?_
          refine va_get (D := D) (ci := 2) (v := .int r1313.1.1) (C := RX2) (T := TX2) (N := 7) hx hb hts layX2 hown hK hP 0 rfl rfl 5 (by decide) (hts _ (inA q339)) (fun _ h9 => h9) rfl dX2_scan_38 ?_
          refine lv_iconst (v := 1) hx hb dX2_scan_41 (by decide) ?_
          refine lv_isub hx hb dX2_scan_42 ?_
          obtain ⟨r1314, hcr1314, hM⟩ := ob_use hM
          refine cl_V (As := [.int (r1313.1.1 - 1)]) (rest := []) (wK cI ad r1313.1 ++ wB cI (ad 1) (ad 2) 8192 o_text_L21 ++ wN cI ad r1313.2) (.int r1314 :: []) ⟨hx, hb, hml, hown, hts⟩ (c_Tokens_kind l D cI sd ad r1313.1 (r1313.1.1 - 1) r1314 hcr1314) (cwV2 hts q606 mvX2_kind rfl rfl ⟨(Nat.le_of_ble_eq_true rfl), (Nat.le_of_ble_eq_true rfl)⟩) hK hE hA hP hD hS 0 (T := TX2) (N := 7) (ci := 2) rfl rfl [0, 1, 2, 3] rfl (by decide) rfl rfl rfl rfl rfl rfl hl.1 (Nat.le_of_ble_eq_true rfl) dX2_scan_43 ⟨Nat.zero_le _, Nat.zero_le _⟩ (fun H locs hP hD hS => ?_)
          refine lv_istore_n (lv' := [(3, .int r1314), (2, .int v2_L21), (1, .int v1_L21), (0, .ref (ad 10))]) hx hb dX2_scan_46 rfl hl (by decide) rfl (fun ls hl => ?_)
          refine lv_iload_n hx hb dX2_scan_47 rfl (lv_at hl 0 rfl) ?_
          refine lv_iconst (v := 4) hx hb dX2_scan_48 (by decide) ?_
          refine lv_icmp_eq (tgt := 61) hx hb dX2_scan_49 (by decide) (fun c1315 => ?_) (fun c1315 => ?_)
          · replace hM := if_t c1315 hM
            refine lv_iconst (v := 0) hx hb dX2_scan_61 (by decide) ?_
            refine lv_istore_n (lv' := [(1, .int 0), (3, .int r1314), (2, .int v2_L21), (0, .ref (ad 10))]) hx hb dX2_scan_62 rfl hl (by decide) rfl (fun ls hl => ?_)
            obtain ⟨x1316, ex1316⟩ : ∃ y : Int32, y = v2_L21 + 1 := ⟨_, rfl⟩
            replace hM := nm_use ex1316 hM
            refine lv_iinc (v := x1316) (lv' := [(2, .int x1316), (1, .int 0), (3, .int r1314), (0, .ref (ad 10))]) hx hb dX2_scan_63 hl (k := 2) rfl (by rw [ex1316]; rfl) (by decide) rfl (fun ls hl => ?_)
            refine lv_goto (tgt := 21) hx hb dX2_scan_66 (by decide) ?_
            exact ih_L21 x1316 0 r1313.1 r1313.2 out_L21 _ _ _ hM hP hD hS (lv_sub hl [0, 1, 3] rfl) kx_L21
          · replace hM := if_f c1315 hM
            refine lv_iload_n hx hb dX2_scan_52 rfl (lv_at hl 0 rfl) ?_
            refine lv_iconst (v := 5) hx hb dX2_scan_53 (by decide) ?_
            refine lv_icmp_eq (tgt := 61) hx hb dX2_scan_54 (by decide) (fun c1317 => ?_) (fun c1317 => ?_)
            · replace hM := if_t c1317 hM
              refine lv_iconst (v := 0) hx hb dX2_scan_61 (by decide) ?_
              refine lv_istore_n (lv' := [(1, .int 0), (3, .int r1314), (2, .int v2_L21), (0, .ref (ad 10))]) hx hb dX2_scan_62 rfl hl (by decide) rfl (fun ls hl => ?_)
              obtain ⟨x1318, ex1318⟩ : ∃ y : Int32, y = v2_L21 + 1 := ⟨_, rfl⟩
              replace hM := nm_use ex1318 hM
              refine lv_iinc (v := x1318) (lv' := [(2, .int x1318), (1, .int 0), (3, .int r1314), (0, .ref (ad 10))]) hx hb dX2_scan_63 hl (k := 2) rfl (by rw [ex1318]; rfl) (by decide) rfl (fun ls hl => ?_)
              refine lv_goto (tgt := 21) hx hb dX2_scan_66 (by decide) ?_
              exact ih_L21 x1318 0 r1313.1 r1313.2 out_L21 _ _ _ hM hP hD hS (lv_sub hl [0, 1, 3] rfl) kx_L21
            · replace hM := if_f c1317 hM
              refine lv_iconst (v := 1) hx hb dX2_scan_57 (by decide) ?_
              refine lv_goto (tgt := 62) hx hb dX2_scan_58 (by decide) ?_
              refine lv_istore_n (lv' := [(1, .int 1), (3, .int r1314), (2, .int v2_L21), (0, .ref (ad 10))]) hx hb dX2_scan_62 rfl hl (by decide) rfl (fun ls hl => ?_)
              obtain ⟨x1319, ex1319⟩ : ∃ y : Int32, y = v2_L21 + 1 := ⟨_, rfl⟩
              replace hM := nm_use ex1319 hM
              refine lv_iinc (v := x1319) (lv' := [(2, .int x1319), (1, .int 1), (3, .int r1314), (0, .ref (ad 10))]) hx hb dX2_scan_63 hl (k := 2) rfl (by rw [ex1319]; rfl) (by decide) rfl (fun ls hl => ?_)
              refine lv_goto (tgt := 21) hx hb dX2_scan_66 (by decide) ?_
              exact ih_L21 x1319 1 r1313.1 r1313.2 out_L21 _ _ _ hM hP hD hS (lv_sub hl [0, 1, 3] rfl) kx_L21
  obtain ⟨r2, hcr2, hM⟩ := ob_use hM
  refine lp_L21 o_text FU 0 1 (0, 0, o_this.2.2) r1 r2 _ _ _ hcr2 hP hD hS (lv_sub hl [0, 1, 2] rfl) (fun H locs ls hP hD hS hl => ?_)
  cases hM
  exact rt_v hx hb hr hlk hP hD hS rfl dX2_scan_69
