set_option maxHeartbeats 4000000 in
set_option maxRecDepth 100000 in
theorem c_Bytes_init1 (l : Launch) (D : va_G) (cI : ClassId) (sd : Nat → Nat) (h : Nat) : CtrM l D cI sd (fun _ _ => True) yX0_init (wsM yX0_init cX0_init 2 (Option.none : Option Jvm.ClassFile.FieldType)) { frames := 1, cells := 1, slots := 8192, locals := 12 } [.ref h, .int 8192] [(h, .inr (0, [.null, .int 0]))] (fun _ => True) (fun qa => [(h, .inr (0, [.ref (qa 1), .int 0])), ((qa 1), .inl (cI, 8192, .inl (fun _ => 0)))]) 1 8192 := by
  refine CtrM.of (cc := cX0_init) (maxL := 2) (own := RX0) (by decide +kernel) rfl rfl (Nat.le_of_ble_eq_true rfl) ?_
  intro p e s m below meth c A ls hx hb hr hml hown hts hlk hK hE hE2 hA hP hD hS hl hin
  have hl : lv_has ls 2 [(0, .ref h), (1, .int 8192)] := hl
  refine lv_aload_n hx hb dX0_init_0 rfl (lv_at hl 0 rfl) ?_
  refine W.objInit hx hb hown (hts _ (inA q201)) (hts _ (inA q194)) (hts _ (inA q195)) rfl (by rw [hml]; exact hl.1) rfl dX0_init_1 (Nat.le_of_ble_eq_true rfl) (Nat.le_of_ble_eq_true rfl) ?_
  refine W.eq (g2 := F0 m 4 ls []) rfl ?_
  refine lv_aload_n hx hb dX0_init_4 rfl (lv_at hl 0 rfl) ?_
  refine lv_iload_n hx hb dX0_init_5 rfl (lv_at hl 1 rfl) ?_
  refine lv_if_ge (tgt := 13) hx hb dX0_init_6 (by decide) (fun c1 => ?_) (fun c1 => False.elim (by revert c1; decide))
  refine lv_iload_n hx hb dX0_init_13 rfl (lv_at hl 1 rfl) ?_
  refine cl_newi hx hb (hts _ (inA q212)) hK hP hD hS hA 8192 (by decide) (by decide) (by decide) (Nat.le_of_ble_eq_true rfl) (Nat.le_of_ble_eq_true rfl) dX0_init_14 (fun q2 H hP hD hS => ?_)
  have hP : va_P D vwCl [(h, .inr (0, [.null, .int 0])), (q2, .inl (cI, 8192, .inl (fun _ => 0)))] H := hP
  have hD : va_D A [(h, .inr (0, [.null, .int 0])), (q2, .inl (cI, 8192, .inl (fun _ => 0)))] := hD
  refine va_putF (D := D) (ci := 0) (v := .ref q2) (ty := .array .int) (C := RX0) (T := TX0) (N := 2) hx hb hts layX0 tyX0 tyX0_ok nmX0 hown hK hP hD hS 0 rfl rfl 0 (by decide) (hts _ (inA q202)) (fun _ h9 => h9) rfl hin rfl (by decide +kernel) rfl rfl (Nat.le_of_ble_eq_true rfl) dX0_init_16 (fun H locs hP hD hS => ?_)
  have hP : va_P D vwCl [(h, .inr (0, [.ref q2, .int 0])), (q2, .inl (cI, 8192, .inl (fun _ => 0)))] H := hP
  have hD : va_D A [(h, .inr (0, [.ref q2, .int 0])), (q2, .inl (cI, 8192, .inl (fun _ => 0)))] := hD
  refine W.widen (k := 1) (n := 8192) (Nat.le_of_ble_eq_true rfl) (Nat.le_of_ble_eq_true rfl) ?_
  exact rt_m hx hb hr hlk (fun k => match k with | 1 => q2 | _ => 0) trivial (hP.sub [0, 1] rfl) (hD.sub [0, 1] (by decide) rfl) hS dX0_init_19

set_option maxHeartbeats 4000000 in
set_option maxRecDepth 100000 in
theorem c_Bytes_init2 (l : Launch) (D : va_G) (cI : ClassId) (sd : Nat → Nat) (h : Nat) : CtrM l D cI sd (fun _ _ => True) yX0_init (wsM yX0_init cX0_init 2 (Option.none : Option Jvm.ClassFile.FieldType)) { frames := 1, cells := 1, slots := 16384, locals := 12 } [.ref h, .int 16384] [(h, .inr (0, [.null, .int 0]))] (fun _ => True) (fun qa => [(h, .inr (0, [.ref (qa 1), .int 0])), ((qa 1), .inl (cI, 16384, .inl (fun _ => 0)))]) 1 16384 := by
  refine CtrM.of (cc := cX0_init) (maxL := 2) (own := RX0) (by decide +kernel) rfl rfl (Nat.le_of_ble_eq_true rfl) ?_
  intro p e s m below meth c A ls hx hb hr hml hown hts hlk hK hE hE2 hA hP hD hS hl hin
  have hl : lv_has ls 2 [(0, .ref h), (1, .int 16384)] := hl
  refine lv_aload_n hx hb dX0_init_0 rfl (lv_at hl 0 rfl) ?_
  refine W.objInit hx hb hown (hts _ (inA q201)) (hts _ (inA q194)) (hts _ (inA q195)) rfl (by rw [hml]; exact hl.1) rfl dX0_init_1 (Nat.le_of_ble_eq_true rfl) (Nat.le_of_ble_eq_true rfl) ?_
  refine W.eq (g2 := F0 m 4 ls []) rfl ?_
  refine lv_aload_n hx hb dX0_init_4 rfl (lv_at hl 0 rfl) ?_
  refine lv_iload_n hx hb dX0_init_5 rfl (lv_at hl 1 rfl) ?_
  refine lv_if_ge (tgt := 13) hx hb dX0_init_6 (by decide) (fun c1 => ?_) (fun c1 => False.elim (by revert c1; decide))
  refine lv_iload_n hx hb dX0_init_13 rfl (lv_at hl 1 rfl) ?_
  refine cl_newi hx hb (hts _ (inA q212)) hK hP hD hS hA 16384 (by decide) (by decide) (by decide) (Nat.le_of_ble_eq_true rfl) (Nat.le_of_ble_eq_true rfl) dX0_init_14 (fun q2 H hP hD hS => ?_)
  have hP : va_P D vwCl [(h, .inr (0, [.null, .int 0])), (q2, .inl (cI, 16384, .inl (fun _ => 0)))] H := hP
  have hD : va_D A [(h, .inr (0, [.null, .int 0])), (q2, .inl (cI, 16384, .inl (fun _ => 0)))] := hD
  refine va_putF (D := D) (ci := 0) (v := .ref q2) (ty := .array .int) (C := RX0) (T := TX0) (N := 2) hx hb hts layX0 tyX0 tyX0_ok nmX0 hown hK hP hD hS 0 rfl rfl 0 (by decide) (hts _ (inA q202)) (fun _ h9 => h9) rfl hin rfl (by decide +kernel) rfl rfl (Nat.le_of_ble_eq_true rfl) dX0_init_16 (fun H locs hP hD hS => ?_)
  have hP : va_P D vwCl [(h, .inr (0, [.ref q2, .int 0])), (q2, .inl (cI, 16384, .inl (fun _ => 0)))] H := hP
  have hD : va_D A [(h, .inr (0, [.ref q2, .int 0])), (q2, .inl (cI, 16384, .inl (fun _ => 0)))] := hD
  refine W.widen (k := 1) (n := 16384) (Nat.le_of_ble_eq_true rfl) (Nat.le_of_ble_eq_true rfl) ?_
  exact rt_m hx hb hr hlk (fun k => match k with | 1 => q2 | _ => 0) trivial (hP.sub [0, 1] rfl) (hD.sub [0, 1] (by decide) rfl) hS dX0_init_19

set_option maxHeartbeats 4000000 in
set_option maxRecDepth 100000 in
theorem c_Tree_init (l : Launch) (D : va_G) (cI : ClassId) (sd : Nat → Nat) (h : Nat) : CtrM l D cI sd (fun _ _ => True) yX3_init (wsM yX3_init cX3_init 1 (Option.none : Option Jvm.ClassFile.FieldType)) { frames := 1, cells := 7, slots := 114688, locals := 12 } [.ref h] [(h, .inr (3, [.null, .null, .null, .null, .null, .null, .null, .int 0]))] (fun _ => True) (fun qa => [(h, .inr (3, [.ref (qa 1), .ref (qa 2), .ref (qa 3), .ref (qa 4), .ref (qa 5), .ref (qa 6), .ref (qa 7), .int 0])), ((qa 1), .inl (cI, 16384, .inl (fun _ => 0))), ((qa 2), .inl (cI, 16384, .inl (fun _ => 0))), ((qa 3), .inl (cI, 16384, .inl (fun _ => 0))), ((qa 4), .inl (cI, 16384, .inl (fun _ => 0))), ((qa 5), .inl (cI, 16384, .inl (fun _ => 0))), ((qa 6), .inl (cI, 16384, .inl (fun _ => 0))), ((qa 7), .inl (cI, 16384, .inl (fun _ => 0)))]) 7 114688 := by
  refine CtrM.of (cc := cX3_init) (maxL := 1) (own := RX3) (by decide +kernel) rfl rfl (Nat.le_of_ble_eq_true rfl) ?_
  intro p e s m below meth c A ls hx hb hr hml hown hts hlk hK hE hE2 hA hP hD hS hl hin
  have hl : lv_has ls 1 [(0, .ref h)] := hl
  refine lv_aload_n hx hb dX3_init_0 rfl (lv_at hl 0 rfl) ?_
  refine W.objInit hx hb hown (hts _ (inA q362)) (hts _ (inA q194)) (hts _ (inA q195)) rfl (by rw [hml]; exact hl.1) rfl dX3_init_1 (Nat.le_of_ble_eq_true rfl) (Nat.le_of_ble_eq_true rfl) ?_
  refine W.eq (g2 := F0 m 4 ls []) rfl ?_
  refine lv_aload_n hx hb dX3_init_4 rfl (lv_at hl 0 rfl) ?_
  refine lv_sipush (v := 16384) hx hb dX3_init_5 (by decide) ?_
  refine cl_newi hx hb (hts _ (inA q212)) hK hP hD hS hA 16384 (by decide) (by decide) (by decide) (Nat.le_of_ble_eq_true rfl) (Nat.le_of_ble_eq_true rfl) dX3_init_8 (fun q1 H hP hD hS => ?_)
  have hP : va_P D vwCl [(h, .inr (3, [.null, .null, .null, .null, .null, .null, .null, .int 0])), (q1, .inl (cI, 16384, .inl (fun _ => 0)))] H := hP
  have hD : va_D A [(h, .inr (3, [.null, .null, .null, .null, .null, .null, .null, .int 0])), (q1, .inl (cI, 16384, .inl (fun _ => 0)))] := hD
  refine va_putF (D := D) (ci := 3) (v := .ref q1) (ty := .array .int) (C := RX3) (T := TX3) (N := 8) hx hb hts layX3 tyX3 tyX3_ok nmX3 hown hK hP hD hS 0 rfl rfl 0 (by decide) (hts _ (inA q363)) (fun _ h9 => h9) rfl hin rfl (by decide +kernel) rfl rfl (Nat.le_of_ble_eq_true rfl) dX3_init_10 (fun H locs hP hD hS => ?_)
  have hP : va_P D vwCl [(h, .inr (3, [.ref q1, .null, .null, .null, .null, .null, .null, .int 0])), (q1, .inl (cI, 16384, .inl (fun _ => 0)))] H := hP
  have hD : va_D A [(h, .inr (3, [.ref q1, .null, .null, .null, .null, .null, .null, .int 0])), (q1, .inl (cI, 16384, .inl (fun _ => 0)))] := hD
  refine lv_aload_n hx hb dX3_init_13 rfl (lv_at hl 0 rfl) ?_
  refine lv_sipush (v := 16384) hx hb dX3_init_14 (by decide) ?_
  refine cl_newi hx hb (hts _ (inA q212)) hK hP hD hS hA 16384 (by decide) (by decide) (by decide) (Nat.le_of_ble_eq_true rfl) (Nat.le_of_ble_eq_true rfl) dX3_init_17 (fun q2 H hP hD hS => ?_)
  have hP : va_P D vwCl [(h, .inr (3, [.ref q1, .null, .null, .null, .null, .null, .null, .int 0])), (q1, .inl (cI, 16384, .inl (fun _ => 0))), (q2, .inl (cI, 16384, .inl (fun _ => 0)))] H := hP
  have hD : va_D A [(h, .inr (3, [.ref q1, .null, .null, .null, .null, .null, .null, .int 0])), (q1, .inl (cI, 16384, .inl (fun _ => 0))), (q2, .inl (cI, 16384, .inl (fun _ => 0)))] := hD
  refine va_putF (D := D) (ci := 3) (v := .ref q2) (ty := .array .int) (C := RX3) (T := TX3) (N := 8) hx hb hts layX3 tyX3 tyX3_ok nmX3 hown hK hP hD hS 0 rfl rfl 1 (by decide) (hts _ (inA q364)) (fun _ h9 => h9) rfl hin rfl (by decide +kernel) rfl rfl (Nat.le_of_ble_eq_true rfl) dX3_init_19 (fun H locs hP hD hS => ?_)
  have hP : va_P D vwCl [(h, .inr (3, [.ref q1, .ref q2, .null, .null, .null, .null, .null, .int 0])), (q1, .inl (cI, 16384, .inl (fun _ => 0))), (q2, .inl (cI, 16384, .inl (fun _ => 0)))] H := hP
  have hD : va_D A [(h, .inr (3, [.ref q1, .ref q2, .null, .null, .null, .null, .null, .int 0])), (q1, .inl (cI, 16384, .inl (fun _ => 0))), (q2, .inl (cI, 16384, .inl (fun _ => 0)))] := hD
  refine lv_aload_n hx hb dX3_init_22 rfl (lv_at hl 0 rfl) ?_
  refine lv_sipush (v := 16384) hx hb dX3_init_23 (by decide) ?_
  refine cl_newi hx hb (hts _ (inA q212)) hK hP hD hS hA 16384 (by decide) (by decide) (by decide) (Nat.le_of_ble_eq_true rfl) (Nat.le_of_ble_eq_true rfl) dX3_init_26 (fun q3 H hP hD hS => ?_)
  have hP : va_P D vwCl [(h, .inr (3, [.ref q1, .ref q2, .null, .null, .null, .null, .null, .int 0])), (q1, .inl (cI, 16384, .inl (fun _ => 0))), (q2, .inl (cI, 16384, .inl (fun _ => 0))), (q3, .inl (cI, 16384, .inl (fun _ => 0)))] H := hP
  have hD : va_D A [(h, .inr (3, [.ref q1, .ref q2, .null, .null, .null, .null, .null, .int 0])), (q1, .inl (cI, 16384, .inl (fun _ => 0))), (q2, .inl (cI, 16384, .inl (fun _ => 0))), (q3, .inl (cI, 16384, .inl (fun _ => 0)))] := hD
  refine va_putF (D := D) (ci := 3) (v := .ref q3) (ty := .array .int) (C := RX3) (T := TX3) (N := 8) hx hb hts layX3 tyX3 tyX3_ok nmX3 hown hK hP hD hS 0 rfl rfl 2 (by decide) (hts _ (inA q365)) (fun _ h9 => h9) rfl hin rfl (by decide +kernel) rfl rfl (Nat.le_of_ble_eq_true rfl) dX3_init_28 (fun H locs hP hD hS => ?_)
  have hP : va_P D vwCl [(h, .inr (3, [.ref q1, .ref q2, .ref q3, .null, .null, .null, .null, .int 0])), (q1, .inl (cI, 16384, .inl (fun _ => 0))), (q2, .inl (cI, 16384, .inl (fun _ => 0))), (q3, .inl (cI, 16384, .inl (fun _ => 0)))] H := hP
  have hD : va_D A [(h, .inr (3, [.ref q1, .ref q2, .ref q3, .null, .null, .null, .null, .int 0])), (q1, .inl (cI, 16384, .inl (fun _ => 0))), (q2, .inl (cI, 16384, .inl (fun _ => 0))), (q3, .inl (cI, 16384, .inl (fun _ => 0)))] := hD
  refine lv_aload_n hx hb dX3_init_31 rfl (lv_at hl 0 rfl) ?_
  refine lv_sipush (v := 16384) hx hb dX3_init_32 (by decide) ?_
  refine cl_newi hx hb (hts _ (inA q212)) hK hP hD hS hA 16384 (by decide) (by decide) (by decide) (Nat.le_of_ble_eq_true rfl) (Nat.le_of_ble_eq_true rfl) dX3_init_35 (fun q4 H hP hD hS => ?_)
  have hP : va_P D vwCl [(h, .inr (3, [.ref q1, .ref q2, .ref q3, .null, .null, .null, .null, .int 0])), (q1, .inl (cI, 16384, .inl (fun _ => 0))), (q2, .inl (cI, 16384, .inl (fun _ => 0))), (q3, .inl (cI, 16384, .inl (fun _ => 0))), (q4, .inl (cI, 16384, .inl (fun _ => 0)))] H := hP
  have hD : va_D A [(h, .inr (3, [.ref q1, .ref q2, .ref q3, .null, .null, .null, .null, .int 0])), (q1, .inl (cI, 16384, .inl (fun _ => 0))), (q2, .inl (cI, 16384, .inl (fun _ => 0))), (q3, .inl (cI, 16384, .inl (fun _ => 0))), (q4, .inl (cI, 16384, .inl (fun _ => 0)))] := hD
  refine va_putF (D := D) (ci := 3) (v := .ref q4) (ty := .array .int) (C := RX3) (T := TX3) (N := 8) hx hb hts layX3 tyX3 tyX3_ok nmX3 hown hK hP hD hS 0 rfl rfl 3 (by decide) (hts _ (inA q366)) (fun _ h9 => h9) rfl hin rfl (by decide +kernel) rfl rfl (Nat.le_of_ble_eq_true rfl) dX3_init_37 (fun H locs hP hD hS => ?_)
  have hP : va_P D vwCl [(h, .inr (3, [.ref q1, .ref q2, .ref q3, .ref q4, .null, .null, .null, .int 0])), (q1, .inl (cI, 16384, .inl (fun _ => 0))), (q2, .inl (cI, 16384, .inl (fun _ => 0))), (q3, .inl (cI, 16384, .inl (fun _ => 0))), (q4, .inl (cI, 16384, .inl (fun _ => 0)))] H := hP
  have hD : va_D A [(h, .inr (3, [.ref q1, .ref q2, .ref q3, .ref q4, .null, .null, .null, .int 0])), (q1, .inl (cI, 16384, .inl (fun _ => 0))), (q2, .inl (cI, 16384, .inl (fun _ => 0))), (q3, .inl (cI, 16384, .inl (fun _ => 0))), (q4, .inl (cI, 16384, .inl (fun _ => 0)))] := hD
  refine lv_aload_n hx hb dX3_init_40 rfl (lv_at hl 0 rfl) ?_
  refine lv_sipush (v := 16384) hx hb dX3_init_41 (by decide) ?_
  refine cl_newi hx hb (hts _ (inA q212)) hK hP hD hS hA 16384 (by decide) (by decide) (by decide) (Nat.le_of_ble_eq_true rfl) (Nat.le_of_ble_eq_true rfl) dX3_init_44 (fun q5 H hP hD hS => ?_)
  have hP : va_P D vwCl [(h, .inr (3, [.ref q1, .ref q2, .ref q3, .ref q4, .null, .null, .null, .int 0])), (q1, .inl (cI, 16384, .inl (fun _ => 0))), (q2, .inl (cI, 16384, .inl (fun _ => 0))), (q3, .inl (cI, 16384, .inl (fun _ => 0))), (q4, .inl (cI, 16384, .inl (fun _ => 0))), (q5, .inl (cI, 16384, .inl (fun _ => 0)))] H := hP
  have hD : va_D A [(h, .inr (3, [.ref q1, .ref q2, .ref q3, .ref q4, .null, .null, .null, .int 0])), (q1, .inl (cI, 16384, .inl (fun _ => 0))), (q2, .inl (cI, 16384, .inl (fun _ => 0))), (q3, .inl (cI, 16384, .inl (fun _ => 0))), (q4, .inl (cI, 16384, .inl (fun _ => 0))), (q5, .inl (cI, 16384, .inl (fun _ => 0)))] := hD
  refine va_putF (D := D) (ci := 3) (v := .ref q5) (ty := .array .int) (C := RX3) (T := TX3) (N := 8) hx hb hts layX3 tyX3 tyX3_ok nmX3 hown hK hP hD hS 0 rfl rfl 4 (by decide) (hts _ (inA q367)) (fun _ h9 => h9) rfl hin rfl (by decide +kernel) rfl rfl (Nat.le_of_ble_eq_true rfl) dX3_init_46 (fun H locs hP hD hS => ?_)
  have hP : va_P D vwCl [(h, .inr (3, [.ref q1, .ref q2, .ref q3, .ref q4, .ref q5, .null, .null, .int 0])), (q1, .inl (cI, 16384, .inl (fun _ => 0))), (q2, .inl (cI, 16384, .inl (fun _ => 0))), (q3, .inl (cI, 16384, .inl (fun _ => 0))), (q4, .inl (cI, 16384, .inl (fun _ => 0))), (q5, .inl (cI, 16384, .inl (fun _ => 0)))] H := hP
  have hD : va_D A [(h, .inr (3, [.ref q1, .ref q2, .ref q3, .ref q4, .ref q5, .null, .null, .int 0])), (q1, .inl (cI, 16384, .inl (fun _ => 0))), (q2, .inl (cI, 16384, .inl (fun _ => 0))), (q3, .inl (cI, 16384, .inl (fun _ => 0))), (q4, .inl (cI, 16384, .inl (fun _ => 0))), (q5, .inl (cI, 16384, .inl (fun _ => 0)))] := hD
  refine lv_aload_n hx hb dX3_init_49 rfl (lv_at hl 0 rfl) ?_
  refine lv_sipush (v := 16384) hx hb dX3_init_50 (by decide) ?_
  refine cl_newi hx hb (hts _ (inA q212)) hK hP hD hS hA 16384 (by decide) (by decide) (by decide) (Nat.le_of_ble_eq_true rfl) (Nat.le_of_ble_eq_true rfl) dX3_init_53 (fun q6 H hP hD hS => ?_)
  have hP : va_P D vwCl [(h, .inr (3, [.ref q1, .ref q2, .ref q3, .ref q4, .ref q5, .null, .null, .int 0])), (q1, .inl (cI, 16384, .inl (fun _ => 0))), (q2, .inl (cI, 16384, .inl (fun _ => 0))), (q3, .inl (cI, 16384, .inl (fun _ => 0))), (q4, .inl (cI, 16384, .inl (fun _ => 0))), (q5, .inl (cI, 16384, .inl (fun _ => 0))), (q6, .inl (cI, 16384, .inl (fun _ => 0)))] H := hP
  have hD : va_D A [(h, .inr (3, [.ref q1, .ref q2, .ref q3, .ref q4, .ref q5, .null, .null, .int 0])), (q1, .inl (cI, 16384, .inl (fun _ => 0))), (q2, .inl (cI, 16384, .inl (fun _ => 0))), (q3, .inl (cI, 16384, .inl (fun _ => 0))), (q4, .inl (cI, 16384, .inl (fun _ => 0))), (q5, .inl (cI, 16384, .inl (fun _ => 0))), (q6, .inl (cI, 16384, .inl (fun _ => 0)))] := hD
  refine va_putF (D := D) (ci := 3) (v := .ref q6) (ty := .array .int) (C := RX3) (T := TX3) (N := 8) hx hb hts layX3 tyX3 tyX3_ok nmX3 hown hK hP hD hS 0 rfl rfl 5 (by decide) (hts _ (inA q368)) (fun _ h9 => h9) rfl hin rfl (by decide +kernel) rfl rfl (Nat.le_of_ble_eq_true rfl) dX3_init_55 (fun H locs hP hD hS => ?_)
  have hP : va_P D vwCl [(h, .inr (3, [.ref q1, .ref q2, .ref q3, .ref q4, .ref q5, .ref q6, .null, .int 0])), (q1, .inl (cI, 16384, .inl (fun _ => 0))), (q2, .inl (cI, 16384, .inl (fun _ => 0))), (q3, .inl (cI, 16384, .inl (fun _ => 0))), (q4, .inl (cI, 16384, .inl (fun _ => 0))), (q5, .inl (cI, 16384, .inl (fun _ => 0))), (q6, .inl (cI, 16384, .inl (fun _ => 0)))] H := hP
  have hD : va_D A [(h, .inr (3, [.ref q1, .ref q2, .ref q3, .ref q4, .ref q5, .ref q6, .null, .int 0])), (q1, .inl (cI, 16384, .inl (fun _ => 0))), (q2, .inl (cI, 16384, .inl (fun _ => 0))), (q3, .inl (cI, 16384, .inl (fun _ => 0))), (q4, .inl (cI, 16384, .inl (fun _ => 0))), (q5, .inl (cI, 16384, .inl (fun _ => 0))), (q6, .inl (cI, 16384, .inl (fun _ => 0)))] := hD
  refine lv_aload_n hx hb dX3_init_58 rfl (lv_at hl 0 rfl) ?_
  refine lv_sipush (v := 16384) hx hb dX3_init_59 (by decide) ?_
  refine cl_newi hx hb (hts _ (inA q212)) hK hP hD hS hA 16384 (by decide) (by decide) (by decide) (Nat.le_of_ble_eq_true rfl) (Nat.le_of_ble_eq_true rfl) dX3_init_62 (fun q7 H hP hD hS => ?_)
  have hP : va_P D vwCl [(h, .inr (3, [.ref q1, .ref q2, .ref q3, .ref q4, .ref q5, .ref q6, .null, .int 0])), (q1, .inl (cI, 16384, .inl (fun _ => 0))), (q2, .inl (cI, 16384, .inl (fun _ => 0))), (q3, .inl (cI, 16384, .inl (fun _ => 0))), (q4, .inl (cI, 16384, .inl (fun _ => 0))), (q5, .inl (cI, 16384, .inl (fun _ => 0))), (q6, .inl (cI, 16384, .inl (fun _ => 0))), (q7, .inl (cI, 16384, .inl (fun _ => 0)))] H := hP
  have hD : va_D A [(h, .inr (3, [.ref q1, .ref q2, .ref q3, .ref q4, .ref q5, .ref q6, .null, .int 0])), (q1, .inl (cI, 16384, .inl (fun _ => 0))), (q2, .inl (cI, 16384, .inl (fun _ => 0))), (q3, .inl (cI, 16384, .inl (fun _ => 0))), (q4, .inl (cI, 16384, .inl (fun _ => 0))), (q5, .inl (cI, 16384, .inl (fun _ => 0))), (q6, .inl (cI, 16384, .inl (fun _ => 0))), (q7, .inl (cI, 16384, .inl (fun _ => 0)))] := hD
  refine va_putF (D := D) (ci := 3) (v := .ref q7) (ty := .array .int) (C := RX3) (T := TX3) (N := 8) hx hb hts layX3 tyX3 tyX3_ok nmX3 hown hK hP hD hS 0 rfl rfl 6 (by decide) (hts _ (inA q369)) (fun _ h9 => h9) rfl hin rfl (by decide +kernel) rfl rfl (Nat.le_of_ble_eq_true rfl) dX3_init_64 (fun H locs hP hD hS => ?_)
  have hP : va_P D vwCl [(h, .inr (3, [.ref q1, .ref q2, .ref q3, .ref q4, .ref q5, .ref q6, .ref q7, .int 0])), (q1, .inl (cI, 16384, .inl (fun _ => 0))), (q2, .inl (cI, 16384, .inl (fun _ => 0))), (q3, .inl (cI, 16384, .inl (fun _ => 0))), (q4, .inl (cI, 16384, .inl (fun _ => 0))), (q5, .inl (cI, 16384, .inl (fun _ => 0))), (q6, .inl (cI, 16384, .inl (fun _ => 0))), (q7, .inl (cI, 16384, .inl (fun _ => 0)))] H := hP
  have hD : va_D A [(h, .inr (3, [.ref q1, .ref q2, .ref q3, .ref q4, .ref q5, .ref q6, .ref q7, .int 0])), (q1, .inl (cI, 16384, .inl (fun _ => 0))), (q2, .inl (cI, 16384, .inl (fun _ => 0))), (q3, .inl (cI, 16384, .inl (fun _ => 0))), (q4, .inl (cI, 16384, .inl (fun _ => 0))), (q5, .inl (cI, 16384, .inl (fun _ => 0))), (q6, .inl (cI, 16384, .inl (fun _ => 0))), (q7, .inl (cI, 16384, .inl (fun _ => 0)))] := hD
  refine W.widen (k := 7) (n := 114688) (Nat.le_of_ble_eq_true rfl) (Nat.le_of_ble_eq_true rfl) ?_
  exact rt_m hx hb hr hlk (fun k => match k with | 1 => q1 | 2 => q2 | 3 => q3 | 4 => q4 | 5 => q5 | 6 => q6 | 7 => q7 | _ => 0) trivial (hP.sub [0, 1, 2, 3, 4, 5, 6, 7] rfl) (hD.sub [0, 1, 2, 3, 4, 5, 6, 7] (by decide) rfl) hS dX3_init_67

set_option maxHeartbeats 4000000 in
set_option maxRecDepth 100000 in
theorem c_Tokens_init (l : Launch) (D : va_G) (cI : ClassId) (sd : Nat → Nat) (h : Nat) (x1 x2 : Nat) : CtrM l D cI sd (fun _ _ => True) yX2_init (wsM yX2_init cX2_init 3 (Option.none : Option Jvm.ClassFile.FieldType)) { frames := 1, cells := 3, slots := 24579, locals := 12 } [.ref h, .ref x1, .ref x2] [(h, .inr (2, [.null, .null, .null, .null, .null, .int 0, .int 0]))] (fun _ => True) (fun qa => [(h, .inr (2, [.ref x1, .ref x2, .ref (qa 1), .ref (qa 2), .ref (qa 3), .int 0, .int 0])), ((qa 1), .inl (cI, 8193, .inl (fun _ => 0))), ((qa 2), .inl (cI, 8193, .inl (fun _ => 0))), ((qa 3), .inl (cI, 8193, .inl (fun _ => 0)))]) 3 24579 := by
  refine CtrM.of (cc := cX2_init) (maxL := 3) (own := RX2) (by decide +kernel) rfl rfl (Nat.le_of_ble_eq_true rfl) ?_
  intro p e s m below meth c A ls hx hb hr hml hown hts hlk hK hE hE2 hA hP hD hS hl hin
  have hl : lv_has ls 3 [(0, .ref h), (1, .ref x1), (2, .ref x2)] := hl
  refine lv_aload_n hx hb dX2_init_0 rfl (lv_at hl 0 rfl) ?_
  refine W.objInit hx hb hown (hts _ (inA q330)) (hts _ (inA q194)) (hts _ (inA q195)) rfl (by rw [hml]; exact hl.1) rfl dX2_init_1 (Nat.le_of_ble_eq_true rfl) (Nat.le_of_ble_eq_true rfl) ?_
  refine W.eq (g2 := F0 m 4 ls []) rfl ?_
  refine lv_aload_n hx hb dX2_init_4 rfl (lv_at hl 0 rfl) ?_
  refine lv_sipush (v := 8193) hx hb dX2_init_5 (by decide) ?_
  refine cl_newi hx hb (hts _ (inA q212)) hK hP hD hS hA 8193 (by decide) (by decide) (by decide) (Nat.le_of_ble_eq_true rfl) (Nat.le_of_ble_eq_true rfl) dX2_init_8 (fun q1 H hP hD hS => ?_)
  have hP : va_P D vwCl [(h, .inr (2, [.null, .null, .null, .null, .null, .int 0, .int 0])), (q1, .inl (cI, 8193, .inl (fun _ => 0)))] H := hP
  have hD : va_D A [(h, .inr (2, [.null, .null, .null, .null, .null, .int 0, .int 0])), (q1, .inl (cI, 8193, .inl (fun _ => 0)))] := hD
  refine va_putF (D := D) (ci := 2) (v := .ref q1) (ty := .array .int) (C := RX2) (T := TX2) (N := 7) hx hb hts layX2 tyX2 tyX2_ok nmX2 hown hK hP hD hS 0 rfl rfl 2 (by decide) (hts _ (inA q333)) (fun _ h9 => h9) rfl hin rfl (by decide +kernel) rfl rfl (Nat.le_of_ble_eq_true rfl) dX2_init_10 (fun H locs hP hD hS => ?_)
  have hP : va_P D vwCl [(h, .inr (2, [.null, .null, .ref q1, .null, .null, .int 0, .int 0])), (q1, .inl (cI, 8193, .inl (fun _ => 0)))] H := hP
  have hD : va_D A [(h, .inr (2, [.null, .null, .ref q1, .null, .null, .int 0, .int 0])), (q1, .inl (cI, 8193, .inl (fun _ => 0)))] := hD
  refine lv_aload_n hx hb dX2_init_13 rfl (lv_at hl 0 rfl) ?_
  refine lv_sipush (v := 8193) hx hb dX2_init_14 (by decide) ?_
  refine cl_newi hx hb (hts _ (inA q212)) hK hP hD hS hA 8193 (by decide) (by decide) (by decide) (Nat.le_of_ble_eq_true rfl) (Nat.le_of_ble_eq_true rfl) dX2_init_17 (fun q2 H hP hD hS => ?_)
  have hP : va_P D vwCl [(h, .inr (2, [.null, .null, .ref q1, .null, .null, .int 0, .int 0])), (q1, .inl (cI, 8193, .inl (fun _ => 0))), (q2, .inl (cI, 8193, .inl (fun _ => 0)))] H := hP
  have hD : va_D A [(h, .inr (2, [.null, .null, .ref q1, .null, .null, .int 0, .int 0])), (q1, .inl (cI, 8193, .inl (fun _ => 0))), (q2, .inl (cI, 8193, .inl (fun _ => 0)))] := hD
  refine va_putF (D := D) (ci := 2) (v := .ref q2) (ty := .array .int) (C := RX2) (T := TX2) (N := 7) hx hb hts layX2 tyX2 tyX2_ok nmX2 hown hK hP hD hS 0 rfl rfl 3 (by decide) (hts _ (inA q335)) (fun _ h9 => h9) rfl hin rfl (by decide +kernel) rfl rfl (Nat.le_of_ble_eq_true rfl) dX2_init_19 (fun H locs hP hD hS => ?_)
  have hP : va_P D vwCl [(h, .inr (2, [.null, .null, .ref q1, .ref q2, .null, .int 0, .int 0])), (q1, .inl (cI, 8193, .inl (fun _ => 0))), (q2, .inl (cI, 8193, .inl (fun _ => 0)))] H := hP
  have hD : va_D A [(h, .inr (2, [.null, .null, .ref q1, .ref q2, .null, .int 0, .int 0])), (q1, .inl (cI, 8193, .inl (fun _ => 0))), (q2, .inl (cI, 8193, .inl (fun _ => 0)))] := hD
  refine lv_aload_n hx hb dX2_init_22 rfl (lv_at hl 0 rfl) ?_
  refine lv_sipush (v := 8193) hx hb dX2_init_23 (by decide) ?_
  refine cl_newi hx hb (hts _ (inA q212)) hK hP hD hS hA 8193 (by decide) (by decide) (by decide) (Nat.le_of_ble_eq_true rfl) (Nat.le_of_ble_eq_true rfl) dX2_init_26 (fun q3 H hP hD hS => ?_)
  have hP : va_P D vwCl [(h, .inr (2, [.null, .null, .ref q1, .ref q2, .null, .int 0, .int 0])), (q1, .inl (cI, 8193, .inl (fun _ => 0))), (q2, .inl (cI, 8193, .inl (fun _ => 0))), (q3, .inl (cI, 8193, .inl (fun _ => 0)))] H := hP
  have hD : va_D A [(h, .inr (2, [.null, .null, .ref q1, .ref q2, .null, .int 0, .int 0])), (q1, .inl (cI, 8193, .inl (fun _ => 0))), (q2, .inl (cI, 8193, .inl (fun _ => 0))), (q3, .inl (cI, 8193, .inl (fun _ => 0)))] := hD
  refine va_putF (D := D) (ci := 2) (v := .ref q3) (ty := .array .int) (C := RX2) (T := TX2) (N := 7) hx hb hts layX2 tyX2 tyX2_ok nmX2 hown hK hP hD hS 0 rfl rfl 4 (by decide) (hts _ (inA q337)) (fun _ h9 => h9) rfl hin rfl (by decide +kernel) rfl rfl (Nat.le_of_ble_eq_true rfl) dX2_init_28 (fun H locs hP hD hS => ?_)
  have hP : va_P D vwCl [(h, .inr (2, [.null, .null, .ref q1, .ref q2, .ref q3, .int 0, .int 0])), (q1, .inl (cI, 8193, .inl (fun _ => 0))), (q2, .inl (cI, 8193, .inl (fun _ => 0))), (q3, .inl (cI, 8193, .inl (fun _ => 0)))] H := hP
  have hD : va_D A [(h, .inr (2, [.null, .null, .ref q1, .ref q2, .ref q3, .int 0, .int 0])), (q1, .inl (cI, 8193, .inl (fun _ => 0))), (q2, .inl (cI, 8193, .inl (fun _ => 0))), (q3, .inl (cI, 8193, .inl (fun _ => 0)))] := hD
  refine lv_aload_n hx hb dX2_init_31 rfl (lv_at hl 0 rfl) ?_
  refine lv_aload_n hx hb dX2_init_32 rfl (lv_at hl 1 rfl) ?_
  refine va_putF (D := D) (ci := 2) (v := .ref x1) (ty := .object "ControlText$Bytes") (C := RX2) (T := TX2) (N := 7) hx hb hts layX2 tyX2 tyX2_ok nmX2 hown hK hP hD hS 0 rfl rfl 0 (by decide) (hts _ (inA q331)) (fun _ h9 => h9) rfl hin rfl (by decide +kernel) rfl rfl (Nat.le_of_ble_eq_true rfl) dX2_init_33 (fun H locs hP hD hS => ?_)
  have hP : va_P D vwCl [(h, .inr (2, [.ref x1, .null, .ref q1, .ref q2, .ref q3, .int 0, .int 0])), (q1, .inl (cI, 8193, .inl (fun _ => 0))), (q2, .inl (cI, 8193, .inl (fun _ => 0))), (q3, .inl (cI, 8193, .inl (fun _ => 0)))] H := hP
  have hD : va_D A [(h, .inr (2, [.ref x1, .null, .ref q1, .ref q2, .ref q3, .int 0, .int 0])), (q1, .inl (cI, 8193, .inl (fun _ => 0))), (q2, .inl (cI, 8193, .inl (fun _ => 0))), (q3, .inl (cI, 8193, .inl (fun _ => 0)))] := hD
  refine lv_aload_n hx hb dX2_init_36 rfl (lv_at hl 0 rfl) ?_
  refine lv_aload_n hx hb dX2_init_37 rfl (lv_at hl 2 rfl) ?_
  refine va_putF (D := D) (ci := 2) (v := .ref x2) (ty := .object "ControlText$Names") (C := RX2) (T := TX2) (N := 7) hx hb hts layX2 tyX2 tyX2_ok nmX2 hown hK hP hD hS 0 rfl rfl 1 (by decide) (hts _ (inA q332)) (fun _ h9 => h9) rfl hin rfl (by decide +kernel) rfl rfl (Nat.le_of_ble_eq_true rfl) dX2_init_38 (fun H locs hP hD hS => ?_)
  have hP : va_P D vwCl [(h, .inr (2, [.ref x1, .ref x2, .ref q1, .ref q2, .ref q3, .int 0, .int 0])), (q1, .inl (cI, 8193, .inl (fun _ => 0))), (q2, .inl (cI, 8193, .inl (fun _ => 0))), (q3, .inl (cI, 8193, .inl (fun _ => 0)))] H := hP
  have hD : va_D A [(h, .inr (2, [.ref x1, .ref x2, .ref q1, .ref q2, .ref q3, .int 0, .int 0])), (q1, .inl (cI, 8193, .inl (fun _ => 0))), (q2, .inl (cI, 8193, .inl (fun _ => 0))), (q3, .inl (cI, 8193, .inl (fun _ => 0)))] := hD
  refine W.widen (k := 3) (n := 24579) (Nat.le_of_ble_eq_true rfl) (Nat.le_of_ble_eq_true rfl) ?_
  exact rt_m hx hb hr hlk (fun k => match k with | 1 => q1 | 2 => q2 | 3 => q3 | _ => 0) trivial (hP.sub [0, 1, 2, 3] rfl) (hD.sub [0, 1, 2, 3] (by decide) rfl) hS dX2_init_41

set_option maxHeartbeats 4000000 in
set_option maxRecDepth 100000 in
theorem c_Parser_init (l : Launch) (D : va_G) (cI : ClassId) (sd : Nat → Nat) (h : Nat) (x1 x2 : Nat) : CtrM l D cI sd (fun _ _ => True) yX4_init (wsM yX4_init cX4_init 3 (Option.none : Option Jvm.ClassFile.FieldType)) { frames := 1, cells := 0, slots := 0, locals := 12 } [.ref h, .ref x1, .ref x2] [(h, .inr (4, [.null, .null, .int 0, .int 0, .int 0, .int 0, .int 0, .int 0, .int 0, .int 0, .int 0, .int 0]))] (fun _ => True) (fun qa => [(h, .inr (4, [.ref x1, .ref x2, .int 0, .int 0, .int 0, .int 0, .int 0, .int 0, .int 0, .int 0, .int 0, .int (-1)]))]) 0 0 := by
  refine CtrM.of (cc := cX4_init) (maxL := 3) (own := RX4) (by decide +kernel) rfl rfl (Nat.le_of_ble_eq_true rfl) ?_
  intro p e s m below meth c A ls hx hb hr hml hown hts hlk hK hE hE2 hA hP hD hS hl hin
  have hl : lv_has ls 3 [(0, .ref h), (1, .ref x1), (2, .ref x2)] := hl
  refine lv_aload_n hx hb dX4_init_0 rfl (lv_at hl 0 rfl) ?_
  refine W.objInit hx hb hown (hts _ (inA q396)) (hts _ (inA q194)) (hts _ (inA q195)) rfl (by rw [hml]; exact hl.1) rfl dX4_init_1 (Nat.le_of_ble_eq_true rfl) (Nat.le_of_ble_eq_true rfl) ?_
  refine W.eq (g2 := F0 m 4 ls []) rfl ?_
  refine lv_aload_n hx hb dX4_init_4 rfl (lv_at hl 0 rfl) ?_
  refine lv_iconst (v := (-1)) hx hb dX4_init_5 (by decide) ?_
  refine va_put (D := D) (ci := 4) (v := .int (-1)) (ty := .int) (C := RX4) (T := TX4) (N := 12) hx hb hts layX4 tyX4 tyX4_ok nmX4 hown hK hP hD hS 0 rfl rfl 11 (by decide) (hts _ (inA q409)) (fun _ h9 => h9) rfl (by decide +kernel) rfl rfl (Nat.le_of_ble_eq_true rfl) dX4_init_6 (fun H locs hP hD hS => ?_)
  have hP : va_P D vwCl [(h, .inr (4, [.null, .null, .int 0, .int 0, .int 0, .int 0, .int 0, .int 0, .int 0, .int 0, .int 0, .int (-1)]))] H := hP
  have hD : va_D A [(h, .inr (4, [.null, .null, .int 0, .int 0, .int 0, .int 0, .int 0, .int 0, .int 0, .int 0, .int 0, .int (-1)]))] := hD
  refine lv_aload_n hx hb dX4_init_9 rfl (lv_at hl 0 rfl) ?_
  refine lv_aload_n hx hb dX4_init_10 rfl (lv_at hl 1 rfl) ?_
  refine va_putF (D := D) (ci := 4) (v := .ref x1) (ty := .object "ControlText$Tokens") (C := RX4) (T := TX4) (N := 12) hx hb hts layX4 tyX4 tyX4_ok nmX4 hown hK hP hD hS 0 rfl rfl 0 (by decide) (hts _ (inA q397)) (fun _ h9 => h9) rfl hin rfl (by decide +kernel) rfl rfl (Nat.le_of_ble_eq_true rfl) dX4_init_11 (fun H locs hP hD hS => ?_)
  have hP : va_P D vwCl [(h, .inr (4, [.ref x1, .null, .int 0, .int 0, .int 0, .int 0, .int 0, .int 0, .int 0, .int 0, .int 0, .int (-1)]))] H := hP
  have hD : va_D A [(h, .inr (4, [.ref x1, .null, .int 0, .int 0, .int 0, .int 0, .int 0, .int 0, .int 0, .int 0, .int 0, .int (-1)]))] := hD
  refine lv_aload_n hx hb dX4_init_14 rfl (lv_at hl 0 rfl) ?_
  refine lv_aload_n hx hb dX4_init_15 rfl (lv_at hl 2 rfl) ?_
  refine va_putF (D := D) (ci := 4) (v := .ref x2) (ty := .object "ControlText$Tree") (C := RX4) (T := TX4) (N := 12) hx hb hts layX4 tyX4 tyX4_ok nmX4 hown hK hP hD hS 0 rfl rfl 1 (by decide) (hts _ (inA q398)) (fun _ h9 => h9) rfl hin rfl (by decide +kernel) rfl rfl (Nat.le_of_ble_eq_true rfl) dX4_init_16 (fun H locs hP hD hS => ?_)
  have hP : va_P D vwCl [(h, .inr (4, [.ref x1, .ref x2, .int 0, .int 0, .int 0, .int 0, .int 0, .int 0, .int 0, .int 0, .int 0, .int (-1)]))] H := hP
  have hD : va_D A [(h, .inr (4, [.ref x1, .ref x2, .int 0, .int 0, .int 0, .int 0, .int 0, .int 0, .int 0, .int 0, .int 0, .int (-1)]))] := hD
  refine W.widen (k := 0) (n := 0) (Nat.le_of_ble_eq_true rfl) (Nat.le_of_ble_eq_true rfl) ?_
  exact rt_m hx hb hr hlk (fun _ => 0) trivial (hP.sub [0] rfl) (hD.sub [0] (by decide) rfl) hS dX4_init_19

set_option maxHeartbeats 4000000 in
set_option maxRecDepth 100000 in
theorem c_Writer_init (l : Launch) (D : va_G) (cI : ClassId) (sd : Nat → Nat) (h : Nat) (x1 x2 x3 : Nat) : CtrM l D cI sd (fun _ _ => True) yX5_init (wsM yX5_init cX5_init 4 (Option.none : Option Jvm.ClassFile.FieldType)) { frames := 1, cells := 0, slots := 0, locals := 12 } [.ref h, .ref x1, .ref x2, .ref x3] [(h, .inr (5, [.null, .null, .null]))] (fun _ => True) (fun qa => [(h, .inr (5, [.ref x1, .ref x2, .ref x3]))]) 0 0 := by
  refine CtrM.of (cc := cX5_init) (maxL := 4) (own := RX5) (by decide +kernel) rfl rfl (Nat.le_of_ble_eq_true rfl) ?_
  intro p e s m below meth c A ls hx hb hr hml hown hts hlk hK hE hE2 hA hP hD hS hl hin
  have hl : lv_has ls 4 [(0, .ref h), (1, .ref x1), (2, .ref x2), (3, .ref x3)] := hl
  refine lv_aload_n hx hb dX5_init_0 rfl (lv_at hl 0 rfl) ?_
  refine W.objInit hx hb hown (hts _ (inA q441)) (hts _ (inA q194)) (hts _ (inA q195)) rfl (by rw [hml]; exact hl.1) rfl dX5_init_1 (Nat.le_of_ble_eq_true rfl) (Nat.le_of_ble_eq_true rfl) ?_
  refine W.eq (g2 := F0 m 4 ls []) rfl ?_
  refine lv_aload_n hx hb dX5_init_4 rfl (lv_at hl 0 rfl) ?_
  refine lv_aload_n hx hb dX5_init_5 rfl (lv_at hl 1 rfl) ?_
  refine va_putF (D := D) (ci := 5) (v := .ref x1) (ty := .object "ControlText$Tree") (C := RX5) (T := TX5) (N := 3) hx hb hts layX5 tyX5 tyX5_ok nmX5 hown hK hP hD hS 0 rfl rfl 0 (by decide) (hts _ (inA q442)) (fun _ h9 => h9) rfl hin rfl (by decide +kernel) rfl rfl (Nat.le_of_ble_eq_true rfl) dX5_init_6 (fun H locs hP hD hS => ?_)
  have hP : va_P D vwCl [(h, .inr (5, [.ref x1, .null, .null]))] H := hP
  have hD : va_D A [(h, .inr (5, [.ref x1, .null, .null]))] := hD
  refine lv_aload_n hx hb dX5_init_9 rfl (lv_at hl 0 rfl) ?_
  refine lv_aload_n hx hb dX5_init_10 rfl (lv_at hl 2 rfl) ?_
  refine va_putF (D := D) (ci := 5) (v := .ref x2) (ty := .object "ControlText$Names") (C := RX5) (T := TX5) (N := 3) hx hb hts layX5 tyX5 tyX5_ok nmX5 hown hK hP hD hS 0 rfl rfl 1 (by decide) (hts _ (inA q443)) (fun _ h9 => h9) rfl hin rfl (by decide +kernel) rfl rfl (Nat.le_of_ble_eq_true rfl) dX5_init_11 (fun H locs hP hD hS => ?_)
  have hP : va_P D vwCl [(h, .inr (5, [.ref x1, .ref x2, .null]))] H := hP
  have hD : va_D A [(h, .inr (5, [.ref x1, .ref x2, .null]))] := hD
  refine lv_aload_n hx hb dX5_init_14 rfl (lv_at hl 0 rfl) ?_
  refine lv_aload_n hx hb dX5_init_15 rfl (lv_at hl 3 rfl) ?_
  refine va_putF (D := D) (ci := 5) (v := .ref x3) (ty := .object "ControlText$Bytes") (C := RX5) (T := TX5) (N := 3) hx hb hts layX5 tyX5 tyX5_ok nmX5 hown hK hP hD hS 0 rfl rfl 2 (by decide) (hts _ (inA q444)) (fun _ h9 => h9) rfl hin rfl (by decide +kernel) rfl rfl (Nat.le_of_ble_eq_true rfl) dX5_init_16 (fun H locs hP hD hS => ?_)
  have hP : va_P D vwCl [(h, .inr (5, [.ref x1, .ref x2, .ref x3]))] H := hP
  have hD : va_D A [(h, .inr (5, [.ref x1, .ref x2, .ref x3]))] := hD
  refine W.widen (k := 0) (n := 0) (Nat.le_of_ble_eq_true rfl) (Nat.le_of_ble_eq_true rfl) ?_
  exact rt_m hx hb hr hlk (fun _ => 0) trivial (hP.sub [0] rfl) (hD.sub [0] (by decide) rfl) hS dX5_init_19
