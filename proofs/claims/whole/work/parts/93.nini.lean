/-! The names' constructor. -/
/-- all six String constants -/
def ENm (v : Value) (ss sv : Nat → Nat) (A : Nat → Prop) (U : State) : Prop :=
  (ESt v (ss 0) (sv 0) sW0 A U ∧ ESt v (ss 1) (sv 1) sW1 A U ∧ ESt v (ss 2) (sv 2) sW2 A U ∧ ESt v (ss 3) (sv 3) sW3 A U ∧ ESt v (ss 4) (sv 4) sW4 A U ∧ ESt v (ss 5) (sv 5) sW5 A U) ∧
  vk_R RX1 26 "FUNCTION END_FUNCTION FUNCTION_BLOCK END_FUNCTION_BLOCK PROGRAM END_PROGRAM" (ss 0) U ∧ vk_R RX1 32 "VAR VAR_INPUT VAR_OUTPUT END_VAR AT BOOL INT DINT ARRAY OF" (ss 1) U ∧ vk_R RX1 34 "IF THEN ELSIF ELSE END_IF CASE END_CASE" (ss 2) U ∧ vk_R RX1 36 "FOR TO BY DO END_FOR EXIT RETURN" (ss 3) U ∧ vk_R RX1 38 "OR XOR AND MOD NOT TRUE FALSE" (ss 4) U ∧ vk_R RX1 40 "LADDER END_LADDER RUNG END_RUNG" (ss 5) U
theorem ENm.ok (v : Value) (ss sv : Nat → Nat) : EvOk (ENm v ss sv) := by
  refine ⟨fun A A1 s U hW hq hA h => ?_, fun A s U hv hh h => ?_⟩
  · obtain ⟨⟨h0, h1, h2, h3, h4, h5⟩, r0, r1, r2, r3, r4, r5⟩ := h
    exact ⟨⟨(ESt.ok _ _ _ _).1 A A1 s U hW hq hA h0, (ESt.ok _ _ _ _).1 A A1 s U hW hq hA h1, (ESt.ok _ _ _ _).1 A A1 s U hW hq hA h2, (ESt.ok _ _ _ _).1 A A1 s U hW hq hA h3, (ESt.ok _ _ _ _).1 A A1 s U hW hq hA h4, (ESt.ok _ _ _ _).1 A A1 s U hW hq hA h5⟩, r0.warm hW, r1.warm hW, r2.warm hW, r3.warm hW, r4.warm hW, r5.warm hW⟩
  · obtain ⟨⟨h0, h1, h2, h3, h4, h5⟩, r0, r1, r2, r3, r4, r5⟩ := h
    exact ⟨⟨(ESt.ok _ _ _ _).2 A s U hv hh h0, (ESt.ok _ _ _ _).2 A s U hv hh h1, (ESt.ok _ _ _ _).2 A s U hv hh h2, (ESt.ok _ _ _ _).2 A s U hv hh h3, (ESt.ok _ _ _ _).2 A s U hv hh h4, (ESt.ok _ _ _ _).2 A s U hv hh h5⟩, r0.same hv.symm, r1.same hv.symm, r2.same hv.symm, r3.same hv.symm, r4.same hv.symm, r5.same hv.symm⟩
theorem dX1_init_0 : decode cX1_init 0 = .ok (.aload_n 0, 1) := by decide +kernel
theorem dX1_init_1 : decode cX1_init 1 = .ok (.invokespecial 5, 3) := by decide +kernel
theorem dX1_init_4 : decode cX1_init 4 = .ok (.aload_n 0, 1) := by decide +kernel
theorem dX1_init_5 : decode cX1_init 5 = .ok (.sipush 8704, 3) := by decide +kernel
theorem dX1_init_8 : decode cX1_init 8 = .ok (.newarray .int, 2) := by decide +kernel
theorem dX1_init_10 : decode cX1_init 10 = .ok (.putfield 11, 3) := by decide +kernel
theorem dX1_init_13 : decode cX1_init 13 = .ok (.aload_n 0, 1) := by decide +kernel
theorem dX1_init_14 : decode cX1_init 14 = .ok (.sipush 4138, 3) := by decide +kernel
theorem dX1_init_17 : decode cX1_init 17 = .ok (.newarray .int, 2) := by decide +kernel
theorem dX1_init_19 : decode cX1_init 19 = .ok (.putfield 17, 3) := by decide +kernel
theorem dX1_init_22 : decode cX1_init 22 = .ok (.aload_n 0, 1) := by decide +kernel
theorem dX1_init_23 : decode cX1_init 23 = .ok (.sipush 4137, 3) := by decide +kernel
theorem dX1_init_26 : decode cX1_init 26 = .ok (.newarray .int, 2) := by decide +kernel
theorem dX1_init_28 : decode cX1_init 28 = .ok (.putfield 20, 3) := by decide +kernel
theorem dX1_init_31 : decode cX1_init 31 = .ok (.aload_n 0, 1) := by decide +kernel
theorem dX1_init_32 : decode cX1_init 32 = .ok (.sipush 8192, 3) := by decide +kernel
theorem dX1_init_35 : decode cX1_init 35 = .ok (.newarray .int, 2) := by decide +kernel
theorem dX1_init_37 : decode cX1_init 37 = .ok (.putfield 23, 3) := by decide +kernel
theorem dX1_init_40 : decode cX1_init 40 = .ok (.aload_n 0, 1) := by decide +kernel
theorem dX1_init_41 : decode cX1_init 41 = .ok (.ldc 26, 2) := by decide +kernel
theorem dX1_init_43 : decode cX1_init 43 = .ok (.invokevirtual 28, 3) := by decide +kernel
theorem dX1_init_46 : decode cX1_init 46 = .ok (.aload_n 0, 1) := by decide +kernel
theorem dX1_init_47 : decode cX1_init 47 = .ok (.ldc 32, 2) := by decide +kernel
theorem dX1_init_49 : decode cX1_init 49 = .ok (.invokevirtual 28, 3) := by decide +kernel
theorem dX1_init_52 : decode cX1_init 52 = .ok (.aload_n 0, 1) := by decide +kernel
theorem dX1_init_53 : decode cX1_init 53 = .ok (.ldc 34, 2) := by decide +kernel
theorem dX1_init_55 : decode cX1_init 55 = .ok (.invokevirtual 28, 3) := by decide +kernel
theorem dX1_init_58 : decode cX1_init 58 = .ok (.aload_n 0, 1) := by decide +kernel
theorem dX1_init_59 : decode cX1_init 59 = .ok (.ldc 36, 2) := by decide +kernel
theorem dX1_init_61 : decode cX1_init 61 = .ok (.invokevirtual 28, 3) := by decide +kernel
theorem dX1_init_64 : decode cX1_init 64 = .ok (.aload_n 0, 1) := by decide +kernel
theorem dX1_init_65 : decode cX1_init 65 = .ok (.ldc 38, 2) := by decide +kernel
theorem dX1_init_67 : decode cX1_init 67 = .ok (.invokevirtual 28, 3) := by decide +kernel
theorem dX1_init_70 : decode cX1_init 70 = .ok (.aload_n 0, 1) := by decide +kernel
theorem dX1_init_71 : decode cX1_init 71 = .ok (.ldc 40, 2) := by decide +kernel
theorem dX1_init_73 : decode cX1_init 73 = .ok (.invokevirtual 28, 3) := by decide +kernel
theorem dX1_init_76 : decode cX1_init 76 = .ok (.return_, 1) := by decide +kernel
set_option maxHeartbeats 4000000 in
set_option maxRecDepth 100000 in
theorem c_Names_init (l : Launch) (D : va_G) (cI : ClassId) (sd : Nat → Nat) (h : Nat) (v : Value) (hv : v = .null ∨ ∃ a, v = .ref a) (ss sv : Nat → Nat) (res : S_Names) (hM : f_Names_init = some res) : CtrM l D cI sd (ENm v ss sv) yX1_init (wsM yX1_init cX1_init 1 (Option.none : Option Jvm.ClassFile.FieldType)) { frames := 5, cells := 4, slots := 25171, locals := 107 } [.ref h] [(h, .inr (1, [.null, .null, .null, .null, .int 0, .int 0]))] (fun _ => True) (fun qa => [(h, .inr (1, [.ref (qa 1), .ref (qa 2), .ref (qa 3), .ref (qa 4), .int res.1, .int res.2.1])), (qa 1, .inl (cI, 8704, .inl res.2.2.1)), (qa 2, .inl (cI, 4138, .inl res.2.2.2.1)), (qa 3, .inl (cI, 4137, .inl res.2.2.2.2.1)), (qa 4, .inl (cI, 8192, .inl res.2.2.2.2.2))]) 4 25171 := by
  refine CtrM.of (cc := cX1_init) (maxL := 1) (own := RX1) (by decide +kernel) rfl rfl (Nat.le_of_ble_eq_true rfl) ?_
  intro p e s m below meth c A ls hx hb hr hml hown hts hlk hK hE hE2 hA hP hD hS hl hin
  have hl : lv_has ls 1 [(0, .ref h)] := hl
  refine lv_aload_n hx hb dX1_init_0 rfl (lv_at hl 0 rfl) ?_
  refine W.objInit hx hb hown (hts _ (inA q218)) (hts _ (inA q194)) (hts _ (inA q195)) rfl (by rw [hml]; exact hl.1) rfl dX1_init_1 (Nat.le_of_ble_eq_true rfl) (Nat.le_of_ble_eq_true rfl) ?_
  refine W.eq (g2 := F0 m 4 ls []) rfl ?_
  refine lv_aload_n hx hb dX1_init_4 rfl (lv_at hl 0 rfl) ?_
  refine lv_sipush (v := 8704) hx hb dX1_init_5 (by decide) ?_
  refine cl_newi hx hb (hts _ (inA q212)) hK hP hD hS hA 8704 (by decide) (by decide) (by decide) (Nat.le_of_ble_eq_true rfl) (Nat.le_of_ble_eq_true rfl) dX1_init_8 (fun q1 H hP hD hS => ?_)
  have hP : va_P D vwCl [(h, .inr (1, [.null, .null, .null, .null, .int 0, .int 0])), (q1, .inl (cI, 8704, .inl (fun _ => 0)))] H := hP
  have hD : va_D A [(h, .inr (1, [.null, .null, .null, .null, .int 0, .int 0])), (q1, .inl (cI, 8704, .inl (fun _ => 0)))] := hD
  refine va_putF (D := D) (ci := 1) (v := .ref q1) (ty := .array .int) (C := RX1) (T := TX1) (N := 6) hx hb hts layX1 tyX1 tyX1_ok nmX1 hown hK hP hD hS 0 rfl rfl 0 (by decide) (hts _ (inA q304)) (fun _ h9 => h9) rfl hin rfl (by decide +kernel) rfl rfl (Nat.le_of_ble_eq_true rfl) dX1_init_10 (fun H locs hP hD hS => ?_)
  have hP : va_P D vwCl [(h, .inr (1, [.ref q1, .null, .null, .null, .int 0, .int 0])), (q1, .inl (cI, 8704, .inl (fun _ => 0)))] H := hP
  have hD : va_D A [(h, .inr (1, [.ref q1, .null, .null, .null, .int 0, .int 0])), (q1, .inl (cI, 8704, .inl (fun _ => 0)))] := hD
  refine lv_aload_n hx hb dX1_init_13 rfl (lv_at hl 0 rfl) ?_
  refine lv_sipush (v := 4138) hx hb dX1_init_14 (by decide) ?_
  refine cl_newi hx hb (hts _ (inA q212)) hK hP hD hS hA 4138 (by decide) (by decide) (by decide) (Nat.le_of_ble_eq_true rfl) (Nat.le_of_ble_eq_true rfl) dX1_init_17 (fun q2 H hP hD hS => ?_)
  have hP : va_P D vwCl [(h, .inr (1, [.ref q1, .null, .null, .null, .int 0, .int 0])), (q1, .inl (cI, 8704, .inl (fun _ => 0))), (q2, .inl (cI, 4138, .inl (fun _ => 0)))] H := hP
  have hD : va_D A [(h, .inr (1, [.ref q1, .null, .null, .null, .int 0, .int 0])), (q1, .inl (cI, 8704, .inl (fun _ => 0))), (q2, .inl (cI, 4138, .inl (fun _ => 0)))] := hD
  refine va_putF (D := D) (ci := 1) (v := .ref q2) (ty := .array .int) (C := RX1) (T := TX1) (N := 6) hx hb hts layX1 tyX1 tyX1_ok nmX1 hown hK hP hD hS 0 rfl rfl 1 (by decide) (hts _ (inA q305)) (fun _ h9 => h9) rfl hin rfl (by decide +kernel) rfl rfl (Nat.le_of_ble_eq_true rfl) dX1_init_19 (fun H locs hP hD hS => ?_)
  have hP : va_P D vwCl [(h, .inr (1, [.ref q1, .ref q2, .null, .null, .int 0, .int 0])), (q1, .inl (cI, 8704, .inl (fun _ => 0))), (q2, .inl (cI, 4138, .inl (fun _ => 0)))] H := hP
  have hD : va_D A [(h, .inr (1, [.ref q1, .ref q2, .null, .null, .int 0, .int 0])), (q1, .inl (cI, 8704, .inl (fun _ => 0))), (q2, .inl (cI, 4138, .inl (fun _ => 0)))] := hD
  refine lv_aload_n hx hb dX1_init_22 rfl (lv_at hl 0 rfl) ?_
  refine lv_sipush (v := 4137) hx hb dX1_init_23 (by decide) ?_
  refine cl_newi hx hb (hts _ (inA q212)) hK hP hD hS hA 4137 (by decide) (by decide) (by decide) (Nat.le_of_ble_eq_true rfl) (Nat.le_of_ble_eq_true rfl) dX1_init_26 (fun q3 H hP hD hS => ?_)
  have hP : va_P D vwCl [(h, .inr (1, [.ref q1, .ref q2, .null, .null, .int 0, .int 0])), (q1, .inl (cI, 8704, .inl (fun _ => 0))), (q2, .inl (cI, 4138, .inl (fun _ => 0))), (q3, .inl (cI, 4137, .inl (fun _ => 0)))] H := hP
  have hD : va_D A [(h, .inr (1, [.ref q1, .ref q2, .null, .null, .int 0, .int 0])), (q1, .inl (cI, 8704, .inl (fun _ => 0))), (q2, .inl (cI, 4138, .inl (fun _ => 0))), (q3, .inl (cI, 4137, .inl (fun _ => 0)))] := hD
  refine va_putF (D := D) (ci := 1) (v := .ref q3) (ty := .array .int) (C := RX1) (T := TX1) (N := 6) hx hb hts layX1 tyX1 tyX1_ok nmX1 hown hK hP hD hS 0 rfl rfl 2 (by decide) (hts _ (inA q306)) (fun _ h9 => h9) rfl hin rfl (by decide +kernel) rfl rfl (Nat.le_of_ble_eq_true rfl) dX1_init_28 (fun H locs hP hD hS => ?_)
  have hP : va_P D vwCl [(h, .inr (1, [.ref q1, .ref q2, .ref q3, .null, .int 0, .int 0])), (q1, .inl (cI, 8704, .inl (fun _ => 0))), (q2, .inl (cI, 4138, .inl (fun _ => 0))), (q3, .inl (cI, 4137, .inl (fun _ => 0)))] H := hP
  have hD : va_D A [(h, .inr (1, [.ref q1, .ref q2, .ref q3, .null, .int 0, .int 0])), (q1, .inl (cI, 8704, .inl (fun _ => 0))), (q2, .inl (cI, 4138, .inl (fun _ => 0))), (q3, .inl (cI, 4137, .inl (fun _ => 0)))] := hD
  refine lv_aload_n hx hb dX1_init_31 rfl (lv_at hl 0 rfl) ?_
  refine lv_sipush (v := 8192) hx hb dX1_init_32 (by decide) ?_
  refine cl_newi hx hb (hts _ (inA q212)) hK hP hD hS hA 8192 (by decide) (by decide) (by decide) (Nat.le_of_ble_eq_true rfl) (Nat.le_of_ble_eq_true rfl) dX1_init_35 (fun q4 H hP hD hS => ?_)
  have hP : va_P D vwCl [(h, .inr (1, [.ref q1, .ref q2, .ref q3, .null, .int 0, .int 0])), (q1, .inl (cI, 8704, .inl (fun _ => 0))), (q2, .inl (cI, 4138, .inl (fun _ => 0))), (q3, .inl (cI, 4137, .inl (fun _ => 0))), (q4, .inl (cI, 8192, .inl (fun _ => 0)))] H := hP
  have hD : va_D A [(h, .inr (1, [.ref q1, .ref q2, .ref q3, .null, .int 0, .int 0])), (q1, .inl (cI, 8704, .inl (fun _ => 0))), (q2, .inl (cI, 4138, .inl (fun _ => 0))), (q3, .inl (cI, 4137, .inl (fun _ => 0))), (q4, .inl (cI, 8192, .inl (fun _ => 0)))] := hD
  refine va_putF (D := D) (ci := 1) (v := .ref q4) (ty := .array .int) (C := RX1) (T := TX1) (N := 6) hx hb hts layX1 tyX1 tyX1_ok nmX1 hown hK hP hD hS 0 rfl rfl 3 (by decide) (hts _ (inA q307)) (fun _ h9 => h9) rfl hin rfl (by decide +kernel) rfl rfl (Nat.le_of_ble_eq_true rfl) dX1_init_37 (fun H locs hP hD hS => ?_)
  have hP : va_P D vwCl [(h, .inr (1, [.ref q1, .ref q2, .ref q3, .ref q4, .int 0, .int 0])), (q1, .inl (cI, 8704, .inl (fun _ => 0))), (q2, .inl (cI, 4138, .inl (fun _ => 0))), (q3, .inl (cI, 4137, .inl (fun _ => 0))), (q4, .inl (cI, 8192, .inl (fun _ => 0)))] H := hP
  have hD : va_D A [(h, .inr (1, [.ref q1, .ref q2, .ref q3, .ref q4, .int 0, .int 0])), (q1, .inl (cI, 8704, .inl (fun _ => 0))), (q2, .inl (cI, 4138, .inl (fun _ => 0))), (q3, .inl (cI, 4137, .inl (fun _ => 0))), (q4, .inl (cI, 8192, .inl (fun _ => 0)))] := hD
  unfold f_Names_init at hM
  have hP9 : va_P D vwCl (wN cI (fun k => match k with | 5 => h | 6 => q1 | 7 => q2 | 8 => q3 | 9 => q4 | _ => 0) zN) H := hP
  have hD9 : va_D A (wN cI (fun k => match k with | 5 => h | 6 => q1 | 7 => q2 | 8 => q3 | 9 => q4 | _ => 0) zN) := hD
  generalize hAD : (fun k => match k with | 5 => h | 6 => q1 | 7 => q2 | 8 => q3 | 9 => q4 | _ => 0) = ad at hP9 hD9
  have e5 : ad 5 = h := by subst hAD; rfl
  clear hAD
  subst e5
  obtain ⟨o1, hc1, hM⟩ := ob_use hM
  refine lv_aload_n hx hb dX1_init_40 rfl (lv_at hl 0 rfl) ?_
  refine va_ldcS (q := ss 0) hx hb hown hE2.2.1 dX1_init_41 ?_
  refine cl_VE (As := [.ref (ss 0)]) (rest := []) (wN cI ad o1) [] ⟨hx, hb, hml, hown, hts⟩ (ESt.ok v (ss 0) (sv 0) sW0) (c_Names_addWords l D cI sd v (ss 0) (sv 0) sW0 ad zN o1 hv (by decide) ascW0 hc1) (cwV2 hts q220 mvX1_addWords rfl rfl ⟨(Nat.le_of_ble_eq_true rfl), (Nat.le_of_ble_eq_true rfl)⟩) hK hE hE2.1.1 hA hP9 hD9 hS (va_recv (q := (RX1, TX1, 6)) (ci := 1) (q0 := 0) hK hP9 rfl rfl) [0, 1, 2, 3, 4] rfl (by decide) rfl rfl rfl rfl rfl rfl hl.1 (Nat.le_of_ble_eq_true rfl) dX1_init_43 ⟨(Nat.le_of_ble_eq_true rfl), (Nat.le_of_ble_eq_true rfl)⟩ (fun H locs hP hD hS => ?_)
  obtain ⟨o2, hc2, hM⟩ := ob_use hM
  refine lv_aload_n hx hb dX1_init_46 rfl (lv_at hl 0 rfl) ?_
  refine va_ldcS (q := ss 1) hx hb hown hE2.2.2.1 dX1_init_47 ?_
  refine cl_VE (As := [.ref (ss 1)]) (rest := []) (wN cI ad o2) [] ⟨hx, hb, hml, hown, hts⟩ (ESt.ok v (ss 1) (sv 1) sW1) (c_Names_addWords l D cI sd v (ss 1) (sv 1) sW1 ad o1 o2 hv (by decide) ascW1 hc2) (cwV2 hts q220 mvX1_addWords rfl rfl ⟨(Nat.le_of_ble_eq_true rfl), (Nat.le_of_ble_eq_true rfl)⟩) hK hE hE2.1.2.1 hA hP hD hS (va_recv (q := (RX1, TX1, 6)) (ci := 1) (q0 := 0) hK hP rfl rfl) [0, 1, 2, 3, 4] rfl (by decide) rfl rfl rfl rfl rfl rfl hl.1 (Nat.le_of_ble_eq_true rfl) dX1_init_49 ⟨(Nat.le_of_ble_eq_true rfl), (Nat.le_of_ble_eq_true rfl)⟩ (fun H locs hP hD hS => ?_)
  obtain ⟨o3, hc3, hM⟩ := ob_use hM
  refine lv_aload_n hx hb dX1_init_52 rfl (lv_at hl 0 rfl) ?_
  refine va_ldcS (q := ss 2) hx hb hown hE2.2.2.2.1 dX1_init_53 ?_
  refine cl_VE (As := [.ref (ss 2)]) (rest := []) (wN cI ad o3) [] ⟨hx, hb, hml, hown, hts⟩ (ESt.ok v (ss 2) (sv 2) sW2) (c_Names_addWords l D cI sd v (ss 2) (sv 2) sW2 ad o2 o3 hv (by decide) ascW2 hc3) (cwV2 hts q220 mvX1_addWords rfl rfl ⟨(Nat.le_of_ble_eq_true rfl), (Nat.le_of_ble_eq_true rfl)⟩) hK hE hE2.1.2.2.1 hA hP hD hS (va_recv (q := (RX1, TX1, 6)) (ci := 1) (q0 := 0) hK hP rfl rfl) [0, 1, 2, 3, 4] rfl (by decide) rfl rfl rfl rfl rfl rfl hl.1 (Nat.le_of_ble_eq_true rfl) dX1_init_55 ⟨(Nat.le_of_ble_eq_true rfl), (Nat.le_of_ble_eq_true rfl)⟩ (fun H locs hP hD hS => ?_)
  obtain ⟨o4, hc4, hM⟩ := ob_use hM
  refine lv_aload_n hx hb dX1_init_58 rfl (lv_at hl 0 rfl) ?_
  refine va_ldcS (q := ss 3) hx hb hown hE2.2.2.2.2.1 dX1_init_59 ?_
  refine cl_VE (As := [.ref (ss 3)]) (rest := []) (wN cI ad o4) [] ⟨hx, hb, hml, hown, hts⟩ (ESt.ok v (ss 3) (sv 3) sW3) (c_Names_addWords l D cI sd v (ss 3) (sv 3) sW3 ad o3 o4 hv (by decide) ascW3 hc4) (cwV2 hts q220 mvX1_addWords rfl rfl ⟨(Nat.le_of_ble_eq_true rfl), (Nat.le_of_ble_eq_true rfl)⟩) hK hE hE2.1.2.2.2.1 hA hP hD hS (va_recv (q := (RX1, TX1, 6)) (ci := 1) (q0 := 0) hK hP rfl rfl) [0, 1, 2, 3, 4] rfl (by decide) rfl rfl rfl rfl rfl rfl hl.1 (Nat.le_of_ble_eq_true rfl) dX1_init_61 ⟨(Nat.le_of_ble_eq_true rfl), (Nat.le_of_ble_eq_true rfl)⟩ (fun H locs hP hD hS => ?_)
  obtain ⟨o5, hc5, hM⟩ := ob_use hM
  refine lv_aload_n hx hb dX1_init_64 rfl (lv_at hl 0 rfl) ?_
  refine va_ldcS (q := ss 4) hx hb hown hE2.2.2.2.2.2.1 dX1_init_65 ?_
  refine cl_VE (As := [.ref (ss 4)]) (rest := []) (wN cI ad o5) [] ⟨hx, hb, hml, hown, hts⟩ (ESt.ok v (ss 4) (sv 4) sW4) (c_Names_addWords l D cI sd v (ss 4) (sv 4) sW4 ad o4 o5 hv (by decide) ascW4 hc5) (cwV2 hts q220 mvX1_addWords rfl rfl ⟨(Nat.le_of_ble_eq_true rfl), (Nat.le_of_ble_eq_true rfl)⟩) hK hE hE2.1.2.2.2.2.1 hA hP hD hS (va_recv (q := (RX1, TX1, 6)) (ci := 1) (q0 := 0) hK hP rfl rfl) [0, 1, 2, 3, 4] rfl (by decide) rfl rfl rfl rfl rfl rfl hl.1 (Nat.le_of_ble_eq_true rfl) dX1_init_67 ⟨(Nat.le_of_ble_eq_true rfl), (Nat.le_of_ble_eq_true rfl)⟩ (fun H locs hP hD hS => ?_)
  refine lv_aload_n hx hb dX1_init_70 rfl (lv_at hl 0 rfl) ?_
  refine va_ldcS (q := ss 5) hx hb hown hE2.2.2.2.2.2.2 dX1_init_71 ?_
  refine cl_VE (As := [.ref (ss 5)]) (rest := []) (wN cI ad res) [] ⟨hx, hb, hml, hown, hts⟩ (ESt.ok v (ss 5) (sv 5) sW5) (c_Names_addWords l D cI sd v (ss 5) (sv 5) sW5 ad o5 res hv (by decide) ascW5 hM) (cwV2 hts q220 mvX1_addWords rfl rfl ⟨(Nat.le_of_ble_eq_true rfl), (Nat.le_of_ble_eq_true rfl)⟩) hK hE hE2.1.2.2.2.2.2 hA hP hD hS (va_recv (q := (RX1, TX1, 6)) (ci := 1) (q0 := 0) hK hP rfl rfl) [0, 1, 2, 3, 4] rfl (by decide) rfl rfl rfl rfl rfl rfl hl.1 (Nat.le_of_ble_eq_true rfl) dX1_init_73 ⟨(Nat.le_of_ble_eq_true rfl), (Nat.le_of_ble_eq_true rfl)⟩ (fun H locs hP hD hS => ?_)
  refine W.widen (k := 4) (n := 25171) (Nat.le_of_ble_eq_true rfl) (Nat.le_of_ble_eq_true rfl) ?_
  exact rt_m hx hb hr hlk (fun k => ad (k + 5)) trivial hP hD hS dX1_init_76
