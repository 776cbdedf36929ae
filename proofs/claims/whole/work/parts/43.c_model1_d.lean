set_option maxHeartbeats 4000000 in
set_option maxRecDepth 100000 in
theorem c_Model_digits (l : Launch) (D : va_G) (cI : ClassId) (sd : Nat → Nat) (ad : Nat → Nat) (o_C : S_MC) (o_N : S_MN) (o_T : S_MT) (o_U : S_MU) (o_O : S_MO) (o_E : S_ME) (o_Q : S_MQ) (o_V : S_MV) (o_I : S_MI) (o_X : S_MX) (o_L : S_ML) (a1 : Int32) (res : Int64 × S_ML) (hM : f_Model_digits o_X o_L a1 = some res) : Ctr l D cI sd yX8_digits (wsM yX8_digits cX8_digits 5 (Option.some Jvm.ClassFile.FieldType.long)) { frames := 2, cells := 0, slots := 0, locals := 41 } [.ref (ad 100), .int a1] (wM_XL cI ad o_X o_L o_N o_T o_U o_O o_E o_Q o_V o_I) (wM_XL cI ad o_X res.2 o_N o_T o_U o_O o_E o_Q o_V o_I) (some (.long res.1)) := by
  refine Ctr.of (cc := cX8_digits) (maxL := 5) (own := RX8) (by decide +kernel) rfl rfl (Nat.le_of_ble_eq_true rfl) ?_
  intro p e s m below meth c A ls hx hb hr hml hown hts hlk hK hE hA hP hD hS hl
  have hl : lv_has ls 5 [(0, .ref (ad 100)), (1, .int a1)] := hl
  unfold f_Model_digits at hM
  refine lv_lconst (v := 0) hx hb dX8_digits_0 (by decide) ?_
  refine lv_lstore_n (lv' := [(2, .long 0), (0, .ref (ad 100)), (1, .int a1)]) hx hb dX8_digits_1 rfl hl (by decide) rfl (fun ls hl => ?_)
  refine lv_aload_n hx hb dX8_digits_2 rfl (lv_at hl 1 rfl) ?_
  refine va_get (D := D) (ci := 8) (v := .int o_L.2.2.2.1) (C := RX8) (T := TX8) (N := 48) hx hb hts layX8 hown hK hP 0 rfl rfl 9 (by decide) (hts _ (inA q987)) (fun _ h9 => h9) rfl dX8_digits_3 ?_
  refine lv_istore (lv' := [(4, .int o_L.2.2.2.1), (2, .long 0), (0, .ref (ad 100)), (1, .int a1)]) hx hb dX8_digits_6 hl (by decide) rfl (fun ls hl => ?_)
  have lp_L8 : ∀ (w4_L8 : Int32) (w1_L8 : Int32) (o_X_L8 : S_MX) (n : Nat) (v2_L8 : Int64) (o_L_L8 : S_ML) (out_L8 : Int64 × S_ML) (H : Heap) (locs : List Loc) (ls : Array Slot), f_Model_digits_L8 w1_L8 o_X_L8 n v2_L8 o_L_L8 = some out_L8 → va_P D vwCl (wM_XL cI ad o_X_L8 o_L_L8 o_N o_T o_U o_O o_E o_Q o_V o_I) H → va_D A (wM_XL cI ad o_X_L8 o_L_L8 o_N o_T o_U o_O o_E o_Q o_V o_I) → va_S A s.heap H locs → lv_has ls 5 [(4, .int w4_L8), (2, .long v2_L8), (0, .ref (ad 100)), (1, .int w1_L8)] → (∀ (H : Heap) (locs : List Loc) (ls : Array Slot), va_P D vwCl (wM_XL cI ad o_X_L8 out_L8.2 o_N o_T o_U o_O o_E o_Q o_V o_I) H → va_D A (wM_XL cI ad o_X_L8 out_L8.2 o_N o_T o_U o_O o_E o_Q o_V o_I) → va_S A s.heap H locs → lv_has ls 5 [(4, .int w4_L8), (2, .long out_L8.1), (0, .ref (ad 100)), (1, .int w1_L8)] → W p l e { frames := 2, cells := 0, slots := 0, locals := 41 } s m [.ref (ad 100), .int a1].toArray below meth c H locs 0 0 (MQ below (CQ D A (wM_XL cI ad o_X res.2 o_N o_T o_U o_O o_E o_Q o_V o_I) (some (.long res.1))) [.ref (ad 100), .int a1].toArray s 0 0 A) (F0 m 83 ls [])) → W p l e { frames := 2, cells := 0, slots := 0, locals := 41 } s m [.ref (ad 100), .int a1].toArray below meth c H locs 0 0 (MQ below (CQ D A (wM_XL cI ad o_X res.2 o_N o_T o_U o_O o_E o_Q o_V o_I) (some (.long res.1))) [.ref (ad 100), .int a1].toArray s 0 0 A) (F0 m 8 ls []) := by
    intro w4_L8 w1_L8 o_X_L8 n
    induction n with
    | zero => intro v2_L8 o_L_L8 out_L8 H locs ls hM; exact absurd (show none = some _ from hM) (by simp)
    | succ n ih_L8 =>
      intro v2_L8 o_L_L8 out_L8 H locs ls hM hP hD hS hl kx_L8
      rw [f_Model_digits_L8] at hM
      refine lv_aload_n hx hb dX8_digits_8 rfl (lv_at hl 2 rfl) ?_
      refine va_get (D := D) (ci := 8) (v := .int o_L_L8.2.2.2.1) (C := RX8) (T := TX8) (N := 48) hx hb hts layX8 hown hK hP 0 rfl rfl 9 (by decide) (hts _ (inA q987)) (fun _ h9 => h9) rfl dX8_digits_9 ?_
      refine lv_aload_n hx hb dX8_digits_12 rfl (lv_at hl 2 rfl) ?_
      refine va_get (D := D) (ci := 8) (v := .int o_X_L8.1) (C := RX8) (T := TX8) (N := 48) hx hb hts layX8 hown hK hP 0 rfl rfl 4 (by decide) (hts _ (inA q982)) (fun _ h9 => h9) rfl dX8_digits_13 ?_
      refine lv_icmp_ge (tgt := 83) hx hb dX8_digits_16 (by decide) (fun c1181 => ?_) (fun c1181 => ?_)
      · replace hM := if_t c1181 hM
        cases hM
        exact kx_L8 _ _ _ hP hD hS (lv_sub hl [0, 1, 2, 3] rfl)
      · replace hM := if_f c1181 hM
        refine lv_aload_n hx hb dX8_digits_19 rfl (lv_at hl 2 rfl) ?_
        refine va_get (D := D) (ci := 8) (v := .ref (ad 105)) (C := RX8) (T := TX8) (N := 48) hx hb hts layX8 hown hK hP 0 rfl rfl 5 (by decide) (hts _ (inA q983)) (fun _ h9 => h9) rfl dX8_digits_20 ?_
        refine lv_aload_n hx hb dX8_digits_23 rfl (lv_at hl 2 rfl) ?_
        refine va_get (D := D) (ci := 8) (v := .int o_L_L8.2.2.2.1) (C := RX8) (T := TX8) (N := 48) hx hb hts layX8 hown hK hP 0 rfl rfl 9 (by decide) (hts _ (inA q987)) (fun _ h9 => h9) rfl dX8_digits_24 ?_
        obtain ⟨b1182, hM⟩ := gd_use hM
        refine va_iald hx hb hK hP 1 0 rfl rfl b1182 dX8_digits_27 ?_
        obtain ⟨r1183, hcr1183, hM⟩ := ob_use hM
        refine cl_S (As := [.int (o_X_L8.2 o_L_L8.2.2.2.1.toNatClampNeg)]) (rest := []) (wM_XL cI ad o_X_L8 o_L_L8 o_N o_T o_U o_O o_E o_Q o_V o_I) (.int r1183 :: []) ⟨hx, hb, hml, hown, hts⟩ (c_Model_digitOf l D cI sd ad (o_X_L8.2 o_L_L8.2.2.2.1.toNatClampNeg) r1183 hcr1183) (cwS2 hts q1175 mvX8_digitOf rfl rfl ⟨(Nat.le_of_ble_eq_true rfl), (Nat.le_of_ble_eq_true rfl)⟩) hK hE hA hP hD hS [] rfl (by decide) rfl rfl rfl rfl rfl rfl hl.1 (Nat.le_of_ble_eq_true rfl) dX8_digits_28 ⟨Nat.zero_le _, Nat.zero_le _⟩ (fun H locs hP hD hS => ?_)
        refine lv_iload_n hx hb dX8_digits_31 rfl (lv_at hl 3 rfl) ?_
        refine lv_icmp_ge (tgt := 83) hx hb dX8_digits_32 (by decide) (fun c1184 => ?_) (fun c1184 => ?_)
        · replace hM := if_t c1184 hM
          cases hM
          exact kx_L8 _ _ _ hP hD hS (lv_sub hl [0, 1, 2, 3] rfl)
        · replace hM := if_f c1184 hM
          refine lv_lload_n hx hb dX8_digits_35 rfl (lv_at hl 1 rfl) ?_
          refine lv_iload_n hx hb dX8_digits_36 rfl (lv_at hl 3 rfl) ?_
          refine lv_i2l hx hb dX8_digits_37 rfl ?_
          refine lv_lmul hx hb dX8_digits_38 ?_
          refine lv_aload_n hx hb dX8_digits_39 rfl (lv_at hl 2 rfl) ?_
          refine va_get (D := D) (ci := 8) (v := .ref (ad 105)) (C := RX8) (T := TX8) (N := 48) hx hb hts layX8 hown hK hP 0 rfl rfl 5 (by decide) (hts _ (inA q983)) (fun _ h9 => h9) rfl dX8_digits_40 ?_
          refine lv_aload_n hx hb dX8_digits_43 rfl (lv_at hl 2 rfl) ?_
          refine va_get (D := D) (ci := 8) (v := .int o_L_L8.2.2.2.1) (C := RX8) (T := TX8) (N := 48) hx hb hts layX8 hown hK hP 0 rfl rfl 9 (by decide) (hts _ (inA q987)) (fun _ h9 => h9) rfl dX8_digits_44 ?_
          obtain ⟨b1185, hM⟩ := gd_use hM
          refine va_iald hx hb hK hP 1 0 rfl rfl b1185 dX8_digits_47 ?_
          obtain ⟨r1186, hcr1186, hM⟩ := ob_use hM
          refine cl_S (As := [.int (o_X_L8.2 o_L_L8.2.2.2.1.toNatClampNeg)]) (rest := [.long (v2_L8 * w1_L8.toInt64)]) (wM_XL cI ad o_X_L8 o_L_L8 o_N o_T o_U o_O o_E o_Q o_V o_I) (.int r1186 :: [.long (v2_L8 * w1_L8.toInt64)]) ⟨hx, hb, hml, hown, hts⟩ (c_Model_digitOf l D cI sd ad (o_X_L8.2 o_L_L8.2.2.2.1.toNatClampNeg) r1186 hcr1186) (cwS2 hts q1175 mvX8_digitOf rfl rfl ⟨(Nat.le_of_ble_eq_true rfl), (Nat.le_of_ble_eq_true rfl)⟩) hK hE hA hP hD hS [] rfl (by decide) rfl rfl rfl rfl rfl rfl hl.1 (Nat.le_of_ble_eq_true rfl) dX8_digits_48 ⟨Nat.zero_le _, Nat.zero_le _⟩ (fun H locs hP hD hS => ?_)
          refine lv_i2l hx hb dX8_digits_51 rfl ?_
          refine lv_ladd hx hb dX8_digits_52 ?_
          refine lv_topl (fun x1187 ex1187 => ?_)
          replace hM := nm_use ex1187 hM
          refine lv_lstore_n (lv' := [(2, .long x1187), (4, .int w4_L8), (0, .ref (ad 100)), (1, .int w1_L8)]) hx hb dX8_digits_53 rfl hl (by decide) rfl (fun ls hl => ?_)
          refine lv_lload_n hx hb dX8_digits_54 rfl (lv_at hl 0 rfl) ?_
          refine lv_ldc2 (v := 1000000000000) hx hb hown (hts _ (inA q1184)) dX8_digits_55 ?_
          refine W.lcmp hx hb dX8_digits_58 ?_
          refine lv_if_le (tgt := 68) hx hb dX8_digits_59 (by decide) (fun c1188 => ?_) (fun c1188 => ?_)
          · replace hM := if_t c1188 hM
            refine lv_lload_n hx hb dX8_digits_68 rfl (lv_at hl 0 rfl) ?_
            refine lv_lstore_n (lv' := [(2, .long x1187), (4, .int w4_L8), (0, .ref (ad 100)), (1, .int w1_L8)]) hx hb dX8_digits_69 rfl hl (by decide) rfl (fun ls hl => ?_)
            refine lv_aload_n hx hb dX8_digits_70 rfl (lv_at hl 2 rfl) ?_
            refine lv_dup hx hb dX8_digits_71 rfl ?_
            refine va_get (D := D) (ci := 8) (v := .int o_L_L8.2.2.2.1) (C := RX8) (T := TX8) (N := 48) hx hb hts layX8 hown hK hP 0 rfl rfl 9 (by decide) (hts _ (inA q987)) (fun _ h9 => h9) rfl dX8_digits_72 ?_
            refine lv_iconst (v := 1) hx hb dX8_digits_75 (by decide) ?_
            refine lv_iadd hx hb dX8_digits_76 ?_
            refine va_put (D := D) (ci := 8) (v := .int (o_L_L8.2.2.2.1 + 1)) (ty := .int) (C := RX8) (T := TX8) (N := 48) hx hb hts layX8 tyX8 tyX8_ok nmX8 hown hK hP hD hS 0 rfl rfl 9 (by decide) (hts _ (inA q987)) (fun _ h9 => h9) rfl (by decide +kernel) rfl rfl (Nat.le_of_ble_eq_true rfl) dX8_digits_77 (fun H locs hP hD hS => ?_)
            have hP : va_P D vwCl (wM_XL cI ad o_X_L8 (o_L_L8.1, o_L_L8.2.1, o_L_L8.2.2.1, o_L_L8.2.2.2.1 + 1, o_L_L8.2.2.2.2) o_N o_T o_U o_O o_E o_Q o_V o_I) H := hP
            have hD : va_D A (wM_XL cI ad o_X_L8 (o_L_L8.1, o_L_L8.2.1, o_L_L8.2.2.1, o_L_L8.2.2.2.1 + 1, o_L_L8.2.2.2.2) o_N o_T o_U o_O o_E o_Q o_V o_I) := hD
            refine lv_goto (tgt := 8) hx hb dX8_digits_80 (by decide) ?_
            exact ih_L8 x1187 (o_L_L8.1, o_L_L8.2.1, o_L_L8.2.2.1, o_L_L8.2.2.2.1 + 1, o_L_L8.2.2.2.2) out_L8 _ _ _ hM hP hD hS (lv_sub hl [1, 0, 2, 3] rfl) kx_L8
          · replace hM := if_f c1188 hM
            refine lv_ldc2 (v := 1000000000000) hx hb hown (hts _ (inA q1184)) dX8_digits_62 ?_
            refine lv_goto (tgt := 69) hx hb dX8_digits_65 (by decide) ?_
            refine lv_lstore_n (lv' := [(2, .long 1000000000000), (4, .int w4_L8), (0, .ref (ad 100)), (1, .int w1_L8)]) hx hb dX8_digits_69 rfl hl (by decide) rfl (fun ls hl => ?_)
            refine lv_aload_n hx hb dX8_digits_70 rfl (lv_at hl 2 rfl) ?_
            refine lv_dup hx hb dX8_digits_71 rfl ?_
            refine va_get (D := D) (ci := 8) (v := .int o_L_L8.2.2.2.1) (C := RX8) (T := TX8) (N := 48) hx hb hts layX8 hown hK hP 0 rfl rfl 9 (by decide) (hts _ (inA q987)) (fun _ h9 => h9) rfl dX8_digits_72 ?_
            refine lv_iconst (v := 1) hx hb dX8_digits_75 (by decide) ?_
            refine lv_iadd hx hb dX8_digits_76 ?_
            refine va_put (D := D) (ci := 8) (v := .int (o_L_L8.2.2.2.1 + 1)) (ty := .int) (C := RX8) (T := TX8) (N := 48) hx hb hts layX8 tyX8 tyX8_ok nmX8 hown hK hP hD hS 0 rfl rfl 9 (by decide) (hts _ (inA q987)) (fun _ h9 => h9) rfl (by decide +kernel) rfl rfl (Nat.le_of_ble_eq_true rfl) dX8_digits_77 (fun H locs hP hD hS => ?_)
            have hP : va_P D vwCl (wM_XL cI ad o_X_L8 (o_L_L8.1, o_L_L8.2.1, o_L_L8.2.2.1, o_L_L8.2.2.2.1 + 1, o_L_L8.2.2.2.2) o_N o_T o_U o_O o_E o_Q o_V o_I) H := hP
            have hD : va_D A (wM_XL cI ad o_X_L8 (o_L_L8.1, o_L_L8.2.1, o_L_L8.2.2.1, o_L_L8.2.2.2.1 + 1, o_L_L8.2.2.2.2) o_N o_T o_U o_O o_E o_Q o_V o_I) := hD
            refine lv_goto (tgt := 8) hx hb dX8_digits_80 (by decide) ?_
            exact ih_L8 1000000000000 (o_L_L8.1, o_L_L8.2.1, o_L_L8.2.2.1, o_L_L8.2.2.2.1 + 1, o_L_L8.2.2.2.2) out_L8 _ _ _ hM hP hD hS (lv_sub hl [1, 0, 2, 3] rfl) kx_L8
  obtain ⟨r1, hcr1, hM⟩ := ob_use hM
  refine lp_L8 o_L.2.2.2.1 a1 o_X FU 0 o_L r1 _ _ _ hcr1 hP hD hS (lv_sub hl [0, 1, 2, 3] rfl) (fun H locs ls hP hD hS hl => ?_)
  refine lv_aload_n hx hb dX8_digits_83 rfl (lv_at hl 2 rfl) ?_
  refine va_get (D := D) (ci := 8) (v := .int r1.2.2.2.2.1) (C := RX8) (T := TX8) (N := 48) hx hb hts layX8 hown hK hP 0 rfl rfl 9 (by decide) (hts _ (inA q987)) (fun _ h9 => h9) rfl dX8_digits_84 ?_
  refine lv_iload hx hb dX8_digits_87 (lv_at hl 0 rfl) ?_
  refine lv_icmp_ne (tgt := 98) hx hb dX8_digits_89 (by decide) (fun c2 => ?_) (fun c2 => ?_)
  · replace hM := if_f c2 hM
    refine lv_lload_n hx hb dX8_digits_98 rfl (lv_at hl 1 rfl) ?_
    cases hM
    exact rt_l hx hb hr hlk hP hD hS rfl dX8_digits_99
  · replace hM := if_t c2 hM
    refine lv_ldc2 (v := (-1)) hx hb hown (hts _ (inA q1185)) dX8_digits_92 ?_
    refine lv_goto (tgt := 99) hx hb dX8_digits_95 (by decide) ?_
    cases hM
    exact rt_l hx hb hr hlk hP hD hS rfl dX8_digits_99
