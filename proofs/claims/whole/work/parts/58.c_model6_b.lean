set_option maxHeartbeats 4000000 in
set_option maxRecDepth 100000 in
theorem c_Model_putToken (l : Launch) (D : va_G) (cI : ClassId) (sd : Nat → Nat) (ad : Nat → Nat) (o_X : S_MX) (o_L : S_ML) (o_N : S_MN) (o_T : S_MT) (o_U : S_MU) (o_O : S_MO) (o_E : S_ME) (o_Q : S_MQ) (o_I : S_MI) (o_C : S_MC) (o_V : S_MV) (a1 : Int32) (res : S_MV) (hM : f_Model_putToken o_C o_V a1 = some res) : Ctr l D cI sd yX8_putToken (wsM yX8_putToken cX8_putToken 3 (Option.none : Option Jvm.ClassFile.FieldType)) { frames := 3, cells := 0, slots := 0, locals := 61 } [.ref (ad 100), .int a1] (wM_CV cI ad o_X o_L o_N o_T o_U o_O o_E o_Q o_V o_I o_C) (wM_CV cI ad o_X o_L o_N o_T o_U o_O o_E o_Q res o_I o_C) none := by
  refine Ctr.of (cc := cX8_putToken) (maxL := 3) (own := RX8) (by decide +kernel) rfl rfl (Nat.le_of_ble_eq_true rfl) ?_
  intro p e s m below meth c A ls hx hb hr hml hown hts hlk hK hE hA hP hD hS hl
  have hl : lv_has ls 3 [(0, .ref (ad 100)), (1, .int a1)] := hl
  unfold f_Model_putToken at hM
  refine lv_iload_n hx hb dX8_putToken_0 rfl (lv_at hl 1 rfl) ?_
  refine lv_bipush (v := 41) hx hb dX8_putToken_1 (by decide) ?_
  refine lv_icmp_ge (tgt := 47) hx hb dX8_putToken_3 (by decide) (fun c1 => ?_) (fun c1 => ?_)
  · replace hM := if_t c1 hM
    refine lv_iconst (v := 2) hx hb dX8_putToken_47 (by decide) ?_
    refine lv_iload_n hx hb dX8_putToken_48 rfl (lv_at hl 1 rfl) ?_
    refine lv_bipush (v := 50) hx hb dX8_putToken_49 (by decide) ?_
    refine lv_isub hx hb dX8_putToken_51 ?_
    refine lv_imul hx hb dX8_putToken_52 ?_
    refine lv_istore_n (lv' := [(2, .int (2 * (a1 - 50))), (0, .ref (ad 100)), (1, .int a1)]) hx hb dX8_putToken_53 rfl hl (by decide) rfl (fun ls hl => ?_)
    refine lv_aload_n hx hb dX8_putToken_54 rfl (lv_at hl 1 rfl) ?_
    refine lv_aload_n hx hb dX8_putToken_55 rfl (lv_at hl 1 rfl) ?_
    refine va_get (D := D) (ci := 8) (v := .ref (ad 103)) (C := RX8) (T := TX8) (N := 48) hx hb hts layX8 hown hK hP 0 rfl rfl 2 (by decide) (hts _ (inA q980)) (fun _ h9 => h9) rfl dX8_putToken_56 ?_
    refine lv_iload_n hx hb dX8_putToken_59 rfl (lv_at hl 0 rfl) ?_
    obtain ⟨b2, hM⟩ := gd_use hM
    refine va_iald hx hb hK hP 3 0 rfl rfl b2 dX8_putToken_60 ?_
    obtain ⟨r3, hcr3, hM⟩ := ob_use hM
    refine cl_V (As := [.int (o_C.2.2.1 (2 * (a1 - 50)).toNatClampNeg)]) (rest := []) (wM_CV cI ad o_X o_L o_N o_T o_U o_O o_E o_Q r3 o_I o_C) [] ⟨hx, hb, hml, hown, hts⟩ (c_Model_put l D cI sd ad o_C o_X o_L o_N o_T o_U o_O o_E o_Q o_I o_V (o_C.2.2.1 (2 * (a1 - 50)).toNatClampNeg) r3 hcr3) (cwV2 hts q1531 mvX8_put rfl rfl ⟨(Nat.le_of_ble_eq_true rfl), (Nat.le_of_ble_eq_true rfl)⟩) hK hE hA hP hD hS 0 (T := TX8) (N := 48) (ci := 8) rfl rfl [0, 5] rfl (by decide) rfl rfl rfl rfl rfl rfl hl.1 (Nat.le_of_ble_eq_true rfl) dX8_putToken_61 ⟨Nat.zero_le _, Nat.zero_le _⟩ (fun H locs hP hD hS => ?_)
    refine lv_aload_n hx hb dX8_putToken_64 rfl (lv_at hl 1 rfl) ?_
    refine va_get (D := D) (ci := 8) (v := .ref (ad 103)) (C := RX8) (T := TX8) (N := 48) hx hb hts layX8 hown hK hP 0 rfl rfl 2 (by decide) (hts _ (inA q980)) (fun _ h9 => h9) rfl dX8_putToken_65 ?_
    refine lv_iload_n hx hb dX8_putToken_68 rfl (lv_at hl 0 rfl) ?_
    refine lv_iconst (v := 1) hx hb dX8_putToken_69 (by decide) ?_
    refine lv_iadd hx hb dX8_putToken_70 ?_
    obtain ⟨b4, hM⟩ := gd_use hM
    refine va_iald hx hb hK hP 3 0 rfl rfl b4 dX8_putToken_71 ?_
    refine lv_if_eq (tgt := 87) hx hb dX8_putToken_72 (by decide) (fun c5 => ?_) (fun c5 => ?_)
    · replace hM := if_t c5 hM
      cases hM
      exact rt_v hx hb hr hlk hP hD hS rfl dX8_putToken_87
    · replace hM := if_f c5 hM
      refine lv_aload_n hx hb dX8_putToken_75 rfl (lv_at hl 1 rfl) ?_
      refine lv_aload_n hx hb dX8_putToken_76 rfl (lv_at hl 1 rfl) ?_
      refine va_get (D := D) (ci := 8) (v := .ref (ad 103)) (C := RX8) (T := TX8) (N := 48) hx hb hts layX8 hown hK hP 0 rfl rfl 2 (by decide) (hts _ (inA q980)) (fun _ h9 => h9) rfl dX8_putToken_77 ?_
      refine lv_iload_n hx hb dX8_putToken_80 rfl (lv_at hl 0 rfl) ?_
      refine lv_iconst (v := 1) hx hb dX8_putToken_81 (by decide) ?_
      refine lv_iadd hx hb dX8_putToken_82 ?_
      obtain ⟨b6, hM⟩ := gd_use hM
      refine va_iald hx hb hK hP 3 0 rfl rfl b6 dX8_putToken_83 ?_
      obtain ⟨r7, hcr7, hM⟩ := ob_use hM
      refine cl_V (As := [.int (o_C.2.2.1 ((2 * (a1 - 50)) + 1).toNatClampNeg)]) (rest := []) (wM_CV cI ad o_X o_L o_N o_T o_U o_O o_E o_Q r7 o_I o_C) [] ⟨hx, hb, hml, hown, hts⟩ (c_Model_put l D cI sd ad o_C o_X o_L o_N o_T o_U o_O o_E o_Q o_I r3 (o_C.2.2.1 ((2 * (a1 - 50)) + 1).toNatClampNeg) r7 hcr7) (cwV2 hts q1531 mvX8_put rfl rfl ⟨(Nat.le_of_ble_eq_true rfl), (Nat.le_of_ble_eq_true rfl)⟩) hK hE hA hP hD hS 0 (T := TX8) (N := 48) (ci := 8) rfl rfl [0, 5] rfl (by decide) rfl rfl rfl rfl rfl rfl hl.1 (Nat.le_of_ble_eq_true rfl) dX8_putToken_84 ⟨Nat.zero_le _, Nat.zero_le _⟩ (fun H locs hP hD hS => ?_)
      cases hM
      exact rt_v hx hb hr hlk hP hD hS rfl dX8_putToken_87
  · replace hM := if_f c1 hM
    refine lv_aload_n hx hb dX8_putToken_6 rfl (lv_at hl 0 rfl) ?_
    refine lv_bipush (v := 65) hx hb dX8_putToken_7 (by decide) ?_
    obtain ⟨r8, hcr8, hM⟩ := ob_use hM
    refine cl_V (As := [.int 65]) (rest := []) (wM_CV cI ad o_X o_L o_N o_T o_U o_O o_E o_Q r8 o_I o_C) [] ⟨hx, hb, hml, hown, hts⟩ (c_Model_part l D cI sd ad o_C o_X o_L o_N o_T o_U o_O o_E o_Q o_I o_V 65 r8 hcr8) (cwV2 hts q1524 mvX8_part rfl rfl ⟨(Nat.le_of_ble_eq_true rfl), (Nat.le_of_ble_eq_true rfl)⟩) hK hE hA hP hD hS 0 (T := TX8) (N := 48) (ci := 8) rfl rfl [0, 5] rfl (by decide) rfl rfl rfl rfl rfl rfl hl.1 (Nat.le_of_ble_eq_true rfl) dX8_putToken_9 ⟨Nat.zero_le _, Nat.zero_le _⟩ (fun H locs hP hD hS => ?_)
    refine lv_aload_n hx hb dX8_putToken_12 rfl (lv_at hl 0 rfl) ?_
    refine va_get (D := D) (ci := 8) (v := .ref (ad 102)) (C := RX8) (T := TX8) (N := 48) hx hb hts layX8 hown hK hP 0 rfl rfl 1 (by decide) (hts _ (inA q979)) (fun _ h9 => h9) rfl dX8_putToken_13 ?_
    refine lv_iload_n hx hb dX8_putToken_16 rfl (lv_at hl 1 rfl) ?_
    obtain ⟨b9, hM⟩ := gd_use hM
    refine va_iald hx hb hK hP 2 0 rfl rfl b9 dX8_putToken_17 ?_
    refine lv_istore_n (lv' := [(2, .int (o_C.2.1 a1.toNatClampNeg)), (0, .ref (ad 100)), (1, .int a1)]) hx hb dX8_putToken_18 rfl hl (by decide) rfl (fun ls hl => ?_)
    have lp_L19 : ∀ (o_C_L19 : S_MC) (n : Nat) (v2_L19 : Int32) (o_V_L19 : S_MV) (out_L19 : S_MV) (H : Heap) (locs : List Loc) (ls : Array Slot), f_Model_putToken_L19 o_C_L19 n v2_L19 o_V_L19 = some out_L19 → va_P D vwCl (wM_CV cI ad o_X o_L o_N o_T o_U o_O o_E o_Q o_V_L19 o_I o_C_L19) H → va_D A (wM_CV cI ad o_X o_L o_N o_T o_U o_O o_E o_Q o_V_L19 o_I o_C_L19) → va_S A s.heap H locs → lv_has ls 3 [(2, .int v2_L19), (0, .ref (ad 100))] → (∀ (H : Heap) (locs : List Loc) (ls : Array Slot), va_P D vwCl (wM_CV cI ad o_X o_L o_N o_T o_U o_O o_E o_Q out_L19 o_I o_C_L19) H → va_D A (wM_CV cI ad o_X o_L o_N o_T o_U o_O o_E o_Q out_L19 o_I o_C_L19) → va_S A s.heap H locs → lv_has ls 3 [(0, .ref (ad 100))] → W p l e { frames := 3, cells := 0, slots := 0, locals := 61 } s m [.ref (ad 100), .int a1].toArray below meth c H locs 0 0 (MQ below (CQ D A (wM_CV cI ad o_X o_L o_N o_T o_U o_O o_E o_Q res o_I o_C) none) [.ref (ad 100), .int a1].toArray s 0 0 A) (F0 m 44 ls [])) → W p l e { frames := 3, cells := 0, slots := 0, locals := 61 } s m [.ref (ad 100), .int a1].toArray below meth c H locs 0 0 (MQ below (CQ D A (wM_CV cI ad o_X o_L o_N o_T o_U o_O o_E o_Q res o_I o_C) none) [.ref (ad 100), .int a1].toArray s 0 0 A) (F0 m 19 ls []) := by
      intro o_C_L19 n
      induction n with
      | zero => intro v2_L19 o_V_L19 out_L19 H locs ls hM; exact absurd (show none = some _ from hM) (by simp)
      | succ n ih_L19 =>
        intro v2_L19 o_V_L19 out_L19 H locs ls hM hP hD hS hl kx_L19
        rw [f_Model_putToken_L19] at hM
        refine lv_aload_n hx hb dX8_putToken_19 rfl (lv_at hl 1 rfl) ?_
        refine va_get (D := D) (ci := 8) (v := .ref (ad 101)) (C := RX8) (T := TX8) (N := 48) hx hb hts layX8 hown hK hP 0 rfl rfl 0 (by decide) (hts _ (inA q978)) (fun _ h9 => h9) rfl dX8_putToken_20 ?_
        refine lv_iload_n hx hb dX8_putToken_23 rfl (lv_at hl 0 rfl) ?_
        obtain ⟨b1291, hM⟩ := gd_use hM
        refine va_iald hx hb hK hP 1 0 rfl rfl b1291 dX8_putToken_24 ?_
        refine lv_if_eq (tgt := 44) hx hb dX8_putToken_25 (by decide) (fun c1292 => ?_) (fun c1292 => ?_)
        · replace hM := if_t c1292 hM
          cases hM
          exact kx_L19 _ _ _ hP hD hS (lv_sub hl [1] rfl)
        · replace hM := if_f c1292 hM
          refine lv_aload_n hx hb dX8_putToken_28 rfl (lv_at hl 1 rfl) ?_
          refine lv_aload_n hx hb dX8_putToken_29 rfl (lv_at hl 1 rfl) ?_
          refine va_get (D := D) (ci := 8) (v := .ref (ad 101)) (C := RX8) (T := TX8) (N := 48) hx hb hts layX8 hown hK hP 0 rfl rfl 0 (by decide) (hts _ (inA q978)) (fun _ h9 => h9) rfl dX8_putToken_30 ?_
          refine lv_iload_n hx hb dX8_putToken_33 rfl (lv_at hl 0 rfl) ?_
          obtain ⟨b1293, hM⟩ := gd_use hM
          refine va_iald hx hb hK hP 1 0 rfl rfl b1293 dX8_putToken_34 ?_
          obtain ⟨r1294, hcr1294, hM⟩ := ob_use hM
          refine cl_V (As := [.int (o_C_L19.1 v2_L19.toNatClampNeg)]) (rest := []) (wM_CV cI ad o_X o_L o_N o_T o_U o_O o_E o_Q r1294 o_I o_C_L19) [] ⟨hx, hb, hml, hown, hts⟩ (c_Model_put l D cI sd ad o_C_L19 o_X o_L o_N o_T o_U o_O o_E o_Q o_I o_V_L19 (o_C_L19.1 v2_L19.toNatClampNeg) r1294 hcr1294) (cwV2 hts q1531 mvX8_put rfl rfl ⟨(Nat.le_of_ble_eq_true rfl), (Nat.le_of_ble_eq_true rfl)⟩) hK hE hA hP hD hS 0 (T := TX8) (N := 48) (ci := 8) rfl rfl [0, 5] rfl (by decide) rfl rfl rfl rfl rfl rfl hl.1 (Nat.le_of_ble_eq_true rfl) dX8_putToken_35 ⟨Nat.zero_le _, Nat.zero_le _⟩ (fun H locs hP hD hS => ?_)
          obtain ⟨x1295, ex1295⟩ : ∃ y : Int32, y = v2_L19 + 1 := ⟨_, rfl⟩
          replace hM := nm_use ex1295 hM
          refine lv_iinc (v := x1295) (lv' := [(2, .int x1295), (0, .ref (ad 100))]) hx hb dX8_putToken_38 hl (k := 0) rfl (by rw [ex1295]; rfl) (by decide) rfl (fun ls hl => ?_)
          refine lv_goto (tgt := 19) hx hb dX8_putToken_41 (by decide) ?_
          exact ih_L19 x1295 r1294 out_L19 _ _ _ hM hP hD hS (lv_sub hl [0, 1] rfl) kx_L19
    obtain ⟨r10, hcr10, hM⟩ := ob_use hM
    refine lp_L19 o_C FU (o_C.2.1 a1.toNatClampNeg) r8 r10 _ _ _ hcr10 hP hD hS (lv_sub hl [0, 1] rfl) (fun H locs ls hP hD hS hl => ?_)
    refine lv_goto (tgt := 87) hx hb dX8_putToken_44 (by decide) ?_
    cases hM
    exact rt_v hx hb hr hlk hP hD hS rfl dX8_putToken_87

set_option maxHeartbeats 4000000 in
set_option maxRecDepth 100000 in
theorem c_Model_putName (l : Launch) (D : va_G) (cI : ClassId) (sd : Nat → Nat) (ad : Nat → Nat) (o_C : S_MC) (o_X : S_MX) (o_L : S_ML) (o_T : S_MT) (o_U : S_MU) (o_O : S_MO) (o_E : S_ME) (o_Q : S_MQ) (o_I : S_MI) (o_N : S_MN) (o_V : S_MV) (a1 : Int32) (res : S_MV) (hM : f_Model_putName o_N o_V a1 = some res) : Ctr l D cI sd yX8_putName (wsM yX8_putName cX8_putName 3 (Option.none : Option Jvm.ClassFile.FieldType)) { frames := 3, cells := 0, slots := 0, locals := 61 } [.ref (ad 100), .int a1] (wM_NV cI ad o_X o_L o_N o_T o_U o_O o_E o_Q o_V o_I) (wM_NV cI ad o_X o_L o_N o_T o_U o_O o_E o_Q res o_I) none := by
  refine Ctr.of (cc := cX8_putName) (maxL := 3) (own := RX8) (by decide +kernel) rfl rfl (Nat.le_of_ble_eq_true rfl) ?_
  intro p e s m below meth c A ls hx hb hr hml hown hts hlk hK hE hA hP hD hS hl
  have hl : lv_has ls 3 [(0, .ref (ad 100)), (1, .int a1)] := hl
  unfold f_Model_putName at hM
  refine lv_aload_n hx hb dX8_putName_0 rfl (lv_at hl 0 rfl) ?_
  refine lv_bipush (v := 65) hx hb dX8_putName_1 (by decide) ?_
  obtain ⟨r1, hcr1, hM⟩ := ob_use hM
  refine cl_V (As := [.int 65]) (rest := []) (wM_NV cI ad o_X o_L o_N o_T o_U o_O o_E o_Q r1 o_I) [] ⟨hx, hb, hml, hown, hts⟩ (c_Model_part l D cI sd ad o_C o_X o_L o_N o_T o_U o_O o_E o_Q o_I o_V 65 r1 hcr1) (cwV2 hts q1524 mvX8_part rfl rfl ⟨(Nat.le_of_ble_eq_true rfl), (Nat.le_of_ble_eq_true rfl)⟩) hK hE hA hP hD hS 0 (T := TX8) (N := 48) (ci := 8) rfl rfl [0, 3] rfl (by decide) rfl rfl rfl rfl rfl rfl hl.1 (Nat.le_of_ble_eq_true rfl) dX8_putName_3 ⟨Nat.zero_le _, Nat.zero_le _⟩ (fun H locs hP hD hS => ?_)
  refine lv_aload_n hx hb dX8_putName_6 rfl (lv_at hl 0 rfl) ?_
  refine va_get (D := D) (ci := 8) (v := .ref (ad 106)) (C := RX8) (T := TX8) (N := 48) hx hb hts layX8 hown hK hP 0 rfl rfl 14 (by decide) (hts _ (inA q992)) (fun _ h9 => h9) rfl dX8_putName_7 ?_
  refine lv_iload_n hx hb dX8_putName_10 rfl (lv_at hl 1 rfl) ?_
  obtain ⟨b2, hM⟩ := gd_use hM
  refine va_iald hx hb hK hP 1 0 rfl rfl b2 dX8_putName_11 ?_
  refine lv_istore_n (lv' := [(2, .int (o_N.2.1 a1.toNatClampNeg)), (0, .ref (ad 100)), (1, .int a1)]) hx hb dX8_putName_12 rfl hl (by decide) rfl (fun ls hl => ?_)
  have lp_L13 : ∀ (w1_L13 : Int32) (o_N_L13 : S_MN) (n : Nat) (v2_L13 : Int32) (o_V_L13 : S_MV) (out_L13 : S_MV) (H : Heap) (locs : List Loc) (ls : Array Slot), f_Model_putName_L13 w1_L13 o_N_L13 n v2_L13 o_V_L13 = some out_L13 → va_P D vwCl (wM_NV cI ad o_X o_L o_N_L13 o_T o_U o_O o_E o_Q o_V_L13 o_I) H → va_D A (wM_NV cI ad o_X o_L o_N_L13 o_T o_U o_O o_E o_Q o_V_L13 o_I) → va_S A s.heap H locs → lv_has ls 3 [(2, .int v2_L13), (0, .ref (ad 100)), (1, .int w1_L13)] → (∀ (H : Heap) (locs : List Loc) (ls : Array Slot), va_P D vwCl (wM_NV cI ad o_X o_L o_N_L13 o_T o_U o_O o_E o_Q out_L13 o_I) H → va_D A (wM_NV cI ad o_X o_L o_N_L13 o_T o_U o_O o_E o_Q out_L13 o_I) → va_S A s.heap H locs → lv_has ls 3 [(0, .ref (ad 100)), (1, .int w1_L13)] → W p l e { frames := 3, cells := 0, slots := 0, locals := 61 } s m [.ref (ad 100), .int a1].toArray below meth c H locs 0 0 (MQ below (CQ D A (wM_NV cI ad o_X o_L o_N o_T o_U o_O o_E o_Q res o_I) none) [.ref (ad 100), .int a1].toArray s 0 0 A) (F0 m 41 ls [])) → W p l e { frames := 3, cells := 0, slots := 0, locals := 61 } s m [.ref (ad 100), .int a1].toArray below meth c H locs 0 0 (MQ below (CQ D A (wM_NV cI ad o_X o_L o_N o_T o_U o_O o_E o_Q res o_I) none) [.ref (ad 100), .int a1].toArray s 0 0 A) (F0 m 13 ls []) := by
    intro w1_L13 o_N_L13 n
    induction n with
    | zero => intro v2_L13 o_V_L13 out_L13 H locs ls hM; exact absurd (show none = some _ from hM) (by simp)
    | succ n ih_L13 =>
      intro v2_L13 o_V_L13 out_L13 H locs ls hM hP hD hS hl kx_L13
      rw [f_Model_putName_L13] at hM
      refine lv_iload_n hx hb dX8_putName_13 rfl (lv_at hl 0 rfl) ?_
      refine lv_aload_n hx hb dX8_putName_14 rfl (lv_at hl 1 rfl) ?_
      refine va_get (D := D) (ci := 8) (v := .ref (ad 106)) (C := RX8) (T := TX8) (N := 48) hx hb hts layX8 hown hK hP 0 rfl rfl 14 (by decide) (hts _ (inA q992)) (fun _ h9 => h9) rfl dX8_putName_15 ?_
      refine lv_iload_n hx hb dX8_putName_18 rfl (lv_at hl 2 rfl) ?_
      refine lv_iconst (v := 1) hx hb dX8_putName_19 (by decide) ?_
      refine lv_iadd hx hb dX8_putName_20 ?_
      obtain ⟨b1231, hM⟩ := gd_use hM
      refine va_iald hx hb hK hP 1 0 rfl rfl b1231 dX8_putName_21 ?_
      refine lv_icmp_ge (tgt := 41) hx hb dX8_putName_22 (by decide) (fun c1232 => ?_) (fun c1232 => ?_)
      · replace hM := if_t c1232 hM
        cases hM
        exact kx_L13 _ _ _ hP hD hS (lv_sub hl [1, 2] rfl)
      · replace hM := if_f c1232 hM
        refine lv_aload_n hx hb dX8_putName_25 rfl (lv_at hl 1 rfl) ?_
        refine lv_aload_n hx hb dX8_putName_26 rfl (lv_at hl 1 rfl) ?_
        refine va_get (D := D) (ci := 8) (v := .ref (ad 107)) (C := RX8) (T := TX8) (N := 48) hx hb hts layX8 hown hK hP 0 rfl rfl 15 (by decide) (hts _ (inA q993)) (fun _ h9 => h9) rfl dX8_putName_27 ?_
        refine lv_iload_n hx hb dX8_putName_30 rfl (lv_at hl 0 rfl) ?_
        obtain ⟨b1233, hM⟩ := gd_use hM
        refine va_iald hx hb hK hP 2 0 rfl rfl b1233 dX8_putName_31 ?_
        obtain ⟨r1234, hcr1234, hM⟩ := ob_use hM
        refine cl_V (As := [.int (o_N_L13.2.2 v2_L13.toNatClampNeg)]) (rest := []) (wM_NV cI ad o_X o_L o_N_L13 o_T o_U o_O o_E o_Q r1234 o_I) [] ⟨hx, hb, hml, hown, hts⟩ (c_Model_put l D cI sd ad o_C o_X o_L o_N_L13 o_T o_U o_O o_E o_Q o_I o_V_L13 (o_N_L13.2.2 v2_L13.toNatClampNeg) r1234 hcr1234) (cwV2 hts q1531 mvX8_put rfl rfl ⟨(Nat.le_of_ble_eq_true rfl), (Nat.le_of_ble_eq_true rfl)⟩) hK hE hA hP hD hS 0 (T := TX8) (N := 48) (ci := 8) rfl rfl [0, 3] rfl (by decide) rfl rfl rfl rfl rfl rfl hl.1 (Nat.le_of_ble_eq_true rfl) dX8_putName_32 ⟨Nat.zero_le _, Nat.zero_le _⟩ (fun H locs hP hD hS => ?_)
        obtain ⟨x1235, ex1235⟩ : ∃ y : Int32, y = v2_L13 + 1 := ⟨_, rfl⟩
        replace hM := nm_use ex1235 hM
        refine lv_iinc (v := x1235) (lv' := [(2, .int x1235), (0, .ref (ad 100)), (1, .int w1_L13)]) hx hb dX8_putName_35 hl (k := 0) rfl (by rw [ex1235]; rfl) (by decide) rfl (fun ls hl => ?_)
        refine lv_goto (tgt := 13) hx hb dX8_putName_38 (by decide) ?_
        exact ih_L13 x1235 r1234 out_L13 _ _ _ hM hP hD hS (lv_sub hl [0, 1, 2] rfl) kx_L13
  obtain ⟨r3, hcr3, hM⟩ := ob_use hM
  refine lp_L13 a1 o_N FU (o_N.2.1 a1.toNatClampNeg) r1 r3 _ _ _ hcr3 hP hD hS (lv_sub hl [0, 1, 2] rfl) (fun H locs ls hP hD hS hl => ?_)
  cases hM
  exact rt_v hx hb hr hlk hP hD hS rfl dX8_putName_41

set_option maxHeartbeats 4000000 in
set_option maxRecDepth 100000 in
theorem c_Model_putNumber (l : Launch) (D : va_G) (cI : ClassId) (sd : Nat → Nat) (ad : Nat → Nat) (o_C : S_MC) (o_X : S_MX) (o_L : S_ML) (o_N : S_MN) (o_T : S_MT) (o_U : S_MU) (o_O : S_MO) (o_E : S_ME) (o_Q : S_MQ) (o_I : S_MI) (o_V : S_MV) (a1 : Int32) (res : S_MV) (hM : f_Model_putNumber o_V a1 = some res) : Ctr l D cI sd yX8_putNumber (wsM yX8_putNumber cX8_putNumber 6 (Option.none : Option Jvm.ClassFile.FieldType)) { frames := 3, cells := 0, slots := 0, locals := 61 } [.ref (ad 100), .int a1] (wM_V cI ad o_X o_L o_N o_T o_U o_O o_E o_Q o_V o_I) (wM_V cI ad o_X o_L o_N o_T o_U o_O o_E o_Q res o_I) none := by
  refine Ctr.of (cc := cX8_putNumber) (maxL := 6) (own := RX8) (by decide +kernel) rfl rfl (Nat.le_of_ble_eq_true rfl) ?_
  intro p e s m below meth c A ls hx hb hr hml hown hts hlk hK hE hA hP hD hS hl
  have hl : lv_has ls 6 [(0, .ref (ad 100)), (1, .int a1)] := hl
  unfold f_Model_putNumber at hM
  refine lv_iload_n hx hb dX8_putNumber_0 rfl (lv_at hl 1 rfl) ?_
  refine lv_i2l hx hb dX8_putNumber_1 rfl ?_
  refine lv_lstore_n (lv' := [(2, .long a1.toInt64), (0, .ref (ad 100)), (1, .int a1)]) hx hb dX8_putNumber_2 rfl hl (by decide) rfl (fun ls hl => ?_)
  refine lv_iload_n hx hb dX8_putNumber_3 rfl (lv_at hl 2 rfl) ?_
  refine lv_if_ge (tgt := 16) hx hb dX8_putNumber_4 (by decide) (fun c1 => ?_) (fun c1 => ?_)
  · replace hM := if_t c1 hM
    refine lv_aload_n hx hb dX8_putNumber_16 rfl (lv_at hl 1 rfl) ?_
    refine lv_bipush (v := 48) hx hb dX8_putNumber_17 (by decide) ?_
    obtain ⟨r2, hcr2, hM⟩ := ob_use hM
    refine cl_V (As := [.int 48]) (rest := []) (wM_V cI ad o_X o_L o_N o_T o_U o_O o_E o_Q r2 o_I) [] ⟨hx, hb, hml, hown, hts⟩ (c_Model_part l D cI sd ad o_C o_X o_L o_N o_T o_U o_O o_E o_Q o_I o_V 48 r2 hcr2) (cwV2 hts q1524 mvX8_part rfl rfl ⟨(Nat.le_of_ble_eq_true rfl), (Nat.le_of_ble_eq_true rfl)⟩) hK hE hA hP hD hS 0 (T := TX8) (N := 48) (ci := 8) rfl rfl [0, 1] rfl (by decide) rfl rfl rfl rfl rfl rfl hl.1 (Nat.le_of_ble_eq_true rfl) dX8_putNumber_19 ⟨Nat.zero_le _, Nat.zero_le _⟩ (fun H locs hP hD hS => ?_)
    refine lv_lconst (v := 1) hx hb dX8_putNumber_22 (by decide) ?_
    refine lv_lstore (lv' := [(4, .long 1), (2, .long a1.toInt64), (0, .ref (ad 100)), (1, .int a1)]) hx hb dX8_putNumber_23 hl (by decide) rfl (fun ls hl => ?_)
    have lp_L25 : ∀ (w2_L25 : Int64) (o_V_L25 : S_MV) (n : Nat) (v4_L25 : Int64) (out_L25 : Int64) (H : Heap) (locs : List Loc) (ls : Array Slot), f_Model_putNumber_L25 w2_L25 n v4_L25 = some out_L25 → va_P D vwCl (wM_V cI ad o_X o_L o_N o_T o_U o_O o_E o_Q o_V_L25 o_I) H → va_D A (wM_V cI ad o_X o_L o_N o_T o_U o_O o_E o_Q o_V_L25 o_I) → va_S A s.heap H locs → lv_has ls 6 [(4, .long v4_L25), (2, .long w2_L25), (0, .ref (ad 100))] → (∀ (H : Heap) (locs : List Loc) (ls : Array Slot), va_P D vwCl (wM_V cI ad o_X o_L o_N o_T o_U o_O o_E o_Q o_V_L25 o_I) H → va_D A (wM_V cI ad o_X o_L o_N o_T o_U o_O o_E o_Q o_V_L25 o_I) → va_S A s.heap H locs → lv_has ls 6 [(4, .long out_L25), (2, .long w2_L25), (0, .ref (ad 100))] → W p l e { frames := 3, cells := 0, slots := 0, locals := 61 } s m [.ref (ad 100), .int a1].toArray below meth c H locs 0 0 (MQ below (CQ D A (wM_V cI ad o_X o_L o_N o_T o_U o_O o_E o_Q res o_I) none) [.ref (ad 100), .int a1].toArray s 0 0 A) (F0 m 47 ls [])) → W p l e { frames := 3, cells := 0, slots := 0, locals := 61 } s m [.ref (ad 100), .int a1].toArray below meth c H locs 0 0 (MQ below (CQ D A (wM_V cI ad o_X o_L o_N o_T o_U o_O o_E o_Q res o_I) none) [.ref (ad 100), .int a1].toArray s 0 0 A) (F0 m 25 ls []) := by
      intro w2_L25 o_V_L25 n
      induction n with
      | zero => intro v4_L25 out_L25 H locs ls hM; exact absurd (show none = some _ from hM) (by simp)
      | succ n ih_L25 =>
        intro v4_L25 out_L25 H locs ls hM hP hD hS hl kx_L25
        rw [f_Model_putNumber_L25] at hM
        refine lv_lload_n hx hb dX8_putNumber_25 rfl (lv_at hl 1 rfl) ?_
        refine lv_lload hx hb dX8_putNumber_26 (lv_at hl 0 rfl) ?_
        obtain ⟨z1351, hM⟩ := dzl_use hM
        refine lv_ldiv hx hb dX8_putNumber_28 z1351 ?_
        refine lv_ldc2 (v := 9) hx hb hown (hts _ (inA q1591)) dX8_putNumber_29 ?_
        refine W.lcmp hx hb dX8_putNumber_32 ?_
        refine lv_if_le (tgt := 47) hx hb dX8_putNumber_33 (by decide) (fun c1352 => ?_) (fun c1352 => ?_)
        · replace hM := if_t c1352 hM
          cases hM
          exact kx_L25 _ _ _ hP hD hS (lv_sub hl [0, 1, 2] rfl)
        · replace hM := if_f c1352 hM
          refine lv_lload hx hb dX8_putNumber_36 (lv_at hl 0 rfl) ?_
          refine lv_ldc2 (v := 10) hx hb hown (hts _ (inA q1592)) dX8_putNumber_38 ?_
          refine lv_lmul hx hb dX8_putNumber_41 ?_
          refine lv_lstore (lv' := [(4, .long (v4_L25 * 10)), (2, .long w2_L25), (0, .ref (ad 100))]) hx hb dX8_putNumber_42 hl (by decide) rfl (fun ls hl => ?_)
          refine lv_goto (tgt := 25) hx hb dX8_putNumber_44 (by decide) ?_
          exact ih_L25 (v4_L25 * 10) out_L25 _ _ _ hM hP hD hS (lv_sub hl [0, 1, 2] rfl) kx_L25
    obtain ⟨r3, hcr3, hM⟩ := ob_use hM
    refine lp_L25 a1.toInt64 r2 FU 1 r3 _ _ _ hcr3 hP hD hS (lv_sub hl [0, 1, 2] rfl) (fun H locs ls hP hD hS hl => ?_)
    have lp_L47 : ∀ (w2_L47 : Int64) (n : Nat) (v4_L47 : Int64) (o_V_L47 : S_MV) (out_L47 : S_MV) (H : Heap) (locs : List Loc) (ls : Array Slot), f_Model_putNumber_L47 w2_L47 n v4_L47 o_V_L47 = some out_L47 → va_P D vwCl (wM_V cI ad o_X o_L o_N o_T o_U o_O o_E o_Q o_V_L47 o_I) H → va_D A (wM_V cI ad o_X o_L o_N o_T o_U o_O o_E o_Q o_V_L47 o_I) → va_S A s.heap H locs → lv_has ls 6 [(4, .long v4_L47), (2, .long w2_L47), (0, .ref (ad 100))] → (∀ (H : Heap) (locs : List Loc) (ls : Array Slot), va_P D vwCl (wM_V cI ad o_X o_L o_N o_T o_U o_O o_E o_Q out_L47 o_I) H → va_D A (wM_V cI ad o_X o_L o_N o_T o_U o_O o_E o_Q out_L47 o_I) → va_S A s.heap H locs → lv_has ls 6 [(2, .long w2_L47), (0, .ref (ad 100))] → W p l e { frames := 3, cells := 0, slots := 0, locals := 61 } s m [.ref (ad 100), .int a1].toArray below meth c H locs 0 0 (MQ below (CQ D A (wM_V cI ad o_X o_L o_N o_T o_U o_O o_E o_Q res o_I) none) [.ref (ad 100), .int a1].toArray s 0 0 A) (F0 m 81 ls [])) → W p l e { frames := 3, cells := 0, slots := 0, locals := 61 } s m [.ref (ad 100), .int a1].toArray below meth c H locs 0 0 (MQ below (CQ D A (wM_V cI ad o_X o_L o_N o_T o_U o_O o_E o_Q res o_I) none) [.ref (ad 100), .int a1].toArray s 0 0 A) (F0 m 47 ls []) := by
      intro w2_L47 n
      induction n with
      | zero => intro v4_L47 o_V_L47 out_L47 H locs ls hM; exact absurd (show none = some _ from hM) (by simp)
      | succ n ih_L47 =>
        intro v4_L47 o_V_L47 out_L47 H locs ls hM hP hD hS hl kx_L47
        rw [f_Model_putNumber_L47] at hM
        refine lv_lload hx hb dX8_putNumber_47 (lv_at hl 0 rfl) ?_
        refine lv_lconst (v := 0) hx hb dX8_putNumber_49 (by decide) ?_
        refine W.lcmp hx hb dX8_putNumber_50 ?_
        refine lv_if_le (tgt := 81) hx hb dX8_putNumber_51 (by decide) (fun c1571 => ?_) (fun c1571 => ?_)
        · replace hM := if_t c1571 hM
          cases hM
          exact kx_L47 _ _ _ hP hD hS (lv_sub hl [1, 2] rfl)
        · replace hM := if_f c1571 hM
          refine lv_aload_n hx hb dX8_putNumber_54 rfl (lv_at hl 2 rfl) ?_
          refine lv_bipush (v := 48) hx hb dX8_putNumber_55 (by decide) ?_
          refine lv_lload_n hx hb dX8_putNumber_57 rfl (lv_at hl 1 rfl) ?_
          refine lv_lload hx hb dX8_putNumber_58 (lv_at hl 0 rfl) ?_
          obtain ⟨z1572, hM⟩ := dzl_use hM
          refine lv_ldiv hx hb dX8_putNumber_60 z1572 ?_
          refine lv_ldc2 (v := 10) hx hb hown (hts _ (inA q1592)) dX8_putNumber_61 ?_
          refine lv_lrem hx hb dX8_putNumber_64 (by decide) ?_
          refine lv_l2i hx hb dX8_putNumber_65 rfl ?_
          refine lv_iadd hx hb dX8_putNumber_66 ?_
          obtain ⟨r1573, hcr1573, hM⟩ := ob_use hM
          refine cl_V (As := [.int (48 + (((w2_L47 / v4_L47) - (w2_L47 / v4_L47) / 10 * 10).toInt32))]) (rest := []) (wM_V cI ad o_X o_L o_N o_T o_U o_O o_E o_Q r1573 o_I) [] ⟨hx, hb, hml, hown, hts⟩ (c_Model_put l D cI sd ad o_C o_X o_L o_N o_T o_U o_O o_E o_Q o_I o_V_L47 (48 + (((w2_L47 / v4_L47) - (w2_L47 / v4_L47) / 10 * 10).toInt32)) r1573 hcr1573) (cwV2 hts q1531 mvX8_put rfl rfl ⟨(Nat.le_of_ble_eq_true rfl), (Nat.le_of_ble_eq_true rfl)⟩) hK hE hA hP hD hS 0 (T := TX8) (N := 48) (ci := 8) rfl rfl [0, 1] rfl (by decide) rfl rfl rfl rfl rfl rfl hl.1 (Nat.le_of_ble_eq_true rfl) dX8_putNumber_67 ⟨Nat.zero_le _, Nat.zero_le _⟩ (fun H locs hP hD hS => ?_)
          refine lv_lload hx hb dX8_putNumber_70 (lv_at hl 0 rfl) ?_
          refine lv_ldc2 (v := 10) hx hb hown (hts _ (inA q1592)) dX8_putNumber_72 ?_
          refine lv_ldiv hx hb dX8_putNumber_75 (by decide) ?_
          refine lv_lstore (lv' := [(4, .long (v4_L47 / 10)), (2, .long w2_L47), (0, .ref (ad 100))]) hx hb dX8_putNumber_76 hl (by decide) rfl (fun ls hl => ?_)
          refine lv_goto (tgt := 47) hx hb dX8_putNumber_78 (by decide) ?_
          exact ih_L47 (v4_L47 / 10) r1573 out_L47 _ _ _ hM hP hD hS (lv_sub hl [0, 1, 2] rfl) kx_L47
    obtain ⟨r4, hcr4, hM⟩ := ob_use hM
    refine lp_L47 a1.toInt64 FU r3 r2 r4 _ _ _ hcr4 hP hD hS (lv_sub hl [0, 1, 2] rfl) (fun H locs ls hP hD hS hl => ?_)
    cases hM
    exact rt_v hx hb hr hlk hP hD hS rfl dX8_putNumber_81
  · replace hM := if_f c1 hM
    refine lv_aload_n hx hb dX8_putNumber_7 rfl (lv_at hl 1 rfl) ?_
    refine lv_bipush (v := 45) hx hb dX8_putNumber_8 (by decide) ?_
    obtain ⟨r5, hcr5, hM⟩ := ob_use hM
    refine cl_V (As := [.int 45]) (rest := []) (wM_V cI ad o_X o_L o_N o_T o_U o_O o_E o_Q r5 o_I) [] ⟨hx, hb, hml, hown, hts⟩ (c_Model_put l D cI sd ad o_C o_X o_L o_N o_T o_U o_O o_E o_Q o_I o_V 45 r5 hcr5) (cwV2 hts q1531 mvX8_put rfl rfl ⟨(Nat.le_of_ble_eq_true rfl), (Nat.le_of_ble_eq_true rfl)⟩) hK hE hA hP hD hS 0 (T := TX8) (N := 48) (ci := 8) rfl rfl [0, 1] rfl (by decide) rfl rfl rfl rfl rfl rfl hl.1 (Nat.le_of_ble_eq_true rfl) dX8_putNumber_10 ⟨Nat.zero_le _, Nat.zero_le _⟩ (fun H locs hP hD hS => ?_)
    refine lv_lload_n hx hb dX8_putNumber_13 rfl (lv_at hl 0 rfl) ?_
    refine lv_lneg hx hb dX8_putNumber_14 ?_
    refine lv_lstore_n (lv' := [(2, .long (-a1.toInt64)), (0, .ref (ad 100)), (1, .int a1)]) hx hb dX8_putNumber_15 rfl hl (by decide) rfl (fun ls hl => ?_)
    refine lv_aload_n hx hb dX8_putNumber_16 rfl (lv_at hl 1 rfl) ?_
    refine lv_bipush (v := 48) hx hb dX8_putNumber_17 (by decide) ?_
    obtain ⟨r6, hcr6, hM⟩ := ob_use hM
    refine cl_V (As := [.int 48]) (rest := []) (wM_V cI ad o_X o_L o_N o_T o_U o_O o_E o_Q r6 o_I) [] ⟨hx, hb, hml, hown, hts⟩ (c_Model_part l D cI sd ad o_C o_X o_L o_N o_T o_U o_O o_E o_Q o_I r5 48 r6 hcr6) (cwV2 hts q1524 mvX8_part rfl rfl ⟨(Nat.le_of_ble_eq_true rfl), (Nat.le_of_ble_eq_true rfl)⟩) hK hE hA hP hD hS 0 (T := TX8) (N := 48) (ci := 8) rfl rfl [0, 1] rfl (by decide) rfl rfl rfl rfl rfl rfl hl.1 (Nat.le_of_ble_eq_true rfl) dX8_putNumber_19 ⟨Nat.zero_le _, Nat.zero_le _⟩ (fun H locs hP hD hS => ?_)
    refine lv_lconst (v := 1) hx hb dX8_putNumber_22 (by decide) ?_
    refine lv_lstore (lv' := [(4, .long 1), (2, .long (-a1.toInt64)), (0, .ref (ad 100)), (1, .int a1)]) hx hb dX8_putNumber_23 hl (by decide) rfl (fun ls hl => ?_)
    have lp_L25 : ∀ (w2_L25 : Int64) (o_V_L25 : S_MV) (n : Nat) (v4_L25 : Int64) (out_L25 : Int64) (H : Heap) (locs : List Loc) (ls : Array Slot), f_Model_putNumber_L25 w2_L25 n v4_L25 = some out_L25 → va_P D vwCl (wM_V cI ad o_X o_L o_N o_T o_U o_O o_E o_Q o_V_L25 o_I) H → va_D A (wM_V cI ad o_X o_L o_N o_T o_U o_O o_E o_Q o_V_L25 o_I) → va_S A s.heap H locs → lv_has ls 6 [(4, .long v4_L25), (2, .long w2_L25), (0, .ref (ad 100))] → (∀ (H : Heap) (locs : List Loc) (ls : Array Slot), va_P D vwCl (wM_V cI ad o_X o_L o_N o_T o_U o_O o_E o_Q o_V_L25 o_I) H → va_D A (wM_V cI ad o_X o_L o_N o_T o_U o_O o_E o_Q o_V_L25 o_I) → va_S A s.heap H locs → lv_has ls 6 [(4, .long out_L25), (2, .long w2_L25), (0, .ref (ad 100))] → W p l e { frames := 3, cells := 0, slots := 0, locals := 61 } s m [.ref (ad 100), .int a1].toArray below meth c H locs 0 0 (MQ below (CQ D A (wM_V cI ad o_X o_L o_N o_T o_U o_O o_E o_Q res o_I) none) [.ref (ad 100), .int a1].toArray s 0 0 A) (F0 m 47 ls [])) → W p l e { frames := 3, cells := 0, slots := 0, locals := 61 } s m [.ref (ad 100), .int a1].toArray below meth c H locs 0 0 (MQ below (CQ D A (wM_V cI ad o_X o_L o_N o_T o_U o_O o_E o_Q res o_I) none) [.ref (ad 100), .int a1].toArray s 0 0 A) (F0 m 25 ls []) := by
      intro w2_L25 o_V_L25 n
      induction n with
      | zero => intro v4_L25 out_L25 H locs ls hM; exact absurd (show none = some _ from hM) (by simp)
      | succ n ih_L25 =>
        intro v4_L25 out_L25 H locs ls hM hP hD hS hl kx_L25
        rw [f_Model_putNumber_L25] at hM
        refine lv_lload_n hx hb dX8_putNumber_25 rfl (lv_at hl 1 rfl) ?_
        refine lv_lload hx hb dX8_putNumber_26 (lv_at hl 0 rfl) ?_
        obtain ⟨z1351, hM⟩ := dzl_use hM
        refine lv_ldiv hx hb dX8_putNumber_28 z1351 ?_
        refine lv_ldc2 (v := 9) hx hb hown (hts _ (inA q1591)) dX8_putNumber_29 ?_
        refine W.lcmp hx hb dX8_putNumber_32 ?_
        refine lv_if_le (tgt := 47) hx hb dX8_putNumber_33 (by decide) (fun c1352 => ?_) (fun c1352 => ?_)
        · replace hM := if_t c1352 hM
          cases hM
          exact kx_L25 _ _ _ hP hD hS (lv_sub hl [0, 1, 2] rfl)
        · replace hM := if_f c1352 hM
          refine lv_lload hx hb dX8_putNumber_36 (lv_at hl 0 rfl) ?_
          refine lv_ldc2 (v := 10) hx hb hown (hts _ (inA q1592)) dX8_putNumber_38 ?_
          refine lv_lmul hx hb dX8_putNumber_41 ?_
          refine lv_lstore (lv' := [(4, .long (v4_L25 * 10)), (2, .long w2_L25), (0, .ref (ad 100))]) hx hb dX8_putNumber_42 hl (by decide) rfl (fun ls hl => ?_)
          refine lv_goto (tgt := 25) hx hb dX8_putNumber_44 (by decide) ?_
          exact ih_L25 (v4_L25 * 10) out_L25 _ _ _ hM hP hD hS (lv_sub hl [0, 1, 2] rfl) kx_L25
    obtain ⟨r7, hcr7, hM⟩ := ob_use hM
    refine lp_L25 (-a1.toInt64) r6 FU 1 r7 _ _ _ hcr7 hP hD hS (lv_sub hl [0, 1, 2] rfl) (fun H locs ls hP hD hS hl => ?_)
    have lp_L47 : ∀ (w2_L47 : Int64) (n : Nat) (v4_L47 : Int64) (o_V_L47 : S_MV) (out_L47 : S_MV) (H : Heap) (locs : List Loc) (ls : Array Slot), f_Model_putNumber_L47 w2_L47 n v4_L47 o_V_L47 = some out_L47 → va_P D vwCl (wM_V cI ad o_X o_L o_N o_T o_U o_O o_E o_Q o_V_L47 o_I) H → va_D A (wM_V cI ad o_X o_L o_N o_T o_U o_O o_E o_Q o_V_L47 o_I) → va_S A s.heap H locs → lv_has ls 6 [(4, .long v4_L47), (2, .long w2_L47), (0, .ref (ad 100))] → (∀ (H : Heap) (locs : List Loc) (ls : Array Slot), va_P D vwCl (wM_V cI ad o_X o_L o_N o_T o_U o_O o_E o_Q out_L47 o_I) H → va_D A (wM_V cI ad o_X o_L o_N o_T o_U o_O o_E o_Q out_L47 o_I) → va_S A s.heap H locs → lv_has ls 6 [(2, .long w2_L47), (0, .ref (ad 100))] → W p l e { frames := 3, cells := 0, slots := 0, locals := 61 } s m [.ref (ad 100), .int a1].toArray below meth c H locs 0 0 (MQ below (CQ D A (wM_V cI ad o_X o_L o_N o_T o_U o_O o_E o_Q res o_I) none) [.ref (ad 100), .int a1].toArray s 0 0 A) (F0 m 81 ls [])) → W p l e { frames := 3, cells := 0, slots := 0, locals := 61 } s m [.ref (ad 100), .int a1].toArray below meth c H locs 0 0 (MQ below (CQ D A (wM_V cI ad o_X o_L o_N o_T o_U o_O o_E o_Q res o_I) none) [.ref (ad 100), .int a1].toArray s 0 0 A) (F0 m 47 ls []) := by
      intro w2_L47 n
      induction n with
      | zero => intro v4_L47 o_V_L47 out_L47 H locs ls hM; exact absurd (show none = some _ from hM) (by simp)
      | succ n ih_L47 =>
        intro v4_L47 o_V_L47 out_L47 H locs ls hM hP hD hS hl kx_L47
        rw [f_Model_putNumber_L47] at hM
        refine lv_lload hx hb dX8_putNumber_47 (lv_at hl 0 rfl) ?_
        refine lv_lconst (v := 0) hx hb dX8_putNumber_49 (by decide) ?_
        refine W.lcmp hx hb dX8_putNumber_50 ?_
        refine lv_if_le (tgt := 81) hx hb dX8_putNumber_51 (by decide) (fun c1571 => ?_) (fun c1571 => ?_)
        · replace hM := if_t c1571 hM
          cases hM
          exact kx_L47 _ _ _ hP hD hS (lv_sub hl [1, 2] rfl)
        · replace hM := if_f c1571 hM
          refine lv_aload_n hx hb dX8_putNumber_54 rfl (lv_at hl 2 rfl) ?_
          refine lv_bipush (v := 48) hx hb dX8_putNumber_55 (by decide) ?_
          refine lv_lload_n hx hb dX8_putNumber_57 rfl (lv_at hl 1 rfl) ?_
          refine lv_lload hx hb dX8_putNumber_58 (lv_at hl 0 rfl) ?_
          obtain ⟨z1572, hM⟩ := dzl_use hM
          refine lv_ldiv hx hb dX8_putNumber_60 z1572 ?_
          refine lv_ldc2 (v := 10) hx hb hown (hts _ (inA q1592)) dX8_putNumber_61 ?_
          refine lv_lrem hx hb dX8_putNumber_64 (by decide) ?_
          refine lv_l2i hx hb dX8_putNumber_65 rfl ?_
          refine lv_iadd hx hb dX8_putNumber_66 ?_
          obtain ⟨r1573, hcr1573, hM⟩ := ob_use hM
          refine cl_V (As := [.int (48 + (((w2_L47 / v4_L47) - (w2_L47 / v4_L47) / 10 * 10).toInt32))]) (rest := []) (wM_V cI ad o_X o_L o_N o_T o_U o_O o_E o_Q r1573 o_I) [] ⟨hx, hb, hml, hown, hts⟩ (c_Model_put l D cI sd ad o_C o_X o_L o_N o_T o_U o_O o_E o_Q o_I o_V_L47 (48 + (((w2_L47 / v4_L47) - (w2_L47 / v4_L47) / 10 * 10).toInt32)) r1573 hcr1573) (cwV2 hts q1531 mvX8_put rfl rfl ⟨(Nat.le_of_ble_eq_true rfl), (Nat.le_of_ble_eq_true rfl)⟩) hK hE hA hP hD hS 0 (T := TX8) (N := 48) (ci := 8) rfl rfl [0, 1] rfl (by decide) rfl rfl rfl rfl rfl rfl hl.1 (Nat.le_of_ble_eq_true rfl) dX8_putNumber_67 ⟨Nat.zero_le _, Nat.zero_le _⟩ (fun H locs hP hD hS => ?_)
          refine lv_lload hx hb dX8_putNumber_70 (lv_at hl 0 rfl) ?_
          refine lv_ldc2 (v := 10) hx hb hown (hts _ (inA q1592)) dX8_putNumber_72 ?_
          refine lv_ldiv hx hb dX8_putNumber_75 (by decide) ?_
          refine lv_lstore (lv' := [(4, .long (v4_L47 / 10)), (2, .long w2_L47), (0, .ref (ad 100))]) hx hb dX8_putNumber_76 hl (by decide) rfl (fun ls hl => ?_)
          refine lv_goto (tgt := 47) hx hb dX8_putNumber_78 (by decide) ?_
          exact ih_L47 (v4_L47 / 10) r1573 out_L47 _ _ _ hM hP hD hS (lv_sub hl [0, 1, 2] rfl) kx_L47
    obtain ⟨r8, hcr8, hM⟩ := ob_use hM
    refine lp_L47 (-a1.toInt64) FU r7 r6 r8 _ _ _ hcr8 hP hD hS (lv_sub hl [0, 1, 2] rfl) (fun H locs ls hP hD hS hl => ?_)
    cases hM
    exact rt_v hx hb hr hlk hP hD hS rfl dX8_putNumber_81

set_option maxHeartbeats 4000000 in
set_option maxRecDepth 100000 in
theorem c_Model_putPlace (l : Launch) (D : va_G) (cI : ClassId) (sd : Nat → Nat) (ad : Nat → Nat) (o_X : S_MX) (o_L : S_ML) (o_N : S_MN) (o_T : S_MT) (o_U : S_MU) (o_O : S_MO) (o_E : S_ME) (o_Q : S_MQ) (o_I : S_MI) (o_C : S_MC) (o_V : S_MV) (a1 : Int32) (res : S_MV) (hM : f_Model_putPlace o_C o_V a1 = some res) : Ctr l D cI sd yX8_putPlace (wsM yX8_putPlace cX8_putPlace 3 (Option.none : Option Jvm.ClassFile.FieldType)) { frames := 1, cells := 0, slots := 0, locals := 21 } [.ref (ad 100), .int a1] (wM_CV cI ad o_X o_L o_N o_T o_U o_O o_E o_Q o_V o_I o_C) (wM_CV cI ad o_X o_L o_N o_T o_U o_O o_E o_Q res o_I o_C) none := by
  refine Ctr.of (cc := cX8_putPlace) (maxL := 3) (own := RX8) (by decide +kernel) rfl rfl (Nat.le_of_ble_eq_true rfl) ?_
  intro p e s m below meth c A ls hx hb hr hml hown hts hlk hK hE hA hP hD hS hl
  have hl : lv_has ls 3 [(0, .ref (ad 100)), (1, .int a1)] := hl
  unfold f_Model_putPlace at hM
  refine lv_aload_n hx hb dX8_putPlace_0 rfl (lv_at hl 0 rfl) ?_
  refine lv_bipush (v := 37) hx hb dX8_putPlace_1 (by decide) ?_
  obtain ⟨r1, hcr1, hM⟩ := ob_use hM
  refine cl_V (As := [.int 37]) (rest := []) (wM_CV cI ad o_X o_L o_N o_T o_U o_O o_E o_Q r1 o_I o_C) [] ⟨hx, hb, hml, hown, hts⟩ (c_Model_put l D cI sd ad o_C o_X o_L o_N o_T o_U o_O o_E o_Q o_I o_V 37 r1 hcr1) (cwV2 hts q1531 mvX8_put rfl rfl ⟨(Nat.le_of_ble_eq_true rfl), (Nat.le_of_ble_eq_true rfl)⟩) hK hE hA hP hD hS 0 (T := TX8) (N := 48) (ci := 8) rfl rfl [0, 5] rfl (by decide) rfl rfl rfl rfl rfl rfl hl.1 (Nat.le_of_ble_eq_true rfl) dX8_putPlace_3 ⟨Nat.zero_le _, Nat.zero_le _⟩ (fun H locs hP hD hS => ?_)
  refine lv_aload_n hx hb dX8_putPlace_6 rfl (lv_at hl 0 rfl) ?_
  refine lv_aload_n hx hb dX8_putPlace_7 rfl (lv_at hl 0 rfl) ?_
  refine va_get (D := D) (ci := 8) (v := .ref (ad 104)) (C := RX8) (T := TX8) (N := 48) hx hb hts layX8 hown hK hP 0 rfl rfl 3 (by decide) (hts _ (inA q981)) (fun _ h9 => h9) rfl dX8_putPlace_8 ?_
  refine lv_iload_n hx hb dX8_putPlace_11 rfl (lv_at hl 1 rfl) ?_
  refine lv_sipush (v := 256) hx hb dX8_putPlace_12 (by decide) ?_
  refine lv_idiv hx hb dX8_putPlace_15 (by decide) ?_
  refine lv_iconst (v := 2) hx hb dX8_putPlace_16 (by decide) ?_
  refine lv_imul hx hb dX8_putPlace_17 ?_
  obtain ⟨b2, hM⟩ := gd_use hM
  refine va_iald hx hb hK hP 4 0 rfl rfl b2 dX8_putPlace_18 ?_
  obtain ⟨r3, hcr3, hM⟩ := ob_use hM
  refine cl_V (As := [.int (o_C.2.2.2 ((a1 / 256) * 2).toNatClampNeg)]) (rest := []) (wM_CV cI ad o_X o_L o_N o_T o_U o_O o_E o_Q r3 o_I o_C) [] ⟨hx, hb, hml, hown, hts⟩ (c_Model_put l D cI sd ad o_C o_X o_L o_N o_T o_U o_O o_E o_Q o_I r1 (o_C.2.2.2 ((a1 / 256) * 2).toNatClampNeg) r3 hcr3) (cwV2 hts q1531 mvX8_put rfl rfl ⟨(Nat.le_of_ble_eq_true rfl), (Nat.le_of_ble_eq_true rfl)⟩) hK hE hA hP hD hS 0 (T := TX8) (N := 48) (ci := 8) rfl rfl [0, 5] rfl (by decide) rfl rfl rfl rfl rfl rfl hl.1 (Nat.le_of_ble_eq_true rfl) dX8_putPlace_19 ⟨Nat.zero_le _, Nat.zero_le _⟩ (fun H locs hP hD hS => ?_)
  refine lv_aload_n hx hb dX8_putPlace_22 rfl (lv_at hl 0 rfl) ?_
  refine lv_aload_n hx hb dX8_putPlace_23 rfl (lv_at hl 0 rfl) ?_
  refine va_get (D := D) (ci := 8) (v := .ref (ad 104)) (C := RX8) (T := TX8) (N := 48) hx hb hts layX8 hown hK hP 0 rfl rfl 3 (by decide) (hts _ (inA q981)) (fun _ h9 => h9) rfl dX8_putPlace_24 ?_
  refine lv_iload_n hx hb dX8_putPlace_27 rfl (lv_at hl 1 rfl) ?_
  refine lv_sipush (v := 256) hx hb dX8_putPlace_28 (by decide) ?_
  refine lv_idiv hx hb dX8_putPlace_31 (by decide) ?_
  refine lv_iconst (v := 2) hx hb dX8_putPlace_32 (by decide) ?_
  refine lv_imul hx hb dX8_putPlace_33 ?_
  refine lv_iconst (v := 1) hx hb dX8_putPlace_34 (by decide) ?_
  refine lv_iadd hx hb dX8_putPlace_35 ?_
  obtain ⟨b4, hM⟩ := gd_use hM
  refine va_iald hx hb hK hP 4 0 rfl rfl b4 dX8_putPlace_36 ?_
  obtain ⟨r5, hcr5, hM⟩ := ob_use hM
  refine cl_V (As := [.int (o_C.2.2.2 (((a1 / 256) * 2) + 1).toNatClampNeg)]) (rest := []) (wM_CV cI ad o_X o_L o_N o_T o_U o_O o_E o_Q r5 o_I o_C) [] ⟨hx, hb, hml, hown, hts⟩ (c_Model_put l D cI sd ad o_C o_X o_L o_N o_T o_U o_O o_E o_Q o_I r3 (o_C.2.2.2 (((a1 / 256) * 2) + 1).toNatClampNeg) r5 hcr5) (cwV2 hts q1531 mvX8_put rfl rfl ⟨(Nat.le_of_ble_eq_true rfl), (Nat.le_of_ble_eq_true rfl)⟩) hK hE hA hP hD hS 0 (T := TX8) (N := 48) (ci := 8) rfl rfl [0, 5] rfl (by decide) rfl rfl rfl rfl rfl rfl hl.1 (Nat.le_of_ble_eq_true rfl) dX8_putPlace_37 ⟨Nat.zero_le _, Nat.zero_le _⟩ (fun H locs hP hD hS => ?_)
  refine lv_iload_n hx hb dX8_putPlace_40 rfl (lv_at hl 1 rfl) ?_
  refine lv_sipush (v := 256) hx hb dX8_putPlace_41 (by decide) ?_
  refine lv_irem hx hb dX8_putPlace_44 (by decide) ?_
  refine lv_istore_n (lv' := [(2, .int (a1 - a1 / 256 * 256)), (0, .ref (ad 100)), (1, .int a1)]) hx hb dX8_putPlace_45 rfl hl (by decide) rfl (fun ls hl => ?_)
  refine lv_iload_n hx hb dX8_putPlace_46 rfl (lv_at hl 0 rfl) ?_
  refine lv_bipush (v := 99) hx hb dX8_putPlace_47 (by decide) ?_
  refine lv_icmp_le (tgt := 63) hx hb dX8_putPlace_49 (by decide) (fun c6 => ?_) (fun c6 => ?_)
  · replace hM := if_t c6 hM
    refine lv_iload_n hx hb dX8_putPlace_63 rfl (lv_at hl 0 rfl) ?_
    refine lv_bipush (v := 9) hx hb dX8_putPlace_64 (by decide) ?_
    refine lv_icmp_le (tgt := 83) hx hb dX8_putPlace_66 (by decide) (fun c7 => ?_) (fun c7 => ?_)
    · replace hM := if_t c7 hM
      refine lv_aload_n hx hb dX8_putPlace_83 rfl (lv_at hl 1 rfl) ?_
      refine lv_bipush (v := 48) hx hb dX8_putPlace_84 (by decide) ?_
      refine lv_iload_n hx hb dX8_putPlace_86 rfl (lv_at hl 0 rfl) ?_
      refine lv_bipush (v := 10) hx hb dX8_putPlace_87 (by decide) ?_
      refine lv_irem hx hb dX8_putPlace_89 (by decide) ?_
      refine lv_iadd hx hb dX8_putPlace_90 ?_
      obtain ⟨r8, hcr8, hM⟩ := ob_use hM
      refine cl_V (As := [.int (48 + ((a1 - a1 / 256 * 256) - (a1 - a1 / 256 * 256) / 10 * 10))]) (rest := []) (wM_CV cI ad o_X o_L o_N o_T o_U o_O o_E o_Q r8 o_I o_C) [] ⟨hx, hb, hml, hown, hts⟩ (c_Model_put l D cI sd ad o_C o_X o_L o_N o_T o_U o_O o_E o_Q o_I r5 (48 + ((a1 - a1 / 256 * 256) - (a1 - a1 / 256 * 256) / 10 * 10)) r8 hcr8) (cwV2 hts q1531 mvX8_put rfl rfl ⟨(Nat.le_of_ble_eq_true rfl), (Nat.le_of_ble_eq_true rfl)⟩) hK hE hA hP hD hS 0 (T := TX8) (N := 48) (ci := 8) rfl rfl [0, 5] rfl (by decide) rfl rfl rfl rfl rfl rfl hl.1 (Nat.le_of_ble_eq_true rfl) dX8_putPlace_91 ⟨Nat.zero_le _, Nat.zero_le _⟩ (fun H locs hP hD hS => ?_)
      cases hM
      exact rt_v hx hb hr hlk hP hD hS rfl dX8_putPlace_94
    · replace hM := if_f c7 hM
      refine lv_aload_n hx hb dX8_putPlace_69 rfl (lv_at hl 1 rfl) ?_
      refine lv_bipush (v := 48) hx hb dX8_putPlace_70 (by decide) ?_
      refine lv_iload_n hx hb dX8_putPlace_72 rfl (lv_at hl 0 rfl) ?_
      refine lv_bipush (v := 10) hx hb dX8_putPlace_73 (by decide) ?_
      refine lv_idiv hx hb dX8_putPlace_75 (by decide) ?_
      refine lv_bipush (v := 10) hx hb dX8_putPlace_76 (by decide) ?_
      refine lv_irem hx hb dX8_putPlace_78 (by decide) ?_
      refine lv_iadd hx hb dX8_putPlace_79 ?_
      obtain ⟨r9, hcr9, hM⟩ := ob_use hM
      refine cl_V (As := [.int (48 + (((a1 - a1 / 256 * 256) / 10) - ((a1 - a1 / 256 * 256) / 10) / 10 * 10))]) (rest := []) (wM_CV cI ad o_X o_L o_N o_T o_U o_O o_E o_Q r9 o_I o_C) [] ⟨hx, hb, hml, hown, hts⟩ (c_Model_put l D cI sd ad o_C o_X o_L o_N o_T o_U o_O o_E o_Q o_I r5 (48 + (((a1 - a1 / 256 * 256) / 10) - ((a1 - a1 / 256 * 256) / 10) / 10 * 10)) r9 hcr9) (cwV2 hts q1531 mvX8_put rfl rfl ⟨(Nat.le_of_ble_eq_true rfl), (Nat.le_of_ble_eq_true rfl)⟩) hK hE hA hP hD hS 0 (T := TX8) (N := 48) (ci := 8) rfl rfl [0, 5] rfl (by decide) rfl rfl rfl rfl rfl rfl hl.1 (Nat.le_of_ble_eq_true rfl) dX8_putPlace_80 ⟨Nat.zero_le _, Nat.zero_le _⟩ (fun H locs hP hD hS => ?_)
      refine lv_aload_n hx hb dX8_putPlace_83 rfl (lv_at hl 1 rfl) ?_
      refine lv_bipush (v := 48) hx hb dX8_putPlace_84 (by decide) ?_
      refine lv_iload_n hx hb dX8_putPlace_86 rfl (lv_at hl 0 rfl) ?_
      refine lv_bipush (v := 10) hx hb dX8_putPlace_87 (by decide) ?_
      refine lv_irem hx hb dX8_putPlace_89 (by decide) ?_
      refine lv_iadd hx hb dX8_putPlace_90 ?_
      obtain ⟨r10, hcr10, hM⟩ := ob_use hM
      refine cl_V (As := [.int (48 + ((a1 - a1 / 256 * 256) - (a1 - a1 / 256 * 256) / 10 * 10))]) (rest := []) (wM_CV cI ad o_X o_L o_N o_T o_U o_O o_E o_Q r10 o_I o_C) [] ⟨hx, hb, hml, hown, hts⟩ (c_Model_put l D cI sd ad o_C o_X o_L o_N o_T o_U o_O o_E o_Q o_I r9 (48 + ((a1 - a1 / 256 * 256) - (a1 - a1 / 256 * 256) / 10 * 10)) r10 hcr10) (cwV2 hts q1531 mvX8_put rfl rfl ⟨(Nat.le_of_ble_eq_true rfl), (Nat.le_of_ble_eq_true rfl)⟩) hK hE hA hP hD hS 0 (T := TX8) (N := 48) (ci := 8) rfl rfl [0, 5] rfl (by decide) rfl rfl rfl rfl rfl rfl hl.1 (Nat.le_of_ble_eq_true rfl) dX8_putPlace_91 ⟨Nat.zero_le _, Nat.zero_le _⟩ (fun H locs hP hD hS => ?_)
      cases hM
      exact rt_v hx hb hr hlk hP hD hS rfl dX8_putPlace_94
  · replace hM := if_f c6 hM
    refine lv_aload_n hx hb dX8_putPlace_52 rfl (lv_at hl 1 rfl) ?_
    refine lv_bipush (v := 48) hx hb dX8_putPlace_53 (by decide) ?_
    refine lv_iload_n hx hb dX8_putPlace_55 rfl (lv_at hl 0 rfl) ?_
    refine lv_bipush (v := 100) hx hb dX8_putPlace_56 (by decide) ?_
    refine lv_idiv hx hb dX8_putPlace_58 (by decide) ?_
    refine lv_iadd hx hb dX8_putPlace_59 ?_
    obtain ⟨r11, hcr11, hM⟩ := ob_use hM
    refine cl_V (As := [.int (48 + ((a1 - a1 / 256 * 256) / 100))]) (rest := []) (wM_CV cI ad o_X o_L o_N o_T o_U o_O o_E o_Q r11 o_I o_C) [] ⟨hx, hb, hml, hown, hts⟩ (c_Model_put l D cI sd ad o_C o_X o_L o_N o_T o_U o_O o_E o_Q o_I r5 (48 + ((a1 - a1 / 256 * 256) / 100)) r11 hcr11) (cwV2 hts q1531 mvX8_put rfl rfl ⟨(Nat.le_of_ble_eq_true rfl), (Nat.le_of_ble_eq_true rfl)⟩) hK hE hA hP hD hS 0 (T := TX8) (N := 48) (ci := 8) rfl rfl [0, 5] rfl (by decide) rfl rfl rfl rfl rfl rfl hl.1 (Nat.le_of_ble_eq_true rfl) dX8_putPlace_60 ⟨Nat.zero_le _, Nat.zero_le _⟩ (fun H locs hP hD hS => ?_)
    refine lv_iload_n hx hb dX8_putPlace_63 rfl (lv_at hl 0 rfl) ?_
    refine lv_bipush (v := 9) hx hb dX8_putPlace_64 (by decide) ?_
    refine lv_icmp_le (tgt := 83) hx hb dX8_putPlace_66 (by decide) (fun c12 => ?_) (fun c12 => ?_)
    · replace hM := if_t c12 hM
      refine lv_aload_n hx hb dX8_putPlace_83 rfl (lv_at hl 1 rfl) ?_
      refine lv_bipush (v := 48) hx hb dX8_putPlace_84 (by decide) ?_
      refine lv_iload_n hx hb dX8_putPlace_86 rfl (lv_at hl 0 rfl) ?_
      refine lv_bipush (v := 10) hx hb dX8_putPlace_87 (by decide) ?_
      refine lv_irem hx hb dX8_putPlace_89 (by decide) ?_
      refine lv_iadd hx hb dX8_putPlace_90 ?_
      obtain ⟨r13, hcr13, hM⟩ := ob_use hM
      refine cl_V (As := [.int (48 + ((a1 - a1 / 256 * 256) - (a1 - a1 / 256 * 256) / 10 * 10))]) (rest := []) (wM_CV cI ad o_X o_L o_N o_T o_U o_O o_E o_Q r13 o_I o_C) [] ⟨hx, hb, hml, hown, hts⟩ (c_Model_put l D cI sd ad o_C o_X o_L o_N o_T o_U o_O o_E o_Q o_I r11 (48 + ((a1 - a1 / 256 * 256) - (a1 - a1 / 256 * 256) / 10 * 10)) r13 hcr13) (cwV2 hts q1531 mvX8_put rfl rfl ⟨(Nat.le_of_ble_eq_true rfl), (Nat.le_of_ble_eq_true rfl)⟩) hK hE hA hP hD hS 0 (T := TX8) (N := 48) (ci := 8) rfl rfl [0, 5] rfl (by decide) rfl rfl rfl rfl rfl rfl hl.1 (Nat.le_of_ble_eq_true rfl) dX8_putPlace_91 ⟨Nat.zero_le _, Nat.zero_le _⟩ (fun H locs hP hD hS => ?_)
      cases hM
      exact rt_v hx hb hr hlk hP hD hS rfl dX8_putPlace_94
    · replace hM := if_f c12 hM
      refine lv_aload_n hx hb dX8_putPlace_69 rfl (lv_at hl 1 rfl) ?_
      refine lv_bipush (v := 48) hx hb dX8_putPlace_70 (by decide) ?_
      refine lv_iload_n hx hb dX8_putPlace_72 rfl (lv_at hl 0 rfl) ?_
      refine lv_bipush (v := 10) hx hb dX8_putPlace_73 (by decide) ?_
      refine lv_idiv hx hb dX8_putPlace_75 (by decide) ?_
      refine lv_bipush (v := 10) hx hb dX8_putPlace_76 (by decide) ?_
      refine lv_irem hx hb dX8_putPlace_78 (by decide) ?_
      refine lv_iadd hx hb dX8_putPlace_79 ?_
      obtain ⟨r14, hcr14, hM⟩ := ob_use hM
      refine cl_V (As := [.int (48 + (((a1 - a1 / 256 * 256) / 10) - ((a1 - a1 / 256 * 256) / 10) / 10 * 10))]) (rest := []) (wM_CV cI ad o_X o_L o_N o_T o_U o_O o_E o_Q r14 o_I o_C) [] ⟨hx, hb, hml, hown, hts⟩ (c_Model_put l D cI sd ad o_C o_X o_L o_N o_T o_U o_O o_E o_Q o_I r11 (48 + (((a1 - a1 / 256 * 256) / 10) - ((a1 - a1 / 256 * 256) / 10) / 10 * 10)) r14 hcr14) (cwV2 hts q1531 mvX8_put rfl rfl ⟨(Nat.le_of_ble_eq_true rfl), (Nat.le_of_ble_eq_true rfl)⟩) hK hE hA hP hD hS 0 (T := TX8) (N := 48) (ci := 8) rfl rfl [0, 5] rfl (by decide) rfl rfl rfl rfl rfl rfl hl.1 (Nat.le_of_ble_eq_true rfl) dX8_putPlace_80 ⟨Nat.zero_le _, Nat.zero_le _⟩ (fun H locs hP hD hS => ?_)
      refine lv_aload_n hx hb dX8_putPlace_83 rfl (lv_at hl 1 rfl) ?_
      refine lv_bipush (v := 48) hx hb dX8_putPlace_84 (by decide) ?_
      refine lv_iload_n hx hb dX8_putPlace_86 rfl (lv_at hl 0 rfl) ?_
      refine lv_bipush (v := 10) hx hb dX8_putPlace_87 (by decide) ?_
      refine lv_irem hx hb dX8_putPlace_89 (by decide) ?_
      refine lv_iadd hx hb dX8_putPlace_90 ?_
      obtain ⟨r15, hcr15, hM⟩ := ob_use hM
      refine cl_V (As := [.int (48 + ((a1 - a1 / 256 * 256) - (a1 - a1 / 256 * 256) / 10 * 10))]) (rest := []) (wM_CV cI ad o_X o_L o_N o_T o_U o_O o_E o_Q r15 o_I o_C) [] ⟨hx, hb, hml, hown, hts⟩ (c_Model_put l D cI sd ad o_C o_X o_L o_N o_T o_U o_O o_E o_Q o_I r14 (48 + ((a1 - a1 / 256 * 256) - (a1 - a1 / 256 * 256) / 10 * 10)) r15 hcr15) (cwV2 hts q1531 mvX8_put rfl rfl ⟨(Nat.le_of_ble_eq_true rfl), (Nat.le_of_ble_eq_true rfl)⟩) hK hE hA hP hD hS 0 (T := TX8) (N := 48) (ci := 8) rfl rfl [0, 5] rfl (by decide) rfl rfl rfl rfl rfl rfl hl.1 (Nat.le_of_ble_eq_true rfl) dX8_putPlace_91 ⟨Nat.zero_le _, Nat.zero_le _⟩ (fun H locs hP hD hS => ?_)
      cases hM
      exact rt_v hx hb hr hlk hP hD hS rfl dX8_putPlace_94

set_option maxHeartbeats 4000000 in
set_option maxRecDepth 100000 in
theorem c_Model_second (l : Launch) (D : va_G) (cI : ClassId) (sd : Nat → Nat) (ad : Nat → Nat) (o_C : S_MC) (o_X : S_MX) (o_L : S_ML) (o_N : S_MN) (o_U : S_MU) (o_O : S_MO) (o_E : S_ME) (o_Q : S_MQ) (o_V : S_MV) (o_I : S_MI) (o_T : S_MT) (a1 : Int32) (res : Int32) (hM : f_Model_second o_T a1 = some res) : Ctr l D cI sd yX8_second (wsM yX8_second cX8_second 2 (Option.some Jvm.ClassFile.FieldType.int)) { frames := 0, cells := 0, slots := 0, locals := 0 } [.ref (ad 100), .int a1] (wM_T cI ad o_X o_L o_N o_T o_U o_O o_E o_Q o_V o_I) (wM_T cI ad o_X o_L o_N o_T o_U o_O o_E o_Q o_V o_I) (some (.int res)) := by
  refine Ctr.of (cc := cX8_second) (maxL := 2) (own := RX8) (by decide +kernel) rfl rfl (Nat.le_of_ble_eq_true rfl) ?_
  intro p e s m below meth c A ls hx hb hr hml hown hts hlk hK hE hA hP hD hS hl
  have hl : lv_has ls 2 [(0, .ref (ad 100)), (1, .int a1)] := hl
  unfold f_Model_second at hM
  refine lv_aload_n hx hb dX8_second_0 rfl (lv_at hl 0 rfl) ?_
  refine va_get (D := D) (ci := 8) (v := .ref (ad 114)) (C := RX8) (T := TX8) (N := 48) hx hb hts layX8 hown hK hP 0 rfl rfl 23 (by decide) (hts _ (inA q1001)) (fun _ h9 => h9) rfl dX8_second_1 ?_
  refine lv_aload_n hx hb dX8_second_4 rfl (lv_at hl 0 rfl) ?_
  refine va_get (D := D) (ci := 8) (v := .ref (ad 112)) (C := RX8) (T := TX8) (N := 48) hx hb hts layX8 hown hK hP 0 rfl rfl 21 (by decide) (hts _ (inA q999)) (fun _ h9 => h9) rfl dX8_second_5 ?_
  refine lv_iload_n hx hb dX8_second_8 rfl (lv_at hl 1 rfl) ?_
  obtain ⟨b1, hM⟩ := gd_use hM
  refine va_iald hx hb hK hP 5 0 rfl rfl b1 dX8_second_9 ?_
  obtain ⟨b2, hM⟩ := gd_use hM
  refine va_iald hx hb hK hP 7 0 rfl rfl b2 dX8_second_10 ?_
  cases hM
  exact rt_i hx hb hr hlk hP hD hS rfl dX8_second_11
