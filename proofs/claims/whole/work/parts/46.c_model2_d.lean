set_option maxHeartbeats 4000000 in
set_option maxRecDepth 100000 in
theorem c_Model_readSign (l : Launch) (D : va_G) (cI : ClassId) (sd : Nat → Nat) (ad : Nat → Nat) (o_N : S_MN) (o_T : S_MT) (o_U : S_MU) (o_O : S_MO) (o_E : S_ME) (o_Q : S_MQ) (o_V : S_MV) (o_I : S_MI) (o_C : S_MC) (o_X : S_MX) (o_L : S_ML) (res : S_ML) (hM : f_Model_readSign o_C o_X o_L = some res) : Ctr l D cI sd yX8_readSign (wsM yX8_readSign cX8_readSign 5 (Option.none : Option Jvm.ClassFile.FieldType)) { frames := 1, cells := 0, slots := 0, locals := 22 } [.ref (ad 100)] (wM_CXL cI ad o_X o_L o_N o_T o_U o_O o_E o_Q o_V o_I o_C) (wM_CXL cI ad o_X res o_N o_T o_U o_O o_E o_Q o_V o_I o_C) none := by
  refine Ctr.of (cc := cX8_readSign) (maxL := 5) (own := RX8) (by decide +kernel) rfl rfl (Nat.le_of_ble_eq_true rfl) ?_
  intro p e s m below meth c A ls hx hb hr hml hown hts hlk hK hE hA hP hD hS hl
  have hl : lv_has ls 5 [(0, .ref (ad 100))] := hl
  unfold f_Model_readSign at hM
  refine lv_aload_n hx hb dX8_readSign_0 rfl (lv_at hl 0 rfl) ?_
  refine lv_aload_n hx hb dX8_readSign_1 rfl (lv_at hl 0 rfl) ?_
  refine va_get (D := D) (ci := 8) (v := .int o_L.1) (C := RX8) (T := TX8) (N := 48) hx hb hts layX8 hown hK hP 0 rfl rfl 6 (by decide) (hts _ (inA q984)) (fun _ h9 => h9) rfl dX8_readSign_2 ?_
  obtain ⟨r1, hcr1, hM⟩ := ob_use hM
  refine cl_V (As := [.int o_L.1]) (rest := []) (wM_CXL cI ad o_X o_L o_N o_T o_U o_O o_E o_Q o_V o_I o_C) (.int r1 :: []) ⟨hx, hb, hml, hown, hts⟩ (c_Model_at l D cI sd ad o_C o_L o_N o_T o_U o_O o_E o_Q o_V o_I o_X o_L.1 r1 hcr1) (cwV2 hts q1159 mvX8_at rfl rfl ⟨(Nat.le_of_ble_eq_true rfl), (Nat.le_of_ble_eq_true rfl)⟩) hK hE hA hP hD hS 0 (T := TX8) (N := 48) (ci := 8) rfl rfl [0, 5] rfl (by decide) rfl rfl rfl rfl rfl rfl hl.1 (Nat.le_of_ble_eq_true rfl) dX8_readSign_5 ⟨Nat.zero_le _, Nat.zero_le _⟩ (fun H locs hP hD hS => ?_)
  refine lv_istore_n (lv' := [(1, .int r1), (0, .ref (ad 100))]) hx hb dX8_readSign_8 rfl hl (by decide) rfl (fun ls hl => ?_)
  refine lv_iconst (v := (-1)) hx hb dX8_readSign_9 (by decide) ?_
  refine lv_istore_n (lv' := [(2, .int (-1)), (1, .int r1), (0, .ref (ad 100))]) hx hb dX8_readSign_10 rfl hl (by decide) rfl (fun ls hl => ?_)
  refine lv_bipush (v := 21) hx hb dX8_readSign_11 (by decide) ?_
  refine lv_istore_n (lv' := [(3, .int 21), (2, .int (-1)), (1, .int r1), (0, .ref (ad 100))]) hx hb dX8_readSign_13 rfl hl (by decide) rfl (fun ls hl => ?_)
  have lp_L14 : ∀ (w1_L14 : Int32) (o_C_L14 : S_MC) (o_X_L14 : S_MX) (o_L_L14 : S_ML) (n : Nat) (v3_L14 : Int32) (v2_L14 : Int32) (out_L14 : Int32) (H : Heap) (locs : List Loc) (ls : Array Slot), f_Model_readSign_L14 w1_L14 o_C_L14 o_X_L14 o_L_L14 n v3_L14 v2_L14 = some out_L14 → va_P D vwCl (wM_CXL cI ad o_X_L14 o_L_L14 o_N o_T o_U o_O o_E o_Q o_V o_I o_C_L14) H → va_D A (wM_CXL cI ad o_X_L14 o_L_L14 o_N o_T o_U o_O o_E o_Q o_V o_I o_C_L14) → va_S A s.heap H locs → lv_has ls 5 [(3, .int v3_L14), (2, .int v2_L14), (1, .int w1_L14), (0, .ref (ad 100))] → (∀ (H : Heap) (locs : List Loc) (ls : Array Slot), va_P D vwCl (wM_CXL cI ad o_X_L14 o_L_L14 o_N o_T o_U o_O o_E o_Q o_V o_I o_C_L14) H → va_D A (wM_CXL cI ad o_X_L14 o_L_L14 o_N o_T o_U o_O o_E o_Q o_V o_I o_C_L14) → va_S A s.heap H locs → lv_has ls 5 [(2, .int out_L14), (1, .int w1_L14), (0, .ref (ad 100))] → W p l e { frames := 1, cells := 0, slots := 0, locals := 22 } s m [.ref (ad 100)].toArray below meth c H locs 0 0 (MQ below (CQ D A (wM_CXL cI ad o_X res o_N o_T o_U o_O o_E o_Q o_V o_I o_C) none) [.ref (ad 100)].toArray s 0 0 A) (F0 m 90 ls [])) → W p l e { frames := 1, cells := 0, slots := 0, locals := 22 } s m [.ref (ad 100)].toArray below meth c H locs 0 0 (MQ below (CQ D A (wM_CXL cI ad o_X res o_N o_T o_U o_O o_E o_Q o_V o_I o_C) none) [.ref (ad 100)].toArray s 0 0 A) (F0 m 14 ls []) := by
    intro w1_L14 o_C_L14 o_X_L14 o_L_L14 n
    induction n with
    | zero => intro v3_L14 v2_L14 out_L14 H locs ls hM; exact absurd (show none = some _ from hM) (by simp)
    | succ n ih_L14 =>
      intro v3_L14 v2_L14 out_L14 H locs ls hM hP hD hS hl kx_L14
      rw [f_Model_readSign_L14] at hM
      refine lv_iload_n hx hb dX8_readSign_14 rfl (lv_at hl 0 rfl) ?_
      refine lv_if_lt (tgt := 90) hx hb dX8_readSign_15 (by decide) (fun c1241 => ?_) (fun c1241 => ?_)
      · replace hM := if_t c1241 hM
        cases hM
        exact kx_L14 _ _ _ hP hD hS (lv_sub hl [1, 2, 3] rfl)
      · replace hM := if_f c1241 hM
        refine lv_aload_n hx hb dX8_readSign_18 rfl (lv_at hl 3 rfl) ?_
        refine va_get (D := D) (ci := 8) (v := .ref (ad 103)) (C := RX8) (T := TX8) (N := 48) hx hb hts layX8 hown hK hP 0 rfl rfl 2 (by decide) (hts _ (inA q980)) (fun _ h9 => h9) rfl dX8_readSign_19 ?_
        refine lv_iconst (v := 2) hx hb dX8_readSign_22 (by decide) ?_
        refine lv_iload_n hx hb dX8_readSign_23 rfl (lv_at hl 0 rfl) ?_
        refine lv_imul hx hb dX8_readSign_24 ?_
        refine lv_iconst (v := 1) hx hb dX8_readSign_25 (by decide) ?_
        refine lv_iadd hx hb dX8_readSign_26 ?_
        obtain ⟨b1242, hM⟩ := gd_use hM
        refine va_iald hx hb hK hP 3 0 rfl rfl b1242 dX8_readSign_27 ?_
        refine lv_if_eq (tgt := 35) hx hb dX8_readSign_28 (by decide) (fun c1243 => ?_) (fun c1243 => ?_)
        · replace hM := if_t c1243 hM
          refine lv_iconst (v := 0) hx hb dX8_readSign_35 (by decide) ?_
          refine lv_istore (lv' := [(4, .int 0), (3, .int v3_L14), (2, .int v2_L14), (1, .int w1_L14), (0, .ref (ad 100))]) hx hb dX8_readSign_36 hl (by decide) rfl (fun ls hl => ?_)
          refine lv_aload_n hx hb dX8_readSign_38 rfl (lv_at hl 4 rfl) ?_
          refine va_get (D := D) (ci := 8) (v := .ref (ad 103)) (C := RX8) (T := TX8) (N := 48) hx hb hts layX8 hown hK hP 0 rfl rfl 2 (by decide) (hts _ (inA q980)) (fun _ h9 => h9) rfl dX8_readSign_39 ?_
          refine lv_iconst (v := 2) hx hb dX8_readSign_42 (by decide) ?_
          refine lv_iload_n hx hb dX8_readSign_43 rfl (lv_at hl 1 rfl) ?_
          refine lv_imul hx hb dX8_readSign_44 ?_
          obtain ⟨b1244, hM⟩ := gd_use hM
          refine va_iald hx hb hK hP 3 0 rfl rfl b1244 dX8_readSign_45 ?_
          refine lv_iload_n hx hb dX8_readSign_46 rfl (lv_at hl 3 rfl) ?_
          refine lv_icmp_ne (tgt := 82) hx hb dX8_readSign_47 (by decide) (fun c1245 => ?_) (fun c1245 => ?_)
          · replace hM := if_f c1245 hM
            refine lv_iload_n hx hb dX8_readSign_82 rfl (lv_at hl 2 rfl) ?_
            refine lv_istore_n (lv' := [(2, .int v2_L14), (4, .int 0), (3, .int v3_L14), (1, .int w1_L14), (0, .ref (ad 100))]) hx hb dX8_readSign_83 rfl hl (by decide) rfl (fun ls hl => ?_)
            obtain ⟨x1246, ex1246⟩ : ∃ y : Int32, y = v3_L14 + (-1) := ⟨_, rfl⟩
            replace hM := nm_use ex1246 hM
            refine lv_iinc (v := x1246) (lv' := [(3, .int x1246), (2, .int v2_L14), (4, .int 0), (1, .int w1_L14), (0, .ref (ad 100))]) hx hb dX8_readSign_84 hl (k := 2) rfl (by rw [ex1246]; rfl) (by decide) rfl (fun ls hl => ?_)
            refine lv_goto (tgt := 14) hx hb dX8_readSign_87 (by decide) ?_
            exact ih_L14 x1246 v2_L14 out_L14 _ _ _ hM hP hD hS (lv_sub hl [0, 1, 3, 4] rfl) kx_L14
          · replace hM := if_t c1245 hM
            refine lv_iload hx hb dX8_readSign_50 (lv_at hl 0 rfl) ?_
            refine lv_if_eq (tgt := 78) hx hb dX8_readSign_52 (by decide) (fun c1247 => ?_) (fun c1247 => False.elim (by revert c1247; decide))
            refine lv_iload_n hx hb dX8_readSign_78 rfl (lv_at hl 1 rfl) ?_
            refine lv_goto (tgt := 83) hx hb dX8_readSign_79 (by decide) ?_
            refine lv_istore_n (lv' := [(2, .int v3_L14), (4, .int 0), (3, .int v3_L14), (1, .int w1_L14), (0, .ref (ad 100))]) hx hb dX8_readSign_83 rfl hl (by decide) rfl (fun ls hl => ?_)
            obtain ⟨x1248, ex1248⟩ : ∃ y : Int32, y = v3_L14 + (-1) := ⟨_, rfl⟩
            replace hM := nm_use ex1248 hM
            refine lv_iinc (v := x1248) (lv' := [(3, .int x1248), (2, .int v3_L14), (4, .int 0), (1, .int w1_L14), (0, .ref (ad 100))]) hx hb dX8_readSign_84 hl (k := 2) rfl (by rw [ex1248]; rfl) (by decide) rfl (fun ls hl => ?_)
            refine lv_goto (tgt := 14) hx hb dX8_readSign_87 (by decide) ?_
            exact ih_L14 x1248 v3_L14 out_L14 _ _ _ hM hP hD hS (lv_sub hl [0, 1, 3, 4] rfl) kx_L14
        · replace hM := if_f c1243 hM
          refine lv_iconst (v := 1) hx hb dX8_readSign_31 (by decide) ?_
          refine lv_goto (tgt := 36) hx hb dX8_readSign_32 (by decide) ?_
          refine lv_istore (lv' := [(4, .int 1), (3, .int v3_L14), (2, .int v2_L14), (1, .int w1_L14), (0, .ref (ad 100))]) hx hb dX8_readSign_36 hl (by decide) rfl (fun ls hl => ?_)
          refine lv_aload_n hx hb dX8_readSign_38 rfl (lv_at hl 4 rfl) ?_
          refine va_get (D := D) (ci := 8) (v := .ref (ad 103)) (C := RX8) (T := TX8) (N := 48) hx hb hts layX8 hown hK hP 0 rfl rfl 2 (by decide) (hts _ (inA q980)) (fun _ h9 => h9) rfl dX8_readSign_39 ?_
          refine lv_iconst (v := 2) hx hb dX8_readSign_42 (by decide) ?_
          refine lv_iload_n hx hb dX8_readSign_43 rfl (lv_at hl 1 rfl) ?_
          refine lv_imul hx hb dX8_readSign_44 ?_
          obtain ⟨b1249, hM⟩ := gd_use hM
          refine va_iald hx hb hK hP 3 0 rfl rfl b1249 dX8_readSign_45 ?_
          refine lv_iload_n hx hb dX8_readSign_46 rfl (lv_at hl 3 rfl) ?_
          refine lv_icmp_ne (tgt := 82) hx hb dX8_readSign_47 (by decide) (fun c1250 => ?_) (fun c1250 => ?_)
          · replace hM := if_f c1250 hM
            refine lv_iload_n hx hb dX8_readSign_82 rfl (lv_at hl 2 rfl) ?_
            refine lv_istore_n (lv' := [(2, .int v2_L14), (4, .int 1), (3, .int v3_L14), (1, .int w1_L14), (0, .ref (ad 100))]) hx hb dX8_readSign_83 rfl hl (by decide) rfl (fun ls hl => ?_)
            obtain ⟨x1251, ex1251⟩ : ∃ y : Int32, y = v3_L14 + (-1) := ⟨_, rfl⟩
            replace hM := nm_use ex1251 hM
            refine lv_iinc (v := x1251) (lv' := [(3, .int x1251), (2, .int v2_L14), (4, .int 1), (1, .int w1_L14), (0, .ref (ad 100))]) hx hb dX8_readSign_84 hl (k := 2) rfl (by rw [ex1251]; rfl) (by decide) rfl (fun ls hl => ?_)
            refine lv_goto (tgt := 14) hx hb dX8_readSign_87 (by decide) ?_
            exact ih_L14 x1251 v2_L14 out_L14 _ _ _ hM hP hD hS (lv_sub hl [0, 1, 3, 4] rfl) kx_L14
          · replace hM := if_t c1250 hM
            refine lv_iload hx hb dX8_readSign_50 (lv_at hl 0 rfl) ?_
            refine lv_if_eq (tgt := 78) hx hb dX8_readSign_52 (by decide) (fun c1252 => False.elim (by revert c1252; decide)) (fun c1252 => ?_)
            refine lv_aload_n hx hb dX8_readSign_55 rfl (lv_at hl 4 rfl) ?_
            refine va_get (D := D) (ci := 8) (v := .ref (ad 103)) (C := RX8) (T := TX8) (N := 48) hx hb hts layX8 hown hK hP 0 rfl rfl 2 (by decide) (hts _ (inA q980)) (fun _ h9 => h9) rfl dX8_readSign_56 ?_
            refine lv_iconst (v := 2) hx hb dX8_readSign_59 (by decide) ?_
            refine lv_iload_n hx hb dX8_readSign_60 rfl (lv_at hl 1 rfl) ?_
            refine lv_imul hx hb dX8_readSign_61 ?_
            refine lv_iconst (v := 1) hx hb dX8_readSign_62 (by decide) ?_
            refine lv_iadd hx hb dX8_readSign_63 ?_
            obtain ⟨b1253, hM⟩ := gd_use hM
            refine va_iald hx hb hK hP 3 0 rfl rfl b1253 dX8_readSign_64 ?_
            refine lv_aload_n hx hb dX8_readSign_65 rfl (lv_at hl 4 rfl) ?_
            refine lv_aload_n hx hb dX8_readSign_66 rfl (lv_at hl 4 rfl) ?_
            refine va_get (D := D) (ci := 8) (v := .int o_L_L14.1) (C := RX8) (T := TX8) (N := 48) hx hb hts layX8 hown hK hP 0 rfl rfl 6 (by decide) (hts _ (inA q984)) (fun _ h9 => h9) rfl dX8_readSign_67 ?_
            refine lv_iconst (v := 1) hx hb dX8_readSign_70 (by decide) ?_
            refine lv_iadd hx hb dX8_readSign_71 ?_
            obtain ⟨r1254, hcr1254, hM⟩ := ob_use hM
            refine cl_V (As := [.int (o_L_L14.1 + 1)]) (rest := [.int (o_C_L14.2.2.1 ((2 * v3_L14) + 1).toNatClampNeg)]) (wM_CXL cI ad o_X_L14 o_L_L14 o_N o_T o_U o_O o_E o_Q o_V o_I o_C_L14) (.int r1254 :: [.int (o_C_L14.2.2.1 ((2 * v3_L14) + 1).toNatClampNeg)]) ⟨hx, hb, hml, hown, hts⟩ (c_Model_at l D cI sd ad o_C_L14 o_L_L14 o_N o_T o_U o_O o_E o_Q o_V o_I o_X_L14 (o_L_L14.1 + 1) r1254 hcr1254) (cwV2 hts q1159 mvX8_at rfl rfl ⟨(Nat.le_of_ble_eq_true rfl), (Nat.le_of_ble_eq_true rfl)⟩) hK hE hA hP hD hS 0 (T := TX8) (N := 48) (ci := 8) rfl rfl [0, 5] rfl (by decide) rfl rfl rfl rfl rfl rfl hl.1 (Nat.le_of_ble_eq_true rfl) dX8_readSign_72 ⟨Nat.zero_le _, Nat.zero_le _⟩ (fun H locs hP hD hS => ?_)
            refine lv_icmp_ne (tgt := 82) hx hb dX8_readSign_75 (by decide) (fun c1255 => ?_) (fun c1255 => ?_)
            · replace hM := if_f c1255 hM
              refine lv_iload_n hx hb dX8_readSign_82 rfl (lv_at hl 2 rfl) ?_
              refine lv_istore_n (lv' := [(2, .int v2_L14), (4, .int 1), (3, .int v3_L14), (1, .int w1_L14), (0, .ref (ad 100))]) hx hb dX8_readSign_83 rfl hl (by decide) rfl (fun ls hl => ?_)
              obtain ⟨x1256, ex1256⟩ : ∃ y : Int32, y = v3_L14 + (-1) := ⟨_, rfl⟩
              replace hM := nm_use ex1256 hM
              refine lv_iinc (v := x1256) (lv' := [(3, .int x1256), (2, .int v2_L14), (4, .int 1), (1, .int w1_L14), (0, .ref (ad 100))]) hx hb dX8_readSign_84 hl (k := 2) rfl (by rw [ex1256]; rfl) (by decide) rfl (fun ls hl => ?_)
              refine lv_goto (tgt := 14) hx hb dX8_readSign_87 (by decide) ?_
              exact ih_L14 x1256 v2_L14 out_L14 _ _ _ hM hP hD hS (lv_sub hl [0, 1, 3, 4] rfl) kx_L14
            · replace hM := if_t c1255 hM
              refine lv_iload_n hx hb dX8_readSign_78 rfl (lv_at hl 1 rfl) ?_
              refine lv_goto (tgt := 83) hx hb dX8_readSign_79 (by decide) ?_
              refine lv_istore_n (lv' := [(2, .int v3_L14), (4, .int 1), (3, .int v3_L14), (1, .int w1_L14), (0, .ref (ad 100))]) hx hb dX8_readSign_83 rfl hl (by decide) rfl (fun ls hl => ?_)
              obtain ⟨x1257, ex1257⟩ : ∃ y : Int32, y = v3_L14 + (-1) := ⟨_, rfl⟩
              replace hM := nm_use ex1257 hM
              refine lv_iinc (v := x1257) (lv' := [(3, .int x1257), (2, .int v3_L14), (4, .int 1), (1, .int w1_L14), (0, .ref (ad 100))]) hx hb dX8_readSign_84 hl (k := 2) rfl (by rw [ex1257]; rfl) (by decide) rfl (fun ls hl => ?_)
              refine lv_goto (tgt := 14) hx hb dX8_readSign_87 (by decide) ?_
              exact ih_L14 x1257 v3_L14 out_L14 _ _ _ hM hP hD hS (lv_sub hl [0, 1, 3, 4] rfl) kx_L14
  obtain ⟨r2, hcr2, hM⟩ := ob_use hM
  refine lp_L14 r1 o_C o_X o_L FU 21 (-1) r2 _ _ _ hcr2 hP hD hS (lv_sub hl [0, 1, 2, 3] rfl) (fun H locs ls hP hD hS hl => ?_)
  refine lv_iload_n hx hb dX8_readSign_90 rfl (lv_at hl 0 rfl) ?_
  refine lv_if_ge (tgt := 104) hx hb dX8_readSign_91 (by decide) (fun c3 => ?_) (fun c3 => ?_)
  · replace hM := if_t c3 hM
    refine lv_aload_n hx hb dX8_readSign_104 rfl (lv_at hl 2 rfl) ?_
    refine lv_bipush (v := 50) hx hb dX8_readSign_105 (by decide) ?_
    refine lv_iload_n hx hb dX8_readSign_107 rfl (lv_at hl 0 rfl) ?_
    refine lv_iadd hx hb dX8_readSign_108 ?_
    refine va_put (D := D) (ci := 8) (v := .int (50 + r2)) (ty := .int) (C := RX8) (T := TX8) (N := 48) hx hb hts layX8 tyX8 tyX8_ok nmX8 hown hK hP hD hS 0 rfl rfl 7 (by decide) (hts _ (inA q985)) (fun _ h9 => h9) rfl (by decide +kernel) rfl rfl (Nat.le_of_ble_eq_true rfl) dX8_readSign_109 (fun H locs hP hD hS => ?_)
    have hP : va_P D vwCl (wM_CXL cI ad o_X (o_L.1, 50 + r2, o_L.2.2) o_N o_T o_U o_O o_E o_Q o_V o_I o_C) H := hP
    have hD : va_D A (wM_CXL cI ad o_X (o_L.1, 50 + r2, o_L.2.2) o_N o_T o_U o_O o_E o_Q o_V o_I o_C) := hD
    refine lv_aload_n hx hb dX8_readSign_112 rfl (lv_at hl 2 rfl) ?_
    refine lv_aload_n hx hb dX8_readSign_113 rfl (lv_at hl 2 rfl) ?_
    refine va_get (D := D) (ci := 8) (v := .int o_L.1) (C := RX8) (T := TX8) (N := 48) hx hb hts layX8 hown hK hP 0 rfl rfl 6 (by decide) (hts _ (inA q984)) (fun _ h9 => h9) rfl dX8_readSign_114 ?_
    refine lv_aload_n hx hb dX8_readSign_117 rfl (lv_at hl 2 rfl) ?_
    refine va_get (D := D) (ci := 8) (v := .ref (ad 103)) (C := RX8) (T := TX8) (N := 48) hx hb hts layX8 hown hK hP 0 rfl rfl 2 (by decide) (hts _ (inA q980)) (fun _ h9 => h9) rfl dX8_readSign_118 ?_
    refine lv_iconst (v := 2) hx hb dX8_readSign_121 (by decide) ?_
    refine lv_iload_n hx hb dX8_readSign_122 rfl (lv_at hl 0 rfl) ?_
    refine lv_imul hx hb dX8_readSign_123 ?_
    refine lv_iconst (v := 1) hx hb dX8_readSign_124 (by decide) ?_
    refine lv_iadd hx hb dX8_readSign_125 ?_
    obtain ⟨b4, hM⟩ := gd_use hM
    refine va_iald hx hb hK hP 3 0 rfl rfl b4 dX8_readSign_126 ?_
    refine lv_if_eq (tgt := 134) hx hb dX8_readSign_127 (by decide) (fun c5 => ?_) (fun c5 => ?_)
    · replace hM := if_t c5 hM
      refine lv_iconst (v := 1) hx hb dX8_readSign_134 (by decide) ?_
      refine lv_iadd hx hb dX8_readSign_135 ?_
      refine va_put (D := D) (ci := 8) (v := .int (o_L.1 + 1)) (ty := .int) (C := RX8) (T := TX8) (N := 48) hx hb hts layX8 tyX8 tyX8_ok nmX8 hown hK hP hD hS 0 rfl rfl 9 (by decide) (hts _ (inA q987)) (fun _ h9 => h9) rfl (by decide +kernel) rfl rfl (Nat.le_of_ble_eq_true rfl) dX8_readSign_136 (fun H locs hP hD hS => ?_)
      have hP : va_P D vwCl (wM_CXL cI ad o_X (o_L.1, 50 + r2, o_L.2.2.1, o_L.1 + 1, o_L.2.2.2.2) o_N o_T o_U o_O o_E o_Q o_V o_I o_C) H := hP
      have hD : va_D A (wM_CXL cI ad o_X (o_L.1, 50 + r2, o_L.2.2.1, o_L.1 + 1, o_L.2.2.2.2) o_N o_T o_U o_O o_E o_Q o_V o_I o_C) := hD
      cases hM
      exact rt_v hx hb hr hlk hP hD hS rfl dX8_readSign_139
    · replace hM := if_f c5 hM
      refine lv_iconst (v := 2) hx hb dX8_readSign_130 (by decide) ?_
      refine lv_goto (tgt := 135) hx hb dX8_readSign_131 (by decide) ?_
      refine lv_iadd hx hb dX8_readSign_135 ?_
      refine va_put (D := D) (ci := 8) (v := .int (o_L.1 + 2)) (ty := .int) (C := RX8) (T := TX8) (N := 48) hx hb hts layX8 tyX8 tyX8_ok nmX8 hown hK hP hD hS 0 rfl rfl 9 (by decide) (hts _ (inA q987)) (fun _ h9 => h9) rfl (by decide +kernel) rfl rfl (Nat.le_of_ble_eq_true rfl) dX8_readSign_136 (fun H locs hP hD hS => ?_)
      have hP : va_P D vwCl (wM_CXL cI ad o_X (o_L.1, 50 + r2, o_L.2.2.1, o_L.1 + 2, o_L.2.2.2.2) o_N o_T o_U o_O o_E o_Q o_V o_I o_C) H := hP
      have hD : va_D A (wM_CXL cI ad o_X (o_L.1, 50 + r2, o_L.2.2.1, o_L.1 + 2, o_L.2.2.2.2) o_N o_T o_U o_O o_E o_Q o_V o_I o_C) := hD
      cases hM
      exact rt_v hx hb hr hlk hP hD hS rfl dX8_readSign_139
  · replace hM := if_f c3 hM
    refine lv_aload_n hx hb dX8_readSign_94 rfl (lv_at hl 2 rfl) ?_
    refine lv_iconst (v := 1) hx hb dX8_readSign_95 (by decide) ?_
    refine lv_aload_n hx hb dX8_readSign_96 rfl (lv_at hl 2 rfl) ?_
    refine va_get (D := D) (ci := 8) (v := .int o_L.1) (C := RX8) (T := TX8) (N := 48) hx hb hts layX8 hown hK hP 0 rfl rfl 6 (by decide) (hts _ (inA q984)) (fun _ h9 => h9) rfl dX8_readSign_97 ?_
    obtain ⟨r6, hcr6, hM⟩ := ob_use hM
    refine cl_V (As := [.int 1, .int o_L.1]) (rest := []) (wM_CXL cI ad o_X r6 o_N o_T o_U o_O o_E o_Q o_V o_I o_C) [] ⟨hx, hb, hml, hown, hts⟩ (c_Model_fail l D cI sd ad o_C o_X o_N o_T o_U o_O o_E o_Q o_V o_I o_L 1 o_L.1 r6 hcr6) (cwV2 hts q1163 mvX8_fail rfl rfl ⟨(Nat.le_of_ble_eq_true rfl), (Nat.le_of_ble_eq_true rfl)⟩) hK hE hA hP hD hS 0 (T := TX8) (N := 48) (ci := 8) rfl rfl [0] rfl (by decide) rfl rfl rfl rfl rfl rfl hl.1 (Nat.le_of_ble_eq_true rfl) dX8_readSign_100 ⟨Nat.zero_le _, Nat.zero_le _⟩ (fun H locs hP hD hS => ?_)
    cases hM
    exact rt_v hx hb hr hlk hP hD hS rfl dX8_readSign_103
