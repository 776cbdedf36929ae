set_option maxHeartbeats 4000000 in
set_option maxRecDepth 100000 in
theorem c_Model_readPlace (l : Launch) (D : va_G) (cI : ClassId) (sd : Nat → Nat) (ad : Nat → Nat) (o_N : S_MN) (o_T : S_MT) (o_U : S_MU) (o_O : S_MO) (o_E : S_ME) (o_Q : S_MQ) (o_V : S_MV) (o_I : S_MI) (o_C : S_MC) (o_X : S_MX) (o_L : S_ML) (res : S_ML) (hM : f_Model_readPlace o_C o_X o_L = some res) : Ctr l D cI sd yX8_readPlace (wsM yX8_readPlace cX8_readPlace 4 (Option.none : Option Jvm.ClassFile.FieldType)) { frames := 3, cells := 0, slots := 0, locals := 65 } [.ref (ad 100)] (wM_CXL cI ad o_X o_L o_N o_T o_U o_O o_E o_Q o_V o_I o_C) (wM_CXL cI ad o_X res o_N o_T o_U o_O o_E o_Q o_V o_I o_C) none := by
  refine Ctr.of (cc := cX8_readPlace) (maxL := 4) (own := RX8) (by decide +kernel) rfl rfl (Nat.le_of_ble_eq_true rfl) ?_
  intro p e s m below meth c A ls hx hb hr hml hown hts hlk hK hE hA hP hD hS hl
  have hl : lv_has ls 4 [(0, .ref (ad 100))] := hl
  unfold f_Model_readPlace at hM
  refine lv_iconst (v := (-1)) hx hb dX8_readPlace_0 (by decide) ?_
  refine lv_istore_n (lv' := [(1, .int (-1)), (0, .ref (ad 100))]) hx hb dX8_readPlace_1 rfl hl (by decide) rfl (fun ls hl => ?_)
  refine lv_iconst (v := 0) hx hb dX8_readPlace_2 (by decide) ?_
  refine lv_istore_n (lv' := [(2, .int 0), (1, .int (-1)), (0, .ref (ad 100))]) hx hb dX8_readPlace_3 rfl hl (by decide) rfl (fun ls hl => ?_)
  have lp_L4 : ∀ (o_C_L4 : S_MC) (o_X_L4 : S_MX) (o_L_L4 : S_ML) (n : Nat) (v2_L4 : Int32) (v1_L4 : Int32) (out_L4 : Int32) (H : Heap) (locs : List Loc) (ls : Array Slot), f_Model_readPlace_L4 o_C_L4 o_X_L4 o_L_L4 n v2_L4 v1_L4 = some out_L4 → va_P D vwCl (wM_CXL cI ad o_X_L4 o_L_L4 o_N o_T o_U o_O o_E o_Q o_V o_I o_C_L4) H → va_D A (wM_CXL cI ad o_X_L4 o_L_L4 o_N o_T o_U o_O o_E o_Q o_V o_I o_C_L4) → va_S A s.heap H locs → lv_has ls 4 [(2, .int v2_L4), (1, .int v1_L4), (0, .ref (ad 100))] → (∀ (H : Heap) (locs : List Loc) (ls : Array Slot), va_P D vwCl (wM_CXL cI ad o_X_L4 o_L_L4 o_N o_T o_U o_O o_E o_Q o_V o_I o_C_L4) H → va_D A (wM_CXL cI ad o_X_L4 o_L_L4 o_N o_T o_U o_O o_E o_Q o_V o_I o_C_L4) → va_S A s.heap H locs → lv_has ls 4 [(1, .int out_L4), (0, .ref (ad 100))] → W p l e { frames := 3, cells := 0, slots := 0, locals := 65 } s m [.ref (ad 100)].toArray below meth c H locs 0 0 (MQ below (CQ D A (wM_CXL cI ad o_X res o_N o_T o_U o_O o_E o_Q o_V o_I o_C) none) [.ref (ad 100)].toArray s 0 0 A) (F0 m 72 ls [])) → W p l e { frames := 3, cells := 0, slots := 0, locals := 65 } s m [.ref (ad 100)].toArray below meth c H locs 0 0 (MQ below (CQ D A (wM_CXL cI ad o_X res o_N o_T o_U o_O o_E o_Q o_V o_I o_C) none) [.ref (ad 100)].toArray s 0 0 A) (F0 m 4 ls []) := by
    intro o_C_L4 o_X_L4 o_L_L4 n
    induction n with
    | zero => intro v2_L4 v1_L4 out_L4 H locs ls hM; exact absurd (show none = some _ from hM) (by simp)
    | succ n ih_L4 =>
      intro v2_L4 v1_L4 out_L4 H locs ls hM hP hD hS hl kx_L4
      rw [f_Model_readPlace_L4] at hM
      refine lv_iload_n hx hb dX8_readPlace_4 rfl (lv_at hl 0 rfl) ?_
      refine lv_bipush (v := 6) hx hb dX8_readPlace_5 (by decide) ?_
      refine lv_icmp_ge (tgt := 72) hx hb dX8_readPlace_7 (by decide) (fun c1141 => ?_) (fun c1141 => ?_)
      · replace hM := if_t c1141 hM
        cases hM
        exact kx_L4 _ _ _ hP hD hS (lv_sub hl [1, 2] rfl)
      · replace hM := if_f c1141 hM
        refine lv_aload_n hx hb dX8_readPlace_10 rfl (lv_at hl 2 rfl) ?_
        refine lv_aload_n hx hb dX8_readPlace_11 rfl (lv_at hl 2 rfl) ?_
        refine va_get (D := D) (ci := 8) (v := .int o_L_L4.1) (C := RX8) (T := TX8) (N := 48) hx hb hts layX8 hown hK hP 0 rfl rfl 6 (by decide) (hts _ (inA q984)) (fun _ h9 => h9) rfl dX8_readPlace_12 ?_
        refine lv_iconst (v := 1) hx hb dX8_readPlace_15 (by decide) ?_
        refine lv_iadd hx hb dX8_readPlace_16 ?_
        obtain ⟨r1142, hcr1142, hM⟩ := ob_use hM
        refine cl_V (As := [.int (o_L_L4.1 + 1)]) (rest := []) (wM_CXL cI ad o_X_L4 o_L_L4 o_N o_T o_U o_O o_E o_Q o_V o_I o_C_L4) (.int r1142 :: []) ⟨hx, hb, hml, hown, hts⟩ (c_Model_at l D cI sd ad o_C_L4 o_L_L4 o_N o_T o_U o_O o_E o_Q o_V o_I o_X_L4 (o_L_L4.1 + 1) r1142 hcr1142) (cwV2 hts q1159 mvX8_at rfl rfl ⟨(Nat.le_of_ble_eq_true rfl), (Nat.le_of_ble_eq_true rfl)⟩) hK hE hA hP hD hS 0 (T := TX8) (N := 48) (ci := 8) rfl rfl [0, 5] rfl (by decide) rfl rfl rfl rfl rfl rfl hl.1 (Nat.le_of_ble_eq_true rfl) dX8_readPlace_17 ⟨Nat.zero_le _, Nat.zero_le _⟩ (fun H locs hP hD hS => ?_)
        obtain ⟨r1143, hcr1143, hM⟩ := ob_use hM
        refine cl_S (As := [.int r1142]) (rest := []) (wM_CXL cI ad o_X_L4 o_L_L4 o_N o_T o_U o_O o_E o_Q o_V o_I o_C_L4) (.int r1143 :: []) ⟨hx, hb, hml, hown, hts⟩ (c_Model_great l D cI sd ad r1142 r1143 hcr1143) (cwS2 hts q1178 mvX8_great rfl rfl ⟨(Nat.le_of_ble_eq_true rfl), (Nat.le_of_ble_eq_true rfl)⟩) hK hE hA hP hD hS [] rfl (by decide) rfl rfl rfl rfl rfl rfl hl.1 (Nat.le_of_ble_eq_true rfl) dX8_readPlace_20 ⟨Nat.zero_le _, Nat.zero_le _⟩ (fun H locs hP hD hS => ?_)
        refine lv_aload_n hx hb dX8_readPlace_23 rfl (lv_at hl 2 rfl) ?_
        refine va_get (D := D) (ci := 8) (v := .ref (ad 104)) (C := RX8) (T := TX8) (N := 48) hx hb hts layX8 hown hK hP 0 rfl rfl 3 (by decide) (hts _ (inA q981)) (fun _ h9 => h9) rfl dX8_readPlace_24 ?_
        refine lv_iconst (v := 2) hx hb dX8_readPlace_27 (by decide) ?_
        refine lv_iload_n hx hb dX8_readPlace_28 rfl (lv_at hl 0 rfl) ?_
        refine lv_imul hx hb dX8_readPlace_29 ?_
        obtain ⟨b1144, hM⟩ := gd_use hM
        refine va_iald hx hb hK hP 4 0 rfl rfl b1144 dX8_readPlace_30 ?_
        refine lv_icmp_ne (tgt := 64) hx hb dX8_readPlace_31 (by decide) (fun c1145 => ?_) (fun c1145 => ?_)
        · replace hM := if_f c1145 hM
          refine lv_iload_n hx hb dX8_readPlace_64 rfl (lv_at hl 1 rfl) ?_
          refine lv_istore_n (lv' := [(1, .int v1_L4), (2, .int v2_L4), (0, .ref (ad 100))]) hx hb dX8_readPlace_65 rfl hl (by decide) rfl (fun ls hl => ?_)
          obtain ⟨x1146, ex1146⟩ : ∃ y : Int32, y = v2_L4 + 1 := ⟨_, rfl⟩
          replace hM := nm_use ex1146 hM
          refine lv_iinc (v := x1146) (lv' := [(2, .int x1146), (1, .int v1_L4), (0, .ref (ad 100))]) hx hb dX8_readPlace_66 hl (k := 1) rfl (by rw [ex1146]; rfl) (by decide) rfl (fun ls hl => ?_)
          refine lv_goto (tgt := 4) hx hb dX8_readPlace_69 (by decide) ?_
          exact ih_L4 x1146 v1_L4 out_L4 _ _ _ hM hP hD hS (lv_sub hl [0, 1, 2] rfl) kx_L4
        · replace hM := if_t c1145 hM
          refine lv_aload_n hx hb dX8_readPlace_34 rfl (lv_at hl 2 rfl) ?_
          refine lv_aload_n hx hb dX8_readPlace_35 rfl (lv_at hl 2 rfl) ?_
          refine va_get (D := D) (ci := 8) (v := .int o_L_L4.1) (C := RX8) (T := TX8) (N := 48) hx hb hts layX8 hown hK hP 0 rfl rfl 6 (by decide) (hts _ (inA q984)) (fun _ h9 => h9) rfl dX8_readPlace_36 ?_
          refine lv_iconst (v := 2) hx hb dX8_readPlace_39 (by decide) ?_
          refine lv_iadd hx hb dX8_readPlace_40 ?_
          obtain ⟨r1147, hcr1147, hM⟩ := ob_use hM
          refine cl_V (As := [.int (o_L_L4.1 + 2)]) (rest := []) (wM_CXL cI ad o_X_L4 o_L_L4 o_N o_T o_U o_O o_E o_Q o_V o_I o_C_L4) (.int r1147 :: []) ⟨hx, hb, hml, hown, hts⟩ (c_Model_at l D cI sd ad o_C_L4 o_L_L4 o_N o_T o_U o_O o_E o_Q o_V o_I o_X_L4 (o_L_L4.1 + 2) r1147 hcr1147) (cwV2 hts q1159 mvX8_at rfl rfl ⟨(Nat.le_of_ble_eq_true rfl), (Nat.le_of_ble_eq_true rfl)⟩) hK hE hA hP hD hS 0 (T := TX8) (N := 48) (ci := 8) rfl rfl [0, 5] rfl (by decide) rfl rfl rfl rfl rfl rfl hl.1 (Nat.le_of_ble_eq_true rfl) dX8_readPlace_41 ⟨Nat.zero_le _, Nat.zero_le _⟩ (fun H locs hP hD hS => ?_)
          obtain ⟨r1148, hcr1148, hM⟩ := ob_use hM
          refine cl_S (As := [.int r1147]) (rest := []) (wM_CXL cI ad o_X_L4 o_L_L4 o_N o_T o_U o_O o_E o_Q o_V o_I o_C_L4) (.int r1148 :: []) ⟨hx, hb, hml, hown, hts⟩ (c_Model_great l D cI sd ad r1147 r1148 hcr1148) (cwS2 hts q1178 mvX8_great rfl rfl ⟨(Nat.le_of_ble_eq_true rfl), (Nat.le_of_ble_eq_true rfl)⟩) hK hE hA hP hD hS [] rfl (by decide) rfl rfl rfl rfl rfl rfl hl.1 (Nat.le_of_ble_eq_true rfl) dX8_readPlace_44 ⟨Nat.zero_le _, Nat.zero_le _⟩ (fun H locs hP hD hS => ?_)
          refine lv_aload_n hx hb dX8_readPlace_47 rfl (lv_at hl 2 rfl) ?_
          refine va_get (D := D) (ci := 8) (v := .ref (ad 104)) (C := RX8) (T := TX8) (N := 48) hx hb hts layX8 hown hK hP 0 rfl rfl 3 (by decide) (hts _ (inA q981)) (fun _ h9 => h9) rfl dX8_readPlace_48 ?_
          refine lv_iconst (v := 2) hx hb dX8_readPlace_51 (by decide) ?_
          refine lv_iload_n hx hb dX8_readPlace_52 rfl (lv_at hl 0 rfl) ?_
          refine lv_imul hx hb dX8_readPlace_53 ?_
          refine lv_iconst (v := 1) hx hb dX8_readPlace_54 (by decide) ?_
          refine lv_iadd hx hb dX8_readPlace_55 ?_
          obtain ⟨b1149, hM⟩ := gd_use hM
          refine va_iald hx hb hK hP 4 0 rfl rfl b1149 dX8_readPlace_56 ?_
          refine lv_icmp_ne (tgt := 64) hx hb dX8_readPlace_57 (by decide) (fun c1150 => ?_) (fun c1150 => ?_)
          · replace hM := if_f c1150 hM
            refine lv_iload_n hx hb dX8_readPlace_64 rfl (lv_at hl 1 rfl) ?_
            refine lv_istore_n (lv' := [(1, .int v1_L4), (2, .int v2_L4), (0, .ref (ad 100))]) hx hb dX8_readPlace_65 rfl hl (by decide) rfl (fun ls hl => ?_)
            obtain ⟨x1151, ex1151⟩ : ∃ y : Int32, y = v2_L4 + 1 := ⟨_, rfl⟩
            replace hM := nm_use ex1151 hM
            refine lv_iinc (v := x1151) (lv' := [(2, .int x1151), (1, .int v1_L4), (0, .ref (ad 100))]) hx hb dX8_readPlace_66 hl (k := 1) rfl (by rw [ex1151]; rfl) (by decide) rfl (fun ls hl => ?_)
            refine lv_goto (tgt := 4) hx hb dX8_readPlace_69 (by decide) ?_
            exact ih_L4 x1151 v1_L4 out_L4 _ _ _ hM hP hD hS (lv_sub hl [0, 1, 2] rfl) kx_L4
          · replace hM := if_t c1150 hM
            refine lv_iload_n hx hb dX8_readPlace_60 rfl (lv_at hl 0 rfl) ?_
            refine lv_goto (tgt := 65) hx hb dX8_readPlace_61 (by decide) ?_
            refine lv_istore_n (lv' := [(1, .int v2_L4), (2, .int v2_L4), (0, .ref (ad 100))]) hx hb dX8_readPlace_65 rfl hl (by decide) rfl (fun ls hl => ?_)
            obtain ⟨x1152, ex1152⟩ : ∃ y : Int32, y = v2_L4 + 1 := ⟨_, rfl⟩
            replace hM := nm_use ex1152 hM
            refine lv_iinc (v := x1152) (lv' := [(2, .int x1152), (1, .int v2_L4), (0, .ref (ad 100))]) hx hb dX8_readPlace_66 hl (k := 1) rfl (by rw [ex1152]; rfl) (by decide) rfl (fun ls hl => ?_)
            refine lv_goto (tgt := 4) hx hb dX8_readPlace_69 (by decide) ?_
            exact ih_L4 x1152 v2_L4 out_L4 _ _ _ hM hP hD hS (lv_sub hl [0, 1, 2] rfl) kx_L4
  obtain ⟨r1, hcr1, hM⟩ := ob_use hM
  refine lp_L4 o_C o_X o_L FU 0 (-1) r1 _ _ _ hcr1 hP hD hS (lv_sub hl [0, 1, 2] rfl) (fun H locs ls hP hD hS hl => ?_)
  refine lv_aload_n hx hb dX8_readPlace_72 rfl (lv_at hl 1 rfl) ?_
  refine lv_aload_n hx hb dX8_readPlace_73 rfl (lv_at hl 1 rfl) ?_
  refine va_get (D := D) (ci := 8) (v := .int o_L.1) (C := RX8) (T := TX8) (N := 48) hx hb hts layX8 hown hK hP 0 rfl rfl 6 (by decide) (hts _ (inA q984)) (fun _ h9 => h9) rfl dX8_readPlace_74 ?_
  refine lv_iconst (v := 3) hx hb dX8_readPlace_77 (by decide) ?_
  refine lv_iadd hx hb dX8_readPlace_78 ?_
  refine va_put (D := D) (ci := 8) (v := .int (o_L.1 + 3)) (ty := .int) (C := RX8) (T := TX8) (N := 48) hx hb hts layX8 tyX8 tyX8_ok nmX8 hown hK hP hD hS 0 rfl rfl 9 (by decide) (hts _ (inA q987)) (fun _ h9 => h9) rfl (by decide +kernel) rfl rfl (Nat.le_of_ble_eq_true rfl) dX8_readPlace_79 (fun H locs hP hD hS => ?_)
  have hP : va_P D vwCl (wM_CXL cI ad o_X (o_L.1, o_L.2.1, o_L.2.2.1, o_L.1 + 3, o_L.2.2.2.2) o_N o_T o_U o_O o_E o_Q o_V o_I o_C) H := hP
  have hD : va_D A (wM_CXL cI ad o_X (o_L.1, o_L.2.1, o_L.2.2.1, o_L.1 + 3, o_L.2.2.2.2) o_N o_T o_U o_O o_E o_Q o_V o_I o_C) := hD
  refine lv_iload_n hx hb dX8_readPlace_82 rfl (lv_at hl 0 rfl) ?_
  refine lv_if_lt (tgt := 95) hx hb dX8_readPlace_83 (by decide) (fun c2 => ?_) (fun c2 => ?_)
  · replace hM := if_t c2 hM
    refine lv_ldc2 (v := (-1)) hx hb hown (hts _ (inA q1185)) dX8_readPlace_95 ?_
    refine lv_lstore_n (lv' := [(2, .long (-1)), (1, .int r1), (0, .ref (ad 100))]) hx hb dX8_readPlace_98 rfl hl (by decide) rfl (fun ls hl => ?_)
    refine lv_lload_n hx hb dX8_readPlace_99 rfl (lv_at hl 0 rfl) ?_
    refine lv_lconst (v := 0) hx hb dX8_readPlace_100 (by decide) ?_
    refine W.lcmp hx hb dX8_readPlace_101 ?_
    refine lv_if_lt (tgt := 135) hx hb dX8_readPlace_102 (by decide) (fun c3 => ?_) (fun c3 => ?_)
    · replace hM := if_t c3 hM
      refine lv_aload_n hx hb dX8_readPlace_135 rfl (lv_at hl 2 rfl) ?_
      refine lv_iconst (v := 5) hx hb dX8_readPlace_136 (by decide) ?_
      refine lv_aload_n hx hb dX8_readPlace_137 rfl (lv_at hl 2 rfl) ?_
      refine va_get (D := D) (ci := 8) (v := .int o_L.1) (C := RX8) (T := TX8) (N := 48) hx hb hts layX8 hown hK hP 0 rfl rfl 6 (by decide) (hts _ (inA q984)) (fun _ h9 => h9) rfl dX8_readPlace_138 ?_
      obtain ⟨r4, hcr4, hM⟩ := ob_use hM
      refine cl_V (As := [.int 5, .int o_L.1]) (rest := []) (wM_CXL cI ad o_X r4 o_N o_T o_U o_O o_E o_Q o_V o_I o_C) [] ⟨hx, hb, hml, hown, hts⟩ (c_Model_fail l D cI sd ad o_C o_X o_N o_T o_U o_O o_E o_Q o_V o_I (o_L.1, o_L.2.1, o_L.2.2.1, o_L.1 + 3, o_L.2.2.2.2) 5 o_L.1 r4 hcr4) (cwV2 hts q1163 mvX8_fail rfl rfl ⟨(Nat.le_of_ble_eq_true rfl), (Nat.le_of_ble_eq_true rfl)⟩) hK hE hA hP hD hS 0 (T := TX8) (N := 48) (ci := 8) rfl rfl [0] rfl (by decide) rfl rfl rfl rfl rfl rfl hl.1 (Nat.le_of_ble_eq_true rfl) dX8_readPlace_141 ⟨Nat.zero_le _, Nat.zero_le _⟩ (fun H locs hP hD hS => ?_)
      cases hM
      exact rt_v hx hb hr hlk hP hD hS rfl dX8_readPlace_144
    · replace hM := if_f c3 hM
      refine lv_lload_n hx hb dX8_readPlace_105 rfl (lv_at hl 0 rfl) ?_
      refine lv_iload_n hx hb dX8_readPlace_106 rfl (lv_at hl 1 rfl) ?_
      refine lv_iconst (v := 3) hx hb dX8_readPlace_107 (by decide) ?_
      refine lv_icmp_ge (tgt := 117) hx hb dX8_readPlace_108 (by decide) (fun c5 => ?_) (fun c5 => ?_)
      · replace hM := if_t c5 hM
        refine lv_ldc2 (v := 63) hx hb hown (hts _ (inA q1220)) dX8_readPlace_117 ?_
        refine W.lcmp hx hb dX8_readPlace_120 ?_
        refine lv_if_gt (tgt := 135) hx hb dX8_readPlace_121 (by decide) (fun c6 => ?_) (fun c6 => ?_)
        · replace hM := if_t c6 hM
          refine lv_aload_n hx hb dX8_readPlace_135 rfl (lv_at hl 2 rfl) ?_
          refine lv_iconst (v := 5) hx hb dX8_readPlace_136 (by decide) ?_
          refine lv_aload_n hx hb dX8_readPlace_137 rfl (lv_at hl 2 rfl) ?_
          refine va_get (D := D) (ci := 8) (v := .int o_L.1) (C := RX8) (T := TX8) (N := 48) hx hb hts layX8 hown hK hP 0 rfl rfl 6 (by decide) (hts _ (inA q984)) (fun _ h9 => h9) rfl dX8_readPlace_138 ?_
          obtain ⟨r7, hcr7, hM⟩ := ob_use hM
          refine cl_V (As := [.int 5, .int o_L.1]) (rest := []) (wM_CXL cI ad o_X r7 o_N o_T o_U o_O o_E o_Q o_V o_I o_C) [] ⟨hx, hb, hml, hown, hts⟩ (c_Model_fail l D cI sd ad o_C o_X o_N o_T o_U o_O o_E o_Q o_V o_I (o_L.1, o_L.2.1, o_L.2.2.1, o_L.1 + 3, o_L.2.2.2.2) 5 o_L.1 r7 hcr7) (cwV2 hts q1163 mvX8_fail rfl rfl ⟨(Nat.le_of_ble_eq_true rfl), (Nat.le_of_ble_eq_true rfl)⟩) hK hE hA hP hD hS 0 (T := TX8) (N := 48) (ci := 8) rfl rfl [0] rfl (by decide) rfl rfl rfl rfl rfl rfl hl.1 (Nat.le_of_ble_eq_true rfl) dX8_readPlace_141 ⟨Nat.zero_le _, Nat.zero_le _⟩ (fun H locs hP hD hS => ?_)
          cases hM
          exact rt_v hx hb hr hlk hP hD hS rfl dX8_readPlace_144
        · replace hM := if_f c6 hM
          refine lv_aload_n hx hb dX8_readPlace_124 rfl (lv_at hl 2 rfl) ?_
          refine lv_aload_n hx hb dX8_readPlace_125 rfl (lv_at hl 2 rfl) ?_
          refine va_get (D := D) (ci := 8) (v := .int (o_L.1 + 3)) (C := RX8) (T := TX8) (N := 48) hx hb hts layX8 hown hK hP 0 rfl rfl 9 (by decide) (hts _ (inA q987)) (fun _ h9 => h9) rfl dX8_readPlace_126 ?_
          obtain ⟨r8, hcr8, hM⟩ := ob_use hM
          refine cl_V (As := [.int (o_L.1 + 3)]) (rest := []) (wM_CXL cI ad o_X (o_L.1, o_L.2.1, o_L.2.2.1, o_L.1 + 3, o_L.2.2.2.2) o_N o_T o_U o_O o_E o_Q o_V o_I o_C) (.int r8 :: []) ⟨hx, hb, hml, hown, hts⟩ (c_Model_goesOn l D cI sd ad o_C (o_L.1, o_L.2.1, o_L.2.2.1, o_L.1 + 3, o_L.2.2.2.2) o_N o_T o_U o_O o_E o_Q o_V o_I o_X (o_L.1 + 3) r8 hcr8) (cwV2 hts q1195 mvX8_goesOn rfl rfl ⟨(Nat.le_of_ble_eq_true rfl), (Nat.le_of_ble_eq_true rfl)⟩) hK hE hA hP hD hS 0 (T := TX8) (N := 48) (ci := 8) rfl rfl [0, 5] rfl (by decide) rfl rfl rfl rfl rfl rfl hl.1 (Nat.le_of_ble_eq_true rfl) dX8_readPlace_129 ⟨Nat.zero_le _, Nat.zero_le _⟩ (fun H locs hP hD hS => ?_)
          refine lv_if_eq (tgt := 145) hx hb dX8_readPlace_132 (by decide) (fun c9 => ?_) (fun c9 => ?_)
          · replace hM := if_t c9 hM
            refine lv_aload_n hx hb dX8_readPlace_145 rfl (lv_at hl 2 rfl) ?_
            refine lv_bipush (v := 82) hx hb dX8_readPlace_146 (by decide) ?_
            refine va_put (D := D) (ci := 8) (v := .int 82) (ty := .int) (C := RX8) (T := TX8) (N := 48) hx hb hts layX8 tyX8 tyX8_ok nmX8 hown hK hP hD hS 0 rfl rfl 7 (by decide) (hts _ (inA q985)) (fun _ h9 => h9) rfl (by decide +kernel) rfl rfl (Nat.le_of_ble_eq_true rfl) dX8_readPlace_148 (fun H locs hP hD hS => ?_)
            have hP : va_P D vwCl (wM_CXL cI ad o_X (o_L.1, 82, o_L.2.2.1, o_L.1 + 3, o_L.2.2.2.2) o_N o_T o_U o_O o_E o_Q o_V o_I o_C) H := hP
            have hD : va_D A (wM_CXL cI ad o_X (o_L.1, 82, o_L.2.2.1, o_L.1 + 3, o_L.2.2.2.2) o_N o_T o_U o_O o_E o_Q o_V o_I o_C) := hD
            refine lv_aload_n hx hb dX8_readPlace_151 rfl (lv_at hl 2 rfl) ?_
            refine lv_sipush (v := 256) hx hb dX8_readPlace_152 (by decide) ?_
            refine lv_iload_n hx hb dX8_readPlace_155 rfl (lv_at hl 1 rfl) ?_
            refine lv_imul hx hb dX8_readPlace_156 ?_
            refine lv_lload_n hx hb dX8_readPlace_157 rfl (lv_at hl 0 rfl) ?_
            refine lv_l2i hx hb dX8_readPlace_158 rfl ?_
            refine lv_iadd hx hb dX8_readPlace_159 ?_
            refine lv_topi (fun x10 ex10 => ?_)
            replace hM := nm_use ex10 hM
            refine va_put (D := D) (ci := 8) (v := .int x10) (ty := .int) (C := RX8) (T := TX8) (N := 48) hx hb hts layX8 tyX8 tyX8_ok nmX8 hown hK hP hD hS 0 rfl rfl 8 (by decide) (hts _ (inA q986)) (fun _ h9 => h9) rfl (by decide +kernel) rfl rfl (Nat.le_of_ble_eq_true rfl) dX8_readPlace_160 (fun H locs hP hD hS => ?_)
            have hP : va_P D vwCl (wM_CXL cI ad o_X (o_L.1, 82, x10, o_L.1 + 3, o_L.2.2.2.2) o_N o_T o_U o_O o_E o_Q o_V o_I o_C) H := hP
            have hD : va_D A (wM_CXL cI ad o_X (o_L.1, 82, x10, o_L.1 + 3, o_L.2.2.2.2) o_N o_T o_U o_O o_E o_Q o_V o_I o_C) := hD
            cases hM
            exact rt_v hx hb hr hlk hP hD hS rfl dX8_readPlace_163
          · replace hM := if_f c9 hM
            refine lv_aload_n hx hb dX8_readPlace_135 rfl (lv_at hl 2 rfl) ?_
            refine lv_iconst (v := 5) hx hb dX8_readPlace_136 (by decide) ?_
            refine lv_aload_n hx hb dX8_readPlace_137 rfl (lv_at hl 2 rfl) ?_
            refine va_get (D := D) (ci := 8) (v := .int o_L.1) (C := RX8) (T := TX8) (N := 48) hx hb hts layX8 hown hK hP 0 rfl rfl 6 (by decide) (hts _ (inA q984)) (fun _ h9 => h9) rfl dX8_readPlace_138 ?_
            obtain ⟨r11, hcr11, hM⟩ := ob_use hM
            refine cl_V (As := [.int 5, .int o_L.1]) (rest := []) (wM_CXL cI ad o_X r11 o_N o_T o_U o_O o_E o_Q o_V o_I o_C) [] ⟨hx, hb, hml, hown, hts⟩ (c_Model_fail l D cI sd ad o_C o_X o_N o_T o_U o_O o_E o_Q o_V o_I (o_L.1, o_L.2.1, o_L.2.2.1, o_L.1 + 3, o_L.2.2.2.2) 5 o_L.1 r11 hcr11) (cwV2 hts q1163 mvX8_fail rfl rfl ⟨(Nat.le_of_ble_eq_true rfl), (Nat.le_of_ble_eq_true rfl)⟩) hK hE hA hP hD hS 0 (T := TX8) (N := 48) (ci := 8) rfl rfl [0] rfl (by decide) rfl rfl rfl rfl rfl rfl hl.1 (Nat.le_of_ble_eq_true rfl) dX8_readPlace_141 ⟨Nat.zero_le _, Nat.zero_le _⟩ (fun H locs hP hD hS => ?_)
            cases hM
            exact rt_v hx hb hr hlk hP hD hS rfl dX8_readPlace_144
      · replace hM := if_f c5 hM
        refine lv_ldc2 (v := 255) hx hb hown (hts _ (inA q1219)) dX8_readPlace_111 ?_
        refine lv_goto (tgt := 120) hx hb dX8_readPlace_114 (by decide) ?_
        refine W.lcmp hx hb dX8_readPlace_120 ?_
        refine lv_if_gt (tgt := 135) hx hb dX8_readPlace_121 (by decide) (fun c12 => ?_) (fun c12 => ?_)
        · replace hM := if_t c12 hM
          refine lv_aload_n hx hb dX8_readPlace_135 rfl (lv_at hl 2 rfl) ?_
          refine lv_iconst (v := 5) hx hb dX8_readPlace_136 (by decide) ?_
          refine lv_aload_n hx hb dX8_readPlace_137 rfl (lv_at hl 2 rfl) ?_
          refine va_get (D := D) (ci := 8) (v := .int o_L.1) (C := RX8) (T := TX8) (N := 48) hx hb hts layX8 hown hK hP 0 rfl rfl 6 (by decide) (hts _ (inA q984)) (fun _ h9 => h9) rfl dX8_readPlace_138 ?_
          obtain ⟨r13, hcr13, hM⟩ := ob_use hM
          refine cl_V (As := [.int 5, .int o_L.1]) (rest := []) (wM_CXL cI ad o_X r13 o_N o_T o_U o_O o_E o_Q o_V o_I o_C) [] ⟨hx, hb, hml, hown, hts⟩ (c_Model_fail l D cI sd ad o_C o_X o_N o_T o_U o_O o_E o_Q o_V o_I (o_L.1, o_L.2.1, o_L.2.2.1, o_L.1 + 3, o_L.2.2.2.2) 5 o_L.1 r13 hcr13) (cwV2 hts q1163 mvX8_fail rfl rfl ⟨(Nat.le_of_ble_eq_true rfl), (Nat.le_of_ble_eq_true rfl)⟩) hK hE hA hP hD hS 0 (T := TX8) (N := 48) (ci := 8) rfl rfl [0] rfl (by decide) rfl rfl rfl rfl rfl rfl hl.1 (Nat.le_of_ble_eq_true rfl) dX8_readPlace_141 ⟨Nat.zero_le _, Nat.zero_le _⟩ (fun H locs hP hD hS => ?_)
          cases hM
          exact rt_v hx hb hr hlk hP hD hS rfl dX8_readPlace_144
        · replace hM := if_f c12 hM
          refine lv_aload_n hx hb dX8_readPlace_124 rfl (lv_at hl 2 rfl) ?_
          refine lv_aload_n hx hb dX8_readPlace_125 rfl (lv_at hl 2 rfl) ?_
          refine va_get (D := D) (ci := 8) (v := .int (o_L.1 + 3)) (C := RX8) (T := TX8) (N := 48) hx hb hts layX8 hown hK hP 0 rfl rfl 9 (by decide) (hts _ (inA q987)) (fun _ h9 => h9) rfl dX8_readPlace_126 ?_
          obtain ⟨r14, hcr14, hM⟩ := ob_use hM
          refine cl_V (As := [.int (o_L.1 + 3)]) (rest := []) (wM_CXL cI ad o_X (o_L.1, o_L.2.1, o_L.2.2.1, o_L.1 + 3, o_L.2.2.2.2) o_N o_T o_U o_O o_E o_Q o_V o_I o_C) (.int r14 :: []) ⟨hx, hb, hml, hown, hts⟩ (c_Model_goesOn l D cI sd ad o_C (o_L.1, o_L.2.1, o_L.2.2.1, o_L.1 + 3, o_L.2.2.2.2) o_N o_T o_U o_O o_E o_Q o_V o_I o_X (o_L.1 + 3) r14 hcr14) (cwV2 hts q1195 mvX8_goesOn rfl rfl ⟨(Nat.le_of_ble_eq_true rfl), (Nat.le_of_ble_eq_true rfl)⟩) hK hE hA hP hD hS 0 (T := TX8) (N := 48) (ci := 8) rfl rfl [0, 5] rfl (by decide) rfl rfl rfl rfl rfl rfl hl.1 (Nat.le_of_ble_eq_true rfl) dX8_readPlace_129 ⟨Nat.zero_le _, Nat.zero_le _⟩ (fun H locs hP hD hS => ?_)
          refine lv_if_eq (tgt := 145) hx hb dX8_readPlace_132 (by decide) (fun c15 => ?_) (fun c15 => ?_)
          · replace hM := if_t c15 hM
            refine lv_aload_n hx hb dX8_readPlace_145 rfl (lv_at hl 2 rfl) ?_
            refine lv_bipush (v := 82) hx hb dX8_readPlace_146 (by decide) ?_
            refine va_put (D := D) (ci := 8) (v := .int 82) (ty := .int) (C := RX8) (T := TX8) (N := 48) hx hb hts layX8 tyX8 tyX8_ok nmX8 hown hK hP hD hS 0 rfl rfl 7 (by decide) (hts _ (inA q985)) (fun _ h9 => h9) rfl (by decide +kernel) rfl rfl (Nat.le_of_ble_eq_true rfl) dX8_readPlace_148 (fun H locs hP hD hS => ?_)
            have hP : va_P D vwCl (wM_CXL cI ad o_X (o_L.1, 82, o_L.2.2.1, o_L.1 + 3, o_L.2.2.2.2) o_N o_T o_U o_O o_E o_Q o_V o_I o_C) H := hP
            have hD : va_D A (wM_CXL cI ad o_X (o_L.1, 82, o_L.2.2.1, o_L.1 + 3, o_L.2.2.2.2) o_N o_T o_U o_O o_E o_Q o_V o_I o_C) := hD
            refine lv_aload_n hx hb dX8_readPlace_151 rfl (lv_at hl 2 rfl) ?_
            refine lv_sipush (v := 256) hx hb dX8_readPlace_152 (by decide) ?_
            refine lv_iload_n hx hb dX8_readPlace_155 rfl (lv_at hl 1 rfl) ?_
            refine lv_imul hx hb dX8_readPlace_156 ?_
            refine lv_lload_n hx hb dX8_readPlace_157 rfl (lv_at hl 0 rfl) ?_
            refine lv_l2i hx hb dX8_readPlace_158 rfl ?_
            refine lv_iadd hx hb dX8_readPlace_159 ?_
            refine lv_topi (fun x16 ex16 => ?_)
            replace hM := nm_use ex16 hM
            refine va_put (D := D) (ci := 8) (v := .int x16) (ty := .int) (C := RX8) (T := TX8) (N := 48) hx hb hts layX8 tyX8 tyX8_ok nmX8 hown hK hP hD hS 0 rfl rfl 8 (by decide) (hts _ (inA q986)) (fun _ h9 => h9) rfl (by decide +kernel) rfl rfl (Nat.le_of_ble_eq_true rfl) dX8_readPlace_160 (fun H locs hP hD hS => ?_)
            have hP : va_P D vwCl (wM_CXL cI ad o_X (o_L.1, 82, x16, o_L.1 + 3, o_L.2.2.2.2) o_N o_T o_U o_O o_E o_Q o_V o_I o_C) H := hP
            have hD : va_D A (wM_CXL cI ad o_X (o_L.1, 82, x16, o_L.1 + 3, o_L.2.2.2.2) o_N o_T o_U o_O o_E o_Q o_V o_I o_C) := hD
            cases hM
            exact rt_v hx hb hr hlk hP hD hS rfl dX8_readPlace_163
          · replace hM := if_f c15 hM
            refine lv_aload_n hx hb dX8_readPlace_135 rfl (lv_at hl 2 rfl) ?_
            refine lv_iconst (v := 5) hx hb dX8_readPlace_136 (by decide) ?_
            refine lv_aload_n hx hb dX8_readPlace_137 rfl (lv_at hl 2 rfl) ?_
            refine va_get (D := D) (ci := 8) (v := .int o_L.1) (C := RX8) (T := TX8) (N := 48) hx hb hts layX8 hown hK hP 0 rfl rfl 6 (by decide) (hts _ (inA q984)) (fun _ h9 => h9) rfl dX8_readPlace_138 ?_
            obtain ⟨r17, hcr17, hM⟩ := ob_use hM
            refine cl_V (As := [.int 5, .int o_L.1]) (rest := []) (wM_CXL cI ad o_X r17 o_N o_T o_U o_O o_E o_Q o_V o_I o_C) [] ⟨hx, hb, hml, hown, hts⟩ (c_Model_fail l D cI sd ad o_C o_X o_N o_T o_U o_O o_E o_Q o_V o_I (o_L.1, o_L.2.1, o_L.2.2.1, o_L.1 + 3, o_L.2.2.2.2) 5 o_L.1 r17 hcr17) (cwV2 hts q1163 mvX8_fail rfl rfl ⟨(Nat.le_of_ble_eq_true rfl), (Nat.le_of_ble_eq_true rfl)⟩) hK hE hA hP hD hS 0 (T := TX8) (N := 48) (ci := 8) rfl rfl [0] rfl (by decide) rfl rfl rfl rfl rfl rfl hl.1 (Nat.le_of_ble_eq_true rfl) dX8_readPlace_141 ⟨Nat.zero_le _, Nat.zero_le _⟩ (fun H locs hP hD hS => ?_)
            cases hM
            exact rt_v hx hb hr hlk hP hD hS rfl dX8_readPlace_144
  · replace hM := if_f c2 hM
    refine lv_aload_n hx hb dX8_readPlace_86 rfl (lv_at hl 1 rfl) ?_
    refine lv_bipush (v := 10) hx hb dX8_readPlace_87 (by decide) ?_
    obtain ⟨r18, hcr18, hM⟩ := ob_use hM
    refine cl_V (As := [.int 10]) (rest := []) (wM_CXL cI ad o_X r18.2 o_N o_T o_U o_O o_E o_Q o_V o_I o_C) (.long r18.1 :: []) ⟨hx, hb, hml, hown, hts⟩ (c_Model_digits l D cI sd ad o_C o_N o_T o_U o_O o_E o_Q o_V o_I o_X (o_L.1, o_L.2.1, o_L.2.2.1, o_L.1 + 3, o_L.2.2.2.2) 10 r18 hcr18) (cwV2 hts q1171 mvX8_digits rfl rfl ⟨(Nat.le_of_ble_eq_true rfl), (Nat.le_of_ble_eq_true rfl)⟩) hK hE hA hP hD hS 0 (T := TX8) (N := 48) (ci := 8) rfl rfl [0, 5] rfl (by decide) rfl rfl rfl rfl rfl rfl hl.1 (Nat.le_of_ble_eq_true rfl) dX8_readPlace_89 ⟨Nat.zero_le _, Nat.zero_le _⟩ (fun H locs hP hD hS => ?_)
    refine lv_goto (tgt := 98) hx hb dX8_readPlace_92 (by decide) ?_
    refine lv_lstore_n (lv' := [(2, .long r18.1), (1, .int r1), (0, .ref (ad 100))]) hx hb dX8_readPlace_98 rfl hl (by decide) rfl (fun ls hl => ?_)
    refine lv_lload_n hx hb dX8_readPlace_99 rfl (lv_at hl 0 rfl) ?_
    refine lv_lconst (v := 0) hx hb dX8_readPlace_100 (by decide) ?_
    refine W.lcmp hx hb dX8_readPlace_101 ?_
    refine lv_if_lt (tgt := 135) hx hb dX8_readPlace_102 (by decide) (fun c19 => ?_) (fun c19 => ?_)
    · replace hM := if_t c19 hM
      refine lv_aload_n hx hb dX8_readPlace_135 rfl (lv_at hl 2 rfl) ?_
      refine lv_iconst (v := 5) hx hb dX8_readPlace_136 (by decide) ?_
      refine lv_aload_n hx hb dX8_readPlace_137 rfl (lv_at hl 2 rfl) ?_
      refine va_get (D := D) (ci := 8) (v := .int r18.2.1) (C := RX8) (T := TX8) (N := 48) hx hb hts layX8 hown hK hP 0 rfl rfl 6 (by decide) (hts _ (inA q984)) (fun _ h9 => h9) rfl dX8_readPlace_138 ?_
      obtain ⟨r20, hcr20, hM⟩ := ob_use hM
      refine cl_V (As := [.int 5, .int r18.2.1]) (rest := []) (wM_CXL cI ad o_X r20 o_N o_T o_U o_O o_E o_Q o_V o_I o_C) [] ⟨hx, hb, hml, hown, hts⟩ (c_Model_fail l D cI sd ad o_C o_X o_N o_T o_U o_O o_E o_Q o_V o_I r18.2 5 r18.2.1 r20 hcr20) (cwV2 hts q1163 mvX8_fail rfl rfl ⟨(Nat.le_of_ble_eq_true rfl), (Nat.le_of_ble_eq_true rfl)⟩) hK hE hA hP hD hS 0 (T := TX8) (N := 48) (ci := 8) rfl rfl [0] rfl (by decide) rfl rfl rfl rfl rfl rfl hl.1 (Nat.le_of_ble_eq_true rfl) dX8_readPlace_141 ⟨Nat.zero_le _, Nat.zero_le _⟩ (fun H locs hP hD hS => ?_)
      cases hM
      exact rt_v hx hb hr hlk hP hD hS rfl dX8_readPlace_144
    · replace hM := if_f c19 hM
      refine lv_lload_n hx hb dX8_readPlace_105 rfl (lv_at hl 0 rfl) ?_
      refine lv_iload_n hx hb dX8_readPlace_106 rfl (lv_at hl 1 rfl) ?_
      refine lv_iconst (v := 3) hx hb dX8_readPlace_107 (by decide) ?_
      refine lv_icmp_ge (tgt := 117) hx hb dX8_readPlace_108 (by decide) (fun c21 => ?_) (fun c21 => ?_)
      · replace hM := if_t c21 hM
        refine lv_ldc2 (v := 63) hx hb hown (hts _ (inA q1220)) dX8_readPlace_117 ?_
        refine W.lcmp hx hb dX8_readPlace_120 ?_
        refine lv_if_gt (tgt := 135) hx hb dX8_readPlace_121 (by decide) (fun c22 => ?_) (fun c22 => ?_)
        · replace hM := if_t c22 hM
          refine lv_aload_n hx hb dX8_readPlace_135 rfl (lv_at hl 2 rfl) ?_
          refine lv_iconst (v := 5) hx hb dX8_readPlace_136 (by decide) ?_
          refine lv_aload_n hx hb dX8_readPlace_137 rfl (lv_at hl 2 rfl) ?_
          refine va_get (D := D) (ci := 8) (v := .int r18.2.1) (C := RX8) (T := TX8) (N := 48) hx hb hts layX8 hown hK hP 0 rfl rfl 6 (by decide) (hts _ (inA q984)) (fun _ h9 => h9) rfl dX8_readPlace_138 ?_
          obtain ⟨r23, hcr23, hM⟩ := ob_use hM
          refine cl_V (As := [.int 5, .int r18.2.1]) (rest := []) (wM_CXL cI ad o_X r23 o_N o_T o_U o_O o_E o_Q o_V o_I o_C) [] ⟨hx, hb, hml, hown, hts⟩ (c_Model_fail l D cI sd ad o_C o_X o_N o_T o_U o_O o_E o_Q o_V o_I r18.2 5 r18.2.1 r23 hcr23) (cwV2 hts q1163 mvX8_fail rfl rfl ⟨(Nat.le_of_ble_eq_true rfl), (Nat.le_of_ble_eq_true rfl)⟩) hK hE hA hP hD hS 0 (T := TX8) (N := 48) (ci := 8) rfl rfl [0] rfl (by decide) rfl rfl rfl rfl rfl rfl hl.1 (Nat.le_of_ble_eq_true rfl) dX8_readPlace_141 ⟨Nat.zero_le _, Nat.zero_le _⟩ (fun H locs hP hD hS => ?_)
          cases hM
          exact rt_v hx hb hr hlk hP hD hS rfl dX8_readPlace_144
        · replace hM := if_f c22 hM
          refine lv_aload_n hx hb dX8_readPlace_124 rfl (lv_at hl 2 rfl) ?_
          refine lv_aload_n hx hb dX8_readPlace_125 rfl (lv_at hl 2 rfl) ?_
          refine va_get (D := D) (ci := 8) (v := .int r18.2.2.2.2.1) (C := RX8) (T := TX8) (N := 48) hx hb hts layX8 hown hK hP 0 rfl rfl 9 (by decide) (hts _ (inA q987)) (fun _ h9 => h9) rfl dX8_readPlace_126 ?_
          obtain ⟨r24, hcr24, hM⟩ := ob_use hM
          refine cl_V (As := [.int r18.2.2.2.2.1]) (rest := []) (wM_CXL cI ad o_X r18.2 o_N o_T o_U o_O o_E o_Q o_V o_I o_C) (.int r24 :: []) ⟨hx, hb, hml, hown, hts⟩ (c_Model_goesOn l D cI sd ad o_C r18.2 o_N o_T o_U o_O o_E o_Q o_V o_I o_X r18.2.2.2.2.1 r24 hcr24) (cwV2 hts q1195 mvX8_goesOn rfl rfl ⟨(Nat.le_of_ble_eq_true rfl), (Nat.le_of_ble_eq_true rfl)⟩) hK hE hA hP hD hS 0 (T := TX8) (N := 48) (ci := 8) rfl rfl [0, 5] rfl (by decide) rfl rfl rfl rfl rfl rfl hl.1 (Nat.le_of_ble_eq_true rfl) dX8_readPlace_129 ⟨Nat.zero_le _, Nat.zero_le _⟩ (fun H locs hP hD hS => ?_)
          refine lv_if_eq (tgt := 145) hx hb dX8_readPlace_132 (by decide) (fun c25 => ?_) (fun c25 => ?_)
          · replace hM := if_t c25 hM
            refine lv_aload_n hx hb dX8_readPlace_145 rfl (lv_at hl 2 rfl) ?_
            refine lv_bipush (v := 82) hx hb dX8_readPlace_146 (by decide) ?_
            refine va_put (D := D) (ci := 8) (v := .int 82) (ty := .int) (C := RX8) (T := TX8) (N := 48) hx hb hts layX8 tyX8 tyX8_ok nmX8 hown hK hP hD hS 0 rfl rfl 7 (by decide) (hts _ (inA q985)) (fun _ h9 => h9) rfl (by decide +kernel) rfl rfl (Nat.le_of_ble_eq_true rfl) dX8_readPlace_148 (fun H locs hP hD hS => ?_)
            have hP : va_P D vwCl (wM_CXL cI ad o_X (r18.2.1, 82, r18.2.2.2) o_N o_T o_U o_O o_E o_Q o_V o_I o_C) H := hP
            have hD : va_D A (wM_CXL cI ad o_X (r18.2.1, 82, r18.2.2.2) o_N o_T o_U o_O o_E o_Q o_V o_I o_C) := hD
            refine lv_aload_n hx hb dX8_readPlace_151 rfl (lv_at hl 2 rfl) ?_
            refine lv_sipush (v := 256) hx hb dX8_readPlace_152 (by decide) ?_
            refine lv_iload_n hx hb dX8_readPlace_155 rfl (lv_at hl 1 rfl) ?_
            refine lv_imul hx hb dX8_readPlace_156 ?_
            refine lv_lload_n hx hb dX8_readPlace_157 rfl (lv_at hl 0 rfl) ?_
            refine lv_l2i hx hb dX8_readPlace_158 rfl ?_
            refine lv_iadd hx hb dX8_readPlace_159 ?_
            refine lv_topi (fun x26 ex26 => ?_)
            replace hM := nm_use ex26 hM
            refine va_put (D := D) (ci := 8) (v := .int x26) (ty := .int) (C := RX8) (T := TX8) (N := 48) hx hb hts layX8 tyX8 tyX8_ok nmX8 hown hK hP hD hS 0 rfl rfl 8 (by decide) (hts _ (inA q986)) (fun _ h9 => h9) rfl (by decide +kernel) rfl rfl (Nat.le_of_ble_eq_true rfl) dX8_readPlace_160 (fun H locs hP hD hS => ?_)
            have hP : va_P D vwCl (wM_CXL cI ad o_X (r18.2.1, 82, x26, r18.2.2.2.2) o_N o_T o_U o_O o_E o_Q o_V o_I o_C) H := hP
            have hD : va_D A (wM_CXL cI ad o_X (r18.2.1, 82, x26, r18.2.2.2.2) o_N o_T o_U o_O o_E o_Q o_V o_I o_C) := hD
            cases hM
            exact rt_v hx hb hr hlk hP hD hS rfl dX8_readPlace_163
          · replace hM := if_f c25 hM
            refine lv_aload_n hx hb dX8_readPlace_135 rfl (lv_at hl 2 rfl) ?_
            refine lv_iconst (v := 5) hx hb dX8_readPlace_136 (by decide) ?_
            refine lv_aload_n hx hb dX8_readPlace_137 rfl (lv_at hl 2 rfl) ?_
            refine va_get (D := D) (ci := 8) (v := .int r18.2.1) (C := RX8) (T := TX8) (N := 48) hx hb hts layX8 hown hK hP 0 rfl rfl 6 (by decide) (hts _ (inA q984)) (fun _ h9 => h9) rfl dX8_readPlace_138 ?_
            obtain ⟨r27, hcr27, hM⟩ := ob_use hM
            refine cl_V (As := [.int 5, .int r18.2.1]) (rest := []) (wM_CXL cI ad o_X r27 o_N o_T o_U o_O o_E o_Q o_V o_I o_C) [] ⟨hx, hb, hml, hown, hts⟩ (c_Model_fail l D cI sd ad o_C o_X o_N o_T o_U o_O o_E o_Q o_V o_I r18.2 5 r18.2.1 r27 hcr27) (cwV2 hts q1163 mvX8_fail rfl rfl ⟨(Nat.le_of_ble_eq_true rfl), (Nat.le_of_ble_eq_true rfl)⟩) hK hE hA hP hD hS 0 (T := TX8) (N := 48) (ci := 8) rfl rfl [0] rfl (by decide) rfl rfl rfl rfl rfl rfl hl.1 (Nat.le_of_ble_eq_true rfl) dX8_readPlace_141 ⟨Nat.zero_le _, Nat.zero_le _⟩ (fun H locs hP hD hS => ?_)
            cases hM
            exact rt_v hx hb hr hlk hP hD hS rfl dX8_readPlace_144
      · replace hM := if_f c21 hM
        refine lv_ldc2 (v := 255) hx hb hown (hts _ (inA q1219)) dX8_readPlace_111 ?_
        refine lv_goto (tgt := 120) hx hb dX8_readPlace_114 (by decide) ?_
        refine W.lcmp hx hb dX8_readPlace_120 ?_
        refine lv_if_gt (tgt := 135) hx hb dX8_readPlace_121 (by decide) (fun c28 => ?_) (fun c28 => ?_)
        · replace hM := if_t c28 hM
          refine lv_aload_n hx hb dX8_readPlace_135 rfl (lv_at hl 2 rfl) ?_
          refine lv_iconst (v := 5) hx hb dX8_readPlace_136 (by decide) ?_
          refine lv_aload_n hx hb dX8_readPlace_137 rfl (lv_at hl 2 rfl) ?_
          refine va_get (D := D) (ci := 8) (v := .int r18.2.1) (C := RX8) (T := TX8) (N := 48) hx hb hts layX8 hown hK hP 0 rfl rfl 6 (by decide) (hts _ (inA q984)) (fun _ h9 => h9) rfl dX8_readPlace_138 ?_
          obtain ⟨r29, hcr29, hM⟩ := ob_use hM
          refine cl_V (As := [.int 5, .int r18.2.1]) (rest := []) (wM_CXL cI ad o_X r29 o_N o_T o_U o_O o_E o_Q o_V o_I o_C) [] ⟨hx, hb, hml, hown, hts⟩ (c_Model_fail l D cI sd ad o_C o_X o_N o_T o_U o_O o_E o_Q o_V o_I r18.2 5 r18.2.1 r29 hcr29) (cwV2 hts q1163 mvX8_fail rfl rfl ⟨(Nat.le_of_ble_eq_true rfl), (Nat.le_of_ble_eq_true rfl)⟩) hK hE hA hP hD hS 0 (T := TX8) (N := 48) (ci := 8) rfl rfl [0] rfl (by decide) rfl rfl rfl rfl rfl rfl hl.1 (Nat.le_of_ble_eq_true rfl) dX8_readPlace_141 ⟨Nat.zero_le _, Nat.zero_le _⟩ (fun H locs hP hD hS => ?_)
          cases hM
          exact rt_v hx hb hr hlk hP hD hS rfl dX8_readPlace_144
        · replace hM := if_f c28 hM
          refine lv_aload_n hx hb dX8_readPlace_124 rfl (lv_at hl 2 rfl) ?_
          refine lv_aload_n hx hb dX8_readPlace_125 rfl (lv_at hl 2 rfl) ?_
          refine va_get (D := D) (ci := 8) (v := .int r18.2.2.2.2.1) (C := RX8) (T := TX8) (N := 48) hx hb hts layX8 hown hK hP 0 rfl rfl 9 (by decide) (hts _ (inA q987)) (fun _ h9 => h9) rfl dX8_readPlace_126 ?_
          obtain ⟨r30, hcr30, hM⟩ := ob_use hM
          refine cl_V (As := [.int r18.2.2.2.2.1]) (rest := []) (wM_CXL cI ad o_X r18.2 o_N o_T o_U o_O o_E o_Q o_V o_I o_C) (.int r30 :: []) ⟨hx, hb, hml, hown, hts⟩ (c_Model_goesOn l D cI sd ad o_C r18.2 o_N o_T o_U o_O o_E o_Q o_V o_I o_X r18.2.2.2.2.1 r30 hcr30) (cwV2 hts q1195 mvX8_goesOn rfl rfl ⟨(Nat.le_of_ble_eq_true rfl), (Nat.le_of_ble_eq_true rfl)⟩) hK hE hA hP hD hS 0 (T := TX8) (N := 48) (ci := 8) rfl rfl [0, 5] rfl (by decide) rfl rfl rfl rfl rfl rfl hl.1 (Nat.le_of_ble_eq_true rfl) dX8_readPlace_129 ⟨Nat.zero_le _, Nat.zero_le _⟩ (fun H locs hP hD hS => ?_)
          refine lv_if_eq (tgt := 145) hx hb dX8_readPlace_132 (by decide) (fun c31 => ?_) (fun c31 => ?_)
          · replace hM := if_t c31 hM
            refine lv_aload_n hx hb dX8_readPlace_145 rfl (lv_at hl 2 rfl) ?_
            refine lv_bipush (v := 82) hx hb dX8_readPlace_146 (by decide) ?_
            refine va_put (D := D) (ci := 8) (v := .int 82) (ty := .int) (C := RX8) (T := TX8) (N := 48) hx hb hts layX8 tyX8 tyX8_ok nmX8 hown hK hP hD hS 0 rfl rfl 7 (by decide) (hts _ (inA q985)) (fun _ h9 => h9) rfl (by decide +kernel) rfl rfl (Nat.le_of_ble_eq_true rfl) dX8_readPlace_148 (fun H locs hP hD hS => ?_)
            have hP : va_P D vwCl (wM_CXL cI ad o_X (r18.2.1, 82, r18.2.2.2) o_N o_T o_U o_O o_E o_Q o_V o_I o_C) H := hP
            have hD : va_D A (wM_CXL cI ad o_X (r18.2.1, 82, r18.2.2.2) o_N o_T o_U o_O o_E o_Q o_V o_I o_C) := hD
            refine lv_aload_n hx hb dX8_readPlace_151 rfl (lv_at hl 2 rfl) ?_
            refine lv_sipush (v := 256) hx hb dX8_readPlace_152 (by decide) ?_
            refine lv_iload_n hx hb dX8_readPlace_155 rfl (lv_at hl 1 rfl) ?_
            refine lv_imul hx hb dX8_readPlace_156 ?_
            refine lv_lload_n hx hb dX8_readPlace_157 rfl (lv_at hl 0 rfl) ?_
            refine lv_l2i hx hb dX8_readPlace_158 rfl ?_
            refine lv_iadd hx hb dX8_readPlace_159 ?_
            refine lv_topi (fun x32 ex32 => ?_)
            replace hM := nm_use ex32 hM
            refine va_put (D := D) (ci := 8) (v := .int x32) (ty := .int) (C := RX8) (T := TX8) (N := 48) hx hb hts layX8 tyX8 tyX8_ok nmX8 hown hK hP hD hS 0 rfl rfl 8 (by decide) (hts _ (inA q986)) (fun _ h9 => h9) rfl (by decide +kernel) rfl rfl (Nat.le_of_ble_eq_true rfl) dX8_readPlace_160 (fun H locs hP hD hS => ?_)
            have hP : va_P D vwCl (wM_CXL cI ad o_X (r18.2.1, 82, x32, r18.2.2.2.2) o_N o_T o_U o_O o_E o_Q o_V o_I o_C) H := hP
            have hD : va_D A (wM_CXL cI ad o_X (r18.2.1, 82, x32, r18.2.2.2.2) o_N o_T o_U o_O o_E o_Q o_V o_I o_C) := hD
            cases hM
            exact rt_v hx hb hr hlk hP hD hS rfl dX8_readPlace_163
          · replace hM := if_f c31 hM
            refine lv_aload_n hx hb dX8_readPlace_135 rfl (lv_at hl 2 rfl) ?_
            refine lv_iconst (v := 5) hx hb dX8_readPlace_136 (by decide) ?_
            refine lv_aload_n hx hb dX8_readPlace_137 rfl (lv_at hl 2 rfl) ?_
            refine va_get (D := D) (ci := 8) (v := .int r18.2.1) (C := RX8) (T := TX8) (N := 48) hx hb hts layX8 hown hK hP 0 rfl rfl 6 (by decide) (hts _ (inA q984)) (fun _ h9 => h9) rfl dX8_readPlace_138 ?_
            obtain ⟨r33, hcr33, hM⟩ := ob_use hM
            refine cl_V (As := [.int 5, .int r18.2.1]) (rest := []) (wM_CXL cI ad o_X r33 o_N o_T o_U o_O o_E o_Q o_V o_I o_C) [] ⟨hx, hb, hml, hown, hts⟩ (c_Model_fail l D cI sd ad o_C o_X o_N o_T o_U o_O o_E o_Q o_V o_I r18.2 5 r18.2.1 r33 hcr33) (cwV2 hts q1163 mvX8_fail rfl rfl ⟨(Nat.le_of_ble_eq_true rfl), (Nat.le_of_ble_eq_true rfl)⟩) hK hE hA hP hD hS 0 (T := TX8) (N := 48) (ci := 8) rfl rfl [0] rfl (by decide) rfl rfl rfl rfl rfl rfl hl.1 (Nat.le_of_ble_eq_true rfl) dX8_readPlace_141 ⟨Nat.zero_le _, Nat.zero_le _⟩ (fun H locs hP hD hS => ?_)
            cases hM
            exact rt_v hx hb hr hlk hP hD hS rfl dX8_readPlace_144
