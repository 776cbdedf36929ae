set_option maxHeartbeats 4000000 in
set_option maxRecDepth 100000 in
theorem c_Model_count (l : Launch) (D : va_G) (cI : ClassId) (sd : Nat → Nat) (ad : Nat → Nat) (o_C : S_MC) (o_T : S_MT) (o_U : S_MU) (o_O : S_MO) (o_E : S_ME) (o_I : S_MI) (o_X : S_MX) (o_L : S_ML) (o_N : S_MN) (o_Q : S_MQ) (o_V : S_MV) (a1 : Int32) (res : Int32) (hM : f_Model_count o_X o_L o_N o_Q o_V a1 = some res) : Ctr l D cI sd yX8_count (wsM yX8_count cX8_count 2 (Option.some Jvm.ClassFile.FieldType.int)) { frames := 0, cells := 0, slots := 0, locals := 0 } [.ref (ad 100), .int a1] (wM_XLNQV cI ad o_X o_L o_N o_T o_U o_O o_E o_Q o_V o_I) (wM_XLNQV cI ad o_X o_L o_N o_T o_U o_O o_E o_Q o_V o_I) (some (.int res)) := by
  refine Ctr.of (cc := cX8_count) (maxL := 2) (own := RX8) (by decide +kernel) rfl rfl (Nat.le_of_ble_eq_true rfl) ?_
  intro p e s m below meth c A ls hx hb hr hml hown hts hlk hK hE hA hP hD hS hl
  have hl : lv_has ls 2 [(0, .ref (ad 100)), (1, .int a1)] := hl
  unfold f_Model_count at hM
  refine lv_iload_n hx hb dX8_count_0 rfl (lv_at hl 1 rfl) ?_
  by_cases c1 : a1 = 0
  · replace hM := if_t c1 hM
    refine lv_tableIn (tgt := 40) hx hb dX8_count_1 (by rw [c1]; decide) (by rw [c1]; decide) (by rw [c1]; rfl) (by decide) ?_
    refine lv_aload_n hx hb dX8_count_40 rfl (lv_at hl 0 rfl) ?_
    refine va_get (D := D) (ci := 8) (v := .int o_L.2.2.2.2.2.1) (C := RX8) (T := TX8) (N := 48) hx hb hts layX8 hown hK hP 0 rfl rfl 11 (by decide) (hts _ (inA q989)) (fun _ h9 => h9) rfl dX8_count_41 ?_
    cases hM
    exact rt_i hx hb hr hlk hP hD hS rfl dX8_count_44
  replace hM := if_f c1 hM
  by_cases c2 : a1 = 1
  · replace hM := if_t c2 hM
    refine lv_tableIn (tgt := 45) hx hb dX8_count_1 (by rw [c2]; decide) (by rw [c2]; decide) (by rw [c2]; rfl) (by decide) ?_
    refine lv_aload_n hx hb dX8_count_45 rfl (lv_at hl 0 rfl) ?_
    refine va_get (D := D) (ci := 8) (v := .int o_L.2.2.2.2.2.2) (C := RX8) (T := TX8) (N := 48) hx hb hts layX8 hown hK hP 0 rfl rfl 12 (by decide) (hts _ (inA q990)) (fun _ h9 => h9) rfl dX8_count_46 ?_
    cases hM
    exact rt_i hx hb hr hlk hP hD hS rfl dX8_count_49
  replace hM := if_f c2 hM
  by_cases c3 : a1 = 2
  · replace hM := if_t c3 hM
    refine lv_tableIn (tgt := 50) hx hb dX8_count_1 (by rw [c3]; decide) (by rw [c3]; decide) (by rw [c3]; rfl) (by decide) ?_
    refine lv_aload_n hx hb dX8_count_50 rfl (lv_at hl 0 rfl) ?_
    refine va_get (D := D) (ci := 8) (v := .int o_Q.1) (C := RX8) (T := TX8) (N := 48) hx hb hts layX8 hown hK hP 0 rfl rfl 40 (by decide) (hts _ (inA q1018)) (fun _ h9 => h9) rfl dX8_count_51 ?_
    cases hM
    exact rt_i hx hb hr hlk hP hD hS rfl dX8_count_54
  replace hM := if_f c3 hM
  by_cases c4 : a1 = 3
  · replace hM := if_t c4 hM
    refine lv_tableIn (tgt := 55) hx hb dX8_count_1 (by rw [c4]; decide) (by rw [c4]; decide) (by rw [c4]; rfl) (by decide) ?_
    refine lv_aload_n hx hb dX8_count_55 rfl (lv_at hl 0 rfl) ?_
    refine va_get (D := D) (ci := 8) (v := .int o_N.1) (C := RX8) (T := TX8) (N := 48) hx hb hts layX8 hown hK hP 0 rfl rfl 13 (by decide) (hts _ (inA q991)) (fun _ h9 => h9) rfl dX8_count_56 ?_
    cases hM
    exact rt_i hx hb hr hlk hP hD hS rfl dX8_count_59
  replace hM := if_f c4 hM
  by_cases c5 : a1 = 4
  · replace hM := if_t c5 hM
    refine lv_tableIn (tgt := 60) hx hb dX8_count_1 (by rw [c5]; decide) (by rw [c5]; decide) (by rw [c5]; rfl) (by decide) ?_
    refine lv_aload_n hx hb dX8_count_60 rfl (lv_at hl 0 rfl) ?_
    refine va_get (D := D) (ci := 8) (v := .int o_X.1) (C := RX8) (T := TX8) (N := 48) hx hb hts layX8 hown hK hP 0 rfl rfl 4 (by decide) (hts _ (inA q982)) (fun _ h9 => h9) rfl dX8_count_61 ?_
    cases hM
    exact rt_i hx hb hr hlk hP hD hS rfl dX8_count_64
  replace hM := if_f c5 hM
  by_cases c6 : a1 = 5
  · replace hM := if_t c6 hM
    refine lv_tableIn (tgt := 65) hx hb dX8_count_1 (by rw [c6]; decide) (by rw [c6]; decide) (by rw [c6]; rfl) (by decide) ?_
    refine lv_aload_n hx hb dX8_count_65 rfl (lv_at hl 0 rfl) ?_
    refine va_get (D := D) (ci := 8) (v := .int o_V.1) (C := RX8) (T := TX8) (N := 48) hx hb hts layX8 hown hK hP 0 rfl rfl 43 (by decide) (hts _ (inA q1021)) (fun _ h9 => h9) rfl dX8_count_66 ?_
    cases hM
    exact rt_i hx hb hr hlk hP hD hS rfl dX8_count_69
  replace hM := if_f c6 hM
  refine lv_tableOut (tgt := 70) hx hb dX8_count_1 (by have := lv_neT c1 (show (0 : Int32).toInt = 0 by decide); have := lv_neT c2 (show (1 : Int32).toInt = 1 by decide); have := lv_neT c3 (show (2 : Int32).toInt = 2 by decide); have := lv_neT c4 (show (3 : Int32).toInt = 3 by decide); have := lv_neT c5 (show (4 : Int32).toInt = 4 by decide); have := lv_neT c6 (show (5 : Int32).toInt = 5 by decide); omega) (by decide) ?_
  refine lv_iconst (v := (-1)) hx hb dX8_count_70 (by decide) ?_
  cases hM
  exact rt_i hx hb hr hlk hP hD hS rfl dX8_count_71

set_option maxHeartbeats 4000000 in
set_option maxRecDepth 100000 in
theorem c_Model_children (l : Launch) (D : va_G) (cI : ClassId) (sd : Nat → Nat) (ad : Nat → Nat) (o_C : S_MC) (o_X : S_MX) (o_L : S_ML) (o_N : S_MN) (o_U : S_MU) (o_O : S_MO) (o_E : S_ME) (o_Q : S_MQ) (o_V : S_MV) (o_I : S_MI) (o_T : S_MT) (a1 : Int32) (res : Int32) (hM : f_Model_children o_T a1 = some res) : Ctr l D cI sd yX8_children (wsM yX8_children cX8_children 4 (Option.some Jvm.ClassFile.FieldType.int)) { frames := 0, cells := 0, slots := 0, locals := 0 } [.ref (ad 100), .int a1] (wM_T cI ad o_X o_L o_N o_T o_U o_O o_E o_Q o_V o_I) (wM_T cI ad o_X o_L o_N o_T o_U o_O o_E o_Q o_V o_I) (some (.int res)) := by
  refine Ctr.of (cc := cX8_children) (maxL := 4) (own := RX8) (by decide +kernel) rfl rfl (Nat.le_of_ble_eq_true rfl) ?_
  intro p e s m below meth c A ls hx hb hr hml hown hts hlk hK hE hA hP hD hS hl
  have hl : lv_has ls 4 [(0, .ref (ad 100)), (1, .int a1)] := hl
  unfold f_Model_children at hM
  refine lv_iconst (v := 0) hx hb dX8_children_0 (by decide) ?_
  refine lv_istore_n (lv' := [(2, .int 0), (0, .ref (ad 100)), (1, .int a1)]) hx hb dX8_children_1 rfl hl (by decide) rfl (fun ls hl => ?_)
  refine lv_aload_n hx hb dX8_children_2 rfl (lv_at hl 1 rfl) ?_
  refine va_get (D := D) (ci := 8) (v := .ref (ad 112)) (C := RX8) (T := TX8) (N := 48) hx hb hts layX8 hown hK hP 0 rfl rfl 21 (by decide) (hts _ (inA q999)) (fun _ h9 => h9) rfl dX8_children_3 ?_
  refine lv_iload_n hx hb dX8_children_6 rfl (lv_at hl 2 rfl) ?_
  obtain ⟨b1, hM⟩ := gd_use hM
  refine va_iald hx hb hK hP 5 0 rfl rfl b1 dX8_children_7 ?_
  refine lv_topi (fun x2 ex2 => ?_)
  replace hM := nm_use ex2 hM
  refine lv_istore_n (lv' := [(3, .int x2), (2, .int 0), (0, .ref (ad 100)), (1, .int a1)]) hx hb dX8_children_8 rfl hl (by decide) rfl (fun ls hl => ?_)
  have lp_L9 : ∀ (o_T_L9 : S_MT) (n : Nat) (v3_L9 : Int32) (v2_L9 : Int32) (out_L9 : Int32) (H : Heap) (locs : List Loc) (ls : Array Slot), f_Model_children_L9 o_T_L9 n v3_L9 v2_L9 = some out_L9 → va_P D vwCl (wM_T cI ad o_X o_L o_N o_T_L9 o_U o_O o_E o_Q o_V o_I) H → va_D A (wM_T cI ad o_X o_L o_N o_T_L9 o_U o_O o_E o_Q o_V o_I) → va_S A s.heap H locs → lv_has ls 4 [(3, .int v3_L9), (2, .int v2_L9), (0, .ref (ad 100))] → (∀ (H : Heap) (locs : List Loc) (ls : Array Slot), va_P D vwCl (wM_T cI ad o_X o_L o_N o_T_L9 o_U o_O o_E o_Q o_V o_I) H → va_D A (wM_T cI ad o_X o_L o_N o_T_L9 o_U o_O o_E o_Q o_V o_I) → va_S A s.heap H locs → lv_has ls 4 [(2, .int out_L9), (0, .ref (ad 100))] → W p l e { frames := 0, cells := 0, slots := 0, locals := 0 } s m [.ref (ad 100), .int a1].toArray below meth c H locs 0 0 (MQ below (CQ D A (wM_T cI ad o_X o_L o_N o_T o_U o_O o_E o_Q o_V o_I) (some (.int res))) [.ref (ad 100), .int a1].toArray s 0 0 A) (F0 m 27 ls [])) → W p l e { frames := 0, cells := 0, slots := 0, locals := 0 } s m [.ref (ad 100), .int a1].toArray below meth c H locs 0 0 (MQ below (CQ D A (wM_T cI ad o_X o_L o_N o_T o_U o_O o_E o_Q o_V o_I) (some (.int res))) [.ref (ad 100), .int a1].toArray s 0 0 A) (F0 m 9 ls []) := by
    intro o_T_L9 n
    induction n with
    | zero => intro v3_L9 v2_L9 out_L9 H locs ls hM; exact absurd (show none = some _ from hM) (by simp)
    | succ n ih_L9 =>
      intro v3_L9 v2_L9 out_L9 H locs ls hM hP hD hS hl kx_L9
      rw [f_Model_children_L9] at hM
      refine lv_iload_n hx hb dX8_children_9 rfl (lv_at hl 0 rfl) ?_
      refine lv_iconst (v := (-1)) hx hb dX8_children_10 (by decide) ?_
      refine lv_icmp_eq (tgt := 27) hx hb dX8_children_11 (by decide) (fun c1191 => ?_) (fun c1191 => ?_)
      · replace hM := if_t c1191 hM
        cases hM
        exact kx_L9 _ _ _ hP hD hS (lv_sub hl [1, 2] rfl)
      · replace hM := if_f c1191 hM
        obtain ⟨x1192, ex1192⟩ : ∃ y : Int32, y = v2_L9 + 1 := ⟨_, rfl⟩
        replace hM := nm_use ex1192 hM
        refine lv_iinc (v := x1192) (lv' := [(2, .int x1192), (3, .int v3_L9), (0, .ref (ad 100))]) hx hb dX8_children_14 hl (k := 1) rfl (by rw [ex1192]; rfl) (by decide) rfl (fun ls hl => ?_)
        refine lv_aload_n hx hb dX8_children_17 rfl (lv_at hl 2 rfl) ?_
        refine va_get (D := D) (ci := 8) (v := .ref (ad 114)) (C := RX8) (T := TX8) (N := 48) hx hb hts layX8 hown hK hP 0 rfl rfl 23 (by decide) (hts _ (inA q1001)) (fun _ h9 => h9) rfl dX8_children_18 ?_
        refine lv_iload_n hx hb dX8_children_21 rfl (lv_at hl 1 rfl) ?_
        obtain ⟨b1193, hM⟩ := gd_use hM
        refine va_iald hx hb hK hP 7 0 rfl rfl b1193 dX8_children_22 ?_
        refine lv_topi (fun x1194 ex1194 => ?_)
        replace hM := nm_use ex1194 hM
        refine lv_istore_n (lv' := [(3, .int x1194), (2, .int x1192), (0, .ref (ad 100))]) hx hb dX8_children_23 rfl hl (by decide) rfl (fun ls hl => ?_)
        refine lv_goto (tgt := 9) hx hb dX8_children_24 (by decide) ?_
        exact ih_L9 x1194 x1192 out_L9 _ _ _ hM hP hD hS (lv_sub hl [0, 1, 2] rfl) kx_L9
  obtain ⟨r3, hcr3, hM⟩ := ob_use hM
  refine lp_L9 o_T FU x2 0 r3 _ _ _ hcr3 hP hD hS (lv_sub hl [0, 1, 2] rfl) (fun H locs ls hP hD hS hl => ?_)
  refine lv_iload_n hx hb dX8_children_27 rfl (lv_at hl 0 rfl) ?_
  cases hM
  exact rt_i hx hb hr hlk hP hD hS rfl dX8_children_28

set_option maxHeartbeats 4000000 in
set_option maxRecDepth 100000 in
theorem c_Model_node (l : Launch) (D : va_G) (cI : ClassId) (sd : Nat → Nat) (ad : Nat → Nat) (o_C : S_MC) (o_X : S_MX) (o_L : S_ML) (o_N : S_MN) (o_U : S_MU) (o_O : S_MO) (o_E : S_ME) (o_V : S_MV) (o_I : S_MI) (o_T : S_MT) (o_Q : S_MQ) (a1 : Int32) (a2 : Int32) (res : Int32) (hM : f_Model_node o_T o_Q a1 a2 = some res) : Ctr l D cI sd yX8_node (wsM yX8_node cX8_node 4 (Option.some Jvm.ClassFile.FieldType.int)) { frames := 1, cells := 0, slots := 0, locals := 23 } [.ref (ad 100), .int a1, .int a2] (wM_TQ cI ad o_X o_L o_N o_T o_U o_O o_E o_Q o_V o_I) (wM_TQ cI ad o_X o_L o_N o_T o_U o_O o_E o_Q o_V o_I) (some (.int res)) := by
  refine Ctr.of (cc := cX8_node) (maxL := 4) (own := RX8) (by decide +kernel) rfl rfl (Nat.le_of_ble_eq_true rfl) ?_
  intro p e s m below meth c A ls hx hb hr hml hown hts hlk hK hE hA hP hD hS hl
  have hl : lv_has ls 4 [(0, .ref (ad 100)), (1, .int a1), (2, .int a2)] := hl
  unfold f_Model_node at hM
  refine lv_iload_n hx hb dX8_node_0 rfl (lv_at hl 1 rfl) ?_
  refine lv_if_lt (tgt := 21) hx hb dX8_node_1 (by decide) (fun c1 => ?_) (fun c1 => ?_)
  · replace hM := if_t c1 hM
    refine lv_iconst (v := (-1)) hx hb dX8_node_21 (by decide) ?_
    cases hM
    exact rt_i hx hb hr hlk hP hD hS rfl dX8_node_22
  · replace hM := if_f c1 hM
    refine lv_iload_n hx hb dX8_node_4 rfl (lv_at hl 1 rfl) ?_
    refine lv_aload_n hx hb dX8_node_5 rfl (lv_at hl 0 rfl) ?_
    refine va_get (D := D) (ci := 8) (v := .int o_Q.1) (C := RX8) (T := TX8) (N := 48) hx hb hts layX8 hown hK hP 0 rfl rfl 40 (by decide) (hts _ (inA q1018)) (fun _ h9 => h9) rfl dX8_node_6 ?_
    refine lv_icmp_ge (tgt := 21) hx hb dX8_node_9 (by decide) (fun c2 => ?_) (fun c2 => ?_)
    · replace hM := if_t c2 hM
      refine lv_iconst (v := (-1)) hx hb dX8_node_21 (by decide) ?_
      cases hM
      exact rt_i hx hb hr hlk hP hD hS rfl dX8_node_22
    · replace hM := if_f c2 hM
      refine lv_iload_n hx hb dX8_node_12 rfl (lv_at hl 2 rfl) ?_
      refine lv_if_lt (tgt := 21) hx hb dX8_node_13 (by decide) (fun c3 => ?_) (fun c3 => ?_)
      · replace hM := if_t c3 hM
        refine lv_iconst (v := (-1)) hx hb dX8_node_21 (by decide) ?_
        cases hM
        exact rt_i hx hb hr hlk hP hD hS rfl dX8_node_22
      · replace hM := if_f c3 hM
        refine lv_iload_n hx hb dX8_node_16 rfl (lv_at hl 2 rfl) ?_
        refine lv_iconst (v := 4) hx hb dX8_node_17 (by decide) ?_
        refine lv_icmp_le (tgt := 23) hx hb dX8_node_18 (by decide) (fun c4 => ?_) (fun c4 => ?_)
        · replace hM := if_t c4 hM
          refine lv_aload_n hx hb dX8_node_23 rfl (lv_at hl 0 rfl) ?_
          refine va_get (D := D) (ci := 8) (v := .ref (ad 120)) (C := RX8) (T := TX8) (N := 48) hx hb hts layX8 hown hK hP 0 rfl rfl 41 (by decide) (hts _ (inA q1019)) (fun _ h9 => h9) rfl dX8_node_24 ?_
          refine lv_iload_n hx hb dX8_node_27 rfl (lv_at hl 1 rfl) ?_
          obtain ⟨b5, hM⟩ := gd_use hM
          refine va_iald hx hb hK hP 8 0 rfl rfl b5 dX8_node_28 ?_
          refine lv_istore_n (lv' := [(3, .int (o_Q.2.1 a1.toNatClampNeg)), (0, .ref (ad 100)), (1, .int a1), (2, .int a2)]) hx hb dX8_node_29 rfl hl (by decide) rfl (fun ls hl => ?_)
          refine lv_iload_n hx hb dX8_node_30 rfl (lv_at hl 3 rfl) ?_
          refine lv_if_ne (tgt := 43) hx hb dX8_node_31 (by decide) (fun c6 => ?_) (fun c6 => ?_)
          · replace hM := if_f c6 hM
            refine lv_iload_n hx hb dX8_node_43 rfl (lv_at hl 3 rfl) ?_
            refine lv_iconst (v := 1) hx hb dX8_node_44 (by decide) ?_
            refine lv_icmp_ne (tgt := 57) hx hb dX8_node_45 (by decide) (fun c7 => ?_) (fun c7 => ?_)
            · replace hM := if_f c7 hM
              refine lv_iload_n hx hb dX8_node_57 rfl (lv_at hl 3 rfl) ?_
              refine lv_iconst (v := 2) hx hb dX8_node_58 (by decide) ?_
              refine lv_icmp_ne (tgt := 71) hx hb dX8_node_59 (by decide) (fun c8 => ?_) (fun c8 => ?_)
              · replace hM := if_f c8 hM
                refine lv_iload_n hx hb dX8_node_71 rfl (lv_at hl 3 rfl) ?_
                refine lv_iconst (v := 3) hx hb dX8_node_72 (by decide) ?_
                refine lv_icmp_ne (tgt := 98) hx hb dX8_node_73 (by decide) (fun c9 => ?_) (fun c9 => ?_)
                · replace hM := if_f c9 hM
                  refine lv_aload_n hx hb dX8_node_98 rfl (lv_at hl 1 rfl) ?_
                  refine lv_iload_n hx hb dX8_node_99 rfl (lv_at hl 0 rfl) ?_
                  obtain ⟨r10, hcr10, hM⟩ := ob_use hM
                  refine cl_V (As := [.int (o_Q.2.1 a1.toNatClampNeg)]) (rest := []) (wM_TQ cI ad o_X o_L o_N o_T o_U o_O o_E o_Q o_V o_I) (.int r10 :: []) ⟨hx, hb, hml, hown, hts⟩ (c_Model_children l D cI sd ad o_C o_X o_L o_N o_U o_O o_E o_Q o_V o_I o_T (o_Q.2.1 a1.toNatClampNeg) r10 hcr10) (cwV2 hts q1500 mvX8_children rfl rfl ⟨(Nat.le_of_ble_eq_true rfl), (Nat.le_of_ble_eq_true rfl)⟩) hK hE hA hP hD hS 0 (T := TX8) (N := 48) (ci := 8) rfl rfl [0, 1, 2, 3, 4, 5, 6, 7] rfl (by decide) (mrgE rfl rfl) rfl rfl rfl rfl rfl hl.1 (Nat.le_of_ble_eq_true rfl) dX8_node_100 ⟨Nat.zero_le _, Nat.zero_le _⟩ (fun H locs hP hD hS => ?_)
                  cases hM
                  exact rt_i hx hb hr hlk hP hD hS rfl dX8_node_103
                · replace hM := if_t c9 hM
                  refine lv_iload_n hx hb dX8_node_76 rfl (lv_at hl 2 rfl) ?_
                  refine lv_if_ne (tgt := 84) hx hb dX8_node_77 (by decide) (fun c11 => ?_) (fun c11 => ?_)
                  · replace hM := if_f c11 hM
                    refine lv_aload_n hx hb dX8_node_84 rfl (lv_at hl 1 rfl) ?_
                    refine va_get (D := D) (ci := 8) (v := .ref (ad 121)) (C := RX8) (T := TX8) (N := 48) hx hb hts layX8 hown hK hP 0 rfl rfl 42 (by decide) (hts _ (inA q1020)) (fun _ h9 => h9) rfl dX8_node_85 ?_
                    refine lv_aload_n hx hb dX8_node_88 rfl (lv_at hl 1 rfl) ?_
                    refine va_get (D := D) (ci := 8) (v := .ref (ad 111)) (C := RX8) (T := TX8) (N := 48) hx hb hts layX8 hown hK hP 0 rfl rfl 20 (by decide) (hts _ (inA q998)) (fun _ h9 => h9) rfl dX8_node_89 ?_
                    refine lv_iload_n hx hb dX8_node_92 rfl (lv_at hl 0 rfl) ?_
                    obtain ⟨b12, hM⟩ := gd_use hM
                    refine va_iald hx hb hK hP 4 0 rfl rfl b12 dX8_node_93 ?_
                    obtain ⟨b13, hM⟩ := gd_use hM
                    refine va_iald hx hb hK hP 9 0 rfl rfl b13 dX8_node_94 ?_
                    refine lv_goto (tgt := 103) hx hb dX8_node_95 (by decide) ?_
                    cases hM
                    exact rt_i hx hb hr hlk hP hD hS rfl dX8_node_103
                  · replace hM := if_t c11 hM
                    refine lv_iconst (v := (-1)) hx hb dX8_node_80 (by decide) ?_
                    refine lv_goto (tgt := 103) hx hb dX8_node_81 (by decide) ?_
                    cases hM
                    exact rt_i hx hb hr hlk hP hD hS rfl dX8_node_103
              · replace hM := if_t c8 hM
                refine lv_aload_n hx hb dX8_node_62 rfl (lv_at hl 1 rfl) ?_
                refine va_get (D := D) (ci := 8) (v := .ref (ad 110)) (C := RX8) (T := TX8) (N := 48) hx hb hts layX8 hown hK hP 0 rfl rfl 19 (by decide) (hts _ (inA q997)) (fun _ h9 => h9) rfl dX8_node_63 ?_
                refine lv_iload_n hx hb dX8_node_66 rfl (lv_at hl 0 rfl) ?_
                obtain ⟨b14, hM⟩ := gd_use hM
                refine va_iald hx hb hK hP 3 0 rfl rfl b14 dX8_node_67 ?_
                refine lv_goto (tgt := 103) hx hb dX8_node_68 (by decide) ?_
                cases hM
                exact rt_i hx hb hr hlk hP hD hS rfl dX8_node_103
            · replace hM := if_t c7 hM
              refine lv_aload_n hx hb dX8_node_48 rfl (lv_at hl 1 rfl) ?_
              refine va_get (D := D) (ci := 8) (v := .ref (ad 109)) (C := RX8) (T := TX8) (N := 48) hx hb hts layX8 hown hK hP 0 rfl rfl 18 (by decide) (hts _ (inA q996)) (fun _ h9 => h9) rfl dX8_node_49 ?_
              refine lv_iload_n hx hb dX8_node_52 rfl (lv_at hl 0 rfl) ?_
              obtain ⟨b15, hM⟩ := gd_use hM
              refine va_iald hx hb hK hP 2 0 rfl rfl b15 dX8_node_53 ?_
              refine lv_goto (tgt := 103) hx hb dX8_node_54 (by decide) ?_
              cases hM
              exact rt_i hx hb hr hlk hP hD hS rfl dX8_node_103
          · replace hM := if_t c6 hM
            refine lv_aload_n hx hb dX8_node_34 rfl (lv_at hl 1 rfl) ?_
            refine va_get (D := D) (ci := 8) (v := .ref (ad 108)) (C := RX8) (T := TX8) (N := 48) hx hb hts layX8 hown hK hP 0 rfl rfl 17 (by decide) (hts _ (inA q995)) (fun _ h9 => h9) rfl dX8_node_35 ?_
            refine lv_iload_n hx hb dX8_node_38 rfl (lv_at hl 0 rfl) ?_
            obtain ⟨b16, hM⟩ := gd_use hM
            refine va_iald hx hb hK hP 1 0 rfl rfl b16 dX8_node_39 ?_
            refine lv_goto (tgt := 103) hx hb dX8_node_40 (by decide) ?_
            cases hM
            exact rt_i hx hb hr hlk hP hD hS rfl dX8_node_103
        · replace hM := if_f c4 hM
          refine lv_iconst (v := (-1)) hx hb dX8_node_21 (by decide) ?_
          cases hM
          exact rt_i hx hb hr hlk hP hD hS rfl dX8_node_22

set_option maxHeartbeats 4000000 in
set_option maxRecDepth 100000 in
theorem c_Model_nameByte (l : Launch) (D : va_G) (cI : ClassId) (sd : Nat → Nat) (ad : Nat → Nat) (o_C : S_MC) (o_X : S_MX) (o_L : S_ML) (o_T : S_MT) (o_U : S_MU) (o_O : S_MO) (o_E : S_ME) (o_Q : S_MQ) (o_V : S_MV) (o_I : S_MI) (o_N : S_MN) (a1 : Int32) (a2 : Int32) (res : Int32) (hM : f_Model_nameByte o_N a1 a2 = some res) : Ctr l D cI sd yX8_nameByte (wsM yX8_nameByte cX8_nameByte 3 (Option.some Jvm.ClassFile.FieldType.int)) { frames := 0, cells := 0, slots := 0, locals := 0 } [.ref (ad 100), .int a1, .int a2] (wM_N cI ad o_X o_L o_N o_T o_U o_O o_E o_Q o_V o_I) (wM_N cI ad o_X o_L o_N o_T o_U o_O o_E o_Q o_V o_I) (some (.int res)) := by
  refine Ctr.of (cc := cX8_nameByte) (maxL := 3) (own := RX8) (by decide +kernel) rfl rfl (Nat.le_of_ble_eq_true rfl) ?_
  intro p e s m below meth c A ls hx hb hr hml hown hts hlk hK hE hA hP hD hS hl
  have hl : lv_has ls 3 [(0, .ref (ad 100)), (1, .int a1), (2, .int a2)] := hl
  unfold f_Model_nameByte at hM
  refine lv_iload_n hx hb dX8_nameByte_0 rfl (lv_at hl 1 rfl) ?_
  refine lv_if_lt (tgt := 35) hx hb dX8_nameByte_1 (by decide) (fun c1 => ?_) (fun c1 => ?_)
  · replace hM := if_t c1 hM
    refine lv_iconst (v := (-1)) hx hb dX8_nameByte_35 (by decide) ?_
    cases hM
    exact rt_i hx hb hr hlk hP hD hS rfl dX8_nameByte_36
  · replace hM := if_f c1 hM
    refine lv_iload_n hx hb dX8_nameByte_4 rfl (lv_at hl 1 rfl) ?_
    refine lv_aload_n hx hb dX8_nameByte_5 rfl (lv_at hl 0 rfl) ?_
    refine va_get (D := D) (ci := 8) (v := .int o_N.1) (C := RX8) (T := TX8) (N := 48) hx hb hts layX8 hown hK hP 0 rfl rfl 13 (by decide) (hts _ (inA q991)) (fun _ h9 => h9) rfl dX8_nameByte_6 ?_
    refine lv_icmp_ge (tgt := 35) hx hb dX8_nameByte_9 (by decide) (fun c2 => ?_) (fun c2 => ?_)
    · replace hM := if_t c2 hM
      refine lv_iconst (v := (-1)) hx hb dX8_nameByte_35 (by decide) ?_
      cases hM
      exact rt_i hx hb hr hlk hP hD hS rfl dX8_nameByte_36
    · replace hM := if_f c2 hM
      refine lv_iload_n hx hb dX8_nameByte_12 rfl (lv_at hl 2 rfl) ?_
      refine lv_if_lt (tgt := 35) hx hb dX8_nameByte_13 (by decide) (fun c3 => ?_) (fun c3 => ?_)
      · replace hM := if_t c3 hM
        refine lv_iconst (v := (-1)) hx hb dX8_nameByte_35 (by decide) ?_
        cases hM
        exact rt_i hx hb hr hlk hP hD hS rfl dX8_nameByte_36
      · replace hM := if_f c3 hM
        refine lv_iload_n hx hb dX8_nameByte_16 rfl (lv_at hl 2 rfl) ?_
        refine lv_aload_n hx hb dX8_nameByte_17 rfl (lv_at hl 0 rfl) ?_
        refine va_get (D := D) (ci := 8) (v := .ref (ad 106)) (C := RX8) (T := TX8) (N := 48) hx hb hts layX8 hown hK hP 0 rfl rfl 14 (by decide) (hts _ (inA q992)) (fun _ h9 => h9) rfl dX8_nameByte_18 ?_
        refine lv_iload_n hx hb dX8_nameByte_21 rfl (lv_at hl 1 rfl) ?_
        refine lv_iconst (v := 1) hx hb dX8_nameByte_22 (by decide) ?_
        refine lv_iadd hx hb dX8_nameByte_23 ?_
        obtain ⟨b4, hM⟩ := gd_use hM
        refine va_iald hx hb hK hP 1 0 rfl rfl b4 dX8_nameByte_24 ?_
        refine lv_aload_n hx hb dX8_nameByte_25 rfl (lv_at hl 0 rfl) ?_
        refine va_get (D := D) (ci := 8) (v := .ref (ad 106)) (C := RX8) (T := TX8) (N := 48) hx hb hts layX8 hown hK hP 0 rfl rfl 14 (by decide) (hts _ (inA q992)) (fun _ h9 => h9) rfl dX8_nameByte_26 ?_
        refine lv_iload_n hx hb dX8_nameByte_29 rfl (lv_at hl 1 rfl) ?_
        obtain ⟨b5, hM⟩ := gd_use hM
        refine va_iald hx hb hK hP 1 0 rfl rfl b5 dX8_nameByte_30 ?_
        refine lv_isub hx hb dX8_nameByte_31 ?_
        refine lv_icmp_lt (tgt := 37) hx hb dX8_nameByte_32 (by decide) (fun c6 => ?_) (fun c6 => ?_)
        · replace hM := if_t c6 hM
          refine lv_aload_n hx hb dX8_nameByte_37 rfl (lv_at hl 0 rfl) ?_
          refine va_get (D := D) (ci := 8) (v := .ref (ad 107)) (C := RX8) (T := TX8) (N := 48) hx hb hts layX8 hown hK hP 0 rfl rfl 15 (by decide) (hts _ (inA q993)) (fun _ h9 => h9) rfl dX8_nameByte_38 ?_
          refine lv_aload_n hx hb dX8_nameByte_41 rfl (lv_at hl 0 rfl) ?_
          refine va_get (D := D) (ci := 8) (v := .ref (ad 106)) (C := RX8) (T := TX8) (N := 48) hx hb hts layX8 hown hK hP 0 rfl rfl 14 (by decide) (hts _ (inA q992)) (fun _ h9 => h9) rfl dX8_nameByte_42 ?_
          refine lv_iload_n hx hb dX8_nameByte_45 rfl (lv_at hl 1 rfl) ?_
          obtain ⟨b7, hM⟩ := gd_use hM
          refine va_iald hx hb hK hP 1 0 rfl rfl b7 dX8_nameByte_46 ?_
          refine lv_iload_n hx hb dX8_nameByte_47 rfl (lv_at hl 2 rfl) ?_
          refine lv_iadd hx hb dX8_nameByte_48 ?_
          obtain ⟨b8, hM⟩ := gd_use hM
          refine va_iald hx hb hK hP 2 0 rfl rfl b8 dX8_nameByte_49 ?_
          cases hM
          exact rt_i hx hb hr hlk hP hD hS rfl dX8_nameByte_50
        · replace hM := if_f c6 hM
          refine lv_iconst (v := (-1)) hx hb dX8_nameByte_35 (by decide) ?_
          cases hM
          exact rt_i hx hb hr hlk hP hD hS rfl dX8_nameByte_36

set_option maxHeartbeats 4000000 in
set_option maxRecDepth 100000 in
theorem c_Model_item (l : Launch) (D : va_G) (cI : ClassId) (sd : Nat → Nat) (ad : Nat → Nat) (o_C : S_MC) (o_X : S_MX) (o_L : S_ML) (o_N : S_MN) (o_T : S_MT) (o_U : S_MU) (o_O : S_MO) (o_E : S_ME) (o_Q : S_MQ) (o_V : S_MV) (o_I : S_MI) (a1 : Int32) (a2 : Int32) (res : S_MI) (hM : f_Model_item o_I a1 a2 = some res) : Ctr l D cI sd yX8_item (wsM yX8_item cX8_item 3 (Option.none : Option Jvm.ClassFile.FieldType)) { frames := 0, cells := 0, slots := 0, locals := 0 } [.ref (ad 100), .int a1, .int a2] (wM_I cI ad o_X o_L o_N o_T o_U o_O o_E o_Q o_V o_I) (wM_I cI ad o_X o_L o_N o_T o_U o_O o_E o_Q o_V res) none := by
  refine Ctr.of (cc := cX8_item) (maxL := 3) (own := RX8) (by decide +kernel) rfl rfl (Nat.le_of_ble_eq_true rfl) ?_
  intro p e s m below meth c A ls hx hb hr hml hown hts hlk hK hE hA hP hD hS hl
  have hl : lv_has ls 3 [(0, .ref (ad 100)), (1, .int a1), (2, .int a2)] := hl
  unfold f_Model_item at hM
  refine lv_aload_n hx hb dX8_item_0 rfl (lv_at hl 0 rfl) ?_
  refine va_get (D := D) (ci := 8) (v := .ref (ad 123)) (C := RX8) (T := TX8) (N := 48) hx hb hts layX8 hown hK hP 0 rfl rfl 46 (by decide) (hts _ (inA q1024)) (fun _ h9 => h9) rfl dX8_item_1 ?_
  refine lv_aload_n hx hb dX8_item_4 rfl (lv_at hl 0 rfl) ?_
  refine va_get (D := D) (ci := 8) (v := .int o_I.1) (C := RX8) (T := TX8) (N := 48) hx hb hts layX8 hown hK hP 0 rfl rfl 45 (by decide) (hts _ (inA q1023)) (fun _ h9 => h9) rfl dX8_item_5 ?_
  refine lv_iload_n hx hb dX8_item_8 rfl (lv_at hl 1 rfl) ?_
  obtain ⟨b1, hM⟩ := gd_use hM
  refine va_iast hx hb hK hP hD hS 1 0 rfl rfl b1 dX8_item_9 (fun H locs hP hD hS => ?_)
  have hP : va_P D vwCl (wM_I cI ad o_X o_L o_N o_T o_U o_O o_E o_Q o_V (o_I.1, upd o_I.2.1 o_I.1.toNatClampNeg a1, o_I.2.2)) H := hP
  have hD : va_D A (wM_I cI ad o_X o_L o_N o_T o_U o_O o_E o_Q o_V (o_I.1, upd o_I.2.1 o_I.1.toNatClampNeg a1, o_I.2.2)) := hD
  refine lv_aload_n hx hb dX8_item_10 rfl (lv_at hl 0 rfl) ?_
  refine va_get (D := D) (ci := 8) (v := .ref (ad 124)) (C := RX8) (T := TX8) (N := 48) hx hb hts layX8 hown hK hP 0 rfl rfl 47 (by decide) (hts _ (inA q1025)) (fun _ h9 => h9) rfl dX8_item_11 ?_
  refine lv_aload_n hx hb dX8_item_14 rfl (lv_at hl 0 rfl) ?_
  refine va_get (D := D) (ci := 8) (v := .int o_I.1) (C := RX8) (T := TX8) (N := 48) hx hb hts layX8 hown hK hP 0 rfl rfl 45 (by decide) (hts _ (inA q1023)) (fun _ h9 => h9) rfl dX8_item_15 ?_
  refine lv_iload_n hx hb dX8_item_18 rfl (lv_at hl 2 rfl) ?_
  obtain ⟨b2, hM⟩ := gd_use hM
  refine va_iast hx hb hK hP hD hS 2 0 rfl rfl b2 dX8_item_19 (fun H locs hP hD hS => ?_)
  have hP : va_P D vwCl (wM_I cI ad o_X o_L o_N o_T o_U o_O o_E o_Q o_V (o_I.1, upd o_I.2.1 o_I.1.toNatClampNeg a1, upd o_I.2.2 o_I.1.toNatClampNeg a2)) H := hP
  have hD : va_D A (wM_I cI ad o_X o_L o_N o_T o_U o_O o_E o_Q o_V (o_I.1, upd o_I.2.1 o_I.1.toNatClampNeg a1, upd o_I.2.2 o_I.1.toNatClampNeg a2)) := hD
  refine lv_aload_n hx hb dX8_item_20 rfl (lv_at hl 0 rfl) ?_
  refine lv_dup hx hb dX8_item_21 rfl ?_
  refine va_get (D := D) (ci := 8) (v := .int o_I.1) (C := RX8) (T := TX8) (N := 48) hx hb hts layX8 hown hK hP 0 rfl rfl 45 (by decide) (hts _ (inA q1023)) (fun _ h9 => h9) rfl dX8_item_22 ?_
  refine lv_iconst (v := 1) hx hb dX8_item_25 (by decide) ?_
  refine lv_iadd hx hb dX8_item_26 ?_
  refine va_put (D := D) (ci := 8) (v := .int (o_I.1 + 1)) (ty := .int) (C := RX8) (T := TX8) (N := 48) hx hb hts layX8 tyX8 tyX8_ok nmX8 hown hK hP hD hS 0 rfl rfl 45 (by decide) (hts _ (inA q1023)) (fun _ h9 => h9) rfl (by decide +kernel) rfl rfl (Nat.le_of_ble_eq_true rfl) dX8_item_27 (fun H locs hP hD hS => ?_)
  have hP : va_P D vwCl (wM_I cI ad o_X o_L o_N o_T o_U o_O o_E o_Q o_V (o_I.1 + 1, upd o_I.2.1 o_I.1.toNatClampNeg a1, upd o_I.2.2 o_I.1.toNatClampNeg a2)) H := hP
  have hD : va_D A (wM_I cI ad o_X o_L o_N o_T o_U o_O o_E o_Q o_V (o_I.1 + 1, upd o_I.2.1 o_I.1.toNatClampNeg a1, upd o_I.2.2 o_I.1.toNatClampNeg a2)) := hD
  cases hM
  exact rt_v hx hb hr hlk hP hD hS rfl dX8_item_30

set_option maxHeartbeats 4000000 in
set_option maxRecDepth 100000 in
theorem c_Model_put (l : Launch) (D : va_G) (cI : ClassId) (sd : Nat → Nat) (ad : Nat → Nat) (o_C : S_MC) (o_X : S_MX) (o_L : S_ML) (o_N : S_MN) (o_T : S_MT) (o_U : S_MU) (o_O : S_MO) (o_E : S_ME) (o_Q : S_MQ) (o_I : S_MI) (o_V : S_MV) (a1 : Int32) (res : S_MV) (hM : f_Model_put o_V a1 = some res) : Ctr l D cI sd yX8_put (wsM yX8_put cX8_put 2 (Option.none : Option Jvm.ClassFile.FieldType)) { frames := 0, cells := 0, slots := 0, locals := 0 } [.ref (ad 100), .int a1] (wM_V cI ad o_X o_L o_N o_T o_U o_O o_E o_Q o_V o_I) (wM_V cI ad o_X o_L o_N o_T o_U o_O o_E o_Q res o_I) none := by
  refine Ctr.of (cc := cX8_put) (maxL := 2) (own := RX8) (by decide +kernel) rfl rfl (Nat.le_of_ble_eq_true rfl) ?_
  intro p e s m below meth c A ls hx hb hr hml hown hts hlk hK hE hA hP hD hS hl
  have hl : lv_has ls 2 [(0, .ref (ad 100)), (1, .int a1)] := hl
  unfold f_Model_put at hM
  refine lv_aload_n hx hb dX8_put_0 rfl (lv_at hl 0 rfl) ?_
  refine va_get (D := D) (ci := 8) (v := .ref (ad 122)) (C := RX8) (T := TX8) (N := 48) hx hb hts layX8 hown hK hP 0 rfl rfl 44 (by decide) (hts _ (inA q1022)) (fun _ h9 => h9) rfl dX8_put_1 ?_
  refine lv_aload_n hx hb dX8_put_4 rfl (lv_at hl 0 rfl) ?_
  refine va_get (D := D) (ci := 8) (v := .int o_V.1) (C := RX8) (T := TX8) (N := 48) hx hb hts layX8 hown hK hP 0 rfl rfl 43 (by decide) (hts _ (inA q1021)) (fun _ h9 => h9) rfl dX8_put_5 ?_
  refine lv_iload_n hx hb dX8_put_8 rfl (lv_at hl 1 rfl) ?_
  obtain ⟨b1, hM⟩ := gd_use hM
  refine va_iast hx hb hK hP hD hS 1 0 rfl rfl b1 dX8_put_9 (fun H locs hP hD hS => ?_)
  have hP : va_P D vwCl (wM_V cI ad o_X o_L o_N o_T o_U o_O o_E o_Q (o_V.1, upd o_V.2 o_V.1.toNatClampNeg a1) o_I) H := hP
  have hD : va_D A (wM_V cI ad o_X o_L o_N o_T o_U o_O o_E o_Q (o_V.1, upd o_V.2 o_V.1.toNatClampNeg a1) o_I) := hD
  refine lv_aload_n hx hb dX8_put_10 rfl (lv_at hl 0 rfl) ?_
  refine lv_dup hx hb dX8_put_11 rfl ?_
  refine va_get (D := D) (ci := 8) (v := .int o_V.1) (C := RX8) (T := TX8) (N := 48) hx hb hts layX8 hown hK hP 0 rfl rfl 43 (by decide) (hts _ (inA q1021)) (fun _ h9 => h9) rfl dX8_put_12 ?_
  refine lv_iconst (v := 1) hx hb dX8_put_15 (by decide) ?_
  refine lv_iadd hx hb dX8_put_16 ?_
  refine va_put (D := D) (ci := 8) (v := .int (o_V.1 + 1)) (ty := .int) (C := RX8) (T := TX8) (N := 48) hx hb hts layX8 tyX8 tyX8_ok nmX8 hown hK hP hD hS 0 rfl rfl 43 (by decide) (hts _ (inA q1021)) (fun _ h9 => h9) rfl (by decide +kernel) rfl rfl (Nat.le_of_ble_eq_true rfl) dX8_put_17 (fun H locs hP hD hS => ?_)
  have hP : va_P D vwCl (wM_V cI ad o_X o_L o_N o_T o_U o_O o_E o_Q (o_V.1 + 1, upd o_V.2 o_V.1.toNatClampNeg a1) o_I) H := hP
  have hD : va_D A (wM_V cI ad o_X o_L o_N o_T o_U o_O o_E o_Q (o_V.1 + 1, upd o_V.2 o_V.1.toNatClampNeg a1) o_I) := hD
  cases hM
  exact rt_v hx hb hr hlk hP hD hS rfl dX8_put_20

set_option maxHeartbeats 4000000 in
set_option maxRecDepth 100000 in
theorem c_Model_isOfName (l : Launch) (D : va_G) (cI : ClassId) (sd : Nat → Nat) (ad : Nat → Nat) (a1 : Int32) (res : Int32) (hM : f_Model_isOfName a1 = some res) : Ctr l D cI sd yX8_isOfName (wsM yX8_isOfName cX8_isOfName 1 (Option.some Jvm.ClassFile.FieldType.boolean)) { frames := 1, cells := 0, slots := 0, locals := 20 } [.int a1] (([] : va_W)) (([] : va_W)) (some (.int res)) := by
  refine Ctr.of (cc := cX8_isOfName) (maxL := 1) (own := RX8) (by decide +kernel) rfl rfl (Nat.le_of_ble_eq_true rfl) ?_
  intro p e s m below meth c A ls hx hb hr hml hown hts hlk hK hE hA hP hD hS hl
  have hl : lv_has ls 1 [(0, .int a1)] := hl
  unfold f_Model_isOfName at hM
  refine lv_iload_n hx hb dX8_isOfName_0 rfl (lv_at hl 0 rfl) ?_
  obtain ⟨r1, hcr1, hM⟩ := ob_use hM
  refine cl_S (As := [.int a1]) (rest := []) (([] : va_W)) (.int r1 :: []) ⟨hx, hb, hml, hown, hts⟩ (c_Model_isLetter l D cI sd ad a1 r1 hcr1) (cwS2 hts q1199 mvX8_isLetter rfl rfl ⟨(Nat.le_of_ble_eq_true rfl), (Nat.le_of_ble_eq_true rfl)⟩) hK hE hA hP hD hS [] rfl (by decide) rfl rfl rfl rfl rfl rfl hl.1 (Nat.le_of_ble_eq_true rfl) dX8_isOfName_1 ⟨Nat.zero_le _, Nat.zero_le _⟩ (fun H locs hP hD hS => ?_)
  refine lv_if_ne (tgt := 14) hx hb dX8_isOfName_4 (by decide) (fun c2 => ?_) (fun c2 => ?_)
  · replace hM := if_f c2 hM
    refine lv_iconst (v := 1) hx hb dX8_isOfName_14 (by decide) ?_
    refine lv_goto (tgt := 19) hx hb dX8_isOfName_15 (by decide) ?_
    cases hM
    exact rt_z hx hb hr hlk (by decide) hP hD hS rfl dX8_isOfName_19
  · replace hM := if_t c2 hM
    refine lv_iload_n hx hb dX8_isOfName_7 rfl (lv_at hl 0 rfl) ?_
    obtain ⟨r3, hcr3, hM⟩ := ob_use hM
    refine cl_S (As := [.int a1]) (rest := []) (([] : va_W)) (.int r3 :: []) ⟨hx, hb, hml, hown, hts⟩ (c_Model_isDigit l D cI sd ad a1 r3 hcr3) (cwS2 hts q1181 mvX8_isDigit rfl rfl ⟨(Nat.le_of_ble_eq_true rfl), (Nat.le_of_ble_eq_true rfl)⟩) hK hE hA hP hD hS [] rfl (by decide) rfl rfl rfl rfl rfl rfl hl.1 (Nat.le_of_ble_eq_true rfl) dX8_isOfName_8 ⟨Nat.zero_le _, Nat.zero_le _⟩ (fun H locs hP hD hS => ?_)
    refine lv_if_eq (tgt := 18) hx hb dX8_isOfName_11 (by decide) (fun c4 => ?_) (fun c4 => ?_)
    · replace hM := if_t c4 hM
      refine lv_iconst (v := 0) hx hb dX8_isOfName_18 (by decide) ?_
      cases hM
      exact rt_z hx hb hr hlk (by decide) hP hD hS rfl dX8_isOfName_19
    · replace hM := if_f c4 hM
      refine lv_iconst (v := 1) hx hb dX8_isOfName_14 (by decide) ?_
      refine lv_goto (tgt := 19) hx hb dX8_isOfName_15 (by decide) ?_
      cases hM
      exact rt_z hx hb hr hlk (by decide) hP hD hS rfl dX8_isOfName_19

set_option maxHeartbeats 4000000 in
set_option maxRecDepth 100000 in
theorem c_Model_part (l : Launch) (D : va_G) (cI : ClassId) (sd : Nat → Nat) (ad : Nat → Nat) (o_C : S_MC) (o_X : S_MX) (o_L : S_ML) (o_N : S_MN) (o_T : S_MT) (o_U : S_MU) (o_O : S_MO) (o_E : S_ME) (o_Q : S_MQ) (o_I : S_MI) (o_V : S_MV) (a1 : Int32) (res : S_MV) (hM : f_Model_part o_V a1 = some res) : Ctr l D cI sd yX8_part (wsM yX8_part cX8_part 2 (Option.none : Option Jvm.ClassFile.FieldType)) { frames := 2, cells := 0, slots := 0, locals := 40 } [.ref (ad 100), .int a1] (wM_V cI ad o_X o_L o_N o_T o_U o_O o_E o_Q o_V o_I) (wM_V cI ad o_X o_L o_N o_T o_U o_O o_E o_Q res o_I) none := by
  refine Ctr.of (cc := cX8_part) (maxL := 2) (own := RX8) (by decide +kernel) rfl rfl (Nat.le_of_ble_eq_true rfl) ?_
  intro p e s m below meth c A ls hx hb hr hml hown hts hlk hK hE hA hP hD hS hl
  have hl : lv_has ls 2 [(0, .ref (ad 100)), (1, .int a1)] := hl
  unfold f_Model_part at hM
  refine lv_aload_n hx hb dX8_part_0 rfl (lv_at hl 0 rfl) ?_
  refine va_get (D := D) (ci := 8) (v := .int o_V.1) (C := RX8) (T := TX8) (N := 48) hx hb hts layX8 hown hK hP 0 rfl rfl 43 (by decide) (hts _ (inA q1021)) (fun _ h9 => h9) rfl dX8_part_1 ?_
  refine lv_if_le (tgt := 37) hx hb dX8_part_4 (by decide) (fun c1 => ?_) (fun c1 => ?_)
  · replace hM := if_t c1 hM
    cases hM
    exact rt_v hx hb hr hlk hP hD hS rfl dX8_part_37
  · replace hM := if_f c1 hM
    refine lv_iload_n hx hb dX8_part_7 rfl (lv_at hl 1 rfl) ?_
    obtain ⟨r2, hcr2, hM⟩ := ob_use hM
    refine cl_S (As := [.int a1]) (rest := []) (wM_V cI ad o_X o_L o_N o_T o_U o_O o_E o_Q o_V o_I) (.int r2 :: []) ⟨hx, hb, hml, hown, hts⟩ (c_Model_isOfName l D cI sd ad a1 r2 hcr2) (cwS2 hts q1528 mvX8_isOfName rfl rfl ⟨(Nat.le_of_ble_eq_true rfl), (Nat.le_of_ble_eq_true rfl)⟩) hK hE hA hP hD hS [] rfl (by decide) rfl rfl rfl rfl rfl rfl hl.1 (Nat.le_of_ble_eq_true rfl) dX8_part_8 ⟨Nat.zero_le _, Nat.zero_le _⟩ (fun H locs hP hD hS => ?_)
    refine lv_if_eq (tgt := 37) hx hb dX8_part_11 (by decide) (fun c3 => ?_) (fun c3 => ?_)
    · replace hM := if_t c3 hM
      cases hM
      exact rt_v hx hb hr hlk hP hD hS rfl dX8_part_37
    · replace hM := if_f c3 hM
      refine lv_aload_n hx hb dX8_part_14 rfl (lv_at hl 0 rfl) ?_
      refine va_get (D := D) (ci := 8) (v := .ref (ad 122)) (C := RX8) (T := TX8) (N := 48) hx hb hts layX8 hown hK hP 0 rfl rfl 44 (by decide) (hts _ (inA q1022)) (fun _ h9 => h9) rfl dX8_part_15 ?_
      refine lv_aload_n hx hb dX8_part_18 rfl (lv_at hl 0 rfl) ?_
      refine va_get (D := D) (ci := 8) (v := .int o_V.1) (C := RX8) (T := TX8) (N := 48) hx hb hts layX8 hown hK hP 0 rfl rfl 43 (by decide) (hts _ (inA q1021)) (fun _ h9 => h9) rfl dX8_part_19 ?_
      refine lv_iconst (v := 1) hx hb dX8_part_22 (by decide) ?_
      refine lv_isub hx hb dX8_part_23 ?_
      obtain ⟨b4, hM⟩ := gd_use hM
      refine va_iald hx hb hK hP 1 0 rfl rfl b4 dX8_part_24 ?_
      obtain ⟨r5, hcr5, hM⟩ := ob_use hM
      refine cl_S (As := [.int (o_V.2 (o_V.1 - 1).toNatClampNeg)]) (rest := []) (wM_V cI ad o_X o_L o_N o_T o_U o_O o_E o_Q o_V o_I) (.int r5 :: []) ⟨hx, hb, hml, hown, hts⟩ (c_Model_isOfName l D cI sd ad (o_V.2 (o_V.1 - 1).toNatClampNeg) r5 hcr5) (cwS2 hts q1528 mvX8_isOfName rfl rfl ⟨(Nat.le_of_ble_eq_true rfl), (Nat.le_of_ble_eq_true rfl)⟩) hK hE hA hP hD hS [] rfl (by decide) rfl rfl rfl rfl rfl rfl hl.1 (Nat.le_of_ble_eq_true rfl) dX8_part_25 ⟨Nat.zero_le _, Nat.zero_le _⟩ (fun H locs hP hD hS => ?_)
      refine lv_if_eq (tgt := 37) hx hb dX8_part_28 (by decide) (fun c6 => ?_) (fun c6 => ?_)
      · replace hM := if_t c6 hM
        cases hM
        exact rt_v hx hb hr hlk hP hD hS rfl dX8_part_37
      · replace hM := if_f c6 hM
        refine lv_aload_n hx hb dX8_part_31 rfl (lv_at hl 0 rfl) ?_
        refine lv_bipush (v := 32) hx hb dX8_part_32 (by decide) ?_
        obtain ⟨r7, hcr7, hM⟩ := ob_use hM
        refine cl_V (As := [.int 32]) (rest := []) (wM_V cI ad o_X o_L o_N o_T o_U o_O o_E o_Q r7 o_I) [] ⟨hx, hb, hml, hown, hts⟩ (c_Model_put l D cI sd ad o_C o_X o_L o_N o_T o_U o_O o_E o_Q o_I o_V 32 r7 hcr7) (cwV2 hts q1531 mvX8_put rfl rfl ⟨(Nat.le_of_ble_eq_true rfl), (Nat.le_of_ble_eq_true rfl)⟩) hK hE hA hP hD hS 0 (T := TX8) (N := 48) (ci := 8) rfl rfl [0, 1] rfl (by decide) rfl rfl rfl rfl rfl rfl hl.1 (Nat.le_of_ble_eq_true rfl) dX8_part_34 ⟨Nat.zero_le _, Nat.zero_le _⟩ (fun H locs hP hD hS => ?_)
        cases hM
        exact rt_v hx hb hr hlk hP hD hS rfl dX8_part_37
