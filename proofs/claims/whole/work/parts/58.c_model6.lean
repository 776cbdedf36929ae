set_option maxHeartbeats 4000000 in
set_option maxRecDepth 100000 in
theorem c_Model_count (l : Launch) (D : va_G) (cI : ClassId) (sd : Nat → Nat) (ad : Nat → Nat) (o_C : S_MC) (o_T : S_MT) (o_U : S_MU) (o_O : S_MO) (o_E : S_ME) (o_I : S_MI) (o_X : S_MX) (o_L : S_ML) (o_N : S_MN) (o_Q : S_MQ) (o_V : S_MV) (a1 : Int32) (res : Int32) (hM : f_Model_count o_X o_L o_N o_Q o_V a1 = some res) : Ctr l D cI sd yX8_count (wsM yX8_count cX8_count 2 (Option.some Jvm.ClassFile.FieldType.int)) { frames := 0, cells := 0, slots := 0, locals := 0 } [.ref (ad 100), .int a1] (wM0 ad o_X o_L o_N o_T o_U o_O o_E o_Q o_V o_I ++ wMX cI ad o_X ++ wMN cI ad o_N ++ wMQ cI ad o_Q ++ wMV cI ad o_V) (wM0 ad o_X o_L o_N o_T o_U o_O o_E o_Q o_V o_I ++ wMX cI ad o_X ++ wMN cI ad o_N ++ wMQ cI ad o_Q ++ wMV cI ad o_V) (some (.int res)) := by
  refine Ctr.of (cc := cX8_count) (maxL := 2) (own := RX8) (by decide +kernel) rfl rfl (Nat.le_of_ble_eq_true rfl) ?_
  intro p e s m below meth c A ls hx hb hr hml hown hts hlk hK hE hA hP hD hS hl
  have hl : lv_has ls 2 [(0, .ref (ad 100)), (1, .int a1)] := hl
  unfold f_Model_count at hM
  refine lv_iload_n hx hb dX8_count_0 rfl (lv_at hl 1 rfl) ?_
  by_cases c1 : a1 = 0
  · replace hM := if_t c1 hM
    refine lv_tableIn (tgt := 40) hx hb dX8_count_1 (by rw [c1]; decide) (by rw [c1]; decide) (by rw [c1]; rfl) (by decide) ?_
    refine lv_aload_n hx hb dX8_count_40 rfl (lv_at hl 0 rfl) ?_
    refine va_get (D := D) (ci := 8) (v := .int o_L.2.2.2.2.2.1) (C := RX8) (T := TX8) (N := 48) hx hb hts layX8 hown hK hP 0 rfl rfl 11 (by decide) (hts _ (inA q989)) (fun _ h9 => h9) rfl dX8_count_41 ?_
    cases hM
    exact rt_i hx hb hr hlk hP hD hS rfl dX8_count_44
  replace hM := if_f c1 hM
  by_cases c2 : a1 = 1
  · replace hM := if_t c2 hM
    refine lv_tableIn (tgt := 45) hx hb dX8_count_1 (by rw [c2]; decide) (by rw [c2]; decide) (by rw [c2]; rfl) (by decide) ?_
    refine lv_aload_n hx hb dX8_count_45 rfl (lv_at hl 0 rfl) ?_
    refine va_get (D := D) (ci := 8) (v := .int o_L.2.2.2.2.2.2) (C := RX8) (T := TX8) (N := 48) hx hb hts layX8 hown hK hP 0 rfl rfl 12 (by decide) (hts _ (inA q990)) (fun _ h9 => h9) rfl dX8_count_46 ?_
    cases hM
    exact rt_i hx hb hr hlk hP hD hS rfl dX8_count_49
  replace hM := if_f c2 hM
  by_cases c3 : a1 = 2
  · replace hM := if_t c3 hM
    refine lv_tableIn (tgt := 50) hx hb dX8_count_1 (by rw [c3]; decide) (by rw [c3]; decide) (by rw [c3]; rfl) (by decide) ?_
    refine lv_aload_n hx hb dX8_count_50 rfl (lv_at hl 0 rfl) ?_
    refine va_get (D := D) (ci := 8) (v := .int o_Q.1) (C := RX8) (T := TX8) (N := 48) hx hb hts layX8 hown hK hP 0 rfl rfl 40 (by decide) (hts _ (inA q1018)) (fun _ h9 => h9) rfl dX8_count_51 ?_
    cases hM
    exact rt_i hx hb hr hlk hP hD hS rfl dX8_count_54
  replace hM := if_f c3 hM
  by_cases c4 : a1 = 3
  · replace hM := if_t c4 hM
    refine lv_tableIn (tgt := 55) hx hb dX8_count_1 (by rw [c4]; decide) (by rw [c4]; decide) (by rw [c4]; rfl) (by decide) ?_
    refine lv_aload_n hx hb dX8_count_55 rfl (lv_at hl 0 rfl) ?_
    refine va_get (D := D) (ci := 8) (v := .int o_N.1) (C := RX8) (T := TX8) (N := 48) hx hb hts layX8 hown hK hP 0 rfl rfl 13 (by decide) (hts _ (inA q991)) (fun _ h9 => h9) rfl dX8_count_56 ?_
    cases hM
    exact rt_i hx hb hr hlk hP hD hS rfl dX8_count_59
  replace hM := if_f c4 hM
  by_cases c5 : a1 = 4
  · replace hM := if_t c5 hM
    refine lv_tableIn (tgt := 60) hx hb dX8_count_1 (by rw [c5]; decide) (by rw [c5]; decide) (by rw [c5]; rfl) (by decide) ?_
    refine lv_aload_n hx hb dX8_count_60 rfl (lv_at hl 0 rfl) ?_
    refine va_get (D := D) (ci := 8) (v := .int o_X.1) (C := RX8) (T := TX8) (N := 48) hx hb hts layX8 hown hK hP 0 rfl rfl 4 (by decide) (hts _ (inA q982)) (fun _ h9 => h9) rfl dX8_count_61 ?_
    cases hM
    exact rt_i hx hb hr hlk hP hD hS rfl dX8_count_64
  replace hM := if_f c5 hM
  by_cases c6 : a1 = 5
  · replace hM := if_t c6 hM
    refine lv_tableIn (tgt := 65) hx hb dX8_count_1 (by rw [c6]; decide) (by rw [c6]; decide) (by rw [c6]; rfl) (by decide) ?_
    refine lv_aload_n hx hb dX8_count_65 rfl (lv_at hl 0 rfl) ?_
    refine va_get (D := D) (ci := 8) (v := .int o_V.1) (C := RX8) (T := TX8) (N := 48) hx hb hts layX8 hown hK hP 0 rfl rfl 43 (by decide) (hts _ (inA q1021)) (fun _ h9 => h9) rfl dX8_count_66 ?_
    cases hM
    exact rt_i hx hb hr hlk hP hD hS rfl dX8_count_69
  replace hM := if_f c6 hM
  refine lv_tableOut (tgt := 70) hx hb dX8_count_1 (by have := lv_neT c1 (show (0 : Int32).toInt = 0 by decide); have := lv_neT c2 (show (1 : Int32).toInt = 1 by decide); have := lv_neT c3 (show (2 : Int32).toInt = 2 by decide); have := lv_neT c4 (show (3 : Int32).toInt = 3 by decide); have := lv_neT c5 (show (4 : Int32).toInt = 4 by decide); have := lv_neT c6 (show (5 : Int32).toInt = 5 by decide); omega) (by decide) ?_
  refine lv_iconst (v := (-1)) hx hb dX8_count_70 (by decide) ?_
  cases hM
  exact rt_i hx hb hr hlk hP hD hS rfl dX8_count_71

set_option maxHeartbeats 4000000 in
set_option maxRecDepth 100000 in
theorem c_Model_children (l : Launch) (D : va_G) (cI : ClassId) (sd : Nat → Nat) (ad : Nat → Nat) (o_C : S_MC) (o_X : S_MX) (o_L : S_ML) (o_N : S_MN) (o_U : S_MU) (o_O : S_MO) (o_E : S_ME) (o_Q : S_MQ) (o_V : S_MV) (o_I : S_MI) (o_T : S_MT) (a1 : Int32) (res : Int32) (hM : f_Model_children o_T a1 = some res) : Ctr l D cI sd yX8_children (wsM yX8_children cX8_children 4 (Option.some Jvm.ClassFile.FieldType.int)) { frames := 0, cells := 0, slots := 0, locals := 0 } [.ref (ad 100), .int a1] (wM0 ad o_X o_L o_N o_T o_U o_O o_E o_Q o_V o_I ++ wMT cI ad o_T) (wM0 ad o_X o_L o_N o_T o_U o_O o_E o_Q o_V o_I ++ wMT cI ad o_T) (some (.int res)) := by
  refine Ctr.of (cc := cX8_children) (maxL := 4) (own := RX8) (by decide +kernel) rfl rfl (Nat.le_of_ble_eq_true rfl) ?_
  intro p e s m below meth c A ls hx hb hr hml hown hts hlk hK hE hA hP hD hS hl
  have hl : lv_has ls 4 [(0, .ref (ad 100)), (1, .int a1)] := hl
  unfold f_Model_children at hM
  refine lv_iconst (v := 0) hx hb dX8_children_0 (by decide) ?_
  refine lv_istore_n (lv' := [(2, .int 0), (0, .ref (ad 100)), (1, .int a1)]) hx hb dX8_children_1 rfl hl (by decide) rfl (fun ls hl => ?_)
  refine lv_aload_n hx hb dX8_children_2 rfl (lv_at hl 1 rfl) ?_
  refine va_get (D := D) (ci := 8) (v := .ref (ad 112)) (C := RX8) (T := TX8) (N := 48) hx hb hts layX8 hown hK hP 0 rfl rfl 21 (by decide) (hts _ (inA q999)) (fun _ h9 => h9) rfl dX8_children_3 ?_
  refine lv_iload_n hx hb dX8_children_6 rfl (lv_at hl 2 rfl) ?_
  obtain ⟨b1, hM⟩ := gd_use hM
  refine va_iald hx hb hK hP 5 0 rfl rfl b1 dX8_children_7 ?_
  refine lv_topi (fun x2 ex2 => ?_)
  replace hM := nm_use ex2 hM
  refine lv_istore_n (lv' := [(3, .int x2), (2, .int 0), (0, .ref (ad 100)), (1, .int a1)]) hx hb dX8_children_8 rfl hl (by decide) rfl (fun ls hl => ?_)
  have lp_L9 : ∀ (o_T_L9 : S_MT) (n : Nat) (v3_L9 : Int32) (v2_L9 : Int32) (out_L9 : Int32) (H : Heap) (locs : List Loc) (ls : Array Slot), f_Model_children_L9 o_T_L9 n v3_L9 v2_L9 = some out_L9 → va_P D vwCl (wM0 ad o_X o_L o_N o_T_L9 o_U o_O o_E o_Q o_V o_I ++ wMT cI ad o_T_L9) H → va_D A (wM0 ad o_X o_L o_N o_T_L9 o_U o_O o_E o_Q o_V o_I ++ wMT cI ad o_T_L9) → va_S A s.heap H locs → lv_has ls 4 [(3, .int v3_L9), (2, .int v2_L9), (0, .ref (ad 100))] → (∀ (H : Heap) (locs : List Loc) (ls : Array Slot), va_P D vwCl (wM0 ad o_X o_L o_N o_T_L9 o_U o_O o_E o_Q o_V o_I ++ wMT cI ad o_T_L9) H → va_D A (wM0 ad o_X o_L o_N o_T_L9 o_U o_O o_E o_Q o_V o_I ++ wMT cI ad o_T_L9) → va_S A s.heap H locs → lv_has ls 4 [(2, .int out_L9), (0, .ref (ad 100))] → W p l e { frames := 0, cells := 0, slots := 0, locals := 0 } s m [.ref (ad 100), .int a1].toArray below meth c H locs 0 0 (MQ below (CQ D A (wM0 ad o_X o_L o_N o_T o_U o_O o_E o_Q o_V o_I ++ wMT cI ad o_T) (some (.int res))) [.ref (ad 100), .int a1].toArray s 0 0 A) (F0 m 27 ls [])) → W p l e { frames := 0, cells := 0, slots := 0, locals := 0 } s m [.ref (ad 100), .int a1].toArray below meth c H locs 0 0 (MQ below (CQ D A (wM0 ad o_X o_L o_N o_T o_U o_O o_E o_Q o_V o_I ++ wMT cI ad o_T) (some (.int res))) [.ref (ad 100), .int a1].toArray s 0 0 A) (F0 m 9 ls []) := by
    intro o_T_L9 n
    induction n with
    | zero => intro v3_L9 v2_L9 out_L9 H locs ls hM; exact absurd (show none = some _ from hM) (by simp)
    | succ n ih_L9 =>
      intro v3_L9 v2_L9 out_L9 H locs ls hM hP hD hS hl kx_L9
      rw [f_Model_children_L9] at hM
      refine lv_iload_n hx hb dX8_children_9 rfl (lv_at hl 0 rfl) ?_
      refine lv_iconst (v := (-1)) hx hb dX8_children_10 (by decide) ?_
      refine lv_icmp_eq (tgt := 27) hx hb dX8_children_11 (by decide) (fun c1191 => ?_) (fun c1191 => ?_)
      · replace hM := if_t c1191 hM
        cases hM
        exact kx_L9 _ _ _ hP hD hS (lv_sub hl [1, 2] rfl)
      · replace hM := if_f c1191 hM
        obtain ⟨x1192, ex1192⟩ : ∃ y : Int32, y = v2_L9 + 1 := ⟨_, rfl⟩
        replace hM := nm_use ex1192 hM
        refine lv_iinc (v := x1192) (lv' := [(2, .int x1192), (3, .int v3_L9), (0, .ref (ad 100))]) hx hb dX8_children_14 hl (k := 1) rfl (by rw [ex1192]; rfl) (by decide) rfl (fun ls hl => ?_)
        refine lv_aload_n hx hb dX8_children_17 rfl (lv_at hl 2 rfl) ?_
        refine va_get (D := D) (ci := 8) (v := .ref (ad 114)) (C := RX8) (T := TX8) (N := 48) hx hb hts layX8 hown hK hP 0 rfl rfl 23 (by decide) (hts _ (inA q1001)) (fun _ h9 => h9) rfl dX8_children_18 ?_
        refine lv_iload_n hx hb dX8_children_21 rfl (lv_at hl 1 rfl) ?_
        obtain ⟨b1193, hM⟩ := gd_use hM
        refine va_iald hx hb hK hP 7 0 rfl rfl b1193 dX8_children_22 ?_
        refine lv_topi (fun x1194 ex1194 => ?_)
        replace hM := nm_use ex1194 hM
        refine lv_istore_n (lv' := [(3, .int x1194), (2, .int x1192), (0, .ref (ad 100))]) hx hb dX8_children_23 rfl hl (by decide) rfl (fun ls hl => ?_)
        refine lv_goto (tgt := 9) hx hb dX8_children_24 (by decide) ?_
        exact ih_L9 x1194 x1192 out_L9 _ _ _ hM hP hD hS (lv_sub hl [0, 1, 2] rfl) kx_L9
  obtain ⟨r3, hcr3, hM⟩ := ob_use hM
  refine lp_L9 o_T FU x2 0 r3 _ _ _ hcr3 hP hD hS (lv_sub hl [0, 1, 2] rfl) (fun H locs ls hP hD hS hl => ?_)
  refine lv_iload_n hx hb dX8_children_27 rfl (lv_at hl 0 rfl) ?_
  cases hM
  exact rt_i hx hb hr hlk hP hD hS rfl dX8_children_28

set_option maxHeartbeats 4000000 in
set_option maxRecDepth 100000 in
theorem c_Model_node (l : Launch) (D : va_G) (cI : ClassId) (sd : Nat → Nat) (ad : Nat → Nat) (o_C : S_MC) (o_X : S_MX) (o_L : S_ML) (o_N : S_MN) (o_U : S_MU) (o_O : S_MO) (o_E : S_ME) (o_V : S_MV) (o_I : S_MI) (o_T : S_MT) (o_Q : S_MQ) (a1 : Int32) (a2 : Int32) (res : Int32) (hM : f_Model_node o_T o_Q a1 a2 = some res) : Ctr l D cI sd yX8_node (wsM yX8_node cX8_node 4 (Option.some Jvm.ClassFile.FieldType.int)) { frames := 1, cells := 0, slots := 0, locals := 23 } [.ref (ad 100), .int a1, .int a2] (wM0 ad o_X o_L o_N o_T o_U o_O o_E o_Q o_V o_I ++ wMT cI ad o_T ++ wMQ cI ad o_Q) (wM0 ad o_X o_L o_N o_T o_U o_O o_E o_Q o_V o_I ++ wMT cI ad o_T ++ wMQ cI ad o_Q) (some (.int res)) := by
  refine Ctr.of (cc := cX8_node) (maxL := 4) (own := RX8) (by decide +kernel) rfl rfl (Nat.le_of_ble_eq_true rfl) ?_
  intro p e s m below meth c A ls hx hb hr hml hown hts hlk hK hE hA hP hD hS hl
  have hl : lv_has ls 4 [(0, .ref (ad 100)), (1, .int a1), (2, .int a2)] := hl
  unfold f_Model_node at hM
  refine lv_iload_n hx hb dX8_node_0 rfl (lv_at hl 1 rfl) ?_
  refine lv_if_lt (tgt := 21) hx hb dX8_node_1 (by decide) (fun c1 => ?_) (fun c1 => ?_)
  · replace hM := if_t c1 hM
    refine lv_iconst (v := (-1)) hx hb dX8_node_21 (by decide) ?_
    cases hM
    exact rt_i hx hb hr hlk hP hD hS rfl dX8_node_22
  · replace hM := if_f c1 hM
    refine lv_iload_n hx hb dX8_node_4 rfl (lv_at hl 1 rfl) ?_
    refine lv_aload_n hx hb dX8_node_5 rfl (lv_at hl 0 rfl) ?_
    refine va_get (D := D) (ci := 8) (v := .int o_Q.1) (C := RX8) (T := TX8) (N := 48) hx hb hts layX8 hown hK hP 0 rfl rfl 40 (by decide) (hts _ (inA q1018)) (fun _ h9 => h9) rfl dX8_node_6 ?_
    refine lv_icmp_ge (tgt := 21) hx hb dX8_node_9 (by decide) (fun c2 => ?_) (fun c2 => ?_)
    · replace hM := if_t c2 hM
      refine lv_iconst (v := (-1)) hx hb dX8_node_21 (by decide) ?_
      cases hM
      exact rt_i hx hb hr hlk hP hD hS rfl dX8_node_22
    · replace hM := if_f c2 hM
      refine lv_iload_n hx hb dX8_node_12 rfl (lv_at hl 2 rfl) ?_
      refine lv_if_lt (tgt := 21) hx hb dX8_node_13 (by decide) (fun c3 => ?_) (fun c3 => ?_)
      · replace hM := if_t c3 hM
        refine lv_iconst (v := (-1)) hx hb dX8_node_21 (by decide) ?_
        cases hM
        exact rt_i hx hb hr hlk hP hD hS rfl dX8_node_22
      · replace hM := if_f c3 hM
        refine lv_iload_n hx hb dX8_node_16 rfl (lv_at hl 2 rfl) ?_
        refine lv_iconst (v := 4) hx hb dX8_node_17 (by decide) ?_
        refine lv_icmp_le (tgt := 23) hx hb dX8_node_18 (by decide) (fun c4 => ?_) (fun c4 => ?_)
        · replace hM := if_t c4 hM
          refine lv_aload_n hx hb dX8_node_23 rfl (lv_at hl 0 rfl) ?_
          refine va_get (D := D) (ci := 8) (v := .ref (ad 120)) (C := RX8) (T := TX8) (N := 48) hx hb hts layX8 hown hK hP 0 rfl rfl 41 (by decide) (hts _ (inA q1019)) (fun _ h9 => h9) rfl dX8_node_24 ?_
          refine lv_iload_n hx hb dX8_node_27 rfl (lv_at hl 1 rfl) ?_
          obtain ⟨b5, hM⟩ := gd_use hM
          refine va_iald hx hb hK hP 8 0 rfl rfl b5 dX8_node_28 ?_
          refine lv_istore_n (lv' := [(3, .int (o_Q.2.1 a1.toNatClampNeg)), (0, .ref (ad 100)), (1, .int a1), (2, .int a2)]) hx hb dX8_node_29 rfl hl (by decide) rfl (fun ls hl => ?_)
          refine lv_iload_n hx hb dX8_node_30 rfl (lv_at hl 3 rfl) ?_
          refine lv_if_ne (tgt := 43) hx hb dX8_node_31 (by decide) (fun c6 => ?_) (fun c6 => ?_)
          · replace hM := if_f c6 hM
            refine lv_iload_n hx hb dX8_node_43 rfl (lv_at hl 3 rfl) ?_
            refine lv_iconst (v := 1) hx hb dX8_node_44 (by decide) ?_
            refine lv_icmp_ne (tgt := 57) hx hb dX8_node_45 (by decide) (fun c7 => ?_) (fun c7 => ?_)
            · replace hM := if_f c7 hM
              refine lv_iload_n hx hb dX8_node_57 rfl (lv_at hl 3 rfl) ?_
              refine lv_iconst (v := 2) hx hb dX8_node_58 (by decide) ?_
              refine lv_icmp_ne (tgt := 71) hx hb dX8_node_59 (by decide) (fun c8 => ?_) (fun c8 => ?_)
              · replace hM := if_f c8 hM
                refine lv_iload_n hx hb dX8_node_71 rfl (lv_at hl 3 rfl) ?_
                refine lv_iconst (v := 3) hx hb dX8_node_72 (by decide) ?_
                refine lv_icmp_ne (tgt := 98) hx hb dX8_node_73 (by decide) (fun c9 => ?_) (fun c9 => ?_)
                · replace hM := if_f c9 hM
                  refine lv_aload_n hx hb dX8_node_98 rfl (lv_at hl 1 rfl) ?_
                  refine lv_iload_n hx hb dX8_node_99 rfl (lv_at hl 0 rfl) ?_
                  obtain ⟨r10, hcr10, hM⟩ := ob_use hM
                  refine cl_V (As := [.int (o_Q.2.1 a1.toNatClampNeg)]) (rest := []) (wM0 ad o_X o_L o_N o_T o_U o_O o_E o_Q o_V o_I ++ wMT cI ad o_T ++ wMQ cI ad o_Q) (.int r10 :: []) ⟨hx, hb, hml, hown, hts⟩ (c_Model_children l D cI sd ad o_C o_X o_L o_N o_U o_O o_E o_Q o_V o_I o_T (o_Q.2.1 a1.toNatClampNeg) r10 hcr10) (cwV2 hts q1500 mvX8_children rfl rfl ⟨(Nat.le_of_ble_eq_true rfl), (Nat.le_of_ble_eq_true rfl)⟩) hK hE hA hP hD hS 0 (T := TX8) (N := 48) (ci := 8) rfl rfl [0, 1, 2, 3, 4, 5, 6, 7] rfl (by decide) rfl rfl rfl rfl rfl rfl hl.1 (Nat.le_of_ble_eq_true rfl) dX8_node_100 ⟨Nat.zero_le _, Nat.zero_le _⟩ (fun H locs hP hD hS => ?_)
                  cases hM
                  exact rt_i hx hb hr hlk hP hD hS rfl dX8_node_103
                · replace hM := if_t c9 hM
                  refine lv_iload_n hx hb dX8_node_76 rfl (lv_at hl 2 rfl) ?_
                  refine lv_if_ne (tgt := 84) hx hb dX8_node_77 (by decide) (fun c11 => ?_) (fun c11 => ?_)
                  · replace hM := if_f c11 hM
                    refine lv_aload_n hx hb dX8_node_84 rfl (lv_at hl 1 rfl) ?_
                    refine va_get (D := D) (ci := 8) (v := .ref (ad 121)) (C := RX8) (T := TX8) (N := 48) hx hb hts layX8 hown hK hP 0 rfl rfl 42 (by decide) (hts _ (inA q1020)) (fun _ h9 => h9) rfl dX8_node_85 ?_
                    refine lv_aload_n hx hb dX8_node_88 rfl (lv_at hl 1 rfl) ?_
                    refine va_get (D := D) (ci := 8) (v := .ref (ad 111)) (C := RX8) (T := TX8) (N := 48) hx hb hts layX8 hown hK hP 0 rfl rfl 20 (by decide) (hts _ (inA q998)) (fun _ h9 => h9) rfl dX8_node_89 ?_
                    refine lv_iload_n hx hb dX8_node_92 rfl (lv_at hl 0 rfl) ?_
                    obtain ⟨b12, hM⟩ := gd_use hM
                    refine va_iald hx hb hK hP 4 0 rfl rfl b12 dX8_node_93 ?_
                    obtain ⟨b13, hM⟩ := gd_use hM
                    refine va_iald hx hb hK hP 9 0 rfl rfl b13 dX8_node_94 ?_
                    refine lv_goto (tgt := 103) hx hb dX8_node_95 (by decide) ?_
                    cases hM
                    exact rt_i hx hb hr hlk hP hD hS rfl dX8_node_103
                  · replace hM := if_t c11 hM
                    refine lv_iconst (v := (-1)) hx hb dX8_node_80 (by decide) ?_
                    refine lv_goto (tgt := 103) hx hb dX8_node_81 (by decide) ?_
                    cases hM
                    exact rt_i hx hb hr hlk hP hD hS rfl dX8_node_103
              · replace hM := if_t c8 hM
                refine lv_aload_n hx hb dX8_node_62 rfl (lv_at hl 1 rfl) ?_
                refine va_get (D := D) (ci := 8) (v := .ref (ad 110)) (C := RX8) (T := TX8) (N := 48) hx hb hts layX8 hown hK hP 0 rfl rfl 19 (by decide) (hts _ (inA q997)) (fun _ h9 => h9) rfl dX8_node_63 ?_
                refine lv_iload_n hx hb dX8_node_66 rfl (lv_at hl 0 rfl) ?_
                obtain ⟨b14, hM⟩ := gd_use hM
                refine va_iald hx hb hK hP 3 0 rfl rfl b14 dX8_node_67 ?_
                refine lv_goto (tgt := 103) hx hb dX8_node_68 (by decide) ?_
                cases hM
                exact rt_i hx hb hr hlk hP hD hS rfl dX8_node_103
            · replace hM := if_t c7 hM
              refine lv_aload_n hx hb dX8_node_48 rfl (lv_at hl 1 rfl) ?_
              refine va_get (D := D) (ci := 8) (v := .ref (ad 109)) (C := RX8) (T := TX8) (N := 48) hx hb hts layX8 hown hK hP 0 rfl rfl 18 (by decide) (hts _ (inA q996)) (fun _ h9 => h9) rfl dX8_node_49 ?_
              refine lv_iload_n hx hb dX8_node_52 rfl (lv_at hl 0 rfl) ?_
              obtain ⟨b15, hM⟩ := gd_use hM
              refine va_iald hx hb hK hP 2 0 rfl rfl b15 dX8_node_53 ?_
              refine lv_goto (tgt := 103) hx hb dX8_node_54 (by decide) ?_
              cases hM
              exact rt_i hx hb hr hlk hP hD hS rfl dX8_node_103
          · replace hM := if_t c6 hM
            refine lv_aload_n hx hb dX8_node_34 rfl (lv_at hl 1 rfl) ?_
            refine va_get (D := D) (ci := 8) (v := .ref (ad 108)) (C := RX8) (T := TX8) (N := 48) hx hb hts layX8 hown hK hP 0 rfl rfl 17 (by decide) (hts _ (inA q995)) (fun _ h9 => h9) rfl dX8_node_35 ?_
            refine lv_iload_n hx hb dX8_node_38 rfl (lv_at hl 0 rfl) ?_
            obtain ⟨b16, hM⟩ := gd_use hM
            refine va_iald hx hb hK hP 1 0 rfl rfl b16 dX8_node_39 ?_
            refine lv_goto (tgt := 103) hx hb dX8_node_40 (by decide) ?_
            cases hM
            exact rt_i hx hb hr hlk hP hD hS rfl dX8_node_103
        · replace hM := if_f c4 hM
          refine lv_iconst (v := (-1)) hx hb dX8_node_21 (by decide) ?_
          cases hM
          exact rt_i hx hb hr hlk hP hD hS rfl dX8_node_22

set_option maxHeartbeats 4000000 in
set_option maxRecDepth 100000 in
theorem c_Model_nameByte (l : Launch) (D : va_G) (cI : ClassId) (sd : Nat → Nat) (ad : Nat → Nat) (o_C : S_MC) (o_X : S_MX) (o_L : S_ML) (o_T : S_MT) (o_U : S_MU) (o_O : S_MO) (o_E : S_ME) (o_Q : S_MQ) (o_V : S_MV) (o_I : S_MI) (o_N : S_MN) (a1 : Int32) (a2 : Int32) (res : Int32) (hM : f_Model_nameByte o_N a1 a2 = some res) : Ctr l D cI sd yX8_nameByte (wsM yX8_nameByte cX8_nameByte 3 (Option.some Jvm.ClassFile.FieldType.int)) { frames := 0, cells := 0, slots := 0, locals := 0 } [.ref (ad 100), .int a1, .int a2] (wM0 ad o_X o_L o_N o_T o_U o_O o_E o_Q o_V o_I ++ wMN cI ad o_N) (wM0 ad o_X o_L o_N o_T o_U o_O o_E o_Q o_V o_I ++ wMN cI ad o_N) (some (.int res)) := by
  refine Ctr.of (cc := cX8_nameByte) (maxL := 3) (own := RX8) (by decide +kernel) rfl rfl (Nat.le_of_ble_eq_true rfl) ?_
  intro p e s m below meth c A ls hx hb hr hml hown hts hlk hK hE hA hP hD hS hl
  have hl : lv_has ls 3 [(0, .ref (ad 100)), (1, .int a1), (2, .int a2)] := hl
  unfold f_Model_nameByte at hM
  refine lv_iload_n hx hb dX8_nameByte_0 rfl (lv_at hl 1 rfl) ?_
  refine lv_if_lt (tgt := 35) hx hb dX8_nameByte_1 (by decide) (fun c1 => ?_) (fun c1 => ?_)
  · replace hM := if_t c1 hM
    refine lv_iconst (v := (-1)) hx hb dX8_nameByte_35 (by decide) ?_
    cases hM
    exact rt_i hx hb hr hlk hP hD hS rfl dX8_nameByte_36
  · replace hM := if_f c1 hM
    refine lv_iload_n hx hb dX8_nameByte_4 rfl (lv_at hl 1 rfl) ?_
    refine lv_aload_n hx hb dX8_nameByte_5 rfl (lv_at hl 0 rfl) ?_
    refine va_get (D := D) (ci := 8) (v := .int o_N.1) (C := RX8) (T := TX8) (N := 48) hx hb hts layX8 hown hK hP 0 rfl rfl 13 (by decide) (hts _ (inA q991)) (fun _ h9 => h9) rfl dX8_nameByte_6 ?_
    refine lv_icmp_ge (tgt := 35) hx hb dX8_nameByte_9 (by decide) (fun c2 => ?_) (fun c2 => ?_)
    · replace hM := if_t c2 hM
      refine lv_iconst (v := (-1)) hx hb dX8_nameByte_35 (by decide) ?_
      cases hM
      exact rt_i hx hb hr hlk hP hD hS rfl dX8_nameByte_36
    · replace hM := if_f c2 hM
      refine lv_iload_n hx hb dX8_nameByte_12 rfl (lv_at hl 2 rfl) ?_
      refine lv_if_lt (tgt := 35) hx hb dX8_nameByte_13 (by decide) (fun c3 => ?_) (fun c3 => ?_)
      · replace hM := if_t c3 hM
        refine lv_iconst (v := (-1)) hx hb dX8_nameByte_35 (by decide) ?_
        cases hM
        exact rt_i hx hb hr hlk hP hD hS rfl dX8_nameByte_36
      · replace hM := if_f c3 hM
        refine lv_iload_n hx hb dX8_nameByte_16 rfl (lv_at hl 2 rfl) ?_
        refine lv_aload_n hx hb dX8_nameByte_17 rfl (lv_at hl 0 rfl) ?_
        refine va_get (D := D) (ci := 8) (v := .ref (ad 106)) (C := RX8) (T := TX8) (N := 48) hx hb hts layX8 hown hK hP 0 rfl rfl 14 (by decide) (hts _ (inA q992)) (fun _ h9 => h9) rfl dX8_nameByte_18 ?_
        refine lv_iload_n hx hb dX8_nameByte_21 rfl (lv_at hl 1 rfl) ?_
        refine lv_iconst (v := 1) hx hb dX8_nameByte_22 (by decide) ?_
        refine lv_iadd hx hb dX8_nameByte_23 ?_
        obtain ⟨b4, hM⟩ := gd_use hM
        refine va_iald hx hb hK hP 1 0 rfl rfl b4 dX8_nameByte_24 ?_
        refine lv_aload_n hx hb dX8_nameByte_25 rfl (lv_at hl 0 rfl) ?_
        refine va_get (D := D) (ci := 8) (v := .ref (ad 106)) (C := RX8) (T := TX8) (N := 48) hx hb hts layX8 hown hK hP 0 rfl rfl 14 (by decide) (hts _ (inA q992)) (fun _ h9 => h9) rfl dX8_nameByte_26 ?_
        refine lv_iload_n hx hb dX8_nameByte_29 rfl (lv_at hl 1 rfl) ?_
        obtain ⟨b5, hM⟩ := gd_use hM
        refine va_iald hx hb hK hP 1 0 rfl rfl b5 dX8_nameByte_30 ?_
        refine lv_isub hx hb dX8_nameByte_31 ?_
        refine lv_icmp_lt (tgt := 37) hx hb dX8_nameByte_32 (by decide) (fun c6 => ?_) (fun c6 => ?_)
        · replace hM := if_t c6 hM
          refine lv_aload_n hx hb dX8_nameByte_37 rfl (lv_at hl 0 rfl) ?_
          refine va_get (D := D) (ci := 8) (v := .ref (ad 107)) (C := RX8) (T := TX8) (N := 48) hx hb hts layX8 hown hK hP 0 rfl rfl 15 (by decide) (hts _ (inA q993)) (fun _ h9 => h9) rfl dX8_nameByte_38 ?_
          refine lv_aload_n hx hb dX8_nameByte_41 rfl (lv_at hl 0 rfl) ?_
          refine va_get (D := D) (ci := 8) (v := .ref (ad 106)) (C := RX8) (T := TX8) (N := 48) hx hb hts layX8 hown hK hP 0 rfl rfl 14 (by decide) (hts _ (inA q992)) (fun _ h9 => h9) rfl dX8_nameByte_42 ?_
          refine lv_iload_n hx hb dX8_nameByte_45 rfl (lv_at hl 1 rfl) ?_
          obtain ⟨b7, hM⟩ := gd_use hM
          refine va_iald hx hb hK hP 1 0 rfl rfl b7 dX8_nameByte_46 ?_
          refine lv_iload_n hx hb dX8_nameByte_47 rfl (lv_at hl 2 rfl) ?_
          refine lv_iadd hx hb dX8_nameByte_48 ?_
          obtain ⟨b8, hM⟩ := gd_use hM
          refine va_iald hx hb hK hP 2 0 rfl rfl b8 dX8_nameByte_49 ?_
          cases hM
          exact rt_i hx hb hr hlk hP hD hS rfl dX8_nameByte_50
        · replace hM := if_f c6 hM
          refine lv_iconst (v := (-1)) hx hb dX8_nameByte_35 (by decide) ?_
          cases hM
          exact rt_i hx hb hr hlk hP hD hS rfl dX8_nameByte_36

set_option maxHeartbeats 4000000 in
set_option maxRecDepth 100000 in
theorem c_Model_item (l : Launch) (D : va_G) (cI : ClassId) (sd : Nat → Nat) (ad : Nat → Nat) (o_C : S_MC) (o_X : S_MX) (o_L : S_ML) (o_N : S_MN) (o_T : S_MT) (o_U : S_MU) (o_O : S_MO) (o_E : S_ME) (o_Q : S_MQ) (o_V : S_MV) (o_I : S_MI) (a1 : Int32) (a2 : Int32) (res : S_MI) (hM : f_Model_item o_I a1 a2 = some res) : Ctr l D cI sd yX8_item (wsM yX8_item cX8_item 3 (Option.none : Option Jvm.ClassFile.FieldType)) { frames := 0, cells := 0, slots := 0, locals := 0 } [.ref (ad 100), .int a1, .int a2] (wM0 ad o_X o_L o_N o_T o_U o_O o_E o_Q o_V o_I ++ wMI cI ad o_I) (wM0 ad o_X o_L o_N o_T o_U o_O o_E o_Q o_V res ++ wMI cI ad res) none := by
  refine Ctr.of (cc := cX8_item) (maxL := 3) (own := RX8) (by decide +kernel) rfl rfl (Nat.le_of_ble_eq_true rfl) ?_
  intro p e s m below meth c A ls hx hb hr hml hown hts hlk hK hE hA hP hD hS hl
  have hl : lv_has ls 3 [(0, .ref (ad 100)), (1, .int a1), (2, .int a2)] := hl
  unfold f_Model_item at hM
  refine lv_aload_n hx hb dX8_item_0 rfl (lv_at hl 0 rfl) ?_
  refine va_get (D := D) (ci := 8) (v := .ref (ad 123)) (C := RX8) (T := TX8) (N := 48) hx hb hts layX8 hown hK hP 0 rfl rfl 46 (by decide) (hts _ (inA q1024)) (fun _ h9 => h9) rfl dX8_item_1 ?_
  refine lv_aload_n hx hb dX8_item_4 rfl (lv_at hl 0 rfl) ?_
  refine va_get (D := D) (ci := 8) (v := .int o_I.1) (C := RX8) (T := TX8) (N := 48) hx hb hts layX8 hown hK hP 0 rfl rfl 45 (by decide) (hts _ (inA q1023)) (fun _ h9 => h9) rfl dX8_item_5 ?_
  refine lv_iload_n hx hb dX8_item_8 rfl (lv_at hl 1 rfl) ?_
  obtain ⟨b1, hM⟩ := gd_use hM
  refine va_iast hx hb hK hP hD hS 1 0 rfl rfl b1 dX8_item_9 (fun H locs hP hD hS => ?_)
  have hP : va_P D vwCl (wM0 ad o_X o_L o_N o_T o_U o_O o_E o_Q o_V (o_I.1, upd o_I.2.1 o_I.1.toNatClampNeg a1, o_I.2.2) ++ wMI cI ad (o_I.1, upd o_I.2.1 o_I.1.toNatClampNeg a1, o_I.2.2)) H := hP
  have hD : va_D A (wM0 ad o_X o_L o_N o_T o_U o_O o_E o_Q o_V (o_I.1, upd o_I.2.1 o_I.1.toNatClampNeg a1, o_I.2.2) ++ wMI cI ad (o_I.1, upd o_I.2.1 o_I.1.toNatClampNeg a1, o_I.2.2)) := hD
  refine lv_aload_n hx hb dX8_item_10 rfl (lv_at hl 0 rfl) ?_
  refine va_get (D := D) (ci := 8) (v := .ref (ad 124)) (C := RX8) (T := TX8) (N := 48) hx hb hts layX8 hown hK hP 0 rfl rfl 47 (by decide) (hts _ (inA q1025)) (fun _ h9 => h9) rfl dX8_item_11 ?_
  refine lv_aload_n hx hb dX8_item_14 rfl (lv_at hl 0 rfl) ?_
  refine va_get (D := D) (ci := 8) (v := .int o_I.1) (C := RX8) (T := TX8) (N := 48) hx hb hts layX8 hown hK hP 0 rfl rfl 45 (by decide) (hts _ (inA q1023)) (fun _ h9 => h9) rfl dX8_item_15 ?_
  refine lv_iload_n hx hb dX8_item_18 rfl (lv_at hl 2 rfl) ?_
  obtain ⟨b2, hM⟩ := gd_use hM
  refine va_iast hx hb hK hP hD hS 2 0 rfl rfl b2 dX8_item_19 (fun H locs hP hD hS => ?_)
  have hP : va_P D vwCl (wM0 ad o_X o_L o_N o_T o_U o_O o_E o_Q o_V (o_I.1, upd o_I.2.1 o_I.1.toNatClampNeg a1, upd o_I.2.2 o_I.1.toNatClampNeg a2) ++ wMI cI ad (o_I.1, upd o_I.2.1 o_I.1.toNatClampNeg a1, upd o_I.2.2 o_I.1.toNatClampNeg a2)) H := hP
  have hD : va_D A (wM0 ad o_X o_L o_N o_T o_U o_O o_E o_Q o_V (o_I.1, upd o_I.2.1 o_I.1.toNatClampNeg a1, upd o_I.2.2 o_I.1.toNatClampNeg a2) ++ wMI cI ad (o_I.1, upd o_I.2.1 o_I.1.toNatClampNeg a1, upd o_I.2.2 o_I.1.toNatClampNeg a2)) := hD
  refine lv_aload_n hx hb dX8_item_20 rfl (lv_at hl 0 rfl) ?_
  refine lv_dup hx hb dX8_item_21 rfl ?_
  refine va_get (D := D) (ci := 8) (v := .int o_I.1) (C := RX8) (T := TX8) (N := 48) hx hb hts layX8 hown hK hP 0 rfl rfl 45 (by decide) (hts _ (inA q1023)) (fun _ h9 => h9) rfl dX8_item_22 ?_
  refine lv_iconst (v := 1) hx hb dX8_item_25 (by decide) ?_
  refine lv_iadd hx hb dX8_item_26 ?_
  refine va_put (D := D) (ci := 8) (v := .int (o_I.1 + 1)) (ty := .int) (C := RX8) (T := TX8) (N := 48) hx hb hts layX8 tyX8 tyX8_ok nmX8 hown hK hP hD hS 0 rfl rfl 45 (by decide) (hts _ (inA q1023)) (fun _ h9 => h9) rfl (by decide +kernel) rfl rfl (Nat.le_of_ble_eq_true rfl) dX8_item_27 (fun H locs hP hD hS => ?_)
  have hP : va_P D vwCl (wM0 ad o_X o_L o_N o_T o_U o_O o_E o_Q o_V (o_I.1 + 1, upd o_I.2.1 o_I.1.toNatClampNeg a1, upd o_I.2.2 o_I.1.toNatClampNeg a2) ++ wMI cI ad (o_I.1 + 1, upd o_I.2.1 o_I.1.toNatClampNeg a1, upd o_I.2.2 o_I.1.toNatClampNeg a2)) H := hP
  have hD : va_D A (wM0 ad o_X o_L o_N o_T o_U o_O o_E o_Q o_V (o_I.1 + 1, upd o_I.2.1 o_I.1.toNatClampNeg a1, upd o_I.2.2 o_I.1.toNatClampNeg a2) ++ wMI cI ad (o_I.1 + 1, upd o_I.2.1 o_I.1.toNatClampNeg a1, upd o_I.2.2 o_I.1.toNatClampNeg a2)) := hD
  cases hM
  exact rt_v hx hb hr hlk hP hD hS rfl dX8_item_30

set_option maxHeartbeats 4000000 in
set_option maxRecDepth 100000 in
theorem c_Model_put (l : Launch) (D : va_G) (cI : ClassId) (sd : Nat → Nat) (ad : Nat → Nat) (o_C : S_MC) (o_X : S_MX) (o_L : S_ML) (o_N : S_MN) (o_T : S_MT) (o_U : S_MU) (o_O : S_MO) (o_E : S_ME) (o_Q : S_MQ) (o_I : S_MI) (o_V : S_MV) (a1 : Int32) (res : S_MV) (hM : f_Model_put o_V a1 = some res) : Ctr l D cI sd yX8_put (wsM yX8_put cX8_put 2 (Option.none : Option Jvm.ClassFile.FieldType)) { frames := 0, cells := 0, slots := 0, locals := 0 } [.ref (ad 100), .int a1] (wM0 ad o_X o_L o_N o_T o_U o_O o_E o_Q o_V o_I ++ wMV cI ad o_V) (wM0 ad o_X o_L o_N o_T o_U o_O o_E o_Q res o_I ++ wMV cI ad res) none := by
  refine Ctr.of (cc := cX8_put) (maxL := 2) (own := RX8) (by decide +kernel) rfl rfl (Nat.le_of_ble_eq_true rfl) ?_
  intro p e s m below meth c A ls hx hb hr hml hown hts hlk hK hE hA hP hD hS hl
  have hl : lv_has ls 2 [(0, .ref (ad 100)), (1, .int a1)] := hl
  unfold f_Model_put at hM
  refine lv_aload_n hx hb dX8_put_0 rfl (lv_at hl 0 rfl) ?_
  refine va_get (D := D) (ci := 8) (v := .ref (ad 122)) (C := RX8) (T := TX8) (N := 48) hx hb hts layX8 hown hK hP 0 rfl rfl 44 (by decide) (hts _ (inA q1022)) (fun _ h9 => h9) rfl dX8_put_1 ?_
  refine lv_aload_n hx hb dX8_put_4 rfl (lv_at hl 0 rfl) ?_
  refine va_get (D := D) (ci := 8) (v := .int o_V.1) (C := RX8) (T := TX8) (N := 48) hx hb hts layX8 hown hK hP 0 rfl rfl 43 (by decide) (hts _ (inA q1021)) (fun _ h9 => h9) rfl dX8_put_5 ?_
  refine lv_iload_n hx hb dX8_put_8 rfl (lv_at hl 1 rfl) ?_
  obtain ⟨b1, hM⟩ := gd_use hM
  refine va_iast hx hb hK hP hD hS 1 0 rfl rfl b1 dX8_put_9 (fun H locs hP hD hS => ?_)
  have hP : va_P D vwCl (wM0 ad o_X o_L o_N o_T o_U o_O o_E o_Q (o_V.1, upd o_V.2 o_V.1.toNatClampNeg a1) o_I ++ wMV cI ad (o_V.1, upd o_V.2 o_V.1.toNatClampNeg a1)) H := hP
  have hD : va_D A (wM0 ad o_X o_L o_N o_T o_U o_O o_E o_Q (o_V.1, upd o_V.2 o_V.1.toNatClampNeg a1) o_I ++ wMV cI ad (o_V.1, upd o_V.2 o_V.1.toNatClampNeg a1)) := hD
  refine lv_aload_n hx hb dX8_put_10 rfl (lv_at hl 0 rfl) ?_
  refine lv_dup hx hb dX8_put_11 rfl ?_
  refine va_get (D := D) (ci := 8) (v := .int o_V.1) (C := RX8) (T := TX8) (N := 48) hx hb hts layX8 hown hK hP 0 rfl rfl 43 (by decide) (hts _ (inA q1021)) (fun _ h9 => h9) rfl dX8_put_12 ?_
  refine lv_iconst (v := 1) hx hb dX8_put_15 (by decide) ?_
  refine lv_iadd hx hb dX8_put_16 ?_
  refine va_put (D := D) (ci := 8) (v := .int (o_V.1 + 1)) (ty := .int) (C := RX8) (T := TX8) (N := 48) hx hb hts layX8 tyX8 tyX8_ok nmX8 hown hK hP hD hS 0 rfl rfl 43 (by decide) (hts _ (inA q1021)) (fun _ h9 => h9) rfl (by decide +kernel) rfl rfl (Nat.le_of_ble_eq_true rfl) dX8_put_17 (fun H locs hP hD hS => ?_)
  have hP : va_P D vwCl (wM0 ad o_X o_L o_N o_T o_U o_O o_E o_Q (o_V.1 + 1, upd o_V.2 o_V.1.toNatClampNeg a1) o_I ++ wMV cI ad (o_V.1 + 1, upd o_V.2 o_V.1.toNatClampNeg a1)) H := hP
  have hD : va_D A (wM0 ad o_X o_L o_N o_T o_U o_O o_E o_Q (o_V.1 + 1, upd o_V.2 o_V.1.toNatClampNeg a1) o_I ++ wMV cI ad (o_V.1 + 1, upd o_V.2 o_V.1.toNatClampNeg a1)) := hD
  cases hM
  exact rt_v hx hb hr hlk hP hD hS rfl dX8_put_20

set_option maxHeartbeats 4000000 in
set_option maxRecDepth 100000 in
theorem c_Model_isOfName (l : Launch) (D : va_G) (cI : ClassId) (sd : Nat → Nat) (ad : Nat → Nat) (a1 : Int32) (res : Int32) (hM : f_Model_isOfName a1 = some res) : Ctr l D cI sd yX8_isOfName (wsM yX8_isOfName cX8_isOfName 1 (Option.some Jvm.ClassFile.FieldType.boolean)) { frames := 1, cells := 0, slots := 0, locals := 20 } [.int a1] (([] : va_W)) (([] : va_W)) (some (.int res)) := by
  refine Ctr.of (cc := cX8_isOfName) (maxL := 1) (own := RX8) (by decide +kernel) rfl rfl (Nat.le_of_ble_eq_true rfl) ?_
  intro p e s m below meth c A ls hx hb hr hml hown hts hlk hK hE hA hP hD hS hl
  have hl : lv_has ls 1 [(0, .int a1)] := hl
  unfold f_Model_isOfName at hM
  refine lv_iload_n hx hb dX8_isOfName_0 rfl (lv_at hl 0 rfl) ?_
  obtain ⟨r1, hcr1, hM⟩ := ob_use hM
  refine cl_S (As := [.int a1]) (rest := []) (([] : va_W)) (.int r1 :: []) ⟨hx, hb, hml, hown, hts⟩ (c_Model_isLetter l D cI sd ad a1 r1 hcr1) (cwS2 hts q1199 mvX8_isLetter rfl rfl ⟨(Nat.le_of_ble_eq_true rfl), (Nat.le_of_ble_eq_true rfl)⟩) hK hE hA hP hD hS [] rfl (by decide) rfl rfl rfl rfl rfl rfl hl.1 (Nat.le_of_ble_eq_true rfl) dX8_isOfName_1 ⟨Nat.zero_le _, Nat.zero_le _⟩ (fun H locs hP hD hS => ?_)
  refine lv_if_ne (tgt := 14) hx hb dX8_isOfName_4 (by decide) (fun c2 => ?_) (fun c2 => ?_)
  · replace hM := if_f c2 hM
    refine lv_iconst (v := 1) hx hb dX8_isOfName_14 (by decide) ?_
    refine lv_goto (tgt := 19) hx hb dX8_isOfName_15 (by decide) ?_
    cases hM
    exact rt_z hx hb hr hlk (by decide) hP hD hS rfl dX8_isOfName_19
  · replace hM := if_t c2 hM
    refine lv_iload_n hx hb dX8_isOfName_7 rfl (lv_at hl 0 rfl) ?_
    obtain ⟨r3, hcr3, hM⟩ := ob_use hM
    refine cl_S (As := [.int a1]) (rest := []) (([] : va_W)) (.int r3 :: []) ⟨hx, hb, hml, hown, hts⟩ (c_Model_isDigit l D cI sd ad a1 r3 hcr3) (cwS2 hts q1181 mvX8_isDigit rfl rfl ⟨(Nat.le_of_ble_eq_true rfl), (Nat.le_of_ble_eq_true rfl)⟩) hK hE hA hP hD hS [] rfl (by decide) rfl rfl rfl rfl rfl rfl hl.1 (Nat.le_of_ble_eq_true rfl) dX8_isOfName_8 ⟨Nat.zero_le _, Nat.zero_le _⟩ (fun H locs hP hD hS => ?_)
    refine lv_if_eq (tgt := 18) hx hb dX8_isOfName_11 (by decide) (fun c4 => ?_) (fun c4 => ?_)
    · replace hM := if_t c4 hM
      refine lv_iconst (v := 0) hx hb dX8_isOfName_18 (by decide) ?_
      cases hM
      exact rt_z hx hb hr hlk (by decide) hP hD hS rfl dX8_isOfName_19
    · replace hM := if_f c4 hM
      refine lv_iconst (v := 1) hx hb dX8_isOfName_14 (by decide) ?_
      refine lv_goto (tgt := 19) hx hb dX8_isOfName_15 (by decide) ?_
      cases hM
      exact rt_z hx hb hr hlk (by decide) hP hD hS rfl dX8_isOfName_19

set_option maxHeartbeats 4000000 in
set_option maxRecDepth 100000 in
theorem c_Model_part (l : Launch) (D : va_G) (cI : ClassId) (sd : Nat → Nat) (ad : Nat → Nat) (o_C : S_MC) (o_X : S_MX) (o_L : S_ML) (o_N : S_MN) (o_T : S_MT) (o_U : S_MU) (o_O : S_MO) (o_E : S_ME) (o_Q : S_MQ) (o_I : S_MI) (o_V : S_MV) (a1 : Int32) (res : S_MV) (hM : f_Model_part o_V a1 = some res) : Ctr l D cI sd yX8_part (wsM yX8_part cX8_part 2 (Option.none : Option Jvm.ClassFile.FieldType)) { frames := 2, cells := 0, slots := 0, locals := 40 } [.ref (ad 100), .int a1] (wM0 ad o_X o_L o_N o_T o_U o_O o_E o_Q o_V o_I ++ wMV cI ad o_V) (wM0 ad o_X o_L o_N o_T o_U o_O o_E o_Q res o_I ++ wMV cI ad res) none := by
  refine Ctr.of (cc := cX8_part) (maxL := 2) (own := RX8) (by decide +kernel) rfl rfl (Nat.le_of_ble_eq_true rfl) ?_
  intro p e s m below meth c A ls hx hb hr hml hown hts hlk hK hE hA hP hD hS hl
  have hl : lv_has ls 2 [(0, .ref (ad 100)), (1, .int a1)] := hl
  unfold f_Model_part at hM
  refine lv_aload_n hx hb dX8_part_0 rfl (lv_at hl 0 rfl) ?_
  refine va_get (D := D) (ci := 8) (v := .int o_V.1) (C := RX8) (T := TX8) (N := 48) hx hb hts layX8 hown hK hP 0 rfl rfl 43 (by decide) (hts _ (inA q1021)) (fun _ h9 => h9) rfl dX8_part_1 ?_
  refine lv_if_le (tgt := 37) hx hb dX8_part_4 (by decide) (fun c1 => ?_) (fun c1 => ?_)
  · replace hM := if_t c1 hM
    cases hM
    exact rt_v hx hb hr hlk hP hD hS rfl dX8_part_37
  · replace hM := if_f c1 hM
    refine lv_iload_n hx hb dX8_part_7 rfl (lv_at hl 1 rfl) ?_
    obtain ⟨r2, hcr2, hM⟩ := ob_use hM
    refine cl_S (As := [.int a1]) (rest := []) (wM0 ad o_X o_L o_N o_T o_U o_O o_E o_Q o_V o_I ++ wMV cI ad o_V) (.int r2 :: []) ⟨hx, hb, hml, hown, hts⟩ (c_Model_isOfName l D cI sd ad a1 r2 hcr2) (cwS2 hts q1528 mvX8_isOfName rfl rfl ⟨(Nat.le_of_ble_eq_true rfl), (Nat.le_of_ble_eq_true rfl)⟩) hK hE hA hP hD hS [] rfl (by decide) rfl rfl rfl rfl rfl rfl hl.1 (Nat.le_of_ble_eq_true rfl) dX8_part_8 ⟨Nat.zero_le _, Nat.zero_le _⟩ (fun H locs hP hD hS => ?_)
    refine lv_if_eq (tgt := 37) hx hb dX8_part_11 (by decide) (fun c3 => ?_) (fun c3 => ?_)
    · replace hM := if_t c3 hM
      cases hM
      exact rt_v hx hb hr hlk hP hD hS rfl dX8_part_37
    · replace hM := if_f c3 hM
      refine lv_aload_n hx hb dX8_part_14 rfl (lv_at hl 0 rfl) ?_
      refine va_get (D := D) (ci := 8) (v := .ref (ad 122)) (C := RX8) (T := TX8) (N := 48) hx hb hts layX8 hown hK hP 0 rfl rfl 44 (by decide) (hts _ (inA q1022)) (fun _ h9 => h9) rfl dX8_part_15 ?_
      refine lv_aload_n hx hb dX8_part_18 rfl (lv_at hl 0 rfl) ?_
      refine va_get (D := D) (ci := 8) (v := .int o_V.1) (C := RX8) (T := TX8) (N := 48) hx hb hts layX8 hown hK hP 0 rfl rfl 43 (by decide) (hts _ (inA q1021)) (fun _ h9 => h9) rfl dX8_part_19 ?_
      refine lv_iconst (v := 1) hx hb dX8_part_22 (by decide) ?_
      refine lv_isub hx hb dX8_part_23 ?_
      obtain ⟨b4, hM⟩ := gd_use hM
      refine va_iald hx hb hK hP 1 0 rfl rfl b4 dX8_part_24 ?_
      obtain ⟨r5, hcr5, hM⟩ := ob_use hM
      refine cl_S (As := [.int (o_V.2 (o_V.1 - 1).toNatClampNeg)]) (rest := []) (wM0 ad o_X o_L o_N o_T o_U o_O o_E o_Q o_V o_I ++ wMV cI ad o_V) (.int r5 :: []) ⟨hx, hb, hml, hown, hts⟩ (c_Model_isOfName l D cI sd ad (o_V.2 (o_V.1 - 1).toNatClampNeg) r5 hcr5) (cwS2 hts q1528 mvX8_isOfName rfl rfl ⟨(Nat.le_of_ble_eq_true rfl), (Nat.le_of_ble_eq_true rfl)⟩) hK hE hA hP hD hS [] rfl (by decide) rfl rfl rfl rfl rfl rfl hl.1 (Nat.le_of_ble_eq_true rfl) dX8_part_25 ⟨Nat.zero_le _, Nat.zero_le _⟩ (fun H locs hP hD hS => ?_)
      refine lv_if_eq (tgt := 37) hx hb dX8_part_28 (by decide) (fun c6 => ?_) (fun c6 => ?_)
      · replace hM := if_t c6 hM
        cases hM
        exact rt_v hx hb hr hlk hP hD hS rfl dX8_part_37
      · replace hM := if_f c6 hM
        refine lv_aload_n hx hb dX8_part_31 rfl (lv_at hl 0 rfl) ?_
        refine lv_bipush (v := 32) hx hb dX8_part_32 (by decide) ?_
        obtain ⟨r7, hcr7, hM⟩ := ob_use hM
        refine cl_V (As := [.int 32]) (rest := []) (wM0 ad o_X o_L o_N o_T o_U o_O o_E o_Q r7 o_I ++ wMV cI ad r7) [] ⟨hx, hb, hml, hown, hts⟩ (c_Model_put l D cI sd ad o_C o_X o_L o_N o_T o_U o_O o_E o_Q o_I o_V 32 r7 hcr7) (cwV2 hts q1531 mvX8_put rfl rfl ⟨(Nat.le_of_ble_eq_true rfl), (Nat.le_of_ble_eq_true rfl)⟩) hK hE hA hP hD hS 0 (T := TX8) (N := 48) (ci := 8) rfl rfl [0, 1] rfl (by decide) rfl rfl rfl rfl rfl rfl hl.1 (Nat.le_of_ble_eq_true rfl) dX8_part_34 ⟨Nat.zero_le _, Nat.zero_le _⟩ (fun H locs hP hD hS => ?_)
        cases hM
        exact rt_v hx hb hr hlk hP hD hS rfl dX8_part_37

set_option maxHeartbeats 4000000 in
set_option maxRecDepth 100000 in
theorem c_Model_putToken (l : Launch) (D : va_G) (cI : ClassId) (sd : Nat → Nat) (ad : Nat → Nat) (o_X : S_MX) (o_L : S_ML) (o_N : S_MN) (o_T : S_MT) (o_U : S_MU) (o_O : S_MO) (o_E : S_ME) (o_Q : S_MQ) (o_I : S_MI) (o_C : S_MC) (o_V : S_MV) (a1 : Int32) (res : S_MV) (hM : f_Model_putToken o_C o_V a1 = some res) : Ctr l D cI sd yX8_putToken (wsM yX8_putToken cX8_putToken 3 (Option.none : Option Jvm.ClassFile.FieldType)) { frames := 3, cells := 0, slots := 0, locals := 61 } [.ref (ad 100), .int a1] (wM0 ad o_X o_L o_N o_T o_U o_O o_E o_Q o_V o_I ++ wMC cI ad o_C ++ wMV cI ad o_V) (wM0 ad o_X o_L o_N o_T o_U o_O o_E o_Q res o_I ++ wMC cI ad o_C ++ wMV cI ad res) none := by
  refine Ctr.of (cc := cX8_putToken) (maxL := 3) (own := RX8) (by decide +kernel) rfl rfl (Nat.le_of_ble_eq_true rfl) ?_
  intro p e s m below meth c A ls hx hb hr hml hown hts hlk hK hE hA hP hD hS hl
  have hl : lv_has ls 3 [(0, .ref (ad 100)), (1, .int a1)] := hl
  unfold f_Model_putToken at hM
  refine lv_iload_n hx hb dX8_putToken_0 rfl (lv_at hl 1 rfl) ?_
  refine lv_bipush (v := 41) hx hb dX8_putToken_1 (by decide) ?_
  refine lv_icmp_ge (tgt := 47) hx hb dX8_putToken_3 (by decide) (fun c1 => ?_) (fun c1 => ?_)
  · replace hM := if_t c1 hM
    refine lv_iconst (v := 2) hx hb dX8_putToken_47 (by decide) ?_
    refine lv_iload_n hx hb dX8_putToken_48 rfl (lv_at hl 1 rfl) ?_
    refine lv_bipush (v := 50) hx hb dX8_putToken_49 (by decide) ?_
    refine lv_isub hx hb dX8_putToken_51 ?_
    refine lv_imul hx hb dX8_putToken_52 ?_
    refine lv_istore_n (lv' := [(2, .int (2 * (a1 - 50))), (0, .ref (ad 100)), (1, .int a1)]) hx hb dX8_putToken_53 rfl hl (by decide) rfl (fun ls hl => ?_)
    refine lv_aload_n hx hb dX8_putToken_54 rfl (lv_at hl 1 rfl) ?_
    refine lv_aload_n hx hb dX8_putToken_55 rfl (lv_at hl 1 rfl) ?_
    refine va_get (D := D) (ci := 8) (v := .ref (ad 103)) (C := RX8) (T := TX8) (N := 48) hx hb hts layX8 hown hK hP 0 rfl rfl 2 (by decide) (hts _ (inA q980)) (fun _ h9 => h9) rfl dX8_putToken_56 ?_
    refine lv_iload_n hx hb dX8_putToken_59 rfl (lv_at hl 0 rfl) ?_
    obtain ⟨b2, hM⟩ := gd_use hM
    refine va_iald hx hb hK hP 3 0 rfl rfl b2 dX8_putToken_60 ?_
    obtain ⟨r3, hcr3, hM⟩ := ob_use hM
    refine cl_V (As := [.int (o_C.2.2.1 (2 * (a1 - 50)).toNatClampNeg)]) (rest := []) (wM0 ad o_X o_L o_N o_T o_U o_O o_E o_Q r3 o_I ++ wMC cI ad o_C ++ wMV cI ad r3) [] ⟨hx, hb, hml, hown, hts⟩ (c_Model_put l D cI sd ad o_C o_X o_L o_N o_T o_U o_O o_E o_Q o_I o_V (o_C.2.2.1 (2 * (a1 - 50)).toNatClampNeg) r3 hcr3) (cwV2 hts q1531 mvX8_put rfl rfl ⟨(Nat.le_of_ble_eq_true rfl), (Nat.le_of_ble_eq_true rfl)⟩) hK hE hA hP hD hS 0 (T := TX8) (N := 48) (ci := 8) rfl rfl [0, 5] rfl (by decide) rfl rfl rfl rfl rfl rfl hl.1 (Nat.le_of_ble_eq_true rfl) dX8_putToken_61 ⟨Nat.zero_le _, Nat.zero_le _⟩ (fun H locs hP hD hS => ?_)
    refine lv_aload_n hx hb dX8_putToken_64 rfl (lv_at hl 1 rfl) ?_
    refine va_get (D := D) (ci := 8) (v := .ref (ad 103)) (C := RX8) (T := TX8) (N := 48) hx hb hts layX8 hown hK hP 0 rfl rfl 2 (by decide) (hts _ (inA q980)) (fun _ h9 => h9) rfl dX8_putToken_65 ?_
    refine lv_iload_n hx hb dX8_putToken_68 rfl (lv_at hl 0 rfl) ?_
    refine lv_iconst (v := 1) hx hb dX8_putToken_69 (by decide) ?_
    refine lv_iadd hx hb dX8_putToken_70 ?_
    obtain ⟨b4, hM⟩ := gd_use hM
    refine va_iald hx hb hK hP 3 0 rfl rfl b4 dX8_putToken_71 ?_
    refine lv_if_eq (tgt := 87) hx hb dX8_putToken_72 (by decide) (fun c5 => ?_) (fun c5 => ?_)
    · replace hM := if_t c5 hM
      cases hM
      exact rt_v hx hb hr hlk hP hD hS rfl dX8_putToken_87
    · replace hM := if_f c5 hM
      refine lv_aload_n hx hb dX8_putToken_75 rfl (lv_at hl 1 rfl) ?_
      refine lv_aload_n hx hb dX8_putToken_76 rfl (lv_at hl 1 rfl) ?_
      refine va_get (D := D) (ci := 8) (v := .ref (ad 103)) (C := RX8) (T := TX8) (N := 48) hx hb hts layX8 hown hK hP 0 rfl rfl 2 (by decide) (hts _ (inA q980)) (fun _ h9 => h9) rfl dX8_putToken_77 ?_
      refine lv_iload_n hx hb dX8_putToken_80 rfl (lv_at hl 0 rfl) ?_
      refine lv_iconst (v := 1) hx hb dX8_putToken_81 (by decide) ?_
      refine lv_iadd hx hb dX8_putToken_82 ?_
      obtain ⟨b6, hM⟩ := gd_use hM
      refine va_iald hx hb hK hP 3 0 rfl rfl b6 dX8_putToken_83 ?_
      obtain ⟨r7, hcr7, hM⟩ := ob_use hM
      refine cl_V (As := [.int (o_C.2.2.1 ((2 * (a1 - 50)) + 1).toNatClampNeg)]) (rest := []) (wM0 ad o_X o_L o_N o_T o_U o_O o_E o_Q r7 o_I ++ wMC cI ad o_C ++ wMV cI ad r7) [] ⟨hx, hb, hml, hown, hts⟩ (c_Model_put l D cI sd ad o_C o_X o_L o_N o_T o_U o_O o_E o_Q o_I r3 (o_C.2.2.1 ((2 * (a1 - 50)) + 1).toNatClampNeg) r7 hcr7) (cwV2 hts q1531 mvX8_put rfl rfl ⟨(Nat.le_of_ble_eq_true rfl), (Nat.le_of_ble_eq_true rfl)⟩) hK hE hA hP hD hS 0 (T := TX8) (N := 48) (ci := 8) rfl rfl [0, 5] rfl (by decide) rfl rfl rfl rfl rfl rfl hl.1 (Nat.le_of_ble_eq_true rfl) dX8_putToken_84 ⟨Nat.zero_le _, Nat.zero_le _⟩ (fun H locs hP hD hS => ?_)
      cases hM
      exact rt_v hx hb hr hlk hP hD hS rfl dX8_putToken_87
  · replace hM := if_f c1 hM
    refine lv_aload_n hx hb dX8_putToken_6 rfl (lv_at hl 0 rfl) ?_
    refine lv_bipush (v := 65) hx hb dX8_putToken_7 (by decide) ?_
    obtain ⟨r8, hcr8, hM⟩ := ob_use hM
    refine cl_V (As := [.int 65]) (rest := []) (wM0 ad o_X o_L o_N o_T o_U o_O o_E o_Q r8 o_I ++ wMC cI ad o_C ++ wMV cI ad r8) [] ⟨hx, hb, hml, hown, hts⟩ (c_Model_part l D cI sd ad o_C o_X o_L o_N o_T o_U o_O o_E o_Q o_I o_V 65 r8 hcr8) (cwV2 hts q1524 mvX8_part rfl rfl ⟨(Nat.le_of_ble_eq_true rfl), (Nat.le_of_ble_eq_true rfl)⟩) hK hE hA hP hD hS 0 (T := TX8) (N := 48) (ci := 8) rfl rfl [0, 5] rfl (by decide) rfl rfl rfl rfl rfl rfl hl.1 (Nat.le_of_ble_eq_true rfl) dX8_putToken_9 ⟨Nat.zero_le _, Nat.zero_le _⟩ (fun H locs hP hD hS => ?_)
    refine lv_aload_n hx hb dX8_putToken_12 rfl (lv_at hl 0 rfl) ?_
    refine va_get (D := D) (ci := 8) (v := .ref (ad 102)) (C := RX8) (T := TX8) (N := 48) hx hb hts layX8 hown hK hP 0 rfl rfl 1 (by decide) (hts _ (inA q979)) (fun _ h9 => h9) rfl dX8_putToken_13 ?_
    refine lv_iload_n hx hb dX8_putToken_16 rfl (lv_at hl 1 rfl) ?_
    obtain ⟨b9, hM⟩ := gd_use hM
    refine va_iald hx hb hK hP 2 0 rfl rfl b9 dX8_putToken_17 ?_
    refine lv_istore_n (lv' := [(2, .int (o_C.2.1 a1.toNatClampNeg)), (0, .ref (ad 100)), (1, .int a1)]) hx hb dX8_putToken_18 rfl hl (by decide) rfl (fun ls hl => ?_)
    have lp_L19 : ∀ (o_C_L19 : S_MC) (n : Nat) (v2_L19 : Int32) (o_V_L19 : S_MV) (out_L19 : S_MV) (H : Heap) (locs : List Loc) (ls : Array Slot), f_Model_putToken_L19 o_C_L19 n v2_L19 o_V_L19 = some out_L19 → va_P D vwCl (wM0 ad o_X o_L o_N o_T o_U o_O o_E o_Q o_V_L19 o_I ++ wMC cI ad o_C_L19 ++ wMV cI ad o_V_L19) H → va_D A (wM0 ad o_X o_L o_N o_T o_U o_O o_E o_Q o_V_L19 o_I ++ wMC cI ad o_C_L19 ++ wMV cI ad o_V_L19) → va_S A s.heap H locs → lv_has ls 3 [(2, .int v2_L19), (0, .ref (ad 100))] → (∀ (H : Heap) (locs : List Loc) (ls : Array Slot), va_P D vwCl (wM0 ad o_X o_L o_N o_T o_U o_O o_E o_Q out_L19 o_I ++ wMC cI ad o_C_L19 ++ wMV cI ad out_L19) H → va_D A (wM0 ad o_X o_L o_N o_T o_U o_O o_E o_Q out_L19 o_I ++ wMC cI ad o_C_L19 ++ wMV cI ad out_L19) → va_S A s.heap H locs → lv_has ls 3 [(0, .ref (ad 100))] → W p l e { frames := 3, cells := 0, slots := 0, locals := 61 } s m [.ref (ad 100), .int a1].toArray below meth c H locs 0 0 (MQ below (CQ D A (wM0 ad o_X o_L o_N o_T o_U o_O o_E o_Q res o_I ++ wMC cI ad o_C ++ wMV cI ad res) none) [.ref (ad 100), .int a1].toArray s 0 0 A) (F0 m 44 ls [])) → W p l e { frames := 3, cells := 0, slots := 0, locals := 61 } s m [.ref (ad 100), .int a1].toArray below meth c H locs 0 0 (MQ below (CQ D A (wM0 ad o_X o_L o_N o_T o_U o_O o_E o_Q res o_I ++ wMC cI ad o_C ++ wMV cI ad res) none) [.ref (ad 100), .int a1].toArray s 0 0 A) (F0 m 19 ls []) := by
      intro o_C_L19 n
      induction n with
      | zero => intro v2_L19 o_V_L19 out_L19 H locs ls hM; exact absurd (show none = some _ from hM) (by simp)
      | succ n ih_L19 =>
        intro v2_L19 o_V_L19 out_L19 H locs ls hM hP hD hS hl kx_L19
        rw [f_Model_putToken_L19] at hM
        refine lv_aload_n hx hb dX8_putToken_19 rfl (lv_at hl 1 rfl) ?_
        refine va_get (D := D) (ci := 8) (v := .ref (ad 101)) (C := RX8) (T := TX8) (N := 48) hx hb hts layX8 hown hK hP 0 rfl rfl 0 (by decide) (hts _ (inA q978)) (fun _ h9 => h9) rfl dX8_putToken_20 ?_
        refine lv_iload_n hx hb dX8_putToken_23 rfl (lv_at hl 0 rfl) ?_
        obtain ⟨b1291, hM⟩ := gd_use hM
        refine va_iald hx hb hK hP 1 0 rfl rfl b1291 dX8_putToken_24 ?_
        refine lv_if_eq (tgt := 44) hx hb dX8_putToken_25 (by decide) (fun c1292 => ?_) (fun c1292 => ?_)
        · replace hM := if_t c1292 hM
          cases hM
          exact kx_L19 _ _ _ hP hD hS (lv_sub hl [1] rfl)
        · replace hM := if_f c1292 hM
          refine lv_aload_n hx hb dX8_putToken_28 rfl (lv_at hl 1 rfl) ?_
          refine lv_aload_n hx hb dX8_putToken_29 rfl (lv_at hl 1 rfl) ?_
          refine va_get (D := D) (ci := 8) (v := .ref (ad 101)) (C := RX8) (T := TX8) (N := 48) hx hb hts layX8 hown hK hP 0 rfl rfl 0 (by decide) (hts _ (inA q978)) (fun _ h9 => h9) rfl dX8_putToken_30 ?_
          refine lv_iload_n hx hb dX8_putToken_33 rfl (lv_at hl 0 rfl) ?_
          obtain ⟨b1293, hM⟩ := gd_use hM
          refine va_iald hx hb hK hP 1 0 rfl rfl b1293 dX8_putToken_34 ?_
          obtain ⟨r1294, hcr1294, hM⟩ := ob_use hM
          refine cl_V (As := [.int (o_C_L19.1 v2_L19.toNatClampNeg)]) (rest := []) (wM0 ad o_X o_L o_N o_T o_U o_O o_E o_Q r1294 o_I ++ wMC cI ad o_C_L19 ++ wMV cI ad r1294) [] ⟨hx, hb, hml, hown, hts⟩ (c_Model_put l D cI sd ad o_C_L19 o_X o_L o_N o_T o_U o_O o_E o_Q o_I o_V_L19 (o_C_L19.1 v2_L19.toNatClampNeg) r1294 hcr1294) (cwV2 hts q1531 mvX8_put rfl rfl ⟨(Nat.le_of_ble_eq_true rfl), (Nat.le_of_ble_eq_true rfl)⟩) hK hE hA hP hD hS 0 (T := TX8) (N := 48) (ci := 8) rfl rfl [0, 5] rfl (by decide) rfl rfl rfl rfl rfl rfl hl.1 (Nat.le_of_ble_eq_true rfl) dX8_putToken_35 ⟨Nat.zero_le _, Nat.zero_le _⟩ (fun H locs hP hD hS => ?_)
          obtain ⟨x1295, ex1295⟩ : ∃ y : Int32, y = v2_L19 + 1 := ⟨_, rfl⟩
          replace hM := nm_use ex1295 hM
          refine lv_iinc (v := x1295) (lv' := [(2, .int x1295), (0, .ref (ad 100))]) hx hb dX8_putToken_38 hl (k := 0) rfl (by rw [ex1295]; rfl) (by decide) rfl (fun ls hl => ?_)
          refine lv_goto (tgt := 19) hx hb dX8_putToken_41 (by decide) ?_
          exact ih_L19 x1295 r1294 out_L19 _ _ _ hM hP hD hS (lv_sub hl [0, 1] rfl) kx_L19
    obtain ⟨r10, hcr10, hM⟩ := ob_use hM
    refine lp_L19 o_C FU (o_C.2.1 a1.toNatClampNeg) r8 r10 _ _ _ hcr10 hP hD hS (lv_sub hl [0, 1] rfl) (fun H locs ls hP hD hS hl => ?_)
    refine lv_goto (tgt := 87) hx hb dX8_putToken_44 (by decide) ?_
    cases hM
    exact rt_v hx hb hr hlk hP hD hS rfl dX8_putToken_87

set_option maxHeartbeats 4000000 in
set_option maxRecDepth 100000 in
theorem c_Model_putName (l : Launch) (D : va_G) (cI : ClassId) (sd : Nat → Nat) (ad : Nat → Nat) (o_C : S_MC) (o_X : S_MX) (o_L : S_ML) (o_T : S_MT) (o_U : S_MU) (o_O : S_MO) (o_E : S_ME) (o_Q : S_MQ) (o_I : S_MI) (o_N : S_MN) (o_V : S_MV) (a1 : Int32) (res : S_MV) (hM : f_Model_putName o_N o_V a1 = some res) : Ctr l D cI sd yX8_putName (wsM yX8_putName cX8_putName 3 (Option.none : Option Jvm.ClassFile.FieldType)) { frames := 3, cells := 0, slots := 0, locals := 61 } [.ref (ad 100), .int a1] (wM0 ad o_X o_L o_N o_T o_U o_O o_E o_Q o_V o_I ++ wMN cI ad o_N ++ wMV cI ad o_V) (wM0 ad o_X o_L o_N o_T o_U o_O o_E o_Q res o_I ++ wMN cI ad o_N ++ wMV cI ad res) none := by
  refine Ctr.of (cc := cX8_putName) (maxL := 3) (own := RX8) (by decide +kernel) rfl rfl (Nat.le_of_ble_eq_true rfl) ?_
  intro p e s m below meth c A ls hx hb hr hml hown hts hlk hK hE hA hP hD hS hl
  have hl : lv_has ls 3 [(0, .ref (ad 100)), (1, .int a1)] := hl
  unfold f_Model_putName at hM
  refine lv_aload_n hx hb dX8_putName_0 rfl (lv_at hl 0 rfl) ?_
  refine lv_bipush (v := 65) hx hb dX8_putName_1 (by decide) ?_
  obtain ⟨r1, hcr1, hM⟩ := ob_use hM
  refine cl_V (As := [.int 65]) (rest := []) (wM0 ad o_X o_L o_N o_T o_U o_O o_E o_Q r1 o_I ++ wMN cI ad o_N ++ wMV cI ad r1) [] ⟨hx, hb, hml, hown, hts⟩ (c_Model_part l D cI sd ad o_C o_X o_L o_N o_T o_U o_O o_E o_Q o_I o_V 65 r1 hcr1) (cwV2 hts q1524 mvX8_part rfl rfl ⟨(Nat.le_of_ble_eq_true rfl), (Nat.le_of_ble_eq_true rfl)⟩) hK hE hA hP hD hS 0 (T := TX8) (N := 48) (ci := 8) rfl rfl [0, 3] rfl (by decide) rfl rfl rfl rfl rfl rfl hl.1 (Nat.le_of_ble_eq_true rfl) dX8_putName_3 ⟨Nat.zero_le _, Nat.zero_le _⟩ (fun H locs hP hD hS => ?_)
  refine lv_aload_n hx hb dX8_putName_6 rfl (lv_at hl 0 rfl) ?_
  refine va_get (D := D) (ci := 8) (v := .ref (ad 106)) (C := RX8) (T := TX8) (N := 48) hx hb hts layX8 hown hK hP 0 rfl rfl 14 (by decide) (hts _ (inA q992)) (fun _ h9 => h9) rfl dX8_putName_7 ?_
  refine lv_iload_n hx hb dX8_putName_10 rfl (lv_at hl 1 rfl) ?_
  obtain ⟨b2, hM⟩ := gd_use hM
  refine va_iald hx hb hK hP 1 0 rfl rfl b2 dX8_putName_11 ?_
  refine lv_istore_n (lv' := [(2, .int (o_N.2.1 a1.toNatClampNeg)), (0, .ref (ad 100)), (1, .int a1)]) hx hb dX8_putName_12 rfl hl (by decide) rfl (fun ls hl => ?_)
  have lp_L13 : ∀ (w1_L13 : Int32) (o_N_L13 : S_MN) (n : Nat) (v2_L13 : Int32) (o_V_L13 : S_MV) (out_L13 : S_MV) (H : Heap) (locs : List Loc) (ls : Array Slot), f_Model_putName_L13 w1_L13 o_N_L13 n v2_L13 o_V_L13 = some out_L13 → va_P D vwCl (wM0 ad o_X o_L o_N_L13 o_T o_U o_O o_E o_Q o_V_L13 o_I ++ wMN cI ad o_N_L13 ++ wMV cI ad o_V_L13) H → va_D A (wM0 ad o_X o_L o_N_L13 o_T o_U o_O o_E o_Q o_V_L13 o_I ++ wMN cI ad o_N_L13 ++ wMV cI ad o_V_L13) → va_S A s.heap H locs → lv_has ls 3 [(2, .int v2_L13), (0, .ref (ad 100)), (1, .int w1_L13)] → (∀ (H : Heap) (locs : List Loc) (ls : Array Slot), va_P D vwCl (wM0 ad o_X o_L o_N_L13 o_T o_U o_O o_E o_Q out_L13 o_I ++ wMN cI ad o_N_L13 ++ wMV cI ad out_L13) H → va_D A (wM0 ad o_X o_L o_N_L13 o_T o_U o_O o_E o_Q out_L13 o_I ++ wMN cI ad o_N_L13 ++ wMV cI ad out_L13) → va_S A s.heap H locs → lv_has ls 3 [(0, .ref (ad 100)), (1, .int w1_L13)] → W p l e { frames := 3, cells := 0, slots := 0, locals := 61 } s m [.ref (ad 100), .int a1].toArray below meth c H locs 0 0 (MQ below (CQ D A (wM0 ad o_X o_L o_N o_T o_U o_O o_E o_Q res o_I ++ wMN cI ad o_N ++ wMV cI ad res) none) [.ref (ad 100), .int a1].toArray s 0 0 A) (F0 m 41 ls [])) → W p l e { frames := 3, cells := 0, slots := 0, locals := 61 } s m [.ref (ad 100), .int a1].toArray below meth c H locs 0 0 (MQ below (CQ D A (wM0 ad o_X o_L o_N o_T o_U o_O o_E o_Q res o_I ++ wMN cI ad o_N ++ wMV cI ad res) none) [.ref (ad 100), .int a1].toArray s 0 0 A) (F0 m 13 ls []) := by
    intro w1_L13 o_N_L13 n
    induction n with
    | zero => intro v2_L13 o_V_L13 out_L13 H locs ls hM; exact absurd (show none = some _ from hM) (by simp)
    | succ n ih_L13 =>
      intro v2_L13 o_V_L13 out_L13 H locs ls hM hP hD hS hl kx_L13
      rw [f_Model_putName_L13] at hM
      refine lv_iload_n hx hb dX8_putName_13 rfl (lv_at hl 0 rfl) ?_
      refine lv_aload_n hx hb dX8_putName_14 rfl (lv_at hl 1 rfl) ?_
      refine va_get (D := D) (ci := 8) (v := .ref (ad 106)) (C := RX8) (T := TX8) (N := 48) hx hb hts layX8 hown hK hP 0 rfl rfl 14 (by decide) (hts _ (inA q992)) (fun _ h9 => h9) rfl dX8_putName_15 ?_
      refine lv_iload_n hx hb dX8_putName_18 rfl (lv_at hl 2 rfl) ?_
      refine lv_iconst (v := 1) hx hb dX8_putName_19 (by decide) ?_
      refine lv_iadd hx hb dX8_putName_20 ?_
      obtain ⟨b1231, hM⟩ := gd_use hM
      refine va_iald hx hb hK hP 1 0 rfl rfl b1231 dX8_putName_21 ?_
      refine lv_icmp_ge (tgt := 41) hx hb dX8_putName_22 (by decide) (fun c1232 => ?_) (fun c1232 => ?_)
      · replace hM := if_t c1232 hM
        cases hM
        exact kx_L13 _ _ _ hP hD hS (lv_sub hl [1, 2] rfl)
      · replace hM := if_f c1232 hM
        refine lv_aload_n hx hb dX8_putName_25 rfl (lv_at hl 1 rfl) ?_
        refine lv_aload_n hx hb dX8_putName_26 rfl (lv_at hl 1 rfl) ?_
        refine va_get (D := D) (ci := 8) (v := .ref (ad 107)) (C := RX8) (T := TX8) (N := 48) hx hb hts layX8 hown hK hP 0 rfl rfl 15 (by decide) (hts _ (inA q993)) (fun _ h9 => h9) rfl dX8_putName_27 ?_
        refine lv_iload_n hx hb dX8_putName_30 rfl (lv_at hl 0 rfl) ?_
        obtain ⟨b1233, hM⟩ := gd_use hM
        refine va_iald hx hb hK hP 2 0 rfl rfl b1233 dX8_putName_31 ?_
        obtain ⟨r1234, hcr1234, hM⟩ := ob_use hM
        refine cl_V (As := [.int (o_N_L13.2.2 v2_L13.toNatClampNeg)]) (rest := []) (wM0 ad o_X o_L o_N_L13 o_T o_U o_O o_E o_Q r1234 o_I ++ wMN cI ad o_N_L13 ++ wMV cI ad r1234) [] ⟨hx, hb, hml, hown, hts⟩ (c_Model_put l D cI sd ad o_C o_X o_L o_N_L13 o_T o_U o_O o_E o_Q o_I o_V_L13 (o_N_L13.2.2 v2_L13.toNatClampNeg) r1234 hcr1234) (cwV2 hts q1531 mvX8_put rfl rfl ⟨(Nat.le_of_ble_eq_true rfl), (Nat.le_of_ble_eq_true rfl)⟩) hK hE hA hP hD hS 0 (T := TX8) (N := 48) (ci := 8) rfl rfl [0, 3] rfl (by decide) rfl rfl rfl rfl rfl rfl hl.1 (Nat.le_of_ble_eq_true rfl) dX8_putName_32 ⟨Nat.zero_le _, Nat.zero_le _⟩ (fun H locs hP hD hS => ?_)
        obtain ⟨x1235, ex1235⟩ : ∃ y : Int32, y = v2_L13 + 1 := ⟨_, rfl⟩
        replace hM := nm_use ex1235 hM
        refine lv_iinc (v := x1235) (lv' := [(2, .int x1235), (0, .ref (ad 100)), (1, .int w1_L13)]) hx hb dX8_putName_35 hl (k := 0) rfl (by rw [ex1235]; rfl) (by decide) rfl (fun ls hl => ?_)
        refine lv_goto (tgt := 13) hx hb dX8_putName_38 (by decide) ?_
        exact ih_L13 x1235 r1234 out_L13 _ _ _ hM hP hD hS (lv_sub hl [0, 1, 2] rfl) kx_L13
  obtain ⟨r3, hcr3, hM⟩ := ob_use hM
  refine lp_L13 a1 o_N FU (o_N.2.1 a1.toNatClampNeg) r1 r3 _ _ _ hcr3 hP hD hS (lv_sub hl [0, 1, 2] rfl) (fun H locs ls hP hD hS hl => ?_)
  cases hM
  exact rt_v hx hb hr hlk hP hD hS rfl dX8_putName_41

set_option maxHeartbeats 4000000 in
set_option maxRecDepth 100000 in
theorem c_Model_putNumber (l : Launch) (D : va_G) (cI : ClassId) (sd : Nat → Nat) (ad : Nat → Nat) (o_C : S_MC) (o_X : S_MX) (o_L : S_ML) (o_N : S_MN) (o_T : S_MT) (o_U : S_MU) (o_O : S_MO) (o_E : S_ME) (o_Q : S_MQ) (o_I : S_MI) (o_V : S_MV) (a1 : Int32) (res : S_MV) (hM : f_Model_putNumber o_V a1 = some res) : Ctr l D cI sd yX8_putNumber (wsM yX8_putNumber cX8_putNumber 6 (Option.none : Option Jvm.ClassFile.FieldType)) { frames := 3, cells := 0, slots := 0, locals := 61 } [.ref (ad 100), .int a1] (wM0 ad o_X o_L o_N o_T o_U o_O o_E o_Q o_V o_I ++ wMV cI ad o_V) (wM0 ad o_X o_L o_N o_T o_U o_O o_E o_Q res o_I ++ wMV cI ad res) none := by
  refine Ctr.of (cc := cX8_putNumber) (maxL := 6) (own := RX8) (by decide +kernel) rfl rfl (Nat.le_of_ble_eq_true rfl) ?_
  intro p e s m below meth c A ls hx hb hr hml hown hts hlk hK hE hA hP hD hS hl
  have hl : lv_has ls 6 [(0, .ref (ad 100)), (1, .int a1)] := hl
  unfold f_Model_putNumber at hM
  refine lv_iload_n hx hb dX8_putNumber_0 rfl (lv_at hl 1 rfl) ?_
  refine lv_i2l hx hb dX8_putNumber_1 rfl ?_
  refine lv_lstore_n (lv' := [(2, .long a1.toInt64), (0, .ref (ad 100)), (1, .int a1)]) hx hb dX8_putNumber_2 rfl hl (by decide) rfl (fun ls hl => ?_)
  refine lv_iload_n hx hb dX8_putNumber_3 rfl (lv_at hl 2 rfl) ?_
  refine lv_if_ge (tgt := 16) hx hb dX8_putNumber_4 (by decide) (fun c1 => ?_) (fun c1 => ?_)
  · replace hM := if_t c1 hM
    refine lv_aload_n hx hb dX8_putNumber_16 rfl (lv_at hl 1 rfl) ?_
    refine lv_bipush (v := 48) hx hb dX8_putNumber_17 (by decide) ?_
    obtain ⟨r2, hcr2, hM⟩ := ob_use hM
    refine cl_V (As := [.int 48]) (rest := []) (wM0 ad o_X o_L o_N o_T o_U o_O o_E o_Q r2 o_I ++ wMV cI ad r2) [] ⟨hx, hb, hml, hown, hts⟩ (c_Model_part l D cI sd ad o_C o_X o_L o_N o_T o_U o_O o_E o_Q o_I o_V 48 r2 hcr2) (cwV2 hts q1524 mvX8_part rfl rfl ⟨(Nat.le_of_ble_eq_true rfl), (Nat.le_of_ble_eq_true rfl)⟩) hK hE hA hP hD hS 0 (T := TX8) (N := 48) (ci := 8) rfl rfl [0, 1] rfl (by decide) rfl rfl rfl rfl rfl rfl hl.1 (Nat.le_of_ble_eq_true rfl) dX8_putNumber_19 ⟨Nat.zero_le _, Nat.zero_le _⟩ (fun H locs hP hD hS => ?_)
    refine lv_lconst (v := 1) hx hb dX8_putNumber_22 (by decide) ?_
    refine lv_lstore (lv' := [(4, .long 1), (2, .long a1.toInt64), (0, .ref (ad 100)), (1, .int a1)]) hx hb dX8_putNumber_23 hl (by decide) rfl (fun ls hl => ?_)
    have lp_L25 : ∀ (w2_L25 : Int64) (o_V_L25 : S_MV) (n : Nat) (v4_L25 : Int64) (out_L25 : Int64) (H : Heap) (locs : List Loc) (ls : Array Slot), f_Model_putNumber_L25 w2_L25 n v4_L25 = some out_L25 → va_P D vwCl (wM0 ad o_X o_L o_N o_T o_U o_O o_E o_Q o_V_L25 o_I ++ wMV cI ad o_V_L25) H → va_D A (wM0 ad o_X o_L o_N o_T o_U o_O o_E o_Q o_V_L25 o_I ++ wMV cI ad o_V_L25) → va_S A s.heap H locs → lv_has ls 6 [(4, .long v4_L25), (2, .long w2_L25), (0, .ref (ad 100))] → (∀ (H : Heap) (locs : List Loc) (ls : Array Slot), va_P D vwCl (wM0 ad o_X o_L o_N o_T o_U o_O o_E o_Q o_V_L25 o_I ++ wMV cI ad o_V_L25) H → va_D A (wM0 ad o_X o_L o_N o_T o_U o_O o_E o_Q o_V_L25 o_I ++ wMV cI ad o_V_L25) → va_S A s.heap H locs → lv_has ls 6 [(4, .long out_L25), (2, .long w2_L25), (0, .ref (ad 100))] → W p l e { frames := 3, cells := 0, slots := 0, locals := 61 } s m [.ref (ad 100), .int a1].toArray below meth c H locs 0 0 (MQ below (CQ D A (wM0 ad o_X o_L o_N o_T o_U o_O o_E o_Q res o_I ++ wMV cI ad res) none) [.ref (ad 100), .int a1].toArray s 0 0 A) (F0 m 47 ls [])) → W p l e { frames := 3, cells := 0, slots := 0, locals := 61 } s m [.ref (ad 100), .int a1].toArray below meth c H locs 0 0 (MQ below (CQ D A (wM0 ad o_X o_L o_N o_T o_U o_O o_E o_Q res o_I ++ wMV cI ad res) none) [.ref (ad 100), .int a1].toArray s 0 0 A) (F0 m 25 ls []) := by
      intro w2_L25 o_V_L25 n
      induction n with
      | zero => intro v4_L25 out_L25 H locs ls hM; exact absurd (show none = some _ from hM) (by simp)
      | succ n ih_L25 =>
        intro v4_L25 out_L25 H locs ls hM hP hD hS hl kx_L25
        rw [f_Model_putNumber_L25] at hM
        refine lv_lload_n hx hb dX8_putNumber_25 rfl (lv_at hl 1 rfl) ?_
        refine lv_lload hx hb dX8_putNumber_26 (lv_at hl 0 rfl) ?_
        obtain ⟨z1351, hM⟩ := dzl_use hM
        refine lv_ldiv hx hb dX8_putNumber_28 z1351 ?_
        refine lv_ldc2 (v := 9) hx hb hown (hts _ (inA q1591)) dX8_putNumber_29 ?_
        refine W.lcmp hx hb dX8_putNumber_32 ?_
        refine lv_if_le (tgt := 47) hx hb dX8_putNumber_33 (by decide) (fun c1352 => ?_) (fun c1352 => ?_)
        · replace hM := if_t c1352 hM
          cases hM
          exact kx_L25 _ _ _ hP hD hS (lv_sub hl [0, 1, 2] rfl)
        · replace hM := if_f c1352 hM
          refine lv_lload hx hb dX8_putNumber_36 (lv_at hl 0 rfl) ?_
          refine lv_ldc2 (v := 10) hx hb hown (hts _ (inA q1592)) dX8_putNumber_38 ?_
          refine lv_lmul hx hb dX8_putNumber_41 ?_
          refine lv_lstore (lv' := [(4, .long (v4_L25 * 10)), (2, .long w2_L25), (0, .ref (ad 100))]) hx hb dX8_putNumber_42 hl (by decide) rfl (fun ls hl => ?_)
          refine lv_goto (tgt := 25) hx hb dX8_putNumber_44 (by decide) ?_
          exact ih_L25 (v4_L25 * 10) out_L25 _ _ _ hM hP hD hS (lv_sub hl [0, 1, 2] rfl) kx_L25
    obtain ⟨r3, hcr3, hM⟩ := ob_use hM
    refine lp_L25 a1.toInt64 r2 FU 1 r3 _ _ _ hcr3 hP hD hS (lv_sub hl [0, 1, 2] rfl) (fun H locs ls hP hD hS hl => ?_)
    have lp_L47 : ∀ (w2_L47 : Int64) (n : Nat) (v4_L47 : Int64) (o_V_L47 : S_MV) (out_L47 : S_MV) (H : Heap) (locs : List Loc) (ls : Array Slot), f_Model_putNumber_L47 w2_L47 n v4_L47 o_V_L47 = some out_L47 → va_P D vwCl (wM0 ad o_X o_L o_N o_T o_U o_O o_E o_Q o_V_L47 o_I ++ wMV cI ad o_V_L47) H → va_D A (wM0 ad o_X o_L o_N o_T o_U o_O o_E o_Q o_V_L47 o_I ++ wMV cI ad o_V_L47) → va_S A s.heap H locs → lv_has ls 6 [(4, .long v4_L47), (2, .long w2_L47), (0, .ref (ad 100))] → (∀ (H : Heap) (locs : List Loc) (ls : Array Slot), va_P D vwCl (wM0 ad o_X o_L o_N o_T o_U o_O o_E o_Q out_L47 o_I ++ wMV cI ad out_L47) H → va_D A (wM0 ad o_X o_L o_N o_T o_U o_O o_E o_Q out_L47 o_I ++ wMV cI ad out_L47) → va_S A s.heap H locs → lv_has ls 6 [(2, .long w2_L47), (0, .ref (ad 100))] → W p l e { frames := 3, cells := 0, slots := 0, locals := 61 } s m [.ref (ad 100), .int a1].toArray below meth c H locs 0 0 (MQ below (CQ D A (wM0 ad o_X o_L o_N o_T o_U o_O o_E o_Q res o_I ++ wMV cI ad res) none) [.ref (ad 100), .int a1].toArray s 0 0 A) (F0 m 81 ls [])) → W p l e { frames := 3, cells := 0, slots := 0, locals := 61 } s m [.ref (ad 100), .int a1].toArray below meth c H locs 0 0 (MQ below (CQ D A (wM0 ad o_X o_L o_N o_T o_U o_O o_E o_Q res o_I ++ wMV cI ad res) none) [.ref (ad 100), .int a1].toArray s 0 0 A) (F0 m 47 ls []) := by
      intro w2_L47 n
      induction n with
      | zero => intro v4_L47 o_V_L47 out_L47 H locs ls hM; exact absurd (show none = some _ from hM) (by simp)
      | succ n ih_L47 =>
        intro v4_L47 o_V_L47 out_L47 H locs ls hM hP hD hS hl kx_L47
        rw [f_Model_putNumber_L47] at hM
        refine lv_lload hx hb dX8_putNumber_47 (lv_at hl 0 rfl) ?_
        refine lv_lconst (v := 0) hx hb dX8_putNumber_49 (by decide) ?_
        refine W.lcmp hx hb dX8_putNumber_50 ?_
        refine lv_if_le (tgt := 81) hx hb dX8_putNumber_51 (by decide) (fun c1571 => ?_) (fun c1571 => ?_)
        · replace hM := if_t c1571 hM
          cases hM
          exact kx_L47 _ _ _ hP hD hS (lv_sub hl [1, 2] rfl)
        · replace hM := if_f c1571 hM
          refine lv_aload_n hx hb dX8_putNumber_54 rfl (lv_at hl 2 rfl) ?_
          refine lv_bipush (v := 48) hx hb dX8_putNumber_55 (by decide) ?_
          refine lv_lload_n hx hb dX8_putNumber_57 rfl (lv_at hl 1 rfl) ?_
          refine lv_lload hx hb dX8_putNumber_58 (lv_at hl 0 rfl) ?_
          obtain ⟨z1572, hM⟩ := dzl_use hM
          refine lv_ldiv hx hb dX8_putNumber_60 z1572 ?_
          refine lv_ldc2 (v := 10) hx hb hown (hts _ (inA q1592)) dX8_putNumber_61 ?_
          refine lv_lrem hx hb dX8_putNumber_64 (by decide) ?_
          refine lv_l2i hx hb dX8_putNumber_65 rfl ?_
          refine lv_iadd hx hb dX8_putNumber_66 ?_
          obtain ⟨r1573, hcr1573, hM⟩ := ob_use hM
          refine cl_V (As := [.int (48 + (((w2_L47 / v4_L47) - (w2_L47 / v4_L47) / 10 * 10).toInt32))]) (rest := []) (wM0 ad o_X o_L o_N o_T o_U o_O o_E o_Q r1573 o_I ++ wMV cI ad r1573) [] ⟨hx, hb, hml, hown, hts⟩ (c_Model_put l D cI sd ad o_C o_X o_L o_N o_T o_U o_O o_E o_Q o_I o_V_L47 (48 + (((w2_L47 / v4_L47) - (w2_L47 / v4_L47) / 10 * 10).toInt32)) r1573 hcr1573) (cwV2 hts q1531 mvX8_put rfl rfl ⟨(Nat.le_of_ble_eq_true rfl), (Nat.le_of_ble_eq_true rfl)⟩) hK hE hA hP hD hS 0 (T := TX8) (N := 48) (ci := 8) rfl rfl [0, 1] rfl (by decide) rfl rfl rfl rfl rfl rfl hl.1 (Nat.le_of_ble_eq_true rfl) dX8_putNumber_67 ⟨Nat.zero_le _, Nat.zero_le _⟩ (fun H locs hP hD hS => ?_)
          refine lv_lload hx hb dX8_putNumber_70 (lv_at hl 0 rfl) ?_
          refine lv_ldc2 (v := 10) hx hb hown (hts _ (inA q1592)) dX8_putNumber_72 ?_
          refine lv_ldiv hx hb dX8_putNumber_75 (by decide) ?_
          refine lv_lstore (lv' := [(4, .long (v4_L47 / 10)), (2, .long w2_L47), (0, .ref (ad 100))]) hx hb dX8_putNumber_76 hl (by decide) rfl (fun ls hl => ?_)
          refine lv_goto (tgt := 47) hx hb dX8_putNumber_78 (by decide) ?_
          exact ih_L47 (v4_L47 / 10) r1573 out_L47 _ _ _ hM hP hD hS (lv_sub hl [0, 1, 2] rfl) kx_L47
    obtain ⟨r4, hcr4, hM⟩ := ob_use hM
    refine lp_L47 a1.toInt64 FU r3 r2 r4 _ _ _ hcr4 hP hD hS (lv_sub hl [0, 1, 2] rfl) (fun H locs ls hP hD hS hl => ?_)
    cases hM
    exact rt_v hx hb hr hlk hP hD hS rfl dX8_putNumber_81
  · replace hM := if_f c1 hM
    refine lv_aload_n hx hb dX8_putNumber_7 rfl (lv_at hl 1 rfl) ?_
    refine lv_bipush (v := 45) hx hb dX8_putNumber_8 (by decide) ?_
    obtain ⟨r5, hcr5, hM⟩ := ob_use hM
    refine cl_V (As := [.int 45]) (rest := []) (wM0 ad o_X o_L o_N o_T o_U o_O o_E o_Q r5 o_I ++ wMV cI ad r5) [] ⟨hx, hb, hml, hown, hts⟩ (c_Model_put l D cI sd ad o_C o_X o_L o_N o_T o_U o_O o_E o_Q o_I o_V 45 r5 hcr5) (cwV2 hts q1531 mvX8_put rfl rfl ⟨(Nat.le_of_ble_eq_true rfl), (Nat.le_of_ble_eq_true rfl)⟩) hK hE hA hP hD hS 0 (T := TX8) (N := 48) (ci := 8) rfl rfl [0, 1] rfl (by decide) rfl rfl rfl rfl rfl rfl hl.1 (Nat.le_of_ble_eq_true rfl) dX8_putNumber_10 ⟨Nat.zero_le _, Nat.zero_le _⟩ (fun H locs hP hD hS => ?_)
    refine lv_lload_n hx hb dX8_putNumber_13 rfl (lv_at hl 0 rfl) ?_
    refine lv_lneg hx hb dX8_putNumber_14 ?_
    refine lv_lstore_n (lv' := [(2, .long (-a1.toInt64)), (0, .ref (ad 100)), (1, .int a1)]) hx hb dX8_putNumber_15 rfl hl (by decide) rfl (fun ls hl => ?_)
    refine lv_aload_n hx hb dX8_putNumber_16 rfl (lv_at hl 1 rfl) ?_
    refine lv_bipush (v := 48) hx hb dX8_putNumber_17 (by decide) ?_
    obtain ⟨r6, hcr6, hM⟩ := ob_use hM
    refine cl_V (As := [.int 48]) (rest := []) (wM0 ad o_X o_L o_N o_T o_U o_O o_E o_Q r6 o_I ++ wMV cI ad r6) [] ⟨hx, hb, hml, hown, hts⟩ (c_Model_part l D cI sd ad o_C o_X o_L o_N o_T o_U o_O o_E o_Q o_I r5 48 r6 hcr6) (cwV2 hts q1524 mvX8_part rfl rfl ⟨(Nat.le_of_ble_eq_true rfl), (Nat.le_of_ble_eq_true rfl)⟩) hK hE hA hP hD hS 0 (T := TX8) (N := 48) (ci := 8) rfl rfl [0, 1] rfl (by decide) rfl rfl rfl rfl rfl rfl hl.1 (Nat.le_of_ble_eq_true rfl) dX8_putNumber_19 ⟨Nat.zero_le _, Nat.zero_le _⟩ (fun H locs hP hD hS => ?_)
    refine lv_lconst (v := 1) hx hb dX8_putNumber_22 (by decide) ?_
    refine lv_lstore (lv' := [(4, .long 1), (2, .long (-a1.toInt64)), (0, .ref (ad 100)), (1, .int a1)]) hx hb dX8_putNumber_23 hl (by decide) rfl (fun ls hl => ?_)
    have lp_L25 : ∀ (w2_L25 : Int64) (o_V_L25 : S_MV) (n : Nat) (v4_L25 : Int64) (out_L25 : Int64) (H : Heap) (locs : List Loc) (ls : Array Slot), f_Model_putNumber_L25 w2_L25 n v4_L25 = some out_L25 → va_P D vwCl (wM0 ad o_X o_L o_N o_T o_U o_O o_E o_Q o_V_L25 o_I ++ wMV cI ad o_V_L25) H → va_D A (wM0 ad o_X o_L o_N o_T o_U o_O o_E o_Q o_V_L25 o_I ++ wMV cI ad o_V_L25) → va_S A s.heap H locs → lv_has ls 6 [(4, .long v4_L25), (2, .long w2_L25), (0, .ref (ad 100))] → (∀ (H : Heap) (locs : List Loc) (ls : Array Slot), va_P D vwCl (wM0 ad o_X o_L o_N o_T o_U o_O o_E o_Q o_V_L25 o_I ++ wMV cI ad o_V_L25) H → va_D A (wM0 ad o_X o_L o_N o_T o_U o_O o_E o_Q o_V_L25 o_I ++ wMV cI ad o_V_L25) → va_S A s.heap H locs → lv_has ls 6 [(4, .long out_L25), (2, .long w2_L25), (0, .ref (ad 100))] → W p l e { frames := 3, cells := 0, slots := 0, locals := 61 } s m [.ref (ad 100), .int a1].toArray below meth c H locs 0 0 (MQ below (CQ D A (wM0 ad o_X o_L o_N o_T o_U o_O o_E o_Q res o_I ++ wMV cI ad res) none) [.ref (ad 100), .int a1].toArray s 0 0 A) (F0 m 47 ls [])) → W p l e { frames := 3, cells := 0, slots := 0, locals := 61 } s m [.ref (ad 100), .int a1].toArray below meth c H locs 0 0 (MQ below (CQ D A (wM0 ad o_X o_L o_N o_T o_U o_O o_E o_Q res o_I ++ wMV cI ad res) none) [.ref (ad 100), .int a1].toArray s 0 0 A) (F0 m 25 ls []) := by
      intro w2_L25 o_V_L25 n
      induction n with
      | zero => intro v4_L25 out_L25 H locs ls hM; exact absurd (show none = some _ from hM) (by simp)
      | succ n ih_L25 =>
        intro v4_L25 out_L25 H locs ls hM hP hD hS hl kx_L25
        rw [f_Model_putNumber_L25] at hM
        refine lv_lload_n hx hb dX8_putNumber_25 rfl (lv_at hl 1 rfl) ?_
        refine lv_lload hx hb dX8_putNumber_26 (lv_at hl 0 rfl) ?_
        obtain ⟨z1351, hM⟩ := dzl_use hM
        refine lv_ldiv hx hb dX8_putNumber_28 z1351 ?_
        refine lv_ldc2 (v := 9) hx hb hown (hts _ (inA q1591)) dX8_putNumber_29 ?_
        refine W.lcmp hx hb dX8_putNumber_32 ?_
        refine lv_if_le (tgt := 47) hx hb dX8_putNumber_33 (by decide) (fun c1352 => ?_) (fun c1352 => ?_)
        · replace hM := if_t c1352 hM
          cases hM
          exact kx_L25 _ _ _ hP hD hS (lv_sub hl [0, 1, 2] rfl)
        · replace hM := if_f c1352 hM
          refine lv_lload hx hb dX8_putNumber_36 (lv_at hl 0 rfl) ?_
          refine lv_ldc2 (v := 10) hx hb hown (hts _ (inA q1592)) dX8_putNumber_38 ?_
          refine lv_lmul hx hb dX8_putNumber_41 ?_
          refine lv_lstore (lv' := [(4, .long (v4_L25 * 10)), (2, .long w2_L25), (0, .ref (ad 100))]) hx hb dX8_putNumber_42 hl (by decide) rfl (fun ls hl => ?_)
          refine lv_goto (tgt := 25) hx hb dX8_putNumber_44 (by decide) ?_
          exact ih_L25 (v4_L25 * 10) out_L25 _ _ _ hM hP hD hS (lv_sub hl [0, 1, 2] rfl) kx_L25
    obtain ⟨r7, hcr7, hM⟩ := ob_use hM
    refine lp_L25 (-a1.toInt64) r6 FU 1 r7 _ _ _ hcr7 hP hD hS (lv_sub hl [0, 1, 2] rfl) (fun H locs ls hP hD hS hl => ?_)
    have lp_L47 : ∀ (w2_L47 : Int64) (n : Nat) (v4_L47 : Int64) (o_V_L47 : S_MV) (out_L47 : S_MV) (H : Heap) (locs : List Loc) (ls : Array Slot), f_Model_putNumber_L47 w2_L47 n v4_L47 o_V_L47 = some out_L47 → va_P D vwCl (wM0 ad o_X o_L o_N o_T o_U o_O o_E o_Q o_V_L47 o_I ++ wMV cI ad o_V_L47) H → va_D A (wM0 ad o_X o_L o_N o_T o_U o_O o_E o_Q o_V_L47 o_I ++ wMV cI ad o_V_L47) → va_S A s.heap H locs → lv_has ls 6 [(4, .long v4_L47), (2, .long w2_L47), (0, .ref (ad 100))] → (∀ (H : Heap) (locs : List Loc) (ls : Array Slot), va_P D vwCl (wM0 ad o_X o_L o_N o_T o_U o_O o_E o_Q out_L47 o_I ++ wMV cI ad out_L47) H → va_D A (wM0 ad o_X o_L o_N o_T o_U o_O o_E o_Q out_L47 o_I ++ wMV cI ad out_L47) → va_S A s.heap H locs → lv_has ls 6 [(2, .long w2_L47), (0, .ref (ad 100))] → W p l e { frames := 3, cells := 0, slots := 0, locals := 61 } s m [.ref (ad 100), .int a1].toArray below meth c H locs 0 0 (MQ below (CQ D A (wM0 ad o_X o_L o_N o_T o_U o_O o_E o_Q res o_I ++ wMV cI ad res) none) [.ref (ad 100), .int a1].toArray s 0 0 A) (F0 m 81 ls [])) → W p l e { frames := 3, cells := 0, slots := 0, locals := 61 } s m [.ref (ad 100), .int a1].toArray below meth c H locs 0 0 (MQ below (CQ D A (wM0 ad o_X o_L o_N o_T o_U o_O o_E o_Q res o_I ++ wMV cI ad res) none) [.ref (ad 100), .int a1].toArray s 0 0 A) (F0 m 47 ls []) := by
      intro w2_L47 n
      induction n with
      | zero => intro v4_L47 o_V_L47 out_L47 H locs ls hM; exact absurd (show none = some _ from hM) (by simp)
      | succ n ih_L47 =>
        intro v4_L47 o_V_L47 out_L47 H locs ls hM hP hD hS hl kx_L47
        rw [f_Model_putNumber_L47] at hM
        refine lv_lload hx hb dX8_putNumber_47 (lv_at hl 0 rfl) ?_
        refine lv_lconst (v := 0) hx hb dX8_putNumber_49 (by decide) ?_
        refine W.lcmp hx hb dX8_putNumber_50 ?_
        refine lv_if_le (tgt := 81) hx hb dX8_putNumber_51 (by decide) (fun c1571 => ?_) (fun c1571 => ?_)
        · replace hM := if_t c1571 hM
          cases hM
          exact kx_L47 _ _ _ hP hD hS (lv_sub hl [1, 2] rfl)
        · replace hM := if_f c1571 hM
          refine lv_aload_n hx hb dX8_putNumber_54 rfl (lv_at hl 2 rfl) ?_
          refine lv_bipush (v := 48) hx hb dX8_putNumber_55 (by decide) ?_
          refine lv_lload_n hx hb dX8_putNumber_57 rfl (lv_at hl 1 rfl) ?_
          refine lv_lload hx hb dX8_putNumber_58 (lv_at hl 0 rfl) ?_
          obtain ⟨z1572, hM⟩ := dzl_use hM
          refine lv_ldiv hx hb dX8_putNumber_60 z1572 ?_
          refine lv_ldc2 (v := 10) hx hb hown (hts _ (inA q1592)) dX8_putNumber_61 ?_
          refine lv_lrem hx hb dX8_putNumber_64 (by decide) ?_
          refine lv_l2i hx hb dX8_putNumber_65 rfl ?_
          refine lv_iadd hx hb dX8_putNumber_66 ?_
          obtain ⟨r1573, hcr1573, hM⟩ := ob_use hM
          refine cl_V (As := [.int (48 + (((w2_L47 / v4_L47) - (w2_L47 / v4_L47) / 10 * 10).toInt32))]) (rest := []) (wM0 ad o_X o_L o_N o_T o_U o_O o_E o_Q r1573 o_I ++ wMV cI ad r1573) [] ⟨hx, hb, hml, hown, hts⟩ (c_Model_put l D cI sd ad o_C o_X o_L o_N o_T o_U o_O o_E o_Q o_I o_V_L47 (48 + (((w2_L47 / v4_L47) - (w2_L47 / v4_L47) / 10 * 10).toInt32)) r1573 hcr1573) (cwV2 hts q1531 mvX8_put rfl rfl ⟨(Nat.le_of_ble_eq_true rfl), (Nat.le_of_ble_eq_true rfl)⟩) hK hE hA hP hD hS 0 (T := TX8) (N := 48) (ci := 8) rfl rfl [0, 1] rfl (by decide) rfl rfl rfl rfl rfl rfl hl.1 (Nat.le_of_ble_eq_true rfl) dX8_putNumber_67 ⟨Nat.zero_le _, Nat.zero_le _⟩ (fun H locs hP hD hS => ?_)
          refine lv_lload hx hb dX8_putNumber_70 (lv_at hl 0 rfl) ?_
          refine lv_ldc2 (v := 10) hx hb hown (hts _ (inA q1592)) dX8_putNumber_72 ?_
          refine lv_ldiv hx hb dX8_putNumber_75 (by decide) ?_
          refine lv_lstore (lv' := [(4, .long (v4_L47 / 10)), (2, .long w2_L47), (0, .ref (ad 100))]) hx hb dX8_putNumber_76 hl (by decide) rfl (fun ls hl => ?_)
          refine lv_goto (tgt := 47) hx hb dX8_putNumber_78 (by decide) ?_
          exact ih_L47 (v4_L47 / 10) r1573 out_L47 _ _ _ hM hP hD hS (lv_sub hl [0, 1, 2] rfl) kx_L47
    obtain ⟨r8, hcr8, hM⟩ := ob_use hM
    refine lp_L47 (-a1.toInt64) FU r7 r6 r8 _ _ _ hcr8 hP hD hS (lv_sub hl [0, 1, 2] rfl) (fun H locs ls hP hD hS hl => ?_)
    cases hM
    exact rt_v hx hb hr hlk hP hD hS rfl dX8_putNumber_81

set_option maxHeartbeats 4000000 in
set_option maxRecDepth 100000 in
theorem c_Model_putPlace (l : Launch) (D : va_G) (cI : ClassId) (sd : Nat → Nat) (ad : Nat → Nat) (o_X : S_MX) (o_L : S_ML) (o_N : S_MN) (o_T : S_MT) (o_U : S_MU) (o_O : S_MO) (o_E : S_ME) (o_Q : S_MQ) (o_I : S_MI) (o_C : S_MC) (o_V : S_MV) (a1 : Int32) (res : S_MV) (hM : f_Model_putPlace o_C o_V a1 = some res) : Ctr l D cI sd yX8_putPlace (wsM yX8_putPlace cX8_putPlace 3 (Option.none : Option Jvm.ClassFile.FieldType)) { frames := 1, cells := 0, slots := 0, locals := 21 } [.ref (ad 100), .int a1] (wM0 ad o_X o_L o_N o_T o_U o_O o_E o_Q o_V o_I ++ wMC cI ad o_C ++ wMV cI ad o_V) (wM0 ad o_X o_L o_N o_T o_U o_O o_E o_Q res o_I ++ wMC cI ad o_C ++ wMV cI ad res) none := by
  refine Ctr.of (cc := cX8_putPlace) (maxL := 3) (own := RX8) (by decide +kernel) rfl rfl (Nat.le_of_ble_eq_true rfl) ?_
  intro p e s m below meth c A ls hx hb hr hml hown hts hlk hK hE hA hP hD hS hl
  have hl : lv_has ls 3 [(0, .ref (ad 100)), (1, .int a1)] := hl
  unfold f_Model_putPlace at hM
  refine lv_aload_n hx hb dX8_putPlace_0 rfl (lv_at hl 0 rfl) ?_
  refine lv_bipush (v := 37) hx hb dX8_putPlace_1 (by decide) ?_
  obtain ⟨r1, hcr1, hM⟩ := ob_use hM
  refine cl_V (As := [.int 37]) (rest := []) (wM0 ad o_X o_L o_N o_T o_U o_O o_E o_Q r1 o_I ++ wMC cI ad o_C ++ wMV cI ad r1) [] ⟨hx, hb, hml, hown, hts⟩ (c_Model_put l D cI sd ad o_C o_X o_L o_N o_T o_U o_O o_E o_Q o_I o_V 37 r1 hcr1) (cwV2 hts q1531 mvX8_put rfl rfl ⟨(Nat.le_of_ble_eq_true rfl), (Nat.le_of_ble_eq_true rfl)⟩) hK hE hA hP hD hS 0 (T := TX8) (N := 48) (ci := 8) rfl rfl [0, 5] rfl (by decide) rfl rfl rfl rfl rfl rfl hl.1 (Nat.le_of_ble_eq_true rfl) dX8_putPlace_3 ⟨Nat.zero_le _, Nat.zero_le _⟩ (fun H locs hP hD hS => ?_)
  refine lv_aload_n hx hb dX8_putPlace_6 rfl (lv_at hl 0 rfl) ?_
  refine lv_aload_n hx hb dX8_putPlace_7 rfl (lv_at hl 0 rfl) ?_
  refine va_get (D := D) (ci := 8) (v := .ref (ad 104)) (C := RX8) (T := TX8) (N := 48) hx hb hts layX8 hown hK hP 0 rfl rfl 3 (by decide) (hts _ (inA q981)) (fun _ h9 => h9) rfl dX8_putPlace_8 ?_
  refine lv_iload_n hx hb dX8_putPlace_11 rfl (lv_at hl 1 rfl) ?_
  refine lv_sipush (v := 256) hx hb dX8_putPlace_12 (by decide) ?_
  refine lv_idiv hx hb dX8_putPlace_15 (by decide) ?_
  refine lv_iconst (v := 2) hx hb dX8_putPlace_16 (by decide) ?_
  refine lv_imul hx hb dX8_putPlace_17 ?_
  obtain ⟨b2, hM⟩ := gd_use hM
  refine va_iald hx hb hK hP 4 0 rfl rfl b2 dX8_putPlace_18 ?_
  obtain ⟨r3, hcr3, hM⟩ := ob_use hM
  refine cl_V (As := [.int (o_C.2.2.2 ((a1 / 256) * 2).toNatClampNeg)]) (rest := []) (wM0 ad o_X o_L o_N o_T o_U o_O o_E o_Q r3 o_I ++ wMC cI ad o_C ++ wMV cI ad r3) [] ⟨hx, hb, hml, hown, hts⟩ (c_Model_put l D cI sd ad o_C o_X o_L o_N o_T o_U o_O o_E o_Q o_I r1 (o_C.2.2.2 ((a1 / 256) * 2).toNatClampNeg) r3 hcr3) (cwV2 hts q1531 mvX8_put rfl rfl ⟨(Nat.le_of_ble_eq_true rfl), (Nat.le_of_ble_eq_true rfl)⟩) hK hE hA hP hD hS 0 (T := TX8) (N := 48) (ci := 8) rfl rfl [0, 5] rfl (by decide) rfl rfl rfl rfl rfl rfl hl.1 (Nat.le_of_ble_eq_true rfl) dX8_putPlace_19 ⟨Nat.zero_le _, Nat.zero_le _⟩ (fun H locs hP hD hS => ?_)
  refine lv_aload_n hx hb dX8_putPlace_22 rfl (lv_at hl 0 rfl) ?_
  refine lv_aload_n hx hb dX8_putPlace_23 rfl (lv_at hl 0 rfl) ?_
  refine va_get (D := D) (ci := 8) (v := .ref (ad 104)) (C := RX8) (T := TX8) (N := 48) hx hb hts layX8 hown hK hP 0 rfl rfl 3 (by decide) (hts _ (inA q981)) (fun _ h9 => h9) rfl dX8_putPlace_24 ?_
  refine lv_iload_n hx hb dX8_putPlace_27 rfl (lv_at hl 1 rfl) ?_
  refine lv_sipush (v := 256) hx hb dX8_putPlace_28 (by decide) ?_
  refine lv_idiv hx hb dX8_putPlace_31 (by decide) ?_
  refine lv_iconst (v := 2) hx hb dX8_putPlace_32 (by decide) ?_
  refine lv_imul hx hb dX8_putPlace_33 ?_
  refine lv_iconst (v := 1) hx hb dX8_putPlace_34 (by decide) ?_
  refine lv_iadd hx hb dX8_putPlace_35 ?_
  obtain ⟨b4, hM⟩ := gd_use hM
  refine va_iald hx hb hK hP 4 0 rfl rfl b4 dX8_putPlace_36 ?_
  obtain ⟨r5, hcr5, hM⟩ := ob_use hM
  refine cl_V (As := [.int (o_C.2.2.2 (((a1 / 256) * 2) + 1).toNatClampNeg)]) (rest := []) (wM0 ad o_X o_L o_N o_T o_U o_O o_E o_Q r5 o_I ++ wMC cI ad o_C ++ wMV cI ad r5) [] ⟨hx, hb, hml, hown, hts⟩ (c_Model_put l D cI sd ad o_C o_X o_L o_N o_T o_U o_O o_E o_Q o_I r3 (o_C.2.2.2 (((a1 / 256) * 2) + 1).toNatClampNeg) r5 hcr5) (cwV2 hts q1531 mvX8_put rfl rfl ⟨(Nat.le_of_ble_eq_true rfl), (Nat.le_of_ble_eq_true rfl)⟩) hK hE hA hP hD hS 0 (T := TX8) (N := 48) (ci := 8) rfl rfl [0, 5] rfl (by decide) rfl rfl rfl rfl rfl rfl hl.1 (Nat.le_of_ble_eq_true rfl) dX8_putPlace_37 ⟨Nat.zero_le _, Nat.zero_le _⟩ (fun H locs hP hD hS => ?_)
  refine lv_iload_n hx hb dX8_putPlace_40 rfl (lv_at hl 1 rfl) ?_
  refine lv_sipush (v := 256) hx hb dX8_putPlace_41 (by decide) ?_
  refine lv_irem hx hb dX8_putPlace_44 (by decide) ?_
  refine lv_istore_n (lv' := [(2, .int (a1 - a1 / 256 * 256)), (0, .ref (ad 100)), (1, .int a1)]) hx hb dX8_putPlace_45 rfl hl (by decide) rfl (fun ls hl => ?_)
  refine lv_iload_n hx hb dX8_putPlace_46 rfl (lv_at hl 0 rfl) ?_
  refine lv_bipush (v := 99) hx hb dX8_putPlace_47 (by decide) ?_
  refine lv_icmp_le (tgt := 63) hx hb dX8_putPlace_49 (by decide) (fun c6 => ?_) (fun c6 => ?_)
  · replace hM := if_t c6 hM
    refine lv_iload_n hx hb dX8_putPlace_63 rfl (lv_at hl 0 rfl) ?_
    refine lv_bipush (v := 9) hx hb dX8_putPlace_64 (by decide) ?_
    refine lv_icmp_le (tgt := 83) hx hb dX8_putPlace_66 (by decide) (fun c7 => ?_) (fun c7 => ?_)
    · replace hM := if_t c7 hM
      refine lv_aload_n hx hb dX8_putPlace_83 rfl (lv_at hl 1 rfl) ?_
      refine lv_bipush (v := 48) hx hb dX8_putPlace_84 (by decide) ?_
      refine lv_iload_n hx hb dX8_putPlace_86 rfl (lv_at hl 0 rfl) ?_
      refine lv_bipush (v := 10) hx hb dX8_putPlace_87 (by decide) ?_
      refine lv_irem hx hb dX8_putPlace_89 (by decide) ?_
      refine lv_iadd hx hb dX8_putPlace_90 ?_
      obtain ⟨r8, hcr8, hM⟩ := ob_use hM
      refine cl_V (As := [.int (48 + ((a1 - a1 / 256 * 256) - (a1 - a1 / 256 * 256) / 10 * 10))]) (rest := []) (wM0 ad o_X o_L o_N o_T o_U o_O o_E o_Q r8 o_I ++ wMC cI ad o_C ++ wMV cI ad r8) [] ⟨hx, hb, hml, hown, hts⟩ (c_Model_put l D cI sd ad o_C o_X o_L o_N o_T o_U o_O o_E o_Q o_I r5 (48 + ((a1 - a1 / 256 * 256) - (a1 - a1 / 256 * 256) / 10 * 10)) r8 hcr8) (cwV2 hts q1531 mvX8_put rfl rfl ⟨(Nat.le_of_ble_eq_true rfl), (Nat.le_of_ble_eq_true rfl)⟩) hK hE hA hP hD hS 0 (T := TX8) (N := 48) (ci := 8) rfl rfl [0, 5] rfl (by decide) rfl rfl rfl rfl rfl rfl hl.1 (Nat.le_of_ble_eq_true rfl) dX8_putPlace_91 ⟨Nat.zero_le _, Nat.zero_le _⟩ (fun H locs hP hD hS => ?_)
      cases hM
      exact rt_v hx hb hr hlk hP hD hS rfl dX8_putPlace_94
    · replace hM := if_f c7 hM
      refine lv_aload_n hx hb dX8_putPlace_69 rfl (lv_at hl 1 rfl) ?_
      refine lv_bipush (v := 48) hx hb dX8_putPlace_70 (by decide) ?_
      refine lv_iload_n hx hb dX8_putPlace_72 rfl (lv_at hl 0 rfl) ?_
      refine lv_bipush (v := 10) hx hb dX8_putPlace_73 (by decide) ?_
      refine lv_idiv hx hb dX8_putPlace_75 (by decide) ?_
      refine lv_bipush (v := 10) hx hb dX8_putPlace_76 (by decide) ?_
      refine lv_irem hx hb dX8_putPlace_78 (by decide) ?_
      refine lv_iadd hx hb dX8_putPlace_79 ?_
      obtain ⟨r9, hcr9, hM⟩ := ob_use hM
      refine cl_V (As := [.int (48 + (((a1 - a1 / 256 * 256) / 10) - ((a1 - a1 / 256 * 256) / 10) / 10 * 10))]) (rest := []) (wM0 ad o_X o_L o_N o_T o_U o_O o_E o_Q r9 o_I ++ wMC cI ad o_C ++ wMV cI ad r9) [] ⟨hx, hb, hml, hown, hts⟩ (c_Model_put l D cI sd ad o_C o_X o_L o_N o_T o_U o_O o_E o_Q o_I r5 (48 + (((a1 - a1 / 256 * 256) / 10) - ((a1 - a1 / 256 * 256) / 10) / 10 * 10)) r9 hcr9) (cwV2 hts q1531 mvX8_put rfl rfl ⟨(Nat.le_of_ble_eq_true rfl), (Nat.le_of_ble_eq_true rfl)⟩) hK hE hA hP hD hS 0 (T := TX8) (N := 48) (ci := 8) rfl rfl [0, 5] rfl (by decide) rfl rfl rfl rfl rfl rfl hl.1 (Nat.le_of_ble_eq_true rfl) dX8_putPlace_80 ⟨Nat.zero_le _, Nat.zero_le _⟩ (fun H locs hP hD hS => ?_)
      refine lv_aload_n hx hb dX8_putPlace_83 rfl (lv_at hl 1 rfl) ?_
      refine lv_bipush (v := 48) hx hb dX8_putPlace_84 (by decide) ?_
      refine lv_iload_n hx hb dX8_putPlace_86 rfl (lv_at hl 0 rfl) ?_
      refine lv_bipush (v := 10) hx hb dX8_putPlace_87 (by decide) ?_
      refine lv_irem hx hb dX8_putPlace_89 (by decide) ?_
      refine lv_iadd hx hb dX8_putPlace_90 ?_
      obtain ⟨r10, hcr10, hM⟩ := ob_use hM
      refine cl_V (As := [.int (48 + ((a1 - a1 / 256 * 256) - (a1 - a1 / 256 * 256) / 10 * 10))]) (rest := []) (wM0 ad o_X o_L o_N o_T o_U o_O o_E o_Q r10 o_I ++ wMC cI ad o_C ++ wMV cI ad r10) [] ⟨hx, hb, hml, hown, hts⟩ (c_Model_put l D cI sd ad o_C o_X o_L o_N o_T o_U o_O o_E o_Q o_I r9 (48 + ((a1 - a1 / 256 * 256) - (a1 - a1 / 256 * 256) / 10 * 10)) r10 hcr10) (cwV2 hts q1531 mvX8_put rfl rfl ⟨(Nat.le_of_ble_eq_true rfl), (Nat.le_of_ble_eq_true rfl)⟩) hK hE hA hP hD hS 0 (T := TX8) (N := 48) (ci := 8) rfl rfl [0, 5] rfl (by decide) rfl rfl rfl rfl rfl rfl hl.1 (Nat.le_of_ble_eq_true rfl) dX8_putPlace_91 ⟨Nat.zero_le _, Nat.zero_le _⟩ (fun H locs hP hD hS => ?_)
      cases hM
      exact rt_v hx hb hr hlk hP hD hS rfl dX8_putPlace_94
  · replace hM := if_f c6 hM
    refine lv_aload_n hx hb dX8_putPlace_52 rfl (lv_at hl 1 rfl) ?_
    refine lv_bipush (v := 48) hx hb dX8_putPlace_53 (by decide) ?_
    refine lv_iload_n hx hb dX8_putPlace_55 rfl (lv_at hl 0 rfl) ?_
    refine lv_bipush (v := 100) hx hb dX8_putPlace_56 (by decide) ?_
    refine lv_idiv hx hb dX8_putPlace_58 (by decide) ?_
    refine lv_iadd hx hb dX8_putPlace_59 ?_
    obtain ⟨r11, hcr11, hM⟩ := ob_use hM
    refine cl_V (As := [.int (48 + ((a1 - a1 / 256 * 256) / 100))]) (rest := []) (wM0 ad o_X o_L o_N o_T o_U o_O o_E o_Q r11 o_I ++ wMC cI ad o_C ++ wMV cI ad r11) [] ⟨hx, hb, hml, hown, hts⟩ (c_Model_put l D cI sd ad o_C o_X o_L o_N o_T o_U o_O o_E o_Q o_I r5 (48 + ((a1 - a1 / 256 * 256) / 100)) r11 hcr11) (cwV2 hts q1531 mvX8_put rfl rfl ⟨(Nat.le_of_ble_eq_true rfl), (Nat.le_of_ble_eq_true rfl)⟩) hK hE hA hP hD hS 0 (T := TX8) (N := 48) (ci := 8) rfl rfl [0, 5] rfl (by decide) rfl rfl rfl rfl rfl rfl hl.1 (Nat.le_of_ble_eq_true rfl) dX8_putPlace_60 ⟨Nat.zero_le _, Nat.zero_le _⟩ (fun H locs hP hD hS => ?_)
    refine lv_iload_n hx hb dX8_putPlace_63 rfl (lv_at hl 0 rfl) ?_
    refine lv_bipush (v := 9) hx hb dX8_putPlace_64 (by decide) ?_
    refine lv_icmp_le (tgt := 83) hx hb dX8_putPlace_66 (by decide) (fun c12 => ?_) (fun c12 => ?_)
    · replace hM := if_t c12 hM
      refine lv_aload_n hx hb dX8_putPlace_83 rfl (lv_at hl 1 rfl) ?_
      refine lv_bipush (v := 48) hx hb dX8_putPlace_84 (by decide) ?_
      refine lv_iload_n hx hb dX8_putPlace_86 rfl (lv_at hl 0 rfl) ?_
      refine lv_bipush (v := 10) hx hb dX8_putPlace_87 (by decide) ?_
      refine lv_irem hx hb dX8_putPlace_89 (by decide) ?_
      refine lv_iadd hx hb dX8_putPlace_90 ?_
      obtain ⟨r13, hcr13, hM⟩ := ob_use hM
      refine cl_V (As := [.int (48 + ((a1 - a1 / 256 * 256) - (a1 - a1 / 256 * 256) / 10 * 10))]) (rest := []) (wM0 ad o_X o_L o_N o_T o_U o_O o_E o_Q r13 o_I ++ wMC cI ad o_C ++ wMV cI ad r13) [] ⟨hx, hb, hml, hown, hts⟩ (c_Model_put l D cI sd ad o_C o_X o_L o_N o_T o_U o_O o_E o_Q o_I r11 (48 + ((a1 - a1 / 256 * 256) - (a1 - a1 / 256 * 256) / 10 * 10)) r13 hcr13) (cwV2 hts q1531 mvX8_put rfl rfl ⟨(Nat.le_of_ble_eq_true rfl), (Nat.le_of_ble_eq_true rfl)⟩) hK hE hA hP hD hS 0 (T := TX8) (N := 48) (ci := 8) rfl rfl [0, 5] rfl (by decide) rfl rfl rfl rfl rfl rfl hl.1 (Nat.le_of_ble_eq_true rfl) dX8_putPlace_91 ⟨Nat.zero_le _, Nat.zero_le _⟩ (fun H locs hP hD hS => ?_)
      cases hM
      exact rt_v hx hb hr hlk hP hD hS rfl dX8_putPlace_94
    · replace hM := if_f c12 hM
      refine lv_aload_n hx hb dX8_putPlace_69 rfl (lv_at hl 1 rfl) ?_
      refine lv_bipush (v := 48) hx hb dX8_putPlace_70 (by decide) ?_
      refine lv_iload_n hx hb dX8_putPlace_72 rfl (lv_at hl 0 rfl) ?_
      refine lv_bipush (v := 10) hx hb dX8_putPlace_73 (by decide) ?_
      refine lv_idiv hx hb dX8_putPlace_75 (by decide) ?_
      refine lv_bipush (v := 10) hx hb dX8_putPlace_76 (by decide) ?_
      refine lv_irem hx hb dX8_putPlace_78 (by decide) ?_
      refine lv_iadd hx hb dX8_putPlace_79 ?_
      obtain ⟨r14, hcr14, hM⟩ := ob_use hM
      refine cl_V (As := [.int (48 + (((a1 - a1 / 256 * 256) / 10) - ((a1 - a1 / 256 * 256) / 10) / 10 * 10))]) (rest := []) (wM0 ad o_X o_L o_N o_T o_U o_O o_E o_Q r14 o_I ++ wMC cI ad o_C ++ wMV cI ad r14) [] ⟨hx, hb, hml, hown, hts⟩ (c_Model_put l D cI sd ad o_C o_X o_L o_N o_T o_U o_O o_E o_Q o_I r11 (48 + (((a1 - a1 / 256 * 256) / 10) - ((a1 - a1 / 256 * 256) / 10) / 10 * 10)) r14 hcr14) (cwV2 hts q1531 mvX8_put rfl rfl ⟨(Nat.le_of_ble_eq_true rfl), (Nat.le_of_ble_eq_true rfl)⟩) hK hE hA hP hD hS 0 (T := TX8) (N := 48) (ci := 8) rfl rfl [0, 5] rfl (by decide) rfl rfl rfl rfl rfl rfl hl.1 (Nat.le_of_ble_eq_true rfl) dX8_putPlace_80 ⟨Nat.zero_le _, Nat.zero_le _⟩ (fun H locs hP hD hS => ?_)
      refine lv_aload_n hx hb dX8_putPlace_83 rfl (lv_at hl 1 rfl) ?_
      refine lv_bipush (v := 48) hx hb dX8_putPlace_84 (by decide) ?_
      refine lv_iload_n hx hb dX8_putPlace_86 rfl (lv_at hl 0 rfl) ?_
      refine lv_bipush (v := 10) hx hb dX8_putPlace_87 (by decide) ?_
      refine lv_irem hx hb dX8_putPlace_89 (by decide) ?_
      refine lv_iadd hx hb dX8_putPlace_90 ?_
      obtain ⟨r15, hcr15, hM⟩ := ob_use hM
      refine cl_V (As := [.int (48 + ((a1 - a1 / 256 * 256) - (a1 - a1 / 256 * 256) / 10 * 10))]) (rest := []) (wM0 ad o_X o_L o_N o_T o_U o_O o_E o_Q r15 o_I ++ wMC cI ad o_C ++ wMV cI ad r15) [] ⟨hx, hb, hml, hown, hts⟩ (c_Model_put l D cI sd ad o_C o_X o_L o_N o_T o_U o_O o_E o_Q o_I r14 (48 + ((a1 - a1 / 256 * 256) - (a1 - a1 / 256 * 256) / 10 * 10)) r15 hcr15) (cwV2 hts q1531 mvX8_put rfl rfl ⟨(Nat.le_of_ble_eq_true rfl), (Nat.le_of_ble_eq_true rfl)⟩) hK hE hA hP hD hS 0 (T := TX8) (N := 48) (ci := 8) rfl rfl [0, 5] rfl (by decide) rfl rfl rfl rfl rfl rfl hl.1 (Nat.le_of_ble_eq_true rfl) dX8_putPlace_91 ⟨Nat.zero_le _, Nat.zero_le _⟩ (fun H locs hP hD hS => ?_)
      cases hM
      exact rt_v hx hb hr hlk hP hD hS rfl dX8_putPlace_94

set_option maxHeartbeats 4000000 in
set_option maxRecDepth 100000 in
theorem c_Model_second (l : Launch) (D : va_G) (cI : ClassId) (sd : Nat → Nat) (ad : Nat → Nat) (o_C : S_MC) (o_X : S_MX) (o_L : S_ML) (o_N : S_MN) (o_U : S_MU) (o_O : S_MO) (o_E : S_ME) (o_Q : S_MQ) (o_V : S_MV) (o_I : S_MI) (o_T : S_MT) (a1 : Int32) (res : Int32) (hM : f_Model_second o_T a1 = some res) : Ctr l D cI sd yX8_second (wsM yX8_second cX8_second 2 (Option.some Jvm.ClassFile.FieldType.int)) { frames := 0, cells := 0, slots := 0, locals := 0 } [.ref (ad 100), .int a1] (wM0 ad o_X o_L o_N o_T o_U o_O o_E o_Q o_V o_I ++ wMT cI ad o_T) (wM0 ad o_X o_L o_N o_T o_U o_O o_E o_Q o_V o_I ++ wMT cI ad o_T) (some (.int res)) := by
  refine Ctr.of (cc := cX8_second) (maxL := 2) (own := RX8) (by decide +kernel) rfl rfl (Nat.le_of_ble_eq_true rfl) ?_
  intro p e s m below meth c A ls hx hb hr hml hown hts hlk hK hE hA hP hD hS hl
  have hl : lv_has ls 2 [(0, .ref (ad 100)), (1, .int a1)] := hl
  unfold f_Model_second at hM
  refine lv_aload_n hx hb dX8_second_0 rfl (lv_at hl 0 rfl) ?_
  refine va_get (D := D) (ci := 8) (v := .ref (ad 114)) (C := RX8) (T := TX8) (N := 48) hx hb hts layX8 hown hK hP 0 rfl rfl 23 (by decide) (hts _ (inA q1001)) (fun _ h9 => h9) rfl dX8_second_1 ?_
  refine lv_aload_n hx hb dX8_second_4 rfl (lv_at hl 0 rfl) ?_
  refine va_get (D := D) (ci := 8) (v := .ref (ad 112)) (C := RX8) (T := TX8) (N := 48) hx hb hts layX8 hown hK hP 0 rfl rfl 21 (by decide) (hts _ (inA q999)) (fun _ h9 => h9) rfl dX8_second_5 ?_
  refine lv_iload_n hx hb dX8_second_8 rfl (lv_at hl 1 rfl) ?_
  obtain ⟨b1, hM⟩ := gd_use hM
  refine va_iald hx hb hK hP 5 0 rfl rfl b1 dX8_second_9 ?_
  obtain ⟨b2, hM⟩ := gd_use hM
  refine va_iald hx hb hK hP 7 0 rfl rfl b2 dX8_second_10 ?_
  cases hM
  exact rt_i hx hb hr hlk hP hD hS rfl dX8_second_11

set_option maxHeartbeats 4000000 in
set_option maxRecDepth 100000 in
theorem c_Model_itemOperand (l : Launch) (D : va_G) (cI : ClassId) (sd : Nat → Nat) (ad : Nat → Nat) (o_C : S_MC) (o_X : S_MX) (o_L : S_ML) (o_N : S_MN) (o_U : S_MU) (o_O : S_MO) (o_E : S_ME) (o_Q : S_MQ) (o_V : S_MV) (o_T : S_MT) (o_I : S_MI) (a1 : Int32) (a2 : Int32) (a3 : Int32) (res : S_MI) (hM : f_Model_itemOperand o_T o_I a1 a2 a3 = some res) : Ctr l D cI sd yX8_itemOperand (wsM yX8_itemOperand cX8_itemOperand 8 (Option.none : Option Jvm.ClassFile.FieldType)) { frames := 1, cells := 0, slots := 0, locals := 22 } [.ref (ad 100), .int a1, .int a2, .int a3] (wM0 ad o_X o_L o_N o_T o_U o_O o_E o_Q o_V o_I ++ wMT cI ad o_T ++ wMI cI ad o_I) (wM0 ad o_X o_L o_N o_T o_U o_O o_E o_Q o_V res ++ wMT cI ad o_T ++ wMI cI ad res) none := by
  refine Ctr.of (cc := cX8_itemOperand) (maxL := 8) (own := RX8) (by decide +kernel) rfl rfl (Nat.le_of_ble_eq_true rfl) ?_
  intro p e s m below meth c A ls hx hb hr hml hown hts hlk hK hE hA hP hD hS hl
  have hl : lv_has ls 8 [(0, .ref (ad 100)), (1, .int a1), (2, .int a2), (3, .int a3)] := hl
  unfold f_Model_itemOperand at hM
  refine lv_aload_n hx hb dX8_itemOperand_0 rfl (lv_at hl 0 rfl) ?_
  refine va_get (D := D) (ci := 8) (v := .ref (ad 108)) (C := RX8) (T := TX8) (N := 48) hx hb hts layX8 hown hK hP 0 rfl rfl 17 (by decide) (hts _ (inA q995)) (fun _ h9 => h9) rfl dX8_itemOperand_1 ?_
  refine lv_iload_n hx hb dX8_itemOperand_4 rfl (lv_at hl 1 rfl) ?_
  obtain ⟨b1, hM⟩ := gd_use hM
  refine va_iald hx hb hK hP 1 0 rfl rfl b1 dX8_itemOperand_5 ?_
  refine lv_bipush (v := 35) hx hb dX8_itemOperand_6 (by decide) ?_
  refine lv_icmp_ne (tgt := 15) hx hb dX8_itemOperand_8 (by decide) (fun c2 => ?_) (fun c2 => ?_)
  · replace hM := if_f c2 hM
    refine lv_iconst (v := 0) hx hb dX8_itemOperand_15 (by decide) ?_
    refine lv_istore (lv' := [(4, .int 0), (0, .ref (ad 100)), (1, .int a1), (2, .int a2), (3, .int a3)]) hx hb dX8_itemOperand_16 hl (by decide) rfl (fun ls hl => ?_)
    refine lv_iload hx hb dX8_itemOperand_18 (lv_at hl 0 rfl) ?_
    refine lv_if_eq (tgt := 35) hx hb dX8_itemOperand_20 (by decide) (fun c3 => ?_) (fun c3 => False.elim (by revert c3; decide))
    refine lv_iconst (v := 0) hx hb dX8_itemOperand_35 (by decide) ?_
    refine lv_istore (lv' := [(5, .int 0), (4, .int 0), (0, .ref (ad 100)), (1, .int a1), (2, .int a2), (3, .int a3)]) hx hb dX8_itemOperand_36 hl (by decide) rfl (fun ls hl => ?_)
    refine lv_aload_n hx hb dX8_itemOperand_38 rfl (lv_at hl 2 rfl) ?_
    refine va_get (D := D) (ci := 8) (v := .ref (ad 108)) (C := RX8) (T := TX8) (N := 48) hx hb hts layX8 hown hK hP 0 rfl rfl 17 (by decide) (hts _ (inA q995)) (fun _ h9 => h9) rfl dX8_itemOperand_39 ?_
    refine lv_iload_n hx hb dX8_itemOperand_42 rfl (lv_at hl 4 rfl) ?_
    obtain ⟨b4, hM⟩ := gd_use hM
    refine va_iald hx hb hK hP 1 0 rfl rfl b4 dX8_itemOperand_43 ?_
    refine lv_bipush (v := 36) hx hb dX8_itemOperand_44 (by decide) ?_
    refine lv_icmp_ne (tgt := 54) hx hb dX8_itemOperand_46 (by decide) (fun c5 => ?_) (fun c5 => ?_)
    · replace hM := if_f c5 hM
      refine lv_aload_n hx hb dX8_itemOperand_54 rfl (lv_at hl 2 rfl) ?_
      refine va_get (D := D) (ci := 8) (v := .ref (ad 110)) (C := RX8) (T := TX8) (N := 48) hx hb hts layX8 hown hK hP 0 rfl rfl 19 (by decide) (hts _ (inA q997)) (fun _ h9 => h9) rfl dX8_itemOperand_55 ?_
      refine lv_iload_n hx hb dX8_itemOperand_58 rfl (lv_at hl 4 rfl) ?_
      obtain ⟨b6, hM⟩ := gd_use hM
      refine va_iald hx hb hK hP 3 0 rfl rfl b6 dX8_itemOperand_59 ?_
      obtain ⟨r7, hcr7, hM⟩ := ob_use hM
      refine cl_S (As := [.int (o_T.2.2.2.2.1 a2.toNatClampNeg)]) (rest := []) (wM0 ad o_X o_L o_N o_T o_U o_O o_E o_Q o_V o_I ++ wMT cI ad o_T ++ wMI cI ad o_I) (.int r7 :: []) ⟨hx, hb, hml, hown, hts⟩ (c_Model_closeness l D cI sd ad (o_T.2.2.2.2.1 a2.toNatClampNeg) r7 hcr7) (cwS2 hts q1413 mvX8_closeness rfl rfl ⟨(Nat.le_of_ble_eq_true rfl), (Nat.le_of_ble_eq_true rfl)⟩) hK hE hA hP hD hS [] rfl (by decide) rfl rfl rfl rfl rfl rfl hl.1 (Nat.le_of_ble_eq_true rfl) dX8_itemOperand_60 ⟨Nat.zero_le _, Nat.zero_le _⟩ (fun H locs hP hD hS => ?_)
      refine lv_istore (lv' := [(6, .int r7), (5, .int 0), (4, .int 0), (0, .ref (ad 100)), (1, .int a1), (2, .int a2), (3, .int a3)]) hx hb dX8_itemOperand_63 hl (by decide) rfl (fun ls hl => ?_)
      refine lv_iload hx hb dX8_itemOperand_65 (lv_at hl 2 rfl) ?_
      refine lv_if_eq (tgt := 92) hx hb dX8_itemOperand_67 (by decide) (fun c8 => ?_) (fun c8 => False.elim (by revert c8; decide))
      refine lv_iconst (v := 0) hx hb dX8_itemOperand_92 (by decide) ?_
      refine lv_istore (lv' := [(7, .int 0), (6, .int r7), (5, .int 0), (4, .int 0), (0, .ref (ad 100)), (1, .int a1), (2, .int a2), (3, .int a3)]) hx hb dX8_itemOperand_93 hl (by decide) rfl (fun ls hl => ?_)
      refine lv_iload hx hb dX8_itemOperand_95 (lv_at hl 0 rfl) ?_
      refine lv_if_eq (tgt := 107) hx hb dX8_itemOperand_97 (by decide) (fun c9 => ?_) (fun c9 => False.elim (by revert c9; decide))
      refine lv_aload_n hx hb dX8_itemOperand_107 rfl (lv_at hl 4 rfl) ?_
      refine lv_iconst (v := 1) hx hb dX8_itemOperand_108 (by decide) ?_
      refine lv_iload_n hx hb dX8_itemOperand_109 rfl (lv_at hl 5 rfl) ?_
      obtain ⟨r10, hcr10, hM⟩ := ob_use hM
      refine cl_V (As := [.int 1, .int a1]) (rest := []) (wM0 ad o_X o_L o_N o_T o_U o_O o_E o_Q o_V r10 ++ wMT cI ad o_T ++ wMI cI ad r10) [] ⟨hx, hb, hml, hown, hts⟩ (c_Model_item l D cI sd ad o_C o_X o_L o_N o_T o_U o_O o_E o_Q o_V o_I 1 a1 r10 hcr10) (cwV2 hts q1512 mvX8_item rfl rfl ⟨(Nat.le_of_ble_eq_true rfl), (Nat.le_of_ble_eq_true rfl)⟩) hK hE hA hP hD hS 0 (T := TX8) (N := 48) (ci := 8) rfl rfl [0, 8, 9] rfl (by decide) rfl rfl rfl rfl rfl rfl hl.1 (Nat.le_of_ble_eq_true rfl) dX8_itemOperand_110 ⟨Nat.zero_le _, Nat.zero_le _⟩ (fun H locs hP hD hS => ?_)
      refine lv_iload hx hb dX8_itemOperand_113 (lv_at hl 0 rfl) ?_
      refine lv_if_eq (tgt := 125) hx hb dX8_itemOperand_115 (by decide) (fun c11 => ?_) (fun c11 => False.elim (by revert c11; decide))
      cases hM
      exact rt_v hx hb hr hlk hP hD hS rfl dX8_itemOperand_125
    · replace hM := if_t c5 hM
      refine lv_bipush (v := 8) hx hb dX8_itemOperand_49 (by decide) ?_
      refine lv_goto (tgt := 63) hx hb dX8_itemOperand_51 (by decide) ?_
      refine lv_istore (lv' := [(6, .int 8), (5, .int 0), (4, .int 0), (0, .ref (ad 100)), (1, .int a1), (2, .int a2), (3, .int a3)]) hx hb dX8_itemOperand_63 hl (by decide) rfl (fun ls hl => ?_)
      refine lv_iload hx hb dX8_itemOperand_65 (lv_at hl 2 rfl) ?_
      refine lv_if_eq (tgt := 92) hx hb dX8_itemOperand_67 (by decide) (fun c12 => ?_) (fun c12 => False.elim (by revert c12; decide))
      refine lv_iconst (v := 0) hx hb dX8_itemOperand_92 (by decide) ?_
      refine lv_istore (lv' := [(7, .int 0), (6, .int 8), (5, .int 0), (4, .int 0), (0, .ref (ad 100)), (1, .int a1), (2, .int a2), (3, .int a3)]) hx hb dX8_itemOperand_93 hl (by decide) rfl (fun ls hl => ?_)
      refine lv_iload hx hb dX8_itemOperand_95 (lv_at hl 0 rfl) ?_
      refine lv_if_eq (tgt := 107) hx hb dX8_itemOperand_97 (by decide) (fun c13 => ?_) (fun c13 => False.elim (by revert c13; decide))
      refine lv_aload_n hx hb dX8_itemOperand_107 rfl (lv_at hl 4 rfl) ?_
      refine lv_iconst (v := 1) hx hb dX8_itemOperand_108 (by decide) ?_
      refine lv_iload_n hx hb dX8_itemOperand_109 rfl (lv_at hl 5 rfl) ?_
      obtain ⟨r14, hcr14, hM⟩ := ob_use hM
      refine cl_V (As := [.int 1, .int a1]) (rest := []) (wM0 ad o_X o_L o_N o_T o_U o_O o_E o_Q o_V r14 ++ wMT cI ad o_T ++ wMI cI ad r14) [] ⟨hx, hb, hml, hown, hts⟩ (c_Model_item l D cI sd ad o_C o_X o_L o_N o_T o_U o_O o_E o_Q o_V o_I 1 a1 r14 hcr14) (cwV2 hts q1512 mvX8_item rfl rfl ⟨(Nat.le_of_ble_eq_true rfl), (Nat.le_of_ble_eq_true rfl)⟩) hK hE hA hP hD hS 0 (T := TX8) (N := 48) (ci := 8) rfl rfl [0, 8, 9] rfl (by decide) rfl rfl rfl rfl rfl rfl hl.1 (Nat.le_of_ble_eq_true rfl) dX8_itemOperand_110 ⟨Nat.zero_le _, Nat.zero_le _⟩ (fun H locs hP hD hS => ?_)
      refine lv_iload hx hb dX8_itemOperand_113 (lv_at hl 0 rfl) ?_
      refine lv_if_eq (tgt := 125) hx hb dX8_itemOperand_115 (by decide) (fun c15 => ?_) (fun c15 => False.elim (by revert c15; decide))
      cases hM
      exact rt_v hx hb hr hlk hP hD hS rfl dX8_itemOperand_125
  · replace hM := if_t c2 hM
    refine lv_iconst (v := 1) hx hb dX8_itemOperand_11 (by decide) ?_
    refine lv_goto (tgt := 16) hx hb dX8_itemOperand_12 (by decide) ?_
    refine lv_istore (lv' := [(4, .int 1), (0, .ref (ad 100)), (1, .int a1), (2, .int a2), (3, .int a3)]) hx hb dX8_itemOperand_16 hl (by decide) rfl (fun ls hl => ?_)
    refine lv_iload hx hb dX8_itemOperand_18 (lv_at hl 0 rfl) ?_
    refine lv_if_eq (tgt := 35) hx hb dX8_itemOperand_20 (by decide) (fun c16 => False.elim (by revert c16; decide)) (fun c16 => ?_)
    refine lv_aload_n hx hb dX8_itemOperand_23 rfl (lv_at hl 1 rfl) ?_
    refine va_get (D := D) (ci := 8) (v := .ref (ad 110)) (C := RX8) (T := TX8) (N := 48) hx hb hts layX8 hown hK hP 0 rfl rfl 19 (by decide) (hts _ (inA q997)) (fun _ h9 => h9) rfl dX8_itemOperand_24 ?_
    refine lv_iload_n hx hb dX8_itemOperand_27 rfl (lv_at hl 2 rfl) ?_
    obtain ⟨b17, hM⟩ := gd_use hM
    refine va_iald hx hb hK hP 3 0 rfl rfl b17 dX8_itemOperand_28 ?_
    obtain ⟨r18, hcr18, hM⟩ := ob_use hM
    refine cl_S (As := [.int (o_T.2.2.2.2.1 a1.toNatClampNeg)]) (rest := []) (wM0 ad o_X o_L o_N o_T o_U o_O o_E o_Q o_V o_I ++ wMT cI ad o_T ++ wMI cI ad o_I) (.int r18 :: []) ⟨hx, hb, hml, hown, hts⟩ (c_Model_closeness l D cI sd ad (o_T.2.2.2.2.1 a1.toNatClampNeg) r18 hcr18) (cwS2 hts q1413 mvX8_closeness rfl rfl ⟨(Nat.le_of_ble_eq_true rfl), (Nat.le_of_ble_eq_true rfl)⟩) hK hE hA hP hD hS [] rfl (by decide) rfl rfl rfl rfl rfl rfl hl.1 (Nat.le_of_ble_eq_true rfl) dX8_itemOperand_29 ⟨Nat.zero_le _, Nat.zero_le _⟩ (fun H locs hP hD hS => ?_)
    refine lv_goto (tgt := 36) hx hb dX8_itemOperand_32 (by decide) ?_
    refine lv_istore (lv' := [(5, .int r18), (4, .int 1), (0, .ref (ad 100)), (1, .int a1), (2, .int a2), (3, .int a3)]) hx hb dX8_itemOperand_36 hl (by decide) rfl (fun ls hl => ?_)
    refine lv_aload_n hx hb dX8_itemOperand_38 rfl (lv_at hl 2 rfl) ?_
    refine va_get (D := D) (ci := 8) (v := .ref (ad 108)) (C := RX8) (T := TX8) (N := 48) hx hb hts layX8 hown hK hP 0 rfl rfl 17 (by decide) (hts _ (inA q995)) (fun _ h9 => h9) rfl dX8_itemOperand_39 ?_
    refine lv_iload_n hx hb dX8_itemOperand_42 rfl (lv_at hl 4 rfl) ?_
    obtain ⟨b19, hM⟩ := gd_use hM
    refine va_iald hx hb hK hP 1 0 rfl rfl b19 dX8_itemOperand_43 ?_
    refine lv_bipush (v := 36) hx hb dX8_itemOperand_44 (by decide) ?_
    refine lv_icmp_ne (tgt := 54) hx hb dX8_itemOperand_46 (by decide) (fun c20 => ?_) (fun c20 => ?_)
    · replace hM := if_f c20 hM
      refine lv_aload_n hx hb dX8_itemOperand_54 rfl (lv_at hl 2 rfl) ?_
      refine va_get (D := D) (ci := 8) (v := .ref (ad 110)) (C := RX8) (T := TX8) (N := 48) hx hb hts layX8 hown hK hP 0 rfl rfl 19 (by decide) (hts _ (inA q997)) (fun _ h9 => h9) rfl dX8_itemOperand_55 ?_
      refine lv_iload_n hx hb dX8_itemOperand_58 rfl (lv_at hl 4 rfl) ?_
      obtain ⟨b21, hM⟩ := gd_use hM
      refine va_iald hx hb hK hP 3 0 rfl rfl b21 dX8_itemOperand_59 ?_
      obtain ⟨r22, hcr22, hM⟩ := ob_use hM
      refine cl_S (As := [.int (o_T.2.2.2.2.1 a2.toNatClampNeg)]) (rest := []) (wM0 ad o_X o_L o_N o_T o_U o_O o_E o_Q o_V o_I ++ wMT cI ad o_T ++ wMI cI ad o_I) (.int r22 :: []) ⟨hx, hb, hml, hown, hts⟩ (c_Model_closeness l D cI sd ad (o_T.2.2.2.2.1 a2.toNatClampNeg) r22 hcr22) (cwS2 hts q1413 mvX8_closeness rfl rfl ⟨(Nat.le_of_ble_eq_true rfl), (Nat.le_of_ble_eq_true rfl)⟩) hK hE hA hP hD hS [] rfl (by decide) rfl rfl rfl rfl rfl rfl hl.1 (Nat.le_of_ble_eq_true rfl) dX8_itemOperand_60 ⟨Nat.zero_le _, Nat.zero_le _⟩ (fun H locs hP hD hS => ?_)
      refine lv_istore (lv' := [(6, .int r22), (5, .int r18), (4, .int 1), (0, .ref (ad 100)), (1, .int a1), (2, .int a2), (3, .int a3)]) hx hb dX8_itemOperand_63 hl (by decide) rfl (fun ls hl => ?_)
      refine lv_iload hx hb dX8_itemOperand_65 (lv_at hl 2 rfl) ?_
      refine lv_if_eq (tgt := 92) hx hb dX8_itemOperand_67 (by decide) (fun c23 => False.elim (by revert c23; decide)) (fun c23 => ?_)
      refine lv_iload hx hb dX8_itemOperand_70 (lv_at hl 0 rfl) ?_
      refine lv_iload hx hb dX8_itemOperand_72 (lv_at hl 1 rfl) ?_
      refine lv_icmp_gt (tgt := 88) hx hb dX8_itemOperand_74 (by decide) (fun c24 => ?_) (fun c24 => ?_)
      · replace hM := if_t c24 hM
        refine lv_iconst (v := 1) hx hb dX8_itemOperand_88 (by decide) ?_
        refine lv_goto (tgt := 93) hx hb dX8_itemOperand_89 (by decide) ?_
        refine lv_istore (lv' := [(7, .int 1), (6, .int r22), (5, .int r18), (4, .int 1), (0, .ref (ad 100)), (1, .int a1), (2, .int a2), (3, .int a3)]) hx hb dX8_itemOperand_93 hl (by decide) rfl (fun ls hl => ?_)
        refine lv_iload hx hb dX8_itemOperand_95 (lv_at hl 0 rfl) ?_
        refine lv_if_eq (tgt := 107) hx hb dX8_itemOperand_97 (by decide) (fun c25 => False.elim (by revert c25; decide)) (fun c25 => ?_)
        refine lv_aload_n hx hb dX8_itemOperand_100 rfl (lv_at hl 4 rfl) ?_
        refine lv_iconst (v := 0) hx hb dX8_itemOperand_101 (by decide) ?_
        refine lv_bipush (v := 56) hx hb dX8_itemOperand_102 (by decide) ?_
        obtain ⟨r26, hcr26, hM⟩ := ob_use hM
        refine cl_V (As := [.int 0, .int 56]) (rest := []) (wM0 ad o_X o_L o_N o_T o_U o_O o_E o_Q o_V r26 ++ wMT cI ad o_T ++ wMI cI ad r26) [] ⟨hx, hb, hml, hown, hts⟩ (c_Model_item l D cI sd ad o_C o_X o_L o_N o_T o_U o_O o_E o_Q o_V o_I 0 56 r26 hcr26) (cwV2 hts q1512 mvX8_item rfl rfl ⟨(Nat.le_of_ble_eq_true rfl), (Nat.le_of_ble_eq_true rfl)⟩) hK hE hA hP hD hS 0 (T := TX8) (N := 48) (ci := 8) rfl rfl [0, 8, 9] rfl (by decide) rfl rfl rfl rfl rfl rfl hl.1 (Nat.le_of_ble_eq_true rfl) dX8_itemOperand_104 ⟨Nat.zero_le _, Nat.zero_le _⟩ (fun H locs hP hD hS => ?_)
        refine lv_aload_n hx hb dX8_itemOperand_107 rfl (lv_at hl 4 rfl) ?_
        refine lv_iconst (v := 1) hx hb dX8_itemOperand_108 (by decide) ?_
        refine lv_iload_n hx hb dX8_itemOperand_109 rfl (lv_at hl 5 rfl) ?_
        obtain ⟨r27, hcr27, hM⟩ := ob_use hM
        refine cl_V (As := [.int 1, .int a1]) (rest := []) (wM0 ad o_X o_L o_N o_T o_U o_O o_E o_Q o_V r27 ++ wMT cI ad o_T ++ wMI cI ad r27) [] ⟨hx, hb, hml, hown, hts⟩ (c_Model_item l D cI sd ad o_C o_X o_L o_N o_T o_U o_O o_E o_Q o_V r26 1 a1 r27 hcr27) (cwV2 hts q1512 mvX8_item rfl rfl ⟨(Nat.le_of_ble_eq_true rfl), (Nat.le_of_ble_eq_true rfl)⟩) hK hE hA hP hD hS 0 (T := TX8) (N := 48) (ci := 8) rfl rfl [0, 8, 9] rfl (by decide) rfl rfl rfl rfl rfl rfl hl.1 (Nat.le_of_ble_eq_true rfl) dX8_itemOperand_110 ⟨Nat.zero_le _, Nat.zero_le _⟩ (fun H locs hP hD hS => ?_)
        refine lv_iload hx hb dX8_itemOperand_113 (lv_at hl 0 rfl) ?_
        refine lv_if_eq (tgt := 125) hx hb dX8_itemOperand_115 (by decide) (fun c28 => False.elim (by revert c28; decide)) (fun c28 => ?_)
        refine lv_aload_n hx hb dX8_itemOperand_118 rfl (lv_at hl 4 rfl) ?_
        refine lv_iconst (v := 0) hx hb dX8_itemOperand_119 (by decide) ?_
        refine lv_bipush (v := 55) hx hb dX8_itemOperand_120 (by decide) ?_
        obtain ⟨r29, hcr29, hM⟩ := ob_use hM
        refine cl_V (As := [.int 0, .int 55]) (rest := []) (wM0 ad o_X o_L o_N o_T o_U o_O o_E o_Q o_V r29 ++ wMT cI ad o_T ++ wMI cI ad r29) [] ⟨hx, hb, hml, hown, hts⟩ (c_Model_item l D cI sd ad o_C o_X o_L o_N o_T o_U o_O o_E o_Q o_V r27 0 55 r29 hcr29) (cwV2 hts q1512 mvX8_item rfl rfl ⟨(Nat.le_of_ble_eq_true rfl), (Nat.le_of_ble_eq_true rfl)⟩) hK hE hA hP hD hS 0 (T := TX8) (N := 48) (ci := 8) rfl rfl [0, 8, 9] rfl (by decide) rfl rfl rfl rfl rfl rfl hl.1 (Nat.le_of_ble_eq_true rfl) dX8_itemOperand_122 ⟨Nat.zero_le _, Nat.zero_le _⟩ (fun H locs hP hD hS => ?_)
        cases hM
        exact rt_v hx hb hr hlk hP hD hS rfl dX8_itemOperand_125
      · replace hM := if_f c24 hM
        refine lv_iload_n hx hb dX8_itemOperand_77 rfl (lv_at hl 6 rfl) ?_
        refine lv_if_eq (tgt := 92) hx hb dX8_itemOperand_78 (by decide) (fun c30 => ?_) (fun c30 => ?_)
        · replace hM := if_t c30 hM
          refine lv_iconst (v := 0) hx hb dX8_itemOperand_92 (by decide) ?_
          refine lv_istore (lv' := [(7, .int 0), (6, .int r22), (5, .int r18), (4, .int 1), (0, .ref (ad 100)), (1, .int a1), (2, .int a2), (3, .int a3)]) hx hb dX8_itemOperand_93 hl (by decide) rfl (fun ls hl => ?_)
          refine lv_iload hx hb dX8_itemOperand_95 (lv_at hl 0 rfl) ?_
          refine lv_if_eq (tgt := 107) hx hb dX8_itemOperand_97 (by decide) (fun c31 => ?_) (fun c31 => False.elim (by revert c31; decide))
          refine lv_aload_n hx hb dX8_itemOperand_107 rfl (lv_at hl 4 rfl) ?_
          refine lv_iconst (v := 1) hx hb dX8_itemOperand_108 (by decide) ?_
          refine lv_iload_n hx hb dX8_itemOperand_109 rfl (lv_at hl 5 rfl) ?_
          obtain ⟨r32, hcr32, hM⟩ := ob_use hM
          refine cl_V (As := [.int 1, .int a1]) (rest := []) (wM0 ad o_X o_L o_N o_T o_U o_O o_E o_Q o_V r32 ++ wMT cI ad o_T ++ wMI cI ad r32) [] ⟨hx, hb, hml, hown, hts⟩ (c_Model_item l D cI sd ad o_C o_X o_L o_N o_T o_U o_O o_E o_Q o_V o_I 1 a1 r32 hcr32) (cwV2 hts q1512 mvX8_item rfl rfl ⟨(Nat.le_of_ble_eq_true rfl), (Nat.le_of_ble_eq_true rfl)⟩) hK hE hA hP hD hS 0 (T := TX8) (N := 48) (ci := 8) rfl rfl [0, 8, 9] rfl (by decide) rfl rfl rfl rfl rfl rfl hl.1 (Nat.le_of_ble_eq_true rfl) dX8_itemOperand_110 ⟨Nat.zero_le _, Nat.zero_le _⟩ (fun H locs hP hD hS => ?_)
          refine lv_iload hx hb dX8_itemOperand_113 (lv_at hl 0 rfl) ?_
          refine lv_if_eq (tgt := 125) hx hb dX8_itemOperand_115 (by decide) (fun c33 => ?_) (fun c33 => False.elim (by revert c33; decide))
          cases hM
          exact rt_v hx hb hr hlk hP hD hS rfl dX8_itemOperand_125
        · replace hM := if_f c30 hM
          refine lv_iload hx hb dX8_itemOperand_81 (lv_at hl 0 rfl) ?_
          refine lv_iload hx hb dX8_itemOperand_83 (lv_at hl 1 rfl) ?_
          refine lv_icmp_ne (tgt := 92) hx hb dX8_itemOperand_85 (by decide) (fun c34 => ?_) (fun c34 => ?_)
          · replace hM := if_f c34 hM
            refine lv_iconst (v := 0) hx hb dX8_itemOperand_92 (by decide) ?_
            refine lv_istore (lv' := [(7, .int 0), (6, .int r22), (5, .int r18), (4, .int 1), (0, .ref (ad 100)), (1, .int a1), (2, .int a2), (3, .int a3)]) hx hb dX8_itemOperand_93 hl (by decide) rfl (fun ls hl => ?_)
            refine lv_iload hx hb dX8_itemOperand_95 (lv_at hl 0 rfl) ?_
            refine lv_if_eq (tgt := 107) hx hb dX8_itemOperand_97 (by decide) (fun c35 => ?_) (fun c35 => False.elim (by revert c35; decide))
            refine lv_aload_n hx hb dX8_itemOperand_107 rfl (lv_at hl 4 rfl) ?_
            refine lv_iconst (v := 1) hx hb dX8_itemOperand_108 (by decide) ?_
            refine lv_iload_n hx hb dX8_itemOperand_109 rfl (lv_at hl 5 rfl) ?_
            obtain ⟨r36, hcr36, hM⟩ := ob_use hM
            refine cl_V (As := [.int 1, .int a1]) (rest := []) (wM0 ad o_X o_L o_N o_T o_U o_O o_E o_Q o_V r36 ++ wMT cI ad o_T ++ wMI cI ad r36) [] ⟨hx, hb, hml, hown, hts⟩ (c_Model_item l D cI sd ad o_C o_X o_L o_N o_T o_U o_O o_E o_Q o_V o_I 1 a1 r36 hcr36) (cwV2 hts q1512 mvX8_item rfl rfl ⟨(Nat.le_of_ble_eq_true rfl), (Nat.le_of_ble_eq_true rfl)⟩) hK hE hA hP hD hS 0 (T := TX8) (N := 48) (ci := 8) rfl rfl [0, 8, 9] rfl (by decide) rfl rfl rfl rfl rfl rfl hl.1 (Nat.le_of_ble_eq_true rfl) dX8_itemOperand_110 ⟨Nat.zero_le _, Nat.zero_le _⟩ (fun H locs hP hD hS => ?_)
            refine lv_iload hx hb dX8_itemOperand_113 (lv_at hl 0 rfl) ?_
            refine lv_if_eq (tgt := 125) hx hb dX8_itemOperand_115 (by decide) (fun c37 => ?_) (fun c37 => False.elim (by revert c37; decide))
            cases hM
            exact rt_v hx hb hr hlk hP hD hS rfl dX8_itemOperand_125
          · replace hM := if_t c34 hM
            refine lv_iconst (v := 1) hx hb dX8_itemOperand_88 (by decide) ?_
            refine lv_goto (tgt := 93) hx hb dX8_itemOperand_89 (by decide) ?_
            refine lv_istore (lv' := [(7, .int 1), (6, .int r22), (5, .int r18), (4, .int 1), (0, .ref (ad 100)), (1, .int a1), (2, .int a2), (3, .int a3)]) hx hb dX8_itemOperand_93 hl (by decide) rfl (fun ls hl => ?_)
            refine lv_iload hx hb dX8_itemOperand_95 (lv_at hl 0 rfl) ?_
            refine lv_if_eq (tgt := 107) hx hb dX8_itemOperand_97 (by decide) (fun c38 => False.elim (by revert c38; decide)) (fun c38 => ?_)
            refine lv_aload_n hx hb dX8_itemOperand_100 rfl (lv_at hl 4 rfl) ?_
            refine lv_iconst (v := 0) hx hb dX8_itemOperand_101 (by decide) ?_
            refine lv_bipush (v := 56) hx hb dX8_itemOperand_102 (by decide) ?_
            obtain ⟨r39, hcr39, hM⟩ := ob_use hM
            refine cl_V (As := [.int 0, .int 56]) (rest := []) (wM0 ad o_X o_L o_N o_T o_U o_O o_E o_Q o_V r39 ++ wMT cI ad o_T ++ wMI cI ad r39) [] ⟨hx, hb, hml, hown, hts⟩ (c_Model_item l D cI sd ad o_C o_X o_L o_N o_T o_U o_O o_E o_Q o_V o_I 0 56 r39 hcr39) (cwV2 hts q1512 mvX8_item rfl rfl ⟨(Nat.le_of_ble_eq_true rfl), (Nat.le_of_ble_eq_true rfl)⟩) hK hE hA hP hD hS 0 (T := TX8) (N := 48) (ci := 8) rfl rfl [0, 8, 9] rfl (by decide) rfl rfl rfl rfl rfl rfl hl.1 (Nat.le_of_ble_eq_true rfl) dX8_itemOperand_104 ⟨Nat.zero_le _, Nat.zero_le _⟩ (fun H locs hP hD hS => ?_)
            refine lv_aload_n hx hb dX8_itemOperand_107 rfl (lv_at hl 4 rfl) ?_
            refine lv_iconst (v := 1) hx hb dX8_itemOperand_108 (by decide) ?_
            refine lv_iload_n hx hb dX8_itemOperand_109 rfl (lv_at hl 5 rfl) ?_
            obtain ⟨r40, hcr40, hM⟩ := ob_use hM
            refine cl_V (As := [.int 1, .int a1]) (rest := []) (wM0 ad o_X o_L o_N o_T o_U o_O o_E o_Q o_V r40 ++ wMT cI ad o_T ++ wMI cI ad r40) [] ⟨hx, hb, hml, hown, hts⟩ (c_Model_item l D cI sd ad o_C o_X o_L o_N o_T o_U o_O o_E o_Q o_V r39 1 a1 r40 hcr40) (cwV2 hts q1512 mvX8_item rfl rfl ⟨(Nat.le_of_ble_eq_true rfl), (Nat.le_of_ble_eq_true rfl)⟩) hK hE hA hP hD hS 0 (T := TX8) (N := 48) (ci := 8) rfl rfl [0, 8, 9] rfl (by decide) rfl rfl rfl rfl rfl rfl hl.1 (Nat.le_of_ble_eq_true rfl) dX8_itemOperand_110 ⟨Nat.zero_le _, Nat.zero_le _⟩ (fun H locs hP hD hS => ?_)
            refine lv_iload hx hb dX8_itemOperand_113 (lv_at hl 0 rfl) ?_
            refine lv_if_eq (tgt := 125) hx hb dX8_itemOperand_115 (by decide) (fun c41 => False.elim (by revert c41; decide)) (fun c41 => ?_)
            refine lv_aload_n hx hb dX8_itemOperand_118 rfl (lv_at hl 4 rfl) ?_
            refine lv_iconst (v := 0) hx hb dX8_itemOperand_119 (by decide) ?_
            refine lv_bipush (v := 55) hx hb dX8_itemOperand_120 (by decide) ?_
            obtain ⟨r42, hcr42, hM⟩ := ob_use hM
            refine cl_V (As := [.int 0, .int 55]) (rest := []) (wM0 ad o_X o_L o_N o_T o_U o_O o_E o_Q o_V r42 ++ wMT cI ad o_T ++ wMI cI ad r42) [] ⟨hx, hb, hml, hown, hts⟩ (c_Model_item l D cI sd ad o_C o_X o_L o_N o_T o_U o_O o_E o_Q o_V r40 0 55 r42 hcr42) (cwV2 hts q1512 mvX8_item rfl rfl ⟨(Nat.le_of_ble_eq_true rfl), (Nat.le_of_ble_eq_true rfl)⟩) hK hE hA hP hD hS 0 (T := TX8) (N := 48) (ci := 8) rfl rfl [0, 8, 9] rfl (by decide) rfl rfl rfl rfl rfl rfl hl.1 (Nat.le_of_ble_eq_true rfl) dX8_itemOperand_122 ⟨Nat.zero_le _, Nat.zero_le _⟩ (fun H locs hP hD hS => ?_)
            cases hM
            exact rt_v hx hb hr hlk hP hD hS rfl dX8_itemOperand_125
    · replace hM := if_t c20 hM
      refine lv_bipush (v := 8) hx hb dX8_itemOperand_49 (by decide) ?_
      refine lv_goto (tgt := 63) hx hb dX8_itemOperand_51 (by decide) ?_
      refine lv_istore (lv' := [(6, .int 8), (5, .int r18), (4, .int 1), (0, .ref (ad 100)), (1, .int a1), (2, .int a2), (3, .int a3)]) hx hb dX8_itemOperand_63 hl (by decide) rfl (fun ls hl => ?_)
      refine lv_iload hx hb dX8_itemOperand_65 (lv_at hl 2 rfl) ?_
      refine lv_if_eq (tgt := 92) hx hb dX8_itemOperand_67 (by decide) (fun c43 => False.elim (by revert c43; decide)) (fun c43 => ?_)
      refine lv_iload hx hb dX8_itemOperand_70 (lv_at hl 0 rfl) ?_
      refine lv_iload hx hb dX8_itemOperand_72 (lv_at hl 1 rfl) ?_
      refine lv_icmp_gt (tgt := 88) hx hb dX8_itemOperand_74 (by decide) (fun c44 => ?_) (fun c44 => ?_)
      · replace hM := if_t c44 hM
        refine lv_iconst (v := 1) hx hb dX8_itemOperand_88 (by decide) ?_
        refine lv_goto (tgt := 93) hx hb dX8_itemOperand_89 (by decide) ?_
        refine lv_istore (lv' := [(7, .int 1), (6, .int 8), (5, .int r18), (4, .int 1), (0, .ref (ad 100)), (1, .int a1), (2, .int a2), (3, .int a3)]) hx hb dX8_itemOperand_93 hl (by decide) rfl (fun ls hl => ?_)
        refine lv_iload hx hb dX8_itemOperand_95 (lv_at hl 0 rfl) ?_
        refine lv_if_eq (tgt := 107) hx hb dX8_itemOperand_97 (by decide) (fun c45 => False.elim (by revert c45; decide)) (fun c45 => ?_)
        refine lv_aload_n hx hb dX8_itemOperand_100 rfl (lv_at hl 4 rfl) ?_
        refine lv_iconst (v := 0) hx hb dX8_itemOperand_101 (by decide) ?_
        refine lv_bipush (v := 56) hx hb dX8_itemOperand_102 (by decide) ?_
        obtain ⟨r46, hcr46, hM⟩ := ob_use hM
        refine cl_V (As := [.int 0, .int 56]) (rest := []) (wM0 ad o_X o_L o_N o_T o_U o_O o_E o_Q o_V r46 ++ wMT cI ad o_T ++ wMI cI ad r46) [] ⟨hx, hb, hml, hown, hts⟩ (c_Model_item l D cI sd ad o_C o_X o_L o_N o_T o_U o_O o_E o_Q o_V o_I 0 56 r46 hcr46) (cwV2 hts q1512 mvX8_item rfl rfl ⟨(Nat.le_of_ble_eq_true rfl), (Nat.le_of_ble_eq_true rfl)⟩) hK hE hA hP hD hS 0 (T := TX8) (N := 48) (ci := 8) rfl rfl [0, 8, 9] rfl (by decide) rfl rfl rfl rfl rfl rfl hl.1 (Nat.le_of_ble_eq_true rfl) dX8_itemOperand_104 ⟨Nat.zero_le _, Nat.zero_le _⟩ (fun H locs hP hD hS => ?_)
        refine lv_aload_n hx hb dX8_itemOperand_107 rfl (lv_at hl 4 rfl) ?_
        refine lv_iconst (v := 1) hx hb dX8_itemOperand_108 (by decide) ?_
        refine lv_iload_n hx hb dX8_itemOperand_109 rfl (lv_at hl 5 rfl) ?_
        obtain ⟨r47, hcr47, hM⟩ := ob_use hM
        refine cl_V (As := [.int 1, .int a1]) (rest := []) (wM0 ad o_X o_L o_N o_T o_U o_O o_E o_Q o_V r47 ++ wMT cI ad o_T ++ wMI cI ad r47) [] ⟨hx, hb, hml, hown, hts⟩ (c_Model_item l D cI sd ad o_C o_X o_L o_N o_T o_U o_O o_E o_Q o_V r46 1 a1 r47 hcr47) (cwV2 hts q1512 mvX8_item rfl rfl ⟨(Nat.le_of_ble_eq_true rfl), (Nat.le_of_ble_eq_true rfl)⟩) hK hE hA hP hD hS 0 (T := TX8) (N := 48) (ci := 8) rfl rfl [0, 8, 9] rfl (by decide) rfl rfl rfl rfl rfl rfl hl.1 (Nat.le_of_ble_eq_true rfl) dX8_itemOperand_110 ⟨Nat.zero_le _, Nat.zero_le _⟩ (fun H locs hP hD hS => ?_)
        refine lv_iload hx hb dX8_itemOperand_113 (lv_at hl 0 rfl) ?_
        refine lv_if_eq (tgt := 125) hx hb dX8_itemOperand_115 (by decide) (fun c48 => False.elim (by revert c48; decide)) (fun c48 => ?_)
        refine lv_aload_n hx hb dX8_itemOperand_118 rfl (lv_at hl 4 rfl) ?_
        refine lv_iconst (v := 0) hx hb dX8_itemOperand_119 (by decide) ?_
        refine lv_bipush (v := 55) hx hb dX8_itemOperand_120 (by decide) ?_
        obtain ⟨r49, hcr49, hM⟩ := ob_use hM
        refine cl_V (As := [.int 0, .int 55]) (rest := []) (wM0 ad o_X o_L o_N o_T o_U o_O o_E o_Q o_V r49 ++ wMT cI ad o_T ++ wMI cI ad r49) [] ⟨hx, hb, hml, hown, hts⟩ (c_Model_item l D cI sd ad o_C o_X o_L o_N o_T o_U o_O o_E o_Q o_V r47 0 55 r49 hcr49) (cwV2 hts q1512 mvX8_item rfl rfl ⟨(Nat.le_of_ble_eq_true rfl), (Nat.le_of_ble_eq_true rfl)⟩) hK hE hA hP hD hS 0 (T := TX8) (N := 48) (ci := 8) rfl rfl [0, 8, 9] rfl (by decide) rfl rfl rfl rfl rfl rfl hl.1 (Nat.le_of_ble_eq_true rfl) dX8_itemOperand_122 ⟨Nat.zero_le _, Nat.zero_le _⟩ (fun H locs hP hD hS => ?_)
        cases hM
        exact rt_v hx hb hr hlk hP hD hS rfl dX8_itemOperand_125
      · replace hM := if_f c44 hM
        refine lv_iload_n hx hb dX8_itemOperand_77 rfl (lv_at hl 6 rfl) ?_
        refine lv_if_eq (tgt := 92) hx hb dX8_itemOperand_78 (by decide) (fun c50 => ?_) (fun c50 => ?_)
        · replace hM := if_t c50 hM
          refine lv_iconst (v := 0) hx hb dX8_itemOperand_92 (by decide) ?_
          refine lv_istore (lv' := [(7, .int 0), (6, .int 8), (5, .int r18), (4, .int 1), (0, .ref (ad 100)), (1, .int a1), (2, .int a2), (3, .int a3)]) hx hb dX8_itemOperand_93 hl (by decide) rfl (fun ls hl => ?_)
          refine lv_iload hx hb dX8_itemOperand_95 (lv_at hl 0 rfl) ?_
          refine lv_if_eq (tgt := 107) hx hb dX8_itemOperand_97 (by decide) (fun c51 => ?_) (fun c51 => False.elim (by revert c51; decide))
          refine lv_aload_n hx hb dX8_itemOperand_107 rfl (lv_at hl 4 rfl) ?_
          refine lv_iconst (v := 1) hx hb dX8_itemOperand_108 (by decide) ?_
          refine lv_iload_n hx hb dX8_itemOperand_109 rfl (lv_at hl 5 rfl) ?_
          obtain ⟨r52, hcr52, hM⟩ := ob_use hM
          refine cl_V (As := [.int 1, .int a1]) (rest := []) (wM0 ad o_X o_L o_N o_T o_U o_O o_E o_Q o_V r52 ++ wMT cI ad o_T ++ wMI cI ad r52) [] ⟨hx, hb, hml, hown, hts⟩ (c_Model_item l D cI sd ad o_C o_X o_L o_N o_T o_U o_O o_E o_Q o_V o_I 1 a1 r52 hcr52) (cwV2 hts q1512 mvX8_item rfl rfl ⟨(Nat.le_of_ble_eq_true rfl), (Nat.le_of_ble_eq_true rfl)⟩) hK hE hA hP hD hS 0 (T := TX8) (N := 48) (ci := 8) rfl rfl [0, 8, 9] rfl (by decide) rfl rfl rfl rfl rfl rfl hl.1 (Nat.le_of_ble_eq_true rfl) dX8_itemOperand_110 ⟨Nat.zero_le _, Nat.zero_le _⟩ (fun H locs hP hD hS => ?_)
          refine lv_iload hx hb dX8_itemOperand_113 (lv_at hl 0 rfl) ?_
          refine lv_if_eq (tgt := 125) hx hb dX8_itemOperand_115 (by decide) (fun c53 => ?_) (fun c53 => False.elim (by revert c53; decide))
          cases hM
          exact rt_v hx hb hr hlk hP hD hS rfl dX8_itemOperand_125
        · replace hM := if_f c50 hM
          refine lv_iload hx hb dX8_itemOperand_81 (lv_at hl 0 rfl) ?_
          refine lv_iload hx hb dX8_itemOperand_83 (lv_at hl 1 rfl) ?_
          refine lv_icmp_ne (tgt := 92) hx hb dX8_itemOperand_85 (by decide) (fun c54 => ?_) (fun c54 => ?_)
          · replace hM := if_f c54 hM
            refine lv_iconst (v := 0) hx hb dX8_itemOperand_92 (by decide) ?_
            refine lv_istore (lv' := [(7, .int 0), (6, .int 8), (5, .int r18), (4, .int 1), (0, .ref (ad 100)), (1, .int a1), (2, .int a2), (3, .int a3)]) hx hb dX8_itemOperand_93 hl (by decide) rfl (fun ls hl => ?_)
            refine lv_iload hx hb dX8_itemOperand_95 (lv_at hl 0 rfl) ?_
            refine lv_if_eq (tgt := 107) hx hb dX8_itemOperand_97 (by decide) (fun c55 => ?_) (fun c55 => False.elim (by revert c55; decide))
            refine lv_aload_n hx hb dX8_itemOperand_107 rfl (lv_at hl 4 rfl) ?_
            refine lv_iconst (v := 1) hx hb dX8_itemOperand_108 (by decide) ?_
            refine lv_iload_n hx hb dX8_itemOperand_109 rfl (lv_at hl 5 rfl) ?_
            obtain ⟨r56, hcr56, hM⟩ := ob_use hM
            refine cl_V (As := [.int 1, .int a1]) (rest := []) (wM0 ad o_X o_L o_N o_T o_U o_O o_E o_Q o_V r56 ++ wMT cI ad o_T ++ wMI cI ad r56) [] ⟨hx, hb, hml, hown, hts⟩ (c_Model_item l D cI sd ad o_C o_X o_L o_N o_T o_U o_O o_E o_Q o_V o_I 1 a1 r56 hcr56) (cwV2 hts q1512 mvX8_item rfl rfl ⟨(Nat.le_of_ble_eq_true rfl), (Nat.le_of_ble_eq_true rfl)⟩) hK hE hA hP hD hS 0 (T := TX8) (N := 48) (ci := 8) rfl rfl [0, 8, 9] rfl (by decide) rfl rfl rfl rfl rfl rfl hl.1 (Nat.le_of_ble_eq_true rfl) dX8_itemOperand_110 ⟨Nat.zero_le _, Nat.zero_le _⟩ (fun H locs hP hD hS => ?_)
            refine lv_iload hx hb dX8_itemOperand_113 (lv_at hl 0 rfl) ?_
            refine lv_if_eq (tgt := 125) hx hb dX8_itemOperand_115 (by decide) (fun c57 => ?_) (fun c57 => False.elim (by revert c57; decide))
            cases hM
            exact rt_v hx hb hr hlk hP hD hS rfl dX8_itemOperand_125
          · replace hM := if_t c54 hM
            refine lv_iconst (v := 1) hx hb dX8_itemOperand_88 (by decide) ?_
            refine lv_goto (tgt := 93) hx hb dX8_itemOperand_89 (by decide) ?_
            refine lv_istore (lv' := [(7, .int 1), (6, .int 8), (5, .int r18), (4, .int 1), (0, .ref (ad 100)), (1, .int a1), (2, .int a2), (3, .int a3)]) hx hb dX8_itemOperand_93 hl (by decide) rfl (fun ls hl => ?_)
            refine lv_iload hx hb dX8_itemOperand_95 (lv_at hl 0 rfl) ?_
            refine lv_if_eq (tgt := 107) hx hb dX8_itemOperand_97 (by decide) (fun c58 => False.elim (by revert c58; decide)) (fun c58 => ?_)
            refine lv_aload_n hx hb dX8_itemOperand_100 rfl (lv_at hl 4 rfl) ?_
            refine lv_iconst (v := 0) hx hb dX8_itemOperand_101 (by decide) ?_
            refine lv_bipush (v := 56) hx hb dX8_itemOperand_102 (by decide) ?_
            obtain ⟨r59, hcr59, hM⟩ := ob_use hM
            refine cl_V (As := [.int 0, .int 56]) (rest := []) (wM0 ad o_X o_L o_N o_T o_U o_O o_E o_Q o_V r59 ++ wMT cI ad o_T ++ wMI cI ad r59) [] ⟨hx, hb, hml, hown, hts⟩ (c_Model_item l D cI sd ad o_C o_X o_L o_N o_T o_U o_O o_E o_Q o_V o_I 0 56 r59 hcr59) (cwV2 hts q1512 mvX8_item rfl rfl ⟨(Nat.le_of_ble_eq_true rfl), (Nat.le_of_ble_eq_true rfl)⟩) hK hE hA hP hD hS 0 (T := TX8) (N := 48) (ci := 8) rfl rfl [0, 8, 9] rfl (by decide) rfl rfl rfl rfl rfl rfl hl.1 (Nat.le_of_ble_eq_true rfl) dX8_itemOperand_104 ⟨Nat.zero_le _, Nat.zero_le _⟩ (fun H locs hP hD hS => ?_)
            refine lv_aload_n hx hb dX8_itemOperand_107 rfl (lv_at hl 4 rfl) ?_
            refine lv_iconst (v := 1) hx hb dX8_itemOperand_108 (by decide) ?_
            refine lv_iload_n hx hb dX8_itemOperand_109 rfl (lv_at hl 5 rfl) ?_
            obtain ⟨r60, hcr60, hM⟩ := ob_use hM
            refine cl_V (As := [.int 1, .int a1]) (rest := []) (wM0 ad o_X o_L o_N o_T o_U o_O o_E o_Q o_V r60 ++ wMT cI ad o_T ++ wMI cI ad r60) [] ⟨hx, hb, hml, hown, hts⟩ (c_Model_item l D cI sd ad o_C o_X o_L o_N o_T o_U o_O o_E o_Q o_V r59 1 a1 r60 hcr60) (cwV2 hts q1512 mvX8_item rfl rfl ⟨(Nat.le_of_ble_eq_true rfl), (Nat.le_of_ble_eq_true rfl)⟩) hK hE hA hP hD hS 0 (T := TX8) (N := 48) (ci := 8) rfl rfl [0, 8, 9] rfl (by decide) rfl rfl rfl rfl rfl rfl hl.1 (Nat.le_of_ble_eq_true rfl) dX8_itemOperand_110 ⟨Nat.zero_le _, Nat.zero_le _⟩ (fun H locs hP hD hS => ?_)
            refine lv_iload hx hb dX8_itemOperand_113 (lv_at hl 0 rfl) ?_
            refine lv_if_eq (tgt := 125) hx hb dX8_itemOperand_115 (by decide) (fun c61 => False.elim (by revert c61; decide)) (fun c61 => ?_)
            refine lv_aload_n hx hb dX8_itemOperand_118 rfl (lv_at hl 4 rfl) ?_
            refine lv_iconst (v := 0) hx hb dX8_itemOperand_119 (by decide) ?_
            refine lv_bipush (v := 55) hx hb dX8_itemOperand_120 (by decide) ?_
            obtain ⟨r62, hcr62, hM⟩ := ob_use hM
            refine cl_V (As := [.int 0, .int 55]) (rest := []) (wM0 ad o_X o_L o_N o_T o_U o_O o_E o_Q o_V r62 ++ wMT cI ad o_T ++ wMI cI ad r62) [] ⟨hx, hb, hml, hown, hts⟩ (c_Model_item l D cI sd ad o_C o_X o_L o_N o_T o_U o_O o_E o_Q o_V r60 0 55 r62 hcr62) (cwV2 hts q1512 mvX8_item rfl rfl ⟨(Nat.le_of_ble_eq_true rfl), (Nat.le_of_ble_eq_true rfl)⟩) hK hE hA hP hD hS 0 (T := TX8) (N := 48) (ci := 8) rfl rfl [0, 8, 9] rfl (by decide) rfl rfl rfl rfl rfl rfl hl.1 (Nat.le_of_ble_eq_true rfl) dX8_itemOperand_122 ⟨Nat.zero_le _, Nat.zero_le _⟩ (fun H locs hP hD hS => ?_)
            cases hM
            exact rt_v hx hb hr hlk hP hD hS rfl dX8_itemOperand_125

set_option maxHeartbeats 4000000 in
set_option maxRecDepth 100000 in
theorem c_Model_tokenOf (l : Launch) (D : va_G) (cI : ClassId) (sd : Nat → Nat) (ad : Nat → Nat) (a1 : Int32) (res : Int32) (hM : f_Model_tokenOf a1 = some res) : Ctr l D cI sd yX8_tokenOf (wsM yX8_tokenOf cX8_tokenOf 1 (Option.some Jvm.ClassFile.FieldType.int)) { frames := 0, cells := 0, slots := 0, locals := 0 } [.int a1] (([] : va_W)) (([] : va_W)) (some (.int res)) := by
  refine Ctr.of (cc := cX8_tokenOf) (maxL := 1) (own := RX8) (by decide +kernel) rfl rfl (Nat.le_of_ble_eq_true rfl) ?_
  intro p e s m below meth c A ls hx hb hr hml hown hts hlk hK hE hA hP hD hS hl
  have hl : lv_has ls 1 [(0, .int a1)] := hl
  unfold f_Model_tokenOf at hM
  refine lv_iload_n hx hb dX8_tokenOf_0 rfl (lv_at hl 0 rfl) ?_
  by_cases c1 : a1 = 0
  · replace hM := if_t c1 hM
    refine lv_tableIn (tgt := 68) hx hb dX8_tokenOf_1 (by rw [c1]; decide) (by rw [c1]; decide) (by rw [c1]; rfl) (by decide) ?_
    refine lv_bipush (v := 30) hx hb dX8_tokenOf_68 (by decide) ?_
    cases hM
    exact rt_i hx hb hr hlk hP hD hS rfl dX8_tokenOf_70
  replace hM := if_f c1 hM
  by_cases c2 : a1 = 1
  · replace hM := if_t c2 hM
    refine lv_tableIn (tgt := 71) hx hb dX8_tokenOf_1 (by rw [c2]; decide) (by rw [c2]; decide) (by rw [c2]; rfl) (by decide) ?_
    refine lv_bipush (v := 31) hx hb dX8_tokenOf_71 (by decide) ?_
    cases hM
    exact rt_i hx hb hr hlk hP hD hS rfl dX8_tokenOf_73
  replace hM := if_f c2 hM
  by_cases c3 : a1 = 2
  · replace hM := if_t c3 hM
    refine lv_tableIn (tgt := 74) hx hb dX8_tokenOf_1 (by rw [c3]; decide) (by rw [c3]; decide) (by rw [c3]; rfl) (by decide) ?_
    refine lv_bipush (v := 70) hx hb dX8_tokenOf_74 (by decide) ?_
    cases hM
    exact rt_i hx hb hr hlk hP hD hS rfl dX8_tokenOf_76
  replace hM := if_f c3 hM
  by_cases c4 : a1 = 3
  · replace hM := if_t c4 hM
    refine lv_tableIn (tgt := 77) hx hb dX8_tokenOf_1 (by rw [c4]; decide) (by rw [c4]; decide) (by rw [c4]; rfl) (by decide) ?_
    refine lv_bipush (v := 67) hx hb dX8_tokenOf_77 (by decide) ?_
    cases hM
    exact rt_i hx hb hr hlk hP hD hS rfl dX8_tokenOf_79
  replace hM := if_f c4 hM
  by_cases c5 : a1 = 4
  · replace hM := if_t c5 hM
    refine lv_tableIn (tgt := 80) hx hb dX8_tokenOf_1 (by rw [c5]; decide) (by rw [c5]; decide) (by rw [c5]; rfl) (by decide) ?_
    refine lv_bipush (v := 54) hx hb dX8_tokenOf_80 (by decide) ?_
    cases hM
    exact rt_i hx hb hr hlk hP hD hS rfl dX8_tokenOf_82
  replace hM := if_f c5 hM
  by_cases c6 : a1 = 5
  · replace hM := if_t c6 hM
    refine lv_tableIn (tgt := 83) hx hb dX8_tokenOf_1 (by rw [c6]; decide) (by rw [c6]; decide) (by rw [c6]; rfl) (by decide) ?_
    refine lv_bipush (v := 68) hx hb dX8_tokenOf_83 (by decide) ?_
    cases hM
    exact rt_i hx hb hr hlk hP hD hS rfl dX8_tokenOf_85
  replace hM := if_f c6 hM
  by_cases c7 : a1 = 6
  · replace hM := if_t c7 hM
    refine lv_tableIn (tgt := 86) hx hb dX8_tokenOf_1 (by rw [c7]; decide) (by rw [c7]; decide) (by rw [c7]; rfl) (by decide) ?_
    refine lv_bipush (v := 69) hx hb dX8_tokenOf_86 (by decide) ?_
    cases hM
    exact rt_i hx hb hr hlk hP hD hS rfl dX8_tokenOf_88
  replace hM := if_f c7 hM
  by_cases c8 : a1 = 7
  · replace hM := if_t c8 hM
    refine lv_tableIn (tgt := 89) hx hb dX8_tokenOf_1 (by rw [c8]; decide) (by rw [c8]; decide) (by rw [c8]; rfl) (by decide) ?_
    refine lv_bipush (v := 52) hx hb dX8_tokenOf_89 (by decide) ?_
    cases hM
    exact rt_i hx hb hr hlk hP hD hS rfl dX8_tokenOf_91
  replace hM := if_f c8 hM
  by_cases c9 : a1 = 8
  · replace hM := if_t c9 hM
    refine lv_tableIn (tgt := 92) hx hb dX8_tokenOf_1 (by rw [c9]; decide) (by rw [c9]; decide) (by rw [c9]; rfl) (by decide) ?_
    refine lv_bipush (v := 53) hx hb dX8_tokenOf_92 (by decide) ?_
    cases hM
    exact rt_i hx hb hr hlk hP hD hS rfl dX8_tokenOf_94
  replace hM := if_f c9 hM
  by_cases c10 : a1 = 9
  · replace hM := if_t c10 hM
    refine lv_tableIn (tgt := 95) hx hb dX8_tokenOf_1 (by rw [c10]; decide) (by rw [c10]; decide) (by rw [c10]; rfl) (by decide) ?_
    refine lv_bipush (v := 63) hx hb dX8_tokenOf_95 (by decide) ?_
    cases hM
    exact rt_i hx hb hr hlk hP hD hS rfl dX8_tokenOf_97
  replace hM := if_f c10 hM
  by_cases c11 : a1 = 10
  · replace hM := if_t c11 hM
    refine lv_tableIn (tgt := 98) hx hb dX8_tokenOf_1 (by rw [c11]; decide) (by rw [c11]; decide) (by rw [c11]; rfl) (by decide) ?_
    refine lv_bipush (v := 64) hx hb dX8_tokenOf_98 (by decide) ?_
    cases hM
    exact rt_i hx hb hr hlk hP hD hS rfl dX8_tokenOf_100
  replace hM := if_f c11 hM
  by_cases c12 : a1 = 11
  · replace hM := if_t c12 hM
    refine lv_tableIn (tgt := 101) hx hb dX8_tokenOf_1 (by rw [c12]; decide) (by rw [c12]; decide) (by rw [c12]; rfl) (by decide) ?_
    refine lv_bipush (v := 65) hx hb dX8_tokenOf_101 (by decide) ?_
    cases hM
    exact rt_i hx hb hr hlk hP hD hS rfl dX8_tokenOf_103
  replace hM := if_f c12 hM
  by_cases c13 : a1 = 12
  · replace hM := if_t c13 hM
    refine lv_tableIn (tgt := 104) hx hb dX8_tokenOf_1 (by rw [c13]; decide) (by rw [c13]; decide) (by rw [c13]; rfl) (by decide) ?_
    refine lv_bipush (v := 66) hx hb dX8_tokenOf_104 (by decide) ?_
    cases hM
    exact rt_i hx hb hr hlk hP hD hS rfl dX8_tokenOf_106
  replace hM := if_f c13 hM
  refine lv_tableOut (tgt := 107) hx hb dX8_tokenOf_1 (by have := lv_neT c1 (show (0 : Int32).toInt = 0 by decide); have := lv_neT c2 (show (1 : Int32).toInt = 1 by decide); have := lv_neT c3 (show (2 : Int32).toInt = 2 by decide); have := lv_neT c4 (show (3 : Int32).toInt = 3 by decide); have := lv_neT c5 (show (4 : Int32).toInt = 4 by decide); have := lv_neT c6 (show (5 : Int32).toInt = 5 by decide); have := lv_neT c7 (show (6 : Int32).toInt = 6 by decide); have := lv_neT c8 (show (7 : Int32).toInt = 7 by decide); have := lv_neT c9 (show (8 : Int32).toInt = 8 by decide); have := lv_neT c10 (show (9 : Int32).toInt = 9 by decide); have := lv_neT c11 (show (10 : Int32).toInt = 10 by decide); have := lv_neT c12 (show (11 : Int32).toInt = 11 by decide); have := lv_neT c13 (show (12 : Int32).toInt = 12 by decide); omega) (by decide) ?_
  refine lv_bipush (v := 33) hx hb dX8_tokenOf_107 (by decide) ?_
  cases hM
  exact rt_i hx hb hr hlk hP hD hS rfl dX8_tokenOf_109

set_option maxHeartbeats 4000000 in
set_option maxRecDepth 100000 in
theorem c_Model_itemBlock (l : Launch) (D : va_G) (cI : ClassId) (sd : Nat → Nat) (ad : Nat → Nat) (o_C : S_MC) (o_X : S_MX) (o_L : S_ML) (o_N : S_MN) (o_U : S_MU) (o_O : S_MO) (o_E : S_ME) (o_Q : S_MQ) (o_V : S_MV) (o_T : S_MT) (o_I : S_MI) (a1 : Int32) (a2 : Int32) (a3 : Int32) (res : S_MI) (hM : f_Model_itemBlock o_T o_I a1 a2 a3 = some res) : Ctr l D cI sd yX8_itemBlock (wsM yX8_itemBlock cX8_itemBlock 4 (Option.none : Option Jvm.ClassFile.FieldType)) { frames := 1, cells := 0, slots := 0, locals := 22 } [.ref (ad 100), .int a1, .int a2, .int a3] (wM0 ad o_X o_L o_N o_T o_U o_O o_E o_Q o_V o_I ++ wMT cI ad o_T ++ wMI cI ad o_I) (wM0 ad o_X o_L o_N o_T o_U o_O o_E o_Q o_V res ++ wMT cI ad o_T ++ wMI cI ad res) none := by
  refine Ctr.of (cc := cX8_itemBlock) (maxL := 4) (own := RX8) (by decide +kernel) rfl rfl (Nat.le_of_ble_eq_true rfl) ?_
  intro p e s m below meth c A ls hx hb hr hml hown hts hlk hK hE hA hP hD hS hl
  have hl : lv_has ls 4 [(0, .ref (ad 100)), (1, .int a1), (2, .int a2), (3, .int a3)] := hl
  unfold f_Model_itemBlock at hM
  refine lv_aload_n hx hb dX8_itemBlock_0 rfl (lv_at hl 0 rfl) ?_
  refine lv_iconst (v := 0) hx hb dX8_itemBlock_1 (by decide) ?_
  refine lv_iload_n hx hb dX8_itemBlock_2 rfl (lv_at hl 3 rfl) ?_
  obtain ⟨r1, hcr1, hM⟩ := ob_use hM
  refine cl_V (As := [.int 0, .int a3]) (rest := []) (wM0 ad o_X o_L o_N o_T o_U o_O o_E o_Q o_V r1 ++ wMT cI ad o_T ++ wMI cI ad r1) [] ⟨hx, hb, hml, hown, hts⟩ (c_Model_item l D cI sd ad o_C o_X o_L o_N o_T o_U o_O o_E o_Q o_V o_I 0 a3 r1 hcr1) (cwV2 hts q1512 mvX8_item rfl rfl ⟨(Nat.le_of_ble_eq_true rfl), (Nat.le_of_ble_eq_true rfl)⟩) hK hE hA hP hD hS 0 (T := TX8) (N := 48) (ci := 8) rfl rfl [0, 8, 9] rfl (by decide) rfl rfl rfl rfl rfl rfl hl.1 (Nat.le_of_ble_eq_true rfl) dX8_itemBlock_3 ⟨Nat.zero_le _, Nat.zero_le _⟩ (fun H locs hP hD hS => ?_)
  refine lv_aload_n hx hb dX8_itemBlock_6 rfl (lv_at hl 0 rfl) ?_
  refine va_get (D := D) (ci := 8) (v := .ref (ad 108)) (C := RX8) (T := TX8) (N := 48) hx hb hts layX8 hown hK hP 0 rfl rfl 17 (by decide) (hts _ (inA q995)) (fun _ h9 => h9) rfl dX8_itemBlock_7 ?_
  refine lv_iload_n hx hb dX8_itemBlock_10 rfl (lv_at hl 1 rfl) ?_
  obtain ⟨b2, hM⟩ := gd_use hM
  refine va_iald hx hb hK hP 1 0 rfl rfl b2 dX8_itemBlock_11 ?_
  refine lv_iconst (v := 1) hx hb dX8_itemBlock_12 (by decide) ?_
  refine lv_icmp_ne (tgt := 47) hx hb dX8_itemBlock_13 (by decide) (fun c3 => ?_) (fun c3 => ?_)
  · replace hM := if_f c3 hM
    refine lv_aload_n hx hb dX8_itemBlock_47 rfl (lv_at hl 0 rfl) ?_
    refine lv_iconst (v := 2) hx hb dX8_itemBlock_48 (by decide) ?_
    refine lv_aload_n hx hb dX8_itemBlock_49 rfl (lv_at hl 0 rfl) ?_
    refine va_get (D := D) (ci := 8) (v := .ref (ad 112)) (C := RX8) (T := TX8) (N := 48) hx hb hts layX8 hown hK hP 0 rfl rfl 21 (by decide) (hts _ (inA q999)) (fun _ h9 => h9) rfl dX8_itemBlock_50 ?_
    refine lv_iload_n hx hb dX8_itemBlock_53 rfl (lv_at hl 1 rfl) ?_
    obtain ⟨b4, hM⟩ := gd_use hM
    refine va_iald hx hb hK hP 5 0 rfl rfl b4 dX8_itemBlock_54 ?_
    obtain ⟨r5, hcr5, hM⟩ := ob_use hM
    refine cl_V (As := [.int 2, .int (o_T.2.2.2.2.2.2.1 a1.toNatClampNeg)]) (rest := []) (wM0 ad o_X o_L o_N o_T o_U o_O o_E o_Q o_V r5 ++ wMT cI ad o_T ++ wMI cI ad r5) [] ⟨hx, hb, hml, hown, hts⟩ (c_Model_item l D cI sd ad o_C o_X o_L o_N o_T o_U o_O o_E o_Q o_V r1 2 (o_T.2.2.2.2.2.2.1 a1.toNatClampNeg) r5 hcr5) (cwV2 hts q1512 mvX8_item rfl rfl ⟨(Nat.le_of_ble_eq_true rfl), (Nat.le_of_ble_eq_true rfl)⟩) hK hE hA hP hD hS 0 (T := TX8) (N := 48) (ci := 8) rfl rfl [0, 8, 9] rfl (by decide) rfl rfl rfl rfl rfl rfl hl.1 (Nat.le_of_ble_eq_true rfl) dX8_itemBlock_55 ⟨Nat.zero_le _, Nat.zero_le _⟩ (fun H locs hP hD hS => ?_)
    refine lv_aload_n hx hb dX8_itemBlock_58 rfl (lv_at hl 0 rfl) ?_
    refine lv_bipush (v := 8) hx hb dX8_itemBlock_59 (by decide) ?_
    refine lv_aload_n hx hb dX8_itemBlock_61 rfl (lv_at hl 0 rfl) ?_
    refine va_get (D := D) (ci := 8) (v := .ref (ad 110)) (C := RX8) (T := TX8) (N := 48) hx hb hts layX8 hown hK hP 0 rfl rfl 19 (by decide) (hts _ (inA q997)) (fun _ h9 => h9) rfl dX8_itemBlock_62 ?_
    refine lv_iload_n hx hb dX8_itemBlock_65 rfl (lv_at hl 1 rfl) ?_
    obtain ⟨b6, hM⟩ := gd_use hM
    refine va_iald hx hb hK hP 3 0 rfl rfl b6 dX8_itemBlock_66 ?_
    obtain ⟨r7, hcr7, hM⟩ := ob_use hM
    refine cl_V (As := [.int 8, .int (o_T.2.2.2.2.1 a1.toNatClampNeg)]) (rest := []) (wM0 ad o_X o_L o_N o_T o_U o_O o_E o_Q o_V r7 ++ wMT cI ad o_T ++ wMI cI ad r7) [] ⟨hx, hb, hml, hown, hts⟩ (c_Model_item l D cI sd ad o_C o_X o_L o_N o_T o_U o_O o_E o_Q o_V r5 8 (o_T.2.2.2.2.1 a1.toNatClampNeg) r7 hcr7) (cwV2 hts q1512 mvX8_item rfl rfl ⟨(Nat.le_of_ble_eq_true rfl), (Nat.le_of_ble_eq_true rfl)⟩) hK hE hA hP hD hS 0 (T := TX8) (N := 48) (ci := 8) rfl rfl [0, 8, 9] rfl (by decide) rfl rfl rfl rfl rfl rfl hl.1 (Nat.le_of_ble_eq_true rfl) dX8_itemBlock_67 ⟨Nat.zero_le _, Nat.zero_le _⟩ (fun H locs hP hD hS => ?_)
    refine lv_aload_n hx hb dX8_itemBlock_70 rfl (lv_at hl 0 rfl) ?_
    refine lv_iconst (v := 0) hx hb dX8_itemBlock_71 (by decide) ?_
    refine lv_iload_n hx hb dX8_itemBlock_72 rfl (lv_at hl 2 rfl) ?_
    obtain ⟨r8, hcr8, hM⟩ := ob_use hM
    refine cl_V (As := [.int 0, .int a2]) (rest := []) (wM0 ad o_X o_L o_N o_T o_U o_O o_E o_Q o_V r8 ++ wMT cI ad o_T ++ wMI cI ad r8) [] ⟨hx, hb, hml, hown, hts⟩ (c_Model_item l D cI sd ad o_C o_X o_L o_N o_T o_U o_O o_E o_Q o_V r7 0 a2 r8 hcr8) (cwV2 hts q1512 mvX8_item rfl rfl ⟨(Nat.le_of_ble_eq_true rfl), (Nat.le_of_ble_eq_true rfl)⟩) hK hE hA hP hD hS 0 (T := TX8) (N := 48) (ci := 8) rfl rfl [0, 8, 9] rfl (by decide) rfl rfl rfl rfl rfl rfl hl.1 (Nat.le_of_ble_eq_true rfl) dX8_itemBlock_73 ⟨Nat.zero_le _, Nat.zero_le _⟩ (fun H locs hP hD hS => ?_)
    cases hM
    exact rt_v hx hb hr hlk hP hD hS rfl dX8_itemBlock_76
  · replace hM := if_t c3 hM
    refine lv_aload_n hx hb dX8_itemBlock_16 rfl (lv_at hl 0 rfl) ?_
    refine lv_iconst (v := 2) hx hb dX8_itemBlock_17 (by decide) ?_
    refine lv_aload_n hx hb dX8_itemBlock_18 rfl (lv_at hl 0 rfl) ?_
    refine lv_iload_n hx hb dX8_itemBlock_19 rfl (lv_at hl 1 rfl) ?_
    obtain ⟨r9, hcr9, hM⟩ := ob_use hM
    refine cl_V (As := [.int a1]) (rest := [.int 2, .ref (ad 100)]) (wM0 ad o_X o_L o_N o_T o_U o_O o_E o_Q o_V r1 ++ wMT cI ad o_T ++ wMI cI ad r1) (.int r9 :: [.int 2, .ref (ad 100)]) ⟨hx, hb, hml, hown, hts⟩ (c_Model_second l D cI sd ad o_C o_X o_L o_N o_U o_O o_E o_Q o_V r1 o_T a1 r9 hcr9) (cwV2 hts q1555 mvX8_second rfl rfl ⟨(Nat.le_of_ble_eq_true rfl), (Nat.le_of_ble_eq_true rfl)⟩) hK hE hA hP hD hS 0 (T := TX8) (N := 48) (ci := 8) rfl rfl [0, 1, 2, 3, 4, 5, 6, 7] rfl (by decide) rfl rfl rfl rfl rfl rfl hl.1 (Nat.le_of_ble_eq_true rfl) dX8_itemBlock_20 ⟨Nat.zero_le _, Nat.zero_le _⟩ (fun H locs hP hD hS => ?_)
    obtain ⟨r10, hcr10, hM⟩ := ob_use hM
    refine cl_V (As := [.int 2, .int r9]) (rest := []) (wM0 ad o_X o_L o_N o_T o_U o_O o_E o_Q o_V r10 ++ wMT cI ad o_T ++ wMI cI ad r10) [] ⟨hx, hb, hml, hown, hts⟩ (c_Model_item l D cI sd ad o_C o_X o_L o_N o_T o_U o_O o_E o_Q o_V r1 2 r9 r10 hcr10) (cwV2 hts q1512 mvX8_item rfl rfl ⟨(Nat.le_of_ble_eq_true rfl), (Nat.le_of_ble_eq_true rfl)⟩) hK hE hA hP hD hS 0 (T := TX8) (N := 48) (ci := 8) rfl rfl [0, 8, 9] rfl (by decide) rfl rfl rfl rfl rfl rfl hl.1 (Nat.le_of_ble_eq_true rfl) dX8_itemBlock_23 ⟨Nat.zero_le _, Nat.zero_le _⟩ (fun H locs hP hD hS => ?_)
    refine lv_aload_n hx hb dX8_itemBlock_26 rfl (lv_at hl 0 rfl) ?_
    refine lv_iconst (v := 1) hx hb dX8_itemBlock_27 (by decide) ?_
    refine lv_aload_n hx hb dX8_itemBlock_28 rfl (lv_at hl 0 rfl) ?_
    refine va_get (D := D) (ci := 8) (v := .ref (ad 112)) (C := RX8) (T := TX8) (N := 48) hx hb hts layX8 hown hK hP 0 rfl rfl 21 (by decide) (hts _ (inA q999)) (fun _ h9 => h9) rfl dX8_itemBlock_29 ?_
    refine lv_iload_n hx hb dX8_itemBlock_32 rfl (lv_at hl 1 rfl) ?_
    obtain ⟨b11, hM⟩ := gd_use hM
    refine va_iald hx hb hK hP 5 0 rfl rfl b11 dX8_itemBlock_33 ?_
    obtain ⟨r12, hcr12, hM⟩ := ob_use hM
    refine cl_V (As := [.int 1, .int (o_T.2.2.2.2.2.2.1 a1.toNatClampNeg)]) (rest := []) (wM0 ad o_X o_L o_N o_T o_U o_O o_E o_Q o_V r12 ++ wMT cI ad o_T ++ wMI cI ad r12) [] ⟨hx, hb, hml, hown, hts⟩ (c_Model_item l D cI sd ad o_C o_X o_L o_N o_T o_U o_O o_E o_Q o_V r10 1 (o_T.2.2.2.2.2.2.1 a1.toNatClampNeg) r12 hcr12) (cwV2 hts q1512 mvX8_item rfl rfl ⟨(Nat.le_of_ble_eq_true rfl), (Nat.le_of_ble_eq_true rfl)⟩) hK hE hA hP hD hS 0 (T := TX8) (N := 48) (ci := 8) rfl rfl [0, 8, 9] rfl (by decide) rfl rfl rfl rfl rfl rfl hl.1 (Nat.le_of_ble_eq_true rfl) dX8_itemBlock_34 ⟨Nat.zero_le _, Nat.zero_le _⟩ (fun H locs hP hD hS => ?_)
    refine lv_aload_n hx hb dX8_itemBlock_37 rfl (lv_at hl 0 rfl) ?_
    refine lv_iconst (v := 0) hx hb dX8_itemBlock_38 (by decide) ?_
    refine lv_bipush (v := 61) hx hb dX8_itemBlock_39 (by decide) ?_
    obtain ⟨r13, hcr13, hM⟩ := ob_use hM
    refine cl_V (As := [.int 0, .int 61]) (rest := []) (wM0 ad o_X o_L o_N o_T o_U o_O o_E o_Q o_V r13 ++ wMT cI ad o_T ++ wMI cI ad r13) [] ⟨hx, hb, hml, hown, hts⟩ (c_Model_item l D cI sd ad o_C o_X o_L o_N o_T o_U o_O o_E o_Q o_V r12 0 61 r13 hcr13) (cwV2 hts q1512 mvX8_item rfl rfl ⟨(Nat.le_of_ble_eq_true rfl), (Nat.le_of_ble_eq_true rfl)⟩) hK hE hA hP hD hS 0 (T := TX8) (N := 48) (ci := 8) rfl rfl [0, 8, 9] rfl (by decide) rfl rfl rfl rfl rfl rfl hl.1 (Nat.le_of_ble_eq_true rfl) dX8_itemBlock_41 ⟨Nat.zero_le _, Nat.zero_le _⟩ (fun H locs hP hD hS => ?_)
    refine lv_goto (tgt := 58) hx hb dX8_itemBlock_44 (by decide) ?_
    refine lv_aload_n hx hb dX8_itemBlock_58 rfl (lv_at hl 0 rfl) ?_
    refine lv_bipush (v := 8) hx hb dX8_itemBlock_59 (by decide) ?_
    refine lv_aload_n hx hb dX8_itemBlock_61 rfl (lv_at hl 0 rfl) ?_
    refine va_get (D := D) (ci := 8) (v := .ref (ad 110)) (C := RX8) (T := TX8) (N := 48) hx hb hts layX8 hown hK hP 0 rfl rfl 19 (by decide) (hts _ (inA q997)) (fun _ h9 => h9) rfl dX8_itemBlock_62 ?_
    refine lv_iload_n hx hb dX8_itemBlock_65 rfl (lv_at hl 1 rfl) ?_
    obtain ⟨b14, hM⟩ := gd_use hM
    refine va_iald hx hb hK hP 3 0 rfl rfl b14 dX8_itemBlock_66 ?_
    obtain ⟨r15, hcr15, hM⟩ := ob_use hM
    refine cl_V (As := [.int 8, .int (o_T.2.2.2.2.1 a1.toNatClampNeg)]) (rest := []) (wM0 ad o_X o_L o_N o_T o_U o_O o_E o_Q o_V r15 ++ wMT cI ad o_T ++ wMI cI ad r15) [] ⟨hx, hb, hml, hown, hts⟩ (c_Model_item l D cI sd ad o_C o_X o_L o_N o_T o_U o_O o_E o_Q o_V r13 8 (o_T.2.2.2.2.1 a1.toNatClampNeg) r15 hcr15) (cwV2 hts q1512 mvX8_item rfl rfl ⟨(Nat.le_of_ble_eq_true rfl), (Nat.le_of_ble_eq_true rfl)⟩) hK hE hA hP hD hS 0 (T := TX8) (N := 48) (ci := 8) rfl rfl [0, 8, 9] rfl (by decide) rfl rfl rfl rfl rfl rfl hl.1 (Nat.le_of_ble_eq_true rfl) dX8_itemBlock_67 ⟨Nat.zero_le _, Nat.zero_le _⟩ (fun H locs hP hD hS => ?_)
    refine lv_aload_n hx hb dX8_itemBlock_70 rfl (lv_at hl 0 rfl) ?_
    refine lv_iconst (v := 0) hx hb dX8_itemBlock_71 (by decide) ?_
    refine lv_iload_n hx hb dX8_itemBlock_72 rfl (lv_at hl 2 rfl) ?_
    obtain ⟨r16, hcr16, hM⟩ := ob_use hM
    refine cl_V (As := [.int 0, .int a2]) (rest := []) (wM0 ad o_X o_L o_N o_T o_U o_O o_E o_Q o_V r16 ++ wMT cI ad o_T ++ wMI cI ad r16) [] ⟨hx, hb, hml, hown, hts⟩ (c_Model_item l D cI sd ad o_C o_X o_L o_N o_T o_U o_O o_E o_Q o_V r15 0 a2 r16 hcr16) (cwV2 hts q1512 mvX8_item rfl rfl ⟨(Nat.le_of_ble_eq_true rfl), (Nat.le_of_ble_eq_true rfl)⟩) hK hE hA hP hD hS 0 (T := TX8) (N := 48) (ci := 8) rfl rfl [0, 8, 9] rfl (by decide) rfl rfl rfl rfl rfl rfl hl.1 (Nat.le_of_ble_eq_true rfl) dX8_itemBlock_73 ⟨Nat.zero_le _, Nat.zero_le _⟩ (fun H locs hP hD hS => ?_)
    cases hM
    exact rt_v hx hb hr hlk hP hD hS rfl dX8_itemBlock_76

set_option maxHeartbeats 4000000 in
set_option maxRecDepth 100000 in
theorem c_Model_itemFor (l : Launch) (D : va_G) (cI : ClassId) (sd : Nat → Nat) (ad : Nat → Nat) (o_C : S_MC) (o_X : S_MX) (o_L : S_ML) (o_N : S_MN) (o_U : S_MU) (o_O : S_MO) (o_E : S_ME) (o_Q : S_MQ) (o_V : S_MV) (o_T : S_MT) (o_I : S_MI) (a1 : Int32) (res : S_MI) (hM : f_Model_itemFor o_T o_I a1 = some res) : Ctr l D cI sd yX8_itemFor (wsM yX8_itemFor cX8_itemFor 5 (Option.none : Option Jvm.ClassFile.FieldType)) { frames := 1, cells := 0, slots := 0, locals := 22 } [.ref (ad 100), .int a1] (wM0 ad o_X o_L o_N o_T o_U o_O o_E o_Q o_V o_I ++ wMT cI ad o_T ++ wMI cI ad o_I) (wM0 ad o_X o_L o_N o_T o_U o_O o_E o_Q o_V res ++ wMT cI ad o_T ++ wMI cI ad res) none := by
  refine Ctr.of (cc := cX8_itemFor) (maxL := 5) (own := RX8) (by decide +kernel) rfl rfl (Nat.le_of_ble_eq_true rfl) ?_
  intro p e s m below meth c A ls hx hb hr hml hown hts hlk hK hE hA hP hD hS hl
  have hl : lv_has ls 5 [(0, .ref (ad 100)), (1, .int a1)] := hl
  unfold f_Model_itemFor at hM
  refine lv_aload_n hx hb dX8_itemFor_0 rfl (lv_at hl 0 rfl) ?_
  refine va_get (D := D) (ci := 8) (v := .ref (ad 112)) (C := RX8) (T := TX8) (N := 48) hx hb hts layX8 hown hK hP 0 rfl rfl 21 (by decide) (hts _ (inA q999)) (fun _ h9 => h9) rfl dX8_itemFor_1 ?_
  refine lv_iload_n hx hb dX8_itemFor_4 rfl (lv_at hl 1 rfl) ?_
  obtain ⟨b1, hM⟩ := gd_use hM
  refine va_iald hx hb hK hP 5 0 rfl rfl b1 dX8_itemFor_5 ?_
  refine lv_topi (fun x2 ex2 => ?_)
  replace hM := nm_use ex2 hM
  refine lv_istore_n (lv' := [(2, .int x2), (0, .ref (ad 100)), (1, .int a1)]) hx hb dX8_itemFor_6 rfl hl (by decide) rfl (fun ls hl => ?_)
  refine lv_aload_n hx hb dX8_itemFor_7 rfl (lv_at hl 1 rfl) ?_
  refine va_get (D := D) (ci := 8) (v := .ref (ad 114)) (C := RX8) (T := TX8) (N := 48) hx hb hts layX8 hown hK hP 0 rfl rfl 23 (by decide) (hts _ (inA q1001)) (fun _ h9 => h9) rfl dX8_itemFor_8 ?_
  refine lv_iload_n hx hb dX8_itemFor_11 rfl (lv_at hl 0 rfl) ?_
  obtain ⟨b3, hM⟩ := gd_use hM
  refine va_iald hx hb hK hP 7 0 rfl rfl b3 dX8_itemFor_12 ?_
  refine lv_topi (fun x4 ex4 => ?_)
  replace hM := nm_use ex4 hM
  refine lv_istore_n (lv' := [(3, .int x4), (2, .int x2), (0, .ref (ad 100)), (1, .int a1)]) hx hb dX8_itemFor_13 rfl hl (by decide) rfl (fun ls hl => ?_)
  refine lv_aload_n hx hb dX8_itemFor_14 rfl (lv_at hl 2 rfl) ?_
  refine va_get (D := D) (ci := 8) (v := .ref (ad 114)) (C := RX8) (T := TX8) (N := 48) hx hb hts layX8 hown hK hP 0 rfl rfl 23 (by decide) (hts _ (inA q1001)) (fun _ h9 => h9) rfl dX8_itemFor_15 ?_
  refine lv_iload_n hx hb dX8_itemFor_18 rfl (lv_at hl 0 rfl) ?_
  obtain ⟨b5, hM⟩ := gd_use hM
  refine va_iald hx hb hK hP 7 0 rfl rfl b5 dX8_itemFor_19 ?_
  refine lv_topi (fun x6 ex6 => ?_)
  replace hM := nm_use ex6 hM
  refine lv_istore (lv' := [(4, .int x6), (3, .int x4), (2, .int x2), (0, .ref (ad 100)), (1, .int a1)]) hx hb dX8_itemFor_20 hl (by decide) rfl (fun ls hl => ?_)
  refine lv_aload_n hx hb dX8_itemFor_22 rfl (lv_at hl 3 rfl) ?_
  refine lv_iconst (v := 0) hx hb dX8_itemFor_23 (by decide) ?_
  refine lv_bipush (v := 60) hx hb dX8_itemFor_24 (by decide) ?_
  obtain ⟨r7, hcr7, hM⟩ := ob_use hM
  refine cl_V (As := [.int 0, .int 60]) (rest := []) (wM0 ad o_X o_L o_N o_T o_U o_O o_E o_Q o_V r7 ++ wMT cI ad o_T ++ wMI cI ad r7) [] ⟨hx, hb, hml, hown, hts⟩ (c_Model_item l D cI sd ad o_C o_X o_L o_N o_T o_U o_O o_E o_Q o_V o_I 0 60 r7 hcr7) (cwV2 hts q1512 mvX8_item rfl rfl ⟨(Nat.le_of_ble_eq_true rfl), (Nat.le_of_ble_eq_true rfl)⟩) hK hE hA hP hD hS 0 (T := TX8) (N := 48) (ci := 8) rfl rfl [0, 8, 9] rfl (by decide) rfl rfl rfl rfl rfl rfl hl.1 (Nat.le_of_ble_eq_true rfl) dX8_itemFor_26 ⟨Nat.zero_le _, Nat.zero_le _⟩ (fun H locs hP hD hS => ?_)
  refine lv_aload_n hx hb dX8_itemFor_29 rfl (lv_at hl 3 rfl) ?_
  refine lv_iconst (v := 0) hx hb dX8_itemFor_30 (by decide) ?_
  refine lv_bipush (v := 27) hx hb dX8_itemFor_31 (by decide) ?_
  obtain ⟨r8, hcr8, hM⟩ := ob_use hM
  refine cl_V (As := [.int 0, .int 27]) (rest := []) (wM0 ad o_X o_L o_N o_T o_U o_O o_E o_Q o_V r8 ++ wMT cI ad o_T ++ wMI cI ad r8) [] ⟨hx, hb, hml, hown, hts⟩ (c_Model_item l D cI sd ad o_C o_X o_L o_N o_T o_U o_O o_E o_Q o_V r7 0 27 r8 hcr8) (cwV2 hts q1512 mvX8_item rfl rfl ⟨(Nat.le_of_ble_eq_true rfl), (Nat.le_of_ble_eq_true rfl)⟩) hK hE hA hP hD hS 0 (T := TX8) (N := 48) (ci := 8) rfl rfl [0, 8, 9] rfl (by decide) rfl rfl rfl rfl rfl rfl hl.1 (Nat.le_of_ble_eq_true rfl) dX8_itemFor_33 ⟨Nat.zero_le _, Nat.zero_le _⟩ (fun H locs hP hD hS => ?_)
  refine lv_aload_n hx hb dX8_itemFor_36 rfl (lv_at hl 3 rfl) ?_
  refine lv_iconst (v := 1) hx hb dX8_itemFor_37 (by decide) ?_
  refine lv_aload_n hx hb dX8_itemFor_38 rfl (lv_at hl 3 rfl) ?_
  refine va_get (D := D) (ci := 8) (v := .ref (ad 108)) (C := RX8) (T := TX8) (N := 48) hx hb hts layX8 hown hK hP 0 rfl rfl 17 (by decide) (hts _ (inA q995)) (fun _ h9 => h9) rfl dX8_itemFor_39 ?_
  refine lv_iload hx hb dX8_itemFor_42 (lv_at hl 0 rfl) ?_
  obtain ⟨b9, hM⟩ := gd_use hM
  refine va_iald hx hb hK hP 1 0 rfl rfl b9 dX8_itemFor_44 ?_
  refine lv_bipush (v := 11) hx hb dX8_itemFor_45 (by decide) ?_
  refine lv_icmp_ne (tgt := 55) hx hb dX8_itemFor_47 (by decide) (fun c10 => ?_) (fun c10 => ?_)
  · replace hM := if_f c10 hM
    refine lv_aload_n hx hb dX8_itemFor_55 rfl (lv_at hl 3 rfl) ?_
    refine va_get (D := D) (ci := 8) (v := .ref (ad 114)) (C := RX8) (T := TX8) (N := 48) hx hb hts layX8 hown hK hP 0 rfl rfl 23 (by decide) (hts _ (inA q1001)) (fun _ h9 => h9) rfl dX8_itemFor_56 ?_
    refine lv_iload hx hb dX8_itemFor_59 (lv_at hl 0 rfl) ?_
    obtain ⟨b11, hM⟩ := gd_use hM
    refine va_iald hx hb hK hP 7 0 rfl rfl b11 dX8_itemFor_61 ?_
    obtain ⟨r12, hcr12, hM⟩ := ob_use hM
    refine cl_V (As := [.int 1, .int (o_T.2.2.2.2.2.2.2.2 x6.toNatClampNeg)]) (rest := []) (wM0 ad o_X o_L o_N o_T o_U o_O o_E o_Q o_V r12 ++ wMT cI ad o_T ++ wMI cI ad r12) [] ⟨hx, hb, hml, hown, hts⟩ (c_Model_item l D cI sd ad o_C o_X o_L o_N o_T o_U o_O o_E o_Q o_V r8 1 (o_T.2.2.2.2.2.2.2.2 x6.toNatClampNeg) r12 hcr12) (cwV2 hts q1512 mvX8_item rfl rfl ⟨(Nat.le_of_ble_eq_true rfl), (Nat.le_of_ble_eq_true rfl)⟩) hK hE hA hP hD hS 0 (T := TX8) (N := 48) (ci := 8) rfl rfl [0, 8, 9] rfl (by decide) rfl rfl rfl rfl rfl rfl hl.1 (Nat.le_of_ble_eq_true rfl) dX8_itemFor_62 ⟨Nat.zero_le _, Nat.zero_le _⟩ (fun H locs hP hD hS => ?_)
    refine lv_aload_n hx hb dX8_itemFor_65 rfl (lv_at hl 3 rfl) ?_
    refine lv_iconst (v := 0) hx hb dX8_itemFor_66 (by decide) ?_
    refine lv_bipush (v := 26) hx hb dX8_itemFor_67 (by decide) ?_
    obtain ⟨r13, hcr13, hM⟩ := ob_use hM
    refine cl_V (As := [.int 0, .int 26]) (rest := []) (wM0 ad o_X o_L o_N o_T o_U o_O o_E o_Q o_V r13 ++ wMT cI ad o_T ++ wMI cI ad r13) [] ⟨hx, hb, hml, hown, hts⟩ (c_Model_item l D cI sd ad o_C o_X o_L o_N o_T o_U o_O o_E o_Q o_V r12 0 26 r13 hcr13) (cwV2 hts q1512 mvX8_item rfl rfl ⟨(Nat.le_of_ble_eq_true rfl), (Nat.le_of_ble_eq_true rfl)⟩) hK hE hA hP hD hS 0 (T := TX8) (N := 48) (ci := 8) rfl rfl [0, 8, 9] rfl (by decide) rfl rfl rfl rfl rfl rfl hl.1 (Nat.le_of_ble_eq_true rfl) dX8_itemFor_69 ⟨Nat.zero_le _, Nat.zero_le _⟩ (fun H locs hP hD hS => ?_)
    refine lv_aload_n hx hb dX8_itemFor_72 rfl (lv_at hl 3 rfl) ?_
    refine va_get (D := D) (ci := 8) (v := .ref (ad 108)) (C := RX8) (T := TX8) (N := 48) hx hb hts layX8 hown hK hP 0 rfl rfl 17 (by decide) (hts _ (inA q995)) (fun _ h9 => h9) rfl dX8_itemFor_73 ?_
    refine lv_iload hx hb dX8_itemFor_76 (lv_at hl 0 rfl) ?_
    obtain ⟨b14, hM⟩ := gd_use hM
    refine va_iald hx hb hK hP 1 0 rfl rfl b14 dX8_itemFor_78 ?_
    refine lv_bipush (v := 11) hx hb dX8_itemFor_79 (by decide) ?_
    refine lv_icmp_eq (tgt := 98) hx hb dX8_itemFor_81 (by decide) (fun c15 => ?_) (fun c15 => ?_)
    · replace hM := if_t c15 hM
      refine lv_aload_n hx hb dX8_itemFor_98 rfl (lv_at hl 3 rfl) ?_
      refine lv_iconst (v := 1) hx hb dX8_itemFor_99 (by decide) ?_
      refine lv_iload_n hx hb dX8_itemFor_100 rfl (lv_at hl 1 rfl) ?_
      obtain ⟨r16, hcr16, hM⟩ := ob_use hM
      refine cl_V (As := [.int 1, .int x4]) (rest := []) (wM0 ad o_X o_L o_N o_T o_U o_O o_E o_Q o_V r16 ++ wMT cI ad o_T ++ wMI cI ad r16) [] ⟨hx, hb, hml, hown, hts⟩ (c_Model_item l D cI sd ad o_C o_X o_L o_N o_T o_U o_O o_E o_Q o_V r13 1 x4 r16 hcr16) (cwV2 hts q1512 mvX8_item rfl rfl ⟨(Nat.le_of_ble_eq_true rfl), (Nat.le_of_ble_eq_true rfl)⟩) hK hE hA hP hD hS 0 (T := TX8) (N := 48) (ci := 8) rfl rfl [0, 8, 9] rfl (by decide) rfl rfl rfl rfl rfl rfl hl.1 (Nat.le_of_ble_eq_true rfl) dX8_itemFor_101 ⟨Nat.zero_le _, Nat.zero_le _⟩ (fun H locs hP hD hS => ?_)
      refine lv_aload_n hx hb dX8_itemFor_104 rfl (lv_at hl 3 rfl) ?_
      refine lv_iconst (v := 0) hx hb dX8_itemFor_105 (by decide) ?_
      refine lv_bipush (v := 24) hx hb dX8_itemFor_106 (by decide) ?_
      obtain ⟨r17, hcr17, hM⟩ := ob_use hM
      refine cl_V (As := [.int 0, .int 24]) (rest := []) (wM0 ad o_X o_L o_N o_T o_U o_O o_E o_Q o_V r17 ++ wMT cI ad o_T ++ wMI cI ad r17) [] ⟨hx, hb, hml, hown, hts⟩ (c_Model_item l D cI sd ad o_C o_X o_L o_N o_T o_U o_O o_E o_Q o_V r16 0 24 r17 hcr17) (cwV2 hts q1512 mvX8_item rfl rfl ⟨(Nat.le_of_ble_eq_true rfl), (Nat.le_of_ble_eq_true rfl)⟩) hK hE hA hP hD hS 0 (T := TX8) (N := 48) (ci := 8) rfl rfl [0, 8, 9] rfl (by decide) rfl rfl rfl rfl rfl rfl hl.1 (Nat.le_of_ble_eq_true rfl) dX8_itemFor_108 ⟨Nat.zero_le _, Nat.zero_le _⟩ (fun H locs hP hD hS => ?_)
      refine lv_aload_n hx hb dX8_itemFor_111 rfl (lv_at hl 3 rfl) ?_
      refine lv_iconst (v := 1) hx hb dX8_itemFor_112 (by decide) ?_
      refine lv_iload_n hx hb dX8_itemFor_113 rfl (lv_at hl 2 rfl) ?_
      obtain ⟨r18, hcr18, hM⟩ := ob_use hM
      refine cl_V (As := [.int 1, .int x2]) (rest := []) (wM0 ad o_X o_L o_N o_T o_U o_O o_E o_Q o_V r18 ++ wMT cI ad o_T ++ wMI cI ad r18) [] ⟨hx, hb, hml, hown, hts⟩ (c_Model_item l D cI sd ad o_C o_X o_L o_N o_T o_U o_O o_E o_Q o_V r17 1 x2 r18 hcr18) (cwV2 hts q1512 mvX8_item rfl rfl ⟨(Nat.le_of_ble_eq_true rfl), (Nat.le_of_ble_eq_true rfl)⟩) hK hE hA hP hD hS 0 (T := TX8) (N := 48) (ci := 8) rfl rfl [0, 8, 9] rfl (by decide) rfl rfl rfl rfl rfl rfl hl.1 (Nat.le_of_ble_eq_true rfl) dX8_itemFor_114 ⟨Nat.zero_le _, Nat.zero_le _⟩ (fun H locs hP hD hS => ?_)
      refine lv_aload_n hx hb dX8_itemFor_117 rfl (lv_at hl 3 rfl) ?_
      refine lv_iconst (v := 0) hx hb dX8_itemFor_118 (by decide) ?_
      refine lv_bipush (v := 50) hx hb dX8_itemFor_119 (by decide) ?_
      obtain ⟨r19, hcr19, hM⟩ := ob_use hM
      refine cl_V (As := [.int 0, .int 50]) (rest := []) (wM0 ad o_X o_L o_N o_T o_U o_O o_E o_Q o_V r19 ++ wMT cI ad o_T ++ wMI cI ad r19) [] ⟨hx, hb, hml, hown, hts⟩ (c_Model_item l D cI sd ad o_C o_X o_L o_N o_T o_U o_O o_E o_Q o_V r18 0 50 r19 hcr19) (cwV2 hts q1512 mvX8_item rfl rfl ⟨(Nat.le_of_ble_eq_true rfl), (Nat.le_of_ble_eq_true rfl)⟩) hK hE hA hP hD hS 0 (T := TX8) (N := 48) (ci := 8) rfl rfl [0, 8, 9] rfl (by decide) rfl rfl rfl rfl rfl rfl hl.1 (Nat.le_of_ble_eq_true rfl) dX8_itemFor_121 ⟨Nat.zero_le _, Nat.zero_le _⟩ (fun H locs hP hD hS => ?_)
      refine lv_aload_n hx hb dX8_itemFor_124 rfl (lv_at hl 3 rfl) ?_
      refine lv_bipush (v := 8) hx hb dX8_itemFor_125 (by decide) ?_
      refine lv_aload_n hx hb dX8_itemFor_127 rfl (lv_at hl 3 rfl) ?_
      refine va_get (D := D) (ci := 8) (v := .ref (ad 110)) (C := RX8) (T := TX8) (N := 48) hx hb hts layX8 hown hK hP 0 rfl rfl 19 (by decide) (hts _ (inA q997)) (fun _ h9 => h9) rfl dX8_itemFor_128 ?_
      refine lv_iload_n hx hb dX8_itemFor_131 rfl (lv_at hl 4 rfl) ?_
      obtain ⟨b20, hM⟩ := gd_use hM
      refine va_iald hx hb hK hP 3 0 rfl rfl b20 dX8_itemFor_132 ?_
      obtain ⟨r21, hcr21, hM⟩ := ob_use hM
      refine cl_V (As := [.int 8, .int (o_T.2.2.2.2.1 a1.toNatClampNeg)]) (rest := []) (wM0 ad o_X o_L o_N o_T o_U o_O o_E o_Q o_V r21 ++ wMT cI ad o_T ++ wMI cI ad r21) [] ⟨hx, hb, hml, hown, hts⟩ (c_Model_item l D cI sd ad o_C o_X o_L o_N o_T o_U o_O o_E o_Q o_V r19 8 (o_T.2.2.2.2.1 a1.toNatClampNeg) r21 hcr21) (cwV2 hts q1512 mvX8_item rfl rfl ⟨(Nat.le_of_ble_eq_true rfl), (Nat.le_of_ble_eq_true rfl)⟩) hK hE hA hP hD hS 0 (T := TX8) (N := 48) (ci := 8) rfl rfl [0, 8, 9] rfl (by decide) rfl rfl rfl rfl rfl rfl hl.1 (Nat.le_of_ble_eq_true rfl) dX8_itemFor_133 ⟨Nat.zero_le _, Nat.zero_le _⟩ (fun H locs hP hD hS => ?_)
      refine lv_aload_n hx hb dX8_itemFor_136 rfl (lv_at hl 3 rfl) ?_
      refine lv_iconst (v := 0) hx hb dX8_itemFor_137 (by decide) ?_
      refine lv_bipush (v := 23) hx hb dX8_itemFor_138 (by decide) ?_
      obtain ⟨r22, hcr22, hM⟩ := ob_use hM
      refine cl_V (As := [.int 0, .int 23]) (rest := []) (wM0 ad o_X o_L o_N o_T o_U o_O o_E o_Q o_V r22 ++ wMT cI ad o_T ++ wMI cI ad r22) [] ⟨hx, hb, hml, hown, hts⟩ (c_Model_item l D cI sd ad o_C o_X o_L o_N o_T o_U o_O o_E o_Q o_V r21 0 23 r22 hcr22) (cwV2 hts q1512 mvX8_item rfl rfl ⟨(Nat.le_of_ble_eq_true rfl), (Nat.le_of_ble_eq_true rfl)⟩) hK hE hA hP hD hS 0 (T := TX8) (N := 48) (ci := 8) rfl rfl [0, 8, 9] rfl (by decide) rfl rfl rfl rfl rfl rfl hl.1 (Nat.le_of_ble_eq_true rfl) dX8_itemFor_140 ⟨Nat.zero_le _, Nat.zero_le _⟩ (fun H locs hP hD hS => ?_)
      cases hM
      exact rt_v hx hb hr hlk hP hD hS rfl dX8_itemFor_143
    · replace hM := if_f c15 hM
      refine lv_aload_n hx hb dX8_itemFor_84 rfl (lv_at hl 3 rfl) ?_
      refine lv_iconst (v := 1) hx hb dX8_itemFor_85 (by decide) ?_
      refine lv_iload hx hb dX8_itemFor_86 (lv_at hl 0 rfl) ?_
      obtain ⟨r23, hcr23, hM⟩ := ob_use hM
      refine cl_V (As := [.int 1, .int x6]) (rest := []) (wM0 ad o_X o_L o_N o_T o_U o_O o_E o_Q o_V r23 ++ wMT cI ad o_T ++ wMI cI ad r23) [] ⟨hx, hb, hml, hown, hts⟩ (c_Model_item l D cI sd ad o_C o_X o_L o_N o_T o_U o_O o_E o_Q o_V r13 1 x6 r23 hcr23) (cwV2 hts q1512 mvX8_item rfl rfl ⟨(Nat.le_of_ble_eq_true rfl), (Nat.le_of_ble_eq_true rfl)⟩) hK hE hA hP hD hS 0 (T := TX8) (N := 48) (ci := 8) rfl rfl [0, 8, 9] rfl (by decide) rfl rfl rfl rfl rfl rfl hl.1 (Nat.le_of_ble_eq_true rfl) dX8_itemFor_88 ⟨Nat.zero_le _, Nat.zero_le _⟩ (fun H locs hP hD hS => ?_)
      refine lv_aload_n hx hb dX8_itemFor_91 rfl (lv_at hl 3 rfl) ?_
      refine lv_iconst (v := 0) hx hb dX8_itemFor_92 (by decide) ?_
      refine lv_bipush (v := 25) hx hb dX8_itemFor_93 (by decide) ?_
      obtain ⟨r24, hcr24, hM⟩ := ob_use hM
      refine cl_V (As := [.int 0, .int 25]) (rest := []) (wM0 ad o_X o_L o_N o_T o_U o_O o_E o_Q o_V r24 ++ wMT cI ad o_T ++ wMI cI ad r24) [] ⟨hx, hb, hml, hown, hts⟩ (c_Model_item l D cI sd ad o_C o_X o_L o_N o_T o_U o_O o_E o_Q o_V r23 0 25 r24 hcr24) (cwV2 hts q1512 mvX8_item rfl rfl ⟨(Nat.le_of_ble_eq_true rfl), (Nat.le_of_ble_eq_true rfl)⟩) hK hE hA hP hD hS 0 (T := TX8) (N := 48) (ci := 8) rfl rfl [0, 8, 9] rfl (by decide) rfl rfl rfl rfl rfl rfl hl.1 (Nat.le_of_ble_eq_true rfl) dX8_itemFor_95 ⟨Nat.zero_le _, Nat.zero_le _⟩ (fun H locs hP hD hS => ?_)
      refine lv_aload_n hx hb dX8_itemFor_98 rfl (lv_at hl 3 rfl) ?_
      refine lv_iconst (v := 1) hx hb dX8_itemFor_99 (by decide) ?_
      refine lv_iload_n hx hb dX8_itemFor_100 rfl (lv_at hl 1 rfl) ?_
      obtain ⟨r25, hcr25, hM⟩ := ob_use hM
      refine cl_V (As := [.int 1, .int x4]) (rest := []) (wM0 ad o_X o_L o_N o_T o_U o_O o_E o_Q o_V r25 ++ wMT cI ad o_T ++ wMI cI ad r25) [] ⟨hx, hb, hml, hown, hts⟩ (c_Model_item l D cI sd ad o_C o_X o_L o_N o_T o_U o_O o_E o_Q o_V r24 1 x4 r25 hcr25) (cwV2 hts q1512 mvX8_item rfl rfl ⟨(Nat.le_of_ble_eq_true rfl), (Nat.le_of_ble_eq_true rfl)⟩) hK hE hA hP hD hS 0 (T := TX8) (N := 48) (ci := 8) rfl rfl [0, 8, 9] rfl (by decide) rfl rfl rfl rfl rfl rfl hl.1 (Nat.le_of_ble_eq_true rfl) dX8_itemFor_101 ⟨Nat.zero_le _, Nat.zero_le _⟩ (fun H locs hP hD hS => ?_)
      refine lv_aload_n hx hb dX8_itemFor_104 rfl (lv_at hl 3 rfl) ?_
      refine lv_iconst (v := 0) hx hb dX8_itemFor_105 (by decide) ?_
      refine lv_bipush (v := 24) hx hb dX8_itemFor_106 (by decide) ?_
      obtain ⟨r26, hcr26, hM⟩ := ob_use hM
      refine cl_V (As := [.int 0, .int 24]) (rest := []) (wM0 ad o_X o_L o_N o_T o_U o_O o_E o_Q o_V r26 ++ wMT cI ad o_T ++ wMI cI ad r26) [] ⟨hx, hb, hml, hown, hts⟩ (c_Model_item l D cI sd ad o_C o_X o_L o_N o_T o_U o_O o_E o_Q o_V r25 0 24 r26 hcr26) (cwV2 hts q1512 mvX8_item rfl rfl ⟨(Nat.le_of_ble_eq_true rfl), (Nat.le_of_ble_eq_true rfl)⟩) hK hE hA hP hD hS 0 (T := TX8) (N := 48) (ci := 8) rfl rfl [0, 8, 9] rfl (by decide) rfl rfl rfl rfl rfl rfl hl.1 (Nat.le_of_ble_eq_true rfl) dX8_itemFor_108 ⟨Nat.zero_le _, Nat.zero_le _⟩ (fun H locs hP hD hS => ?_)
      refine lv_aload_n hx hb dX8_itemFor_111 rfl (lv_at hl 3 rfl) ?_
      refine lv_iconst (v := 1) hx hb dX8_itemFor_112 (by decide) ?_
      refine lv_iload_n hx hb dX8_itemFor_113 rfl (lv_at hl 2 rfl) ?_
      obtain ⟨r27, hcr27, hM⟩ := ob_use hM
      refine cl_V (As := [.int 1, .int x2]) (rest := []) (wM0 ad o_X o_L o_N o_T o_U o_O o_E o_Q o_V r27 ++ wMT cI ad o_T ++ wMI cI ad r27) [] ⟨hx, hb, hml, hown, hts⟩ (c_Model_item l D cI sd ad o_C o_X o_L o_N o_T o_U o_O o_E o_Q o_V r26 1 x2 r27 hcr27) (cwV2 hts q1512 mvX8_item rfl rfl ⟨(Nat.le_of_ble_eq_true rfl), (Nat.le_of_ble_eq_true rfl)⟩) hK hE hA hP hD hS 0 (T := TX8) (N := 48) (ci := 8) rfl rfl [0, 8, 9] rfl (by decide) rfl rfl rfl rfl rfl rfl hl.1 (Nat.le_of_ble_eq_true rfl) dX8_itemFor_114 ⟨Nat.zero_le _, Nat.zero_le _⟩ (fun H locs hP hD hS => ?_)
      refine lv_aload_n hx hb dX8_itemFor_117 rfl (lv_at hl 3 rfl) ?_
      refine lv_iconst (v := 0) hx hb dX8_itemFor_118 (by decide) ?_
      refine lv_bipush (v := 50) hx hb dX8_itemFor_119 (by decide) ?_
      obtain ⟨r28, hcr28, hM⟩ := ob_use hM
      refine cl_V (As := [.int 0, .int 50]) (rest := []) (wM0 ad o_X o_L o_N o_T o_U o_O o_E o_Q o_V r28 ++ wMT cI ad o_T ++ wMI cI ad r28) [] ⟨hx, hb, hml, hown, hts⟩ (c_Model_item l D cI sd ad o_C o_X o_L o_N o_T o_U o_O o_E o_Q o_V r27 0 50 r28 hcr28) (cwV2 hts q1512 mvX8_item rfl rfl ⟨(Nat.le_of_ble_eq_true rfl), (Nat.le_of_ble_eq_true rfl)⟩) hK hE hA hP hD hS 0 (T := TX8) (N := 48) (ci := 8) rfl rfl [0, 8, 9] rfl (by decide) rfl rfl rfl rfl rfl rfl hl.1 (Nat.le_of_ble_eq_true rfl) dX8_itemFor_121 ⟨Nat.zero_le _, Nat.zero_le _⟩ (fun H locs hP hD hS => ?_)
      refine lv_aload_n hx hb dX8_itemFor_124 rfl (lv_at hl 3 rfl) ?_
      refine lv_bipush (v := 8) hx hb dX8_itemFor_125 (by decide) ?_
      refine lv_aload_n hx hb dX8_itemFor_127 rfl (lv_at hl 3 rfl) ?_
      refine va_get (D := D) (ci := 8) (v := .ref (ad 110)) (C := RX8) (T := TX8) (N := 48) hx hb hts layX8 hown hK hP 0 rfl rfl 19 (by decide) (hts _ (inA q997)) (fun _ h9 => h9) rfl dX8_itemFor_128 ?_
      refine lv_iload_n hx hb dX8_itemFor_131 rfl (lv_at hl 4 rfl) ?_
      obtain ⟨b29, hM⟩ := gd_use hM
      refine va_iald hx hb hK hP 3 0 rfl rfl b29 dX8_itemFor_132 ?_
      obtain ⟨r30, hcr30, hM⟩ := ob_use hM
      refine cl_V (As := [.int 8, .int (o_T.2.2.2.2.1 a1.toNatClampNeg)]) (rest := []) (wM0 ad o_X o_L o_N o_T o_U o_O o_E o_Q o_V r30 ++ wMT cI ad o_T ++ wMI cI ad r30) [] ⟨hx, hb, hml, hown, hts⟩ (c_Model_item l D cI sd ad o_C o_X o_L o_N o_T o_U o_O o_E o_Q o_V r28 8 (o_T.2.2.2.2.1 a1.toNatClampNeg) r30 hcr30) (cwV2 hts q1512 mvX8_item rfl rfl ⟨(Nat.le_of_ble_eq_true rfl), (Nat.le_of_ble_eq_true rfl)⟩) hK hE hA hP hD hS 0 (T := TX8) (N := 48) (ci := 8) rfl rfl [0, 8, 9] rfl (by decide) rfl rfl rfl rfl rfl rfl hl.1 (Nat.le_of_ble_eq_true rfl) dX8_itemFor_133 ⟨Nat.zero_le _, Nat.zero_le _⟩ (fun H locs hP hD hS => ?_)
      refine lv_aload_n hx hb dX8_itemFor_136 rfl (lv_at hl 3 rfl) ?_
      refine lv_iconst (v := 0) hx hb dX8_itemFor_137 (by decide) ?_
      refine lv_bipush (v := 23) hx hb dX8_itemFor_138 (by decide) ?_
      obtain ⟨r31, hcr31, hM⟩ := ob_use hM
      refine cl_V (As := [.int 0, .int 23]) (rest := []) (wM0 ad o_X o_L o_N o_T o_U o_O o_E o_Q o_V r31 ++ wMT cI ad o_T ++ wMI cI ad r31) [] ⟨hx, hb, hml, hown, hts⟩ (c_Model_item l D cI sd ad o_C o_X o_L o_N o_T o_U o_O o_E o_Q o_V r30 0 23 r31 hcr31) (cwV2 hts q1512 mvX8_item rfl rfl ⟨(Nat.le_of_ble_eq_true rfl), (Nat.le_of_ble_eq_true rfl)⟩) hK hE hA hP hD hS 0 (T := TX8) (N := 48) (ci := 8) rfl rfl [0, 8, 9] rfl (by decide) rfl rfl rfl rfl rfl rfl hl.1 (Nat.le_of_ble_eq_true rfl) dX8_itemFor_140 ⟨Nat.zero_le _, Nat.zero_le _⟩ (fun H locs hP hD hS => ?_)
      cases hM
      exact rt_v hx hb hr hlk hP hD hS rfl dX8_itemFor_143
  · replace hM := if_t c10 hM
    refine lv_iload hx hb dX8_itemFor_50 (lv_at hl 0 rfl) ?_
    refine lv_goto (tgt := 62) hx hb dX8_itemFor_52 (by decide) ?_
    obtain ⟨r32, hcr32, hM⟩ := ob_use hM
    refine cl_V (As := [.int 1, .int x6]) (rest := []) (wM0 ad o_X o_L o_N o_T o_U o_O o_E o_Q o_V r32 ++ wMT cI ad o_T ++ wMI cI ad r32) [] ⟨hx, hb, hml, hown, hts⟩ (c_Model_item l D cI sd ad o_C o_X o_L o_N o_T o_U o_O o_E o_Q o_V r8 1 x6 r32 hcr32) (cwV2 hts q1512 mvX8_item rfl rfl ⟨(Nat.le_of_ble_eq_true rfl), (Nat.le_of_ble_eq_true rfl)⟩) hK hE hA hP hD hS 0 (T := TX8) (N := 48) (ci := 8) rfl rfl [0, 8, 9] rfl (by decide) rfl rfl rfl rfl rfl rfl hl.1 (Nat.le_of_ble_eq_true rfl) dX8_itemFor_62 ⟨Nat.zero_le _, Nat.zero_le _⟩ (fun H locs hP hD hS => ?_)
    refine lv_aload_n hx hb dX8_itemFor_65 rfl (lv_at hl 3 rfl) ?_
    refine lv_iconst (v := 0) hx hb dX8_itemFor_66 (by decide) ?_
    refine lv_bipush (v := 26) hx hb dX8_itemFor_67 (by decide) ?_
    obtain ⟨r33, hcr33, hM⟩ := ob_use hM
    refine cl_V (As := [.int 0, .int 26]) (rest := []) (wM0 ad o_X o_L o_N o_T o_U o_O o_E o_Q o_V r33 ++ wMT cI ad o_T ++ wMI cI ad r33) [] ⟨hx, hb, hml, hown, hts⟩ (c_Model_item l D cI sd ad o_C o_X o_L o_N o_T o_U o_O o_E o_Q o_V r32 0 26 r33 hcr33) (cwV2 hts q1512 mvX8_item rfl rfl ⟨(Nat.le_of_ble_eq_true rfl), (Nat.le_of_ble_eq_true rfl)⟩) hK hE hA hP hD hS 0 (T := TX8) (N := 48) (ci := 8) rfl rfl [0, 8, 9] rfl (by decide) rfl rfl rfl rfl rfl rfl hl.1 (Nat.le_of_ble_eq_true rfl) dX8_itemFor_69 ⟨Nat.zero_le _, Nat.zero_le _⟩ (fun H locs hP hD hS => ?_)
    refine lv_aload_n hx hb dX8_itemFor_72 rfl (lv_at hl 3 rfl) ?_
    refine va_get (D := D) (ci := 8) (v := .ref (ad 108)) (C := RX8) (T := TX8) (N := 48) hx hb hts layX8 hown hK hP 0 rfl rfl 17 (by decide) (hts _ (inA q995)) (fun _ h9 => h9) rfl dX8_itemFor_73 ?_
    refine lv_iload hx hb dX8_itemFor_76 (lv_at hl 0 rfl) ?_
    obtain ⟨b34, hM⟩ := gd_use hM
    refine va_iald hx hb hK hP 1 0 rfl rfl b34 dX8_itemFor_78 ?_
    refine lv_bipush (v := 11) hx hb dX8_itemFor_79 (by decide) ?_
    refine lv_icmp_eq (tgt := 98) hx hb dX8_itemFor_81 (by decide) (fun c35 => ?_) (fun c35 => ?_)
    · replace hM := if_t c35 hM
      refine lv_aload_n hx hb dX8_itemFor_98 rfl (lv_at hl 3 rfl) ?_
      refine lv_iconst (v := 1) hx hb dX8_itemFor_99 (by decide) ?_
      refine lv_iload_n hx hb dX8_itemFor_100 rfl (lv_at hl 1 rfl) ?_
      obtain ⟨r36, hcr36, hM⟩ := ob_use hM
      refine cl_V (As := [.int 1, .int x4]) (rest := []) (wM0 ad o_X o_L o_N o_T o_U o_O o_E o_Q o_V r36 ++ wMT cI ad o_T ++ wMI cI ad r36) [] ⟨hx, hb, hml, hown, hts⟩ (c_Model_item l D cI sd ad o_C o_X o_L o_N o_T o_U o_O o_E o_Q o_V r33 1 x4 r36 hcr36) (cwV2 hts q1512 mvX8_item rfl rfl ⟨(Nat.le_of_ble_eq_true rfl), (Nat.le_of_ble_eq_true rfl)⟩) hK hE hA hP hD hS 0 (T := TX8) (N := 48) (ci := 8) rfl rfl [0, 8, 9] rfl (by decide) rfl rfl rfl rfl rfl rfl hl.1 (Nat.le_of_ble_eq_true rfl) dX8_itemFor_101 ⟨Nat.zero_le _, Nat.zero_le _⟩ (fun H locs hP hD hS => ?_)
      refine lv_aload_n hx hb dX8_itemFor_104 rfl (lv_at hl 3 rfl) ?_
      refine lv_iconst (v := 0) hx hb dX8_itemFor_105 (by decide) ?_
      refine lv_bipush (v := 24) hx hb dX8_itemFor_106 (by decide) ?_
      obtain ⟨r37, hcr37, hM⟩ := ob_use hM
      refine cl_V (As := [.int 0, .int 24]) (rest := []) (wM0 ad o_X o_L o_N o_T o_U o_O o_E o_Q o_V r37 ++ wMT cI ad o_T ++ wMI cI ad r37) [] ⟨hx, hb, hml, hown, hts⟩ (c_Model_item l D cI sd ad o_C o_X o_L o_N o_T o_U o_O o_E o_Q o_V r36 0 24 r37 hcr37) (cwV2 hts q1512 mvX8_item rfl rfl ⟨(Nat.le_of_ble_eq_true rfl), (Nat.le_of_ble_eq_true rfl)⟩) hK hE hA hP hD hS 0 (T := TX8) (N := 48) (ci := 8) rfl rfl [0, 8, 9] rfl (by decide) rfl rfl rfl rfl rfl rfl hl.1 (Nat.le_of_ble_eq_true rfl) dX8_itemFor_108 ⟨Nat.zero_le _, Nat.zero_le _⟩ (fun H locs hP hD hS => ?_)
      refine lv_aload_n hx hb dX8_itemFor_111 rfl (lv_at hl 3 rfl) ?_
      refine lv_iconst (v := 1) hx hb dX8_itemFor_112 (by decide) ?_
      refine lv_iload_n hx hb dX8_itemFor_113 rfl (lv_at hl 2 rfl) ?_
      obtain ⟨r38, hcr38, hM⟩ := ob_use hM
      refine cl_V (As := [.int 1, .int x2]) (rest := []) (wM0 ad o_X o_L o_N o_T o_U o_O o_E o_Q o_V r38 ++ wMT cI ad o_T ++ wMI cI ad r38) [] ⟨hx, hb, hml, hown, hts⟩ (c_Model_item l D cI sd ad o_C o_X o_L o_N o_T o_U o_O o_E o_Q o_V r37 1 x2 r38 hcr38) (cwV2 hts q1512 mvX8_item rfl rfl ⟨(Nat.le_of_ble_eq_true rfl), (Nat.le_of_ble_eq_true rfl)⟩) hK hE hA hP hD hS 0 (T := TX8) (N := 48) (ci := 8) rfl rfl [0, 8, 9] rfl (by decide) rfl rfl rfl rfl rfl rfl hl.1 (Nat.le_of_ble_eq_true rfl) dX8_itemFor_114 ⟨Nat.zero_le _, Nat.zero_le _⟩ (fun H locs hP hD hS => ?_)
      refine lv_aload_n hx hb dX8_itemFor_117 rfl (lv_at hl 3 rfl) ?_
      refine lv_iconst (v := 0) hx hb dX8_itemFor_118 (by decide) ?_
      refine lv_bipush (v := 50) hx hb dX8_itemFor_119 (by decide) ?_
      obtain ⟨r39, hcr39, hM⟩ := ob_use hM
      refine cl_V (As := [.int 0, .int 50]) (rest := []) (wM0 ad o_X o_L o_N o_T o_U o_O o_E o_Q o_V r39 ++ wMT cI ad o_T ++ wMI cI ad r39) [] ⟨hx, hb, hml, hown, hts⟩ (c_Model_item l D cI sd ad o_C o_X o_L o_N o_T o_U o_O o_E o_Q o_V r38 0 50 r39 hcr39) (cwV2 hts q1512 mvX8_item rfl rfl ⟨(Nat.le_of_ble_eq_true rfl), (Nat.le_of_ble_eq_true rfl)⟩) hK hE hA hP hD hS 0 (T := TX8) (N := 48) (ci := 8) rfl rfl [0, 8, 9] rfl (by decide) rfl rfl rfl rfl rfl rfl hl.1 (Nat.le_of_ble_eq_true rfl) dX8_itemFor_121 ⟨Nat.zero_le _, Nat.zero_le _⟩ (fun H locs hP hD hS => ?_)
      refine lv_aload_n hx hb dX8_itemFor_124 rfl (lv_at hl 3 rfl) ?_
      refine lv_bipush (v := 8) hx hb dX8_itemFor_125 (by decide) ?_
      refine lv_aload_n hx hb dX8_itemFor_127 rfl (lv_at hl 3 rfl) ?_
      refine va_get (D := D) (ci := 8) (v := .ref (ad 110)) (C := RX8) (T := TX8) (N := 48) hx hb hts layX8 hown hK hP 0 rfl rfl 19 (by decide) (hts _ (inA q997)) (fun _ h9 => h9) rfl dX8_itemFor_128 ?_
      refine lv_iload_n hx hb dX8_itemFor_131 rfl (lv_at hl 4 rfl) ?_
      obtain ⟨b40, hM⟩ := gd_use hM
      refine va_iald hx hb hK hP 3 0 rfl rfl b40 dX8_itemFor_132 ?_
      obtain ⟨r41, hcr41, hM⟩ := ob_use hM
      refine cl_V (As := [.int 8, .int (o_T.2.2.2.2.1 a1.toNatClampNeg)]) (rest := []) (wM0 ad o_X o_L o_N o_T o_U o_O o_E o_Q o_V r41 ++ wMT cI ad o_T ++ wMI cI ad r41) [] ⟨hx, hb, hml, hown, hts⟩ (c_Model_item l D cI sd ad o_C o_X o_L o_N o_T o_U o_O o_E o_Q o_V r39 8 (o_T.2.2.2.2.1 a1.toNatClampNeg) r41 hcr41) (cwV2 hts q1512 mvX8_item rfl rfl ⟨(Nat.le_of_ble_eq_true rfl), (Nat.le_of_ble_eq_true rfl)⟩) hK hE hA hP hD hS 0 (T := TX8) (N := 48) (ci := 8) rfl rfl [0, 8, 9] rfl (by decide) rfl rfl rfl rfl rfl rfl hl.1 (Nat.le_of_ble_eq_true rfl) dX8_itemFor_133 ⟨Nat.zero_le _, Nat.zero_le _⟩ (fun H locs hP hD hS => ?_)
      refine lv_aload_n hx hb dX8_itemFor_136 rfl (lv_at hl 3 rfl) ?_
      refine lv_iconst (v := 0) hx hb dX8_itemFor_137 (by decide) ?_
      refine lv_bipush (v := 23) hx hb dX8_itemFor_138 (by decide) ?_
      obtain ⟨r42, hcr42, hM⟩ := ob_use hM
      refine cl_V (As := [.int 0, .int 23]) (rest := []) (wM0 ad o_X o_L o_N o_T o_U o_O o_E o_Q o_V r42 ++ wMT cI ad o_T ++ wMI cI ad r42) [] ⟨hx, hb, hml, hown, hts⟩ (c_Model_item l D cI sd ad o_C o_X o_L o_N o_T o_U o_O o_E o_Q o_V r41 0 23 r42 hcr42) (cwV2 hts q1512 mvX8_item rfl rfl ⟨(Nat.le_of_ble_eq_true rfl), (Nat.le_of_ble_eq_true rfl)⟩) hK hE hA hP hD hS 0 (T := TX8) (N := 48) (ci := 8) rfl rfl [0, 8, 9] rfl (by decide) rfl rfl rfl rfl rfl rfl hl.1 (Nat.le_of_ble_eq_true rfl) dX8_itemFor_140 ⟨Nat.zero_le _, Nat.zero_le _⟩ (fun H locs hP hD hS => ?_)
      cases hM
      exact rt_v hx hb hr hlk hP hD hS rfl dX8_itemFor_143
    · replace hM := if_f c35 hM
      refine lv_aload_n hx hb dX8_itemFor_84 rfl (lv_at hl 3 rfl) ?_
      refine lv_iconst (v := 1) hx hb dX8_itemFor_85 (by decide) ?_
      refine lv_iload hx hb dX8_itemFor_86 (lv_at hl 0 rfl) ?_
      obtain ⟨r43, hcr43, hM⟩ := ob_use hM
      refine cl_V (As := [.int 1, .int x6]) (rest := []) (wM0 ad o_X o_L o_N o_T o_U o_O o_E o_Q o_V r43 ++ wMT cI ad o_T ++ wMI cI ad r43) [] ⟨hx, hb, hml, hown, hts⟩ (c_Model_item l D cI sd ad o_C o_X o_L o_N o_T o_U o_O o_E o_Q o_V r33 1 x6 r43 hcr43) (cwV2 hts q1512 mvX8_item rfl rfl ⟨(Nat.le_of_ble_eq_true rfl), (Nat.le_of_ble_eq_true rfl)⟩) hK hE hA hP hD hS 0 (T := TX8) (N := 48) (ci := 8) rfl rfl [0, 8, 9] rfl (by decide) rfl rfl rfl rfl rfl rfl hl.1 (Nat.le_of_ble_eq_true rfl) dX8_itemFor_88 ⟨Nat.zero_le _, Nat.zero_le _⟩ (fun H locs hP hD hS => ?_)
      refine lv_aload_n hx hb dX8_itemFor_91 rfl (lv_at hl 3 rfl) ?_
      refine lv_iconst (v := 0) hx hb dX8_itemFor_92 (by decide) ?_
      refine lv_bipush (v := 25) hx hb dX8_itemFor_93 (by decide) ?_
      obtain ⟨r44, hcr44, hM⟩ := ob_use hM
      refine cl_V (As := [.int 0, .int 25]) (rest := []) (wM0 ad o_X o_L o_N o_T o_U o_O o_E o_Q o_V r44 ++ wMT cI ad o_T ++ wMI cI ad r44) [] ⟨hx, hb, hml, hown, hts⟩ (c_Model_item l D cI sd ad o_C o_X o_L o_N o_T o_U o_O o_E o_Q o_V r43 0 25 r44 hcr44) (cwV2 hts q1512 mvX8_item rfl rfl ⟨(Nat.le_of_ble_eq_true rfl), (Nat.le_of_ble_eq_true rfl)⟩) hK hE hA hP hD hS 0 (T := TX8) (N := 48) (ci := 8) rfl rfl [0, 8, 9] rfl (by decide) rfl rfl rfl rfl rfl rfl hl.1 (Nat.le_of_ble_eq_true rfl) dX8_itemFor_95 ⟨Nat.zero_le _, Nat.zero_le _⟩ (fun H locs hP hD hS => ?_)
      refine lv_aload_n hx hb dX8_itemFor_98 rfl (lv_at hl 3 rfl) ?_
      refine lv_iconst (v := 1) hx hb dX8_itemFor_99 (by decide) ?_
      refine lv_iload_n hx hb dX8_itemFor_100 rfl (lv_at hl 1 rfl) ?_
      obtain ⟨r45, hcr45, hM⟩ := ob_use hM
      refine cl_V (As := [.int 1, .int x4]) (rest := []) (wM0 ad o_X o_L o_N o_T o_U o_O o_E o_Q o_V r45 ++ wMT cI ad o_T ++ wMI cI ad r45) [] ⟨hx, hb, hml, hown, hts⟩ (c_Model_item l D cI sd ad o_C o_X o_L o_N o_T o_U o_O o_E o_Q o_V r44 1 x4 r45 hcr45) (cwV2 hts q1512 mvX8_item rfl rfl ⟨(Nat.le_of_ble_eq_true rfl), (Nat.le_of_ble_eq_true rfl)⟩) hK hE hA hP hD hS 0 (T := TX8) (N := 48) (ci := 8) rfl rfl [0, 8, 9] rfl (by decide) rfl rfl rfl rfl rfl rfl hl.1 (Nat.le_of_ble_eq_true rfl) dX8_itemFor_101 ⟨Nat.zero_le _, Nat.zero_le _⟩ (fun H locs hP hD hS => ?_)
      refine lv_aload_n hx hb dX8_itemFor_104 rfl (lv_at hl 3 rfl) ?_
      refine lv_iconst (v := 0) hx hb dX8_itemFor_105 (by decide) ?_
      refine lv_bipush (v := 24) hx hb dX8_itemFor_106 (by decide) ?_
      obtain ⟨r46, hcr46, hM⟩ := ob_use hM
      refine cl_V (As := [.int 0, .int 24]) (rest := []) (wM0 ad o_X o_L o_N o_T o_U o_O o_E o_Q o_V r46 ++ wMT cI ad o_T ++ wMI cI ad r46) [] ⟨hx, hb, hml, hown, hts⟩ (c_Model_item l D cI sd ad o_C o_X o_L o_N o_T o_U o_O o_E o_Q o_V r45 0 24 r46 hcr46) (cwV2 hts q1512 mvX8_item rfl rfl ⟨(Nat.le_of_ble_eq_true rfl), (Nat.le_of_ble_eq_true rfl)⟩) hK hE hA hP hD hS 0 (T := TX8) (N := 48) (ci := 8) rfl rfl [0, 8, 9] rfl (by decide) rfl rfl rfl rfl rfl rfl hl.1 (Nat.le_of_ble_eq_true rfl) dX8_itemFor_108 ⟨Nat.zero_le _, Nat.zero_le _⟩ (fun H locs hP hD hS => ?_)
      refine lv_aload_n hx hb dX8_itemFor_111 rfl (lv_at hl 3 rfl) ?_
      refine lv_iconst (v := 1) hx hb dX8_itemFor_112 (by decide) ?_
      refine lv_iload_n hx hb dX8_itemFor_113 rfl (lv_at hl 2 rfl) ?_
      obtain ⟨r47, hcr47, hM⟩ := ob_use hM
      refine cl_V (As := [.int 1, .int x2]) (rest := []) (wM0 ad o_X o_L o_N o_T o_U o_O o_E o_Q o_V r47 ++ wMT cI ad o_T ++ wMI cI ad r47) [] ⟨hx, hb, hml, hown, hts⟩ (c_Model_item l D cI sd ad o_C o_X o_L o_N o_T o_U o_O o_E o_Q o_V r46 1 x2 r47 hcr47) (cwV2 hts q1512 mvX8_item rfl rfl ⟨(Nat.le_of_ble_eq_true rfl), (Nat.le_of_ble_eq_true rfl)⟩) hK hE hA hP hD hS 0 (T := TX8) (N := 48) (ci := 8) rfl rfl [0, 8, 9] rfl (by decide) rfl rfl rfl rfl rfl rfl hl.1 (Nat.le_of_ble_eq_true rfl) dX8_itemFor_114 ⟨Nat.zero_le _, Nat.zero_le _⟩ (fun H locs hP hD hS => ?_)
      refine lv_aload_n hx hb dX8_itemFor_117 rfl (lv_at hl 3 rfl) ?_
      refine lv_iconst (v := 0) hx hb dX8_itemFor_118 (by decide) ?_
      refine lv_bipush (v := 50) hx hb dX8_itemFor_119 (by decide) ?_
      obtain ⟨r48, hcr48, hM⟩ := ob_use hM
      refine cl_V (As := [.int 0, .int 50]) (rest := []) (wM0 ad o_X o_L o_N o_T o_U o_O o_E o_Q o_V r48 ++ wMT cI ad o_T ++ wMI cI ad r48) [] ⟨hx, hb, hml, hown, hts⟩ (c_Model_item l D cI sd ad o_C o_X o_L o_N o_T o_U o_O o_E o_Q o_V r47 0 50 r48 hcr48) (cwV2 hts q1512 mvX8_item rfl rfl ⟨(Nat.le_of_ble_eq_true rfl), (Nat.le_of_ble_eq_true rfl)⟩) hK hE hA hP hD hS 0 (T := TX8) (N := 48) (ci := 8) rfl rfl [0, 8, 9] rfl (by decide) rfl rfl rfl rfl rfl rfl hl.1 (Nat.le_of_ble_eq_true rfl) dX8_itemFor_121 ⟨Nat.zero_le _, Nat.zero_le _⟩ (fun H locs hP hD hS => ?_)
      refine lv_aload_n hx hb dX8_itemFor_124 rfl (lv_at hl 3 rfl) ?_
      refine lv_bipush (v := 8) hx hb dX8_itemFor_125 (by decide) ?_
      refine lv_aload_n hx hb dX8_itemFor_127 rfl (lv_at hl 3 rfl) ?_
      refine va_get (D := D) (ci := 8) (v := .ref (ad 110)) (C := RX8) (T := TX8) (N := 48) hx hb hts layX8 hown hK hP 0 rfl rfl 19 (by decide) (hts _ (inA q997)) (fun _ h9 => h9) rfl dX8_itemFor_128 ?_
      refine lv_iload_n hx hb dX8_itemFor_131 rfl (lv_at hl 4 rfl) ?_
      obtain ⟨b49, hM⟩ := gd_use hM
      refine va_iald hx hb hK hP 3 0 rfl rfl b49 dX8_itemFor_132 ?_
      obtain ⟨r50, hcr50, hM⟩ := ob_use hM
      refine cl_V (As := [.int 8, .int (o_T.2.2.2.2.1 a1.toNatClampNeg)]) (rest := []) (wM0 ad o_X o_L o_N o_T o_U o_O o_E o_Q o_V r50 ++ wMT cI ad o_T ++ wMI cI ad r50) [] ⟨hx, hb, hml, hown, hts⟩ (c_Model_item l D cI sd ad o_C o_X o_L o_N o_T o_U o_O o_E o_Q o_V r48 8 (o_T.2.2.2.2.1 a1.toNatClampNeg) r50 hcr50) (cwV2 hts q1512 mvX8_item rfl rfl ⟨(Nat.le_of_ble_eq_true rfl), (Nat.le_of_ble_eq_true rfl)⟩) hK hE hA hP hD hS 0 (T := TX8) (N := 48) (ci := 8) rfl rfl [0, 8, 9] rfl (by decide) rfl rfl rfl rfl rfl rfl hl.1 (Nat.le_of_ble_eq_true rfl) dX8_itemFor_133 ⟨Nat.zero_le _, Nat.zero_le _⟩ (fun H locs hP hD hS => ?_)
      refine lv_aload_n hx hb dX8_itemFor_136 rfl (lv_at hl 3 rfl) ?_
      refine lv_iconst (v := 0) hx hb dX8_itemFor_137 (by decide) ?_
      refine lv_bipush (v := 23) hx hb dX8_itemFor_138 (by decide) ?_
      obtain ⟨r51, hcr51, hM⟩ := ob_use hM
      refine cl_V (As := [.int 0, .int 23]) (rest := []) (wM0 ad o_X o_L o_N o_T o_U o_O o_E o_Q o_V r51 ++ wMT cI ad o_T ++ wMI cI ad r51) [] ⟨hx, hb, hml, hown, hts⟩ (c_Model_item l D cI sd ad o_C o_X o_L o_N o_T o_U o_O o_E o_Q o_V r50 0 23 r51 hcr51) (cwV2 hts q1512 mvX8_item rfl rfl ⟨(Nat.le_of_ble_eq_true rfl), (Nat.le_of_ble_eq_true rfl)⟩) hK hE hA hP hD hS 0 (T := TX8) (N := 48) (ci := 8) rfl rfl [0, 8, 9] rfl (by decide) rfl rfl rfl rfl rfl rfl hl.1 (Nat.le_of_ble_eq_true rfl) dX8_itemFor_140 ⟨Nat.zero_le _, Nat.zero_le _⟩ (fun H locs hP hD hS => ?_)
      cases hM
      exact rt_v hx hb hr hlk hP hD hS rfl dX8_itemFor_143

set_option maxHeartbeats 4000000 in
set_option maxRecDepth 100000 in
theorem c_Model_itemArray (l : Launch) (D : va_G) (cI : ClassId) (sd : Nat → Nat) (ad : Nat → Nat) (o_C : S_MC) (o_X : S_MX) (o_L : S_ML) (o_N : S_MN) (o_U : S_MU) (o_O : S_MO) (o_E : S_ME) (o_Q : S_MQ) (o_V : S_MV) (o_T : S_MT) (o_I : S_MI) (a1 : Int32) (res : S_MI) (hM : f_Model_itemArray o_T o_I a1 = some res) : Ctr l D cI sd yX8_itemArray (wsM yX8_itemArray cX8_itemArray 2 (Option.none : Option Jvm.ClassFile.FieldType)) { frames := 1, cells := 0, slots := 0, locals := 22 } [.ref (ad 100), .int a1] (wM0 ad o_X o_L o_N o_T o_U o_O o_E o_Q o_V o_I ++ wMT cI ad o_T ++ wMI cI ad o_I) (wM0 ad o_X o_L o_N o_T o_U o_O o_E o_Q o_V res ++ wMT cI ad o_T ++ wMI cI ad res) none := by
  refine Ctr.of (cc := cX8_itemArray) (maxL := 2) (own := RX8) (by decide +kernel) rfl rfl (Nat.le_of_ble_eq_true rfl) ?_
  intro p e s m below meth c A ls hx hb hr hml hown hts hlk hK hE hA hP hD hS hl
  have hl : lv_has ls 2 [(0, .ref (ad 100)), (1, .int a1)] := hl
  unfold f_Model_itemArray at hM
  refine lv_aload_n hx hb dX8_itemArray_0 rfl (lv_at hl 0 rfl) ?_
  refine lv_iconst (v := 1) hx hb dX8_itemArray_1 (by decide) ?_
  refine lv_aload_n hx hb dX8_itemArray_2 rfl (lv_at hl 0 rfl) ?_
  refine va_get (D := D) (ci := 8) (v := .ref (ad 114)) (C := RX8) (T := TX8) (N := 48) hx hb hts layX8 hown hK hP 0 rfl rfl 23 (by decide) (hts _ (inA q1001)) (fun _ h9 => h9) rfl dX8_itemArray_3 ?_
  refine lv_aload_n hx hb dX8_itemArray_6 rfl (lv_at hl 0 rfl) ?_
  refine lv_iload_n hx hb dX8_itemArray_7 rfl (lv_at hl 1 rfl) ?_
  obtain ⟨r1, hcr1, hM⟩ := ob_use hM
  refine cl_V (As := [.int a1]) (rest := [.ref (ad 114), .int 1, .ref (ad 100)]) (wM0 ad o_X o_L o_N o_T o_U o_O o_E o_Q o_V o_I ++ wMT cI ad o_T ++ wMI cI ad o_I) (.int r1 :: [.ref (ad 114), .int 1, .ref (ad 100)]) ⟨hx, hb, hml, hown, hts⟩ (c_Model_second l D cI sd ad o_C o_X o_L o_N o_U o_O o_E o_Q o_V o_I o_T a1 r1 hcr1) (cwV2 hts q1555 mvX8_second rfl rfl ⟨(Nat.le_of_ble_eq_true rfl), (Nat.le_of_ble_eq_true rfl)⟩) hK hE hA hP hD hS 0 (T := TX8) (N := 48) (ci := 8) rfl rfl [0, 1, 2, 3, 4, 5, 6, 7] rfl (by decide) rfl rfl rfl rfl rfl rfl hl.1 (Nat.le_of_ble_eq_true rfl) dX8_itemArray_8 ⟨Nat.zero_le _, Nat.zero_le _⟩ (fun H locs hP hD hS => ?_)
  obtain ⟨b2, hM⟩ := gd_use hM
  refine va_iald hx hb hK hP 7 0 rfl rfl b2 dX8_itemArray_11 ?_
  obtain ⟨r3, hcr3, hM⟩ := ob_use hM
  refine cl_V (As := [.int 1, .int (o_T.2.2.2.2.2.2.2.2 r1.toNatClampNeg)]) (rest := []) (wM0 ad o_X o_L o_N o_T o_U o_O o_E o_Q o_V r3 ++ wMT cI ad o_T ++ wMI cI ad r3) [] ⟨hx, hb, hml, hown, hts⟩ (c_Model_item l D cI sd ad o_C o_X o_L o_N o_T o_U o_O o_E o_Q o_V o_I 1 (o_T.2.2.2.2.2.2.2.2 r1.toNatClampNeg) r3 hcr3) (cwV2 hts q1512 mvX8_item rfl rfl ⟨(Nat.le_of_ble_eq_true rfl), (Nat.le_of_ble_eq_true rfl)⟩) hK hE hA hP hD hS 0 (T := TX8) (N := 48) (ci := 8) rfl rfl [0, 8, 9] rfl (by decide) rfl rfl rfl rfl rfl rfl hl.1 (Nat.le_of_ble_eq_true rfl) dX8_itemArray_12 ⟨Nat.zero_le _, Nat.zero_le _⟩ (fun H locs hP hD hS => ?_)
  refine lv_aload_n hx hb dX8_itemArray_15 rfl (lv_at hl 0 rfl) ?_
  refine lv_iconst (v := 0) hx hb dX8_itemArray_16 (by decide) ?_
  refine lv_bipush (v := 15) hx hb dX8_itemArray_17 (by decide) ?_
  obtain ⟨r4, hcr4, hM⟩ := ob_use hM
  refine cl_V (As := [.int 0, .int 15]) (rest := []) (wM0 ad o_X o_L o_N o_T o_U o_O o_E o_Q o_V r4 ++ wMT cI ad o_T ++ wMI cI ad r4) [] ⟨hx, hb, hml, hown, hts⟩ (c_Model_item l D cI sd ad o_C o_X o_L o_N o_T o_U o_O o_E o_Q o_V r3 0 15 r4 hcr4) (cwV2 hts q1512 mvX8_item rfl rfl ⟨(Nat.le_of_ble_eq_true rfl), (Nat.le_of_ble_eq_true rfl)⟩) hK hE hA hP hD hS 0 (T := TX8) (N := 48) (ci := 8) rfl rfl [0, 8, 9] rfl (by decide) rfl rfl rfl rfl rfl rfl hl.1 (Nat.le_of_ble_eq_true rfl) dX8_itemArray_19 ⟨Nat.zero_le _, Nat.zero_le _⟩ (fun H locs hP hD hS => ?_)
  refine lv_aload_n hx hb dX8_itemArray_22 rfl (lv_at hl 0 rfl) ?_
  refine lv_iconst (v := 0) hx hb dX8_itemArray_23 (by decide) ?_
  refine lv_bipush (v := 58) hx hb dX8_itemArray_24 (by decide) ?_
  obtain ⟨r5, hcr5, hM⟩ := ob_use hM
  refine cl_V (As := [.int 0, .int 58]) (rest := []) (wM0 ad o_X o_L o_N o_T o_U o_O o_E o_Q o_V r5 ++ wMT cI ad o_T ++ wMI cI ad r5) [] ⟨hx, hb, hml, hown, hts⟩ (c_Model_item l D cI sd ad o_C o_X o_L o_N o_T o_U o_O o_E o_Q o_V r4 0 58 r5 hcr5) (cwV2 hts q1512 mvX8_item rfl rfl ⟨(Nat.le_of_ble_eq_true rfl), (Nat.le_of_ble_eq_true rfl)⟩) hK hE hA hP hD hS 0 (T := TX8) (N := 48) (ci := 8) rfl rfl [0, 8, 9] rfl (by decide) rfl rfl rfl rfl rfl rfl hl.1 (Nat.le_of_ble_eq_true rfl) dX8_itemArray_26 ⟨Nat.zero_le _, Nat.zero_le _⟩ (fun H locs hP hD hS => ?_)
  refine lv_aload_n hx hb dX8_itemArray_29 rfl (lv_at hl 0 rfl) ?_
  refine lv_iconst (v := 1) hx hb dX8_itemArray_30 (by decide) ?_
  refine lv_aload_n hx hb dX8_itemArray_31 rfl (lv_at hl 0 rfl) ?_
  refine lv_iload_n hx hb dX8_itemArray_32 rfl (lv_at hl 1 rfl) ?_
  obtain ⟨r6, hcr6, hM⟩ := ob_use hM
  refine cl_V (As := [.int a1]) (rest := [.int 1, .ref (ad 100)]) (wM0 ad o_X o_L o_N o_T o_U o_O o_E o_Q o_V r5 ++ wMT cI ad o_T ++ wMI cI ad r5) (.int r6 :: [.int 1, .ref (ad 100)]) ⟨hx, hb, hml, hown, hts⟩ (c_Model_second l D cI sd ad o_C o_X o_L o_N o_U o_O o_E o_Q o_V r5 o_T a1 r6 hcr6) (cwV2 hts q1555 mvX8_second rfl rfl ⟨(Nat.le_of_ble_eq_true rfl), (Nat.le_of_ble_eq_true rfl)⟩) hK hE hA hP hD hS 0 (T := TX8) (N := 48) (ci := 8) rfl rfl [0, 1, 2, 3, 4, 5, 6, 7] rfl (by decide) rfl rfl rfl rfl rfl rfl hl.1 (Nat.le_of_ble_eq_true rfl) dX8_itemArray_33 ⟨Nat.zero_le _, Nat.zero_le _⟩ (fun H locs hP hD hS => ?_)
  obtain ⟨r7, hcr7, hM⟩ := ob_use hM
  refine cl_V (As := [.int 1, .int r6]) (rest := []) (wM0 ad o_X o_L o_N o_T o_U o_O o_E o_Q o_V r7 ++ wMT cI ad o_T ++ wMI cI ad r7) [] ⟨hx, hb, hml, hown, hts⟩ (c_Model_item l D cI sd ad o_C o_X o_L o_N o_T o_U o_O o_E o_Q o_V r5 1 r6 r7 hcr7) (cwV2 hts q1512 mvX8_item rfl rfl ⟨(Nat.le_of_ble_eq_true rfl), (Nat.le_of_ble_eq_true rfl)⟩) hK hE hA hP hD hS 0 (T := TX8) (N := 48) (ci := 8) rfl rfl [0, 8, 9] rfl (by decide) rfl rfl rfl rfl rfl rfl hl.1 (Nat.le_of_ble_eq_true rfl) dX8_itemArray_36 ⟨Nat.zero_le _, Nat.zero_le _⟩ (fun H locs hP hD hS => ?_)
  refine lv_aload_n hx hb dX8_itemArray_39 rfl (lv_at hl 0 rfl) ?_
  refine lv_iconst (v := 0) hx hb dX8_itemArray_40 (by decide) ?_
  refine lv_bipush (v := 51) hx hb dX8_itemArray_41 (by decide) ?_
  obtain ⟨r8, hcr8, hM⟩ := ob_use hM
  refine cl_V (As := [.int 0, .int 51]) (rest := []) (wM0 ad o_X o_L o_N o_T o_U o_O o_E o_Q o_V r8 ++ wMT cI ad o_T ++ wMI cI ad r8) [] ⟨hx, hb, hml, hown, hts⟩ (c_Model_item l D cI sd ad o_C o_X o_L o_N o_T o_U o_O o_E o_Q o_V r7 0 51 r8 hcr8) (cwV2 hts q1512 mvX8_item rfl rfl ⟨(Nat.le_of_ble_eq_true rfl), (Nat.le_of_ble_eq_true rfl)⟩) hK hE hA hP hD hS 0 (T := TX8) (N := 48) (ci := 8) rfl rfl [0, 8, 9] rfl (by decide) rfl rfl rfl rfl rfl rfl hl.1 (Nat.le_of_ble_eq_true rfl) dX8_itemArray_43 ⟨Nat.zero_le _, Nat.zero_le _⟩ (fun H locs hP hD hS => ?_)
  refine lv_aload_n hx hb dX8_itemArray_46 rfl (lv_at hl 0 rfl) ?_
  refine lv_iconst (v := 1) hx hb dX8_itemArray_47 (by decide) ?_
  refine lv_aload_n hx hb dX8_itemArray_48 rfl (lv_at hl 0 rfl) ?_
  refine va_get (D := D) (ci := 8) (v := .ref (ad 112)) (C := RX8) (T := TX8) (N := 48) hx hb hts layX8 hown hK hP 0 rfl rfl 21 (by decide) (hts _ (inA q999)) (fun _ h9 => h9) rfl dX8_itemArray_49 ?_
  refine lv_iload_n hx hb dX8_itemArray_52 rfl (lv_at hl 1 rfl) ?_
  obtain ⟨b9, hM⟩ := gd_use hM
  refine va_iald hx hb hK hP 5 0 rfl rfl b9 dX8_itemArray_53 ?_
  obtain ⟨r10, hcr10, hM⟩ := ob_use hM
  refine cl_V (As := [.int 1, .int (o_T.2.2.2.2.2.2.1 a1.toNatClampNeg)]) (rest := []) (wM0 ad o_X o_L o_N o_T o_U o_O o_E o_Q o_V r10 ++ wMT cI ad o_T ++ wMI cI ad r10) [] ⟨hx, hb, hml, hown, hts⟩ (c_Model_item l D cI sd ad o_C o_X o_L o_N o_T o_U o_O o_E o_Q o_V r8 1 (o_T.2.2.2.2.2.2.1 a1.toNatClampNeg) r10 hcr10) (cwV2 hts q1512 mvX8_item rfl rfl ⟨(Nat.le_of_ble_eq_true rfl), (Nat.le_of_ble_eq_true rfl)⟩) hK hE hA hP hD hS 0 (T := TX8) (N := 48) (ci := 8) rfl rfl [0, 8, 9] rfl (by decide) rfl rfl rfl rfl rfl rfl hl.1 (Nat.le_of_ble_eq_true rfl) dX8_itemArray_54 ⟨Nat.zero_le _, Nat.zero_le _⟩ (fun H locs hP hD hS => ?_)
  refine lv_aload_n hx hb dX8_itemArray_57 rfl (lv_at hl 0 rfl) ?_
  refine lv_iconst (v := 0) hx hb dX8_itemArray_58 (by decide) ?_
  refine lv_bipush (v := 57) hx hb dX8_itemArray_59 (by decide) ?_
  obtain ⟨r11, hcr11, hM⟩ := ob_use hM
  refine cl_V (As := [.int 0, .int 57]) (rest := []) (wM0 ad o_X o_L o_N o_T o_U o_O o_E o_Q o_V r11 ++ wMT cI ad o_T ++ wMI cI ad r11) [] ⟨hx, hb, hml, hown, hts⟩ (c_Model_item l D cI sd ad o_C o_X o_L o_N o_T o_U o_O o_E o_Q o_V r10 0 57 r11 hcr11) (cwV2 hts q1512 mvX8_item rfl rfl ⟨(Nat.le_of_ble_eq_true rfl), (Nat.le_of_ble_eq_true rfl)⟩) hK hE hA hP hD hS 0 (T := TX8) (N := 48) (ci := 8) rfl rfl [0, 8, 9] rfl (by decide) rfl rfl rfl rfl rfl rfl hl.1 (Nat.le_of_ble_eq_true rfl) dX8_itemArray_61 ⟨Nat.zero_le _, Nat.zero_le _⟩ (fun H locs hP hD hS => ?_)
  refine lv_aload_n hx hb dX8_itemArray_64 rfl (lv_at hl 0 rfl) ?_
  refine lv_iconst (v := 0) hx hb dX8_itemArray_65 (by decide) ?_
  refine lv_bipush (v := 14) hx hb dX8_itemArray_66 (by decide) ?_
  obtain ⟨r12, hcr12, hM⟩ := ob_use hM
  refine cl_V (As := [.int 0, .int 14]) (rest := []) (wM0 ad o_X o_L o_N o_T o_U o_O o_E o_Q o_V r12 ++ wMT cI ad o_T ++ wMI cI ad r12) [] ⟨hx, hb, hml, hown, hts⟩ (c_Model_item l D cI sd ad o_C o_X o_L o_N o_T o_U o_O o_E o_Q o_V r11 0 14 r12 hcr12) (cwV2 hts q1512 mvX8_item rfl rfl ⟨(Nat.le_of_ble_eq_true rfl), (Nat.le_of_ble_eq_true rfl)⟩) hK hE hA hP hD hS 0 (T := TX8) (N := 48) (ci := 8) rfl rfl [0, 8, 9] rfl (by decide) rfl rfl rfl rfl rfl rfl hl.1 (Nat.le_of_ble_eq_true rfl) dX8_itemArray_68 ⟨Nat.zero_le _, Nat.zero_le _⟩ (fun H locs hP hD hS => ?_)
  cases hM
  exact rt_v hx hb hr hlk hP hD hS rfl dX8_itemArray_71

set_option maxHeartbeats 4000000 in
set_option maxRecDepth 100000 in
theorem c_Model_itemAll (l : Launch) (D : va_G) (cI : ClassId) (sd : Nat → Nat) (ad : Nat → Nat) (o_C : S_MC) (o_X : S_MX) (o_L : S_ML) (o_N : S_MN) (o_U : S_MU) (o_O : S_MO) (o_E : S_ME) (o_Q : S_MQ) (o_V : S_MV) (o_T : S_MT) (o_I : S_MI) (a1 : Int32) (a2 : Int32) (a3 : Int32) (a4 : Int32) (res : S_MI) (hM : f_Model_itemAll o_T o_I a1 a2 a3 a4 = some res) : Ctr l D cI sd yX8_itemAll (wsM yX8_itemAll cX8_itemAll 5 (Option.none : Option Jvm.ClassFile.FieldType)) { frames := 1, cells := 0, slots := 0, locals := 22 } [.ref (ad 100), .int a1, .int a2, .int a3, .int a4] (wM0 ad o_X o_L o_N o_T o_U o_O o_E o_Q o_V o_I ++ wMT cI ad o_T ++ wMI cI ad o_I) (wM0 ad o_X o_L o_N o_T o_U o_O o_E o_Q o_V res ++ wMT cI ad o_T ++ wMI cI ad res) none := by
  refine Ctr.of (cc := cX8_itemAll) (maxL := 5) (own := RX8) (by decide +kernel) rfl rfl (Nat.le_of_ble_eq_true rfl) ?_
  intro p e s m below meth c A ls hx hb hr hml hown hts hlk hK hE hA hP hD hS hl
  have hl : lv_has ls 5 [(0, .ref (ad 100)), (1, .int a1), (2, .int a2), (3, .int a3), (4, .int a4)] := hl
  unfold f_Model_itemAll at hM
  refine lv_iload_n hx hb dX8_itemAll_0 rfl (lv_at hl 1 rfl) ?_
  refine lv_iconst (v := (-1)) hx hb dX8_itemAll_1 (by decide) ?_
  refine lv_icmp_eq (tgt := 11) hx hb dX8_itemAll_2 (by decide) (fun c1 => ?_) (fun c1 => ?_)
  · replace hM := if_t c1 hM
    refine lv_aload_n hx hb dX8_itemAll_11 rfl (lv_at hl 0 rfl) ?_
    refine lv_iload_n hx hb dX8_itemAll_12 rfl (lv_at hl 2 rfl) ?_
    refine lv_aload_n hx hb dX8_itemAll_13 rfl (lv_at hl 0 rfl) ?_
    refine va_get (D := D) (ci := 8) (v := .ref (ad 112)) (C := RX8) (T := TX8) (N := 48) hx hb hts layX8 hown hK hP 0 rfl rfl 21 (by decide) (hts _ (inA q999)) (fun _ h9 => h9) rfl dX8_itemAll_14 ?_
    refine lv_iload_n hx hb dX8_itemAll_17 rfl (lv_at hl 3 rfl) ?_
    obtain ⟨b2, hM⟩ := gd_use hM
    refine va_iald hx hb hK hP 5 0 rfl rfl b2 dX8_itemAll_18 ?_
    obtain ⟨r3, hcr3, hM⟩ := ob_use hM
    refine cl_V (As := [.int a2, .int (o_T.2.2.2.2.2.2.1 a3.toNatClampNeg)]) (rest := []) (wM0 ad o_X o_L o_N o_T o_U o_O o_E o_Q o_V r3 ++ wMT cI ad o_T ++ wMI cI ad r3) [] ⟨hx, hb, hml, hown, hts⟩ (c_Model_item l D cI sd ad o_C o_X o_L o_N o_T o_U o_O o_E o_Q o_V o_I a2 (o_T.2.2.2.2.2.2.1 a3.toNatClampNeg) r3 hcr3) (cwV2 hts q1512 mvX8_item rfl rfl ⟨(Nat.le_of_ble_eq_true rfl), (Nat.le_of_ble_eq_true rfl)⟩) hK hE hA hP hD hS 0 (T := TX8) (N := 48) (ci := 8) rfl rfl [0, 8, 9] rfl (by decide) rfl rfl rfl rfl rfl rfl hl.1 (Nat.le_of_ble_eq_true rfl) dX8_itemAll_19 ⟨Nat.zero_le _, Nat.zero_le _⟩ (fun H locs hP hD hS => ?_)
    refine lv_iload hx hb dX8_itemAll_22 (lv_at hl 4 rfl) ?_
    refine lv_iconst (v := (-1)) hx hb dX8_itemAll_24 (by decide) ?_
    refine lv_icmp_eq (tgt := 35) hx hb dX8_itemAll_25 (by decide) (fun c4 => ?_) (fun c4 => ?_)
    · replace hM := if_t c4 hM
      cases hM
      exact rt_v hx hb hr hlk hP hD hS rfl dX8_itemAll_35
    · replace hM := if_f c4 hM
      refine lv_aload_n hx hb dX8_itemAll_28 rfl (lv_at hl 0 rfl) ?_
      refine lv_iconst (v := 0) hx hb dX8_itemAll_29 (by decide) ?_
      refine lv_iload hx hb dX8_itemAll_30 (lv_at hl 4 rfl) ?_
      obtain ⟨r5, hcr5, hM⟩ := ob_use hM
      refine cl_V (As := [.int 0, .int a4]) (rest := []) (wM0 ad o_X o_L o_N o_T o_U o_O o_E o_Q o_V r5 ++ wMT cI ad o_T ++ wMI cI ad r5) [] ⟨hx, hb, hml, hown, hts⟩ (c_Model_item l D cI sd ad o_C o_X o_L o_N o_T o_U o_O o_E o_Q o_V r3 0 a4 r5 hcr5) (cwV2 hts q1512 mvX8_item rfl rfl ⟨(Nat.le_of_ble_eq_true rfl), (Nat.le_of_ble_eq_true rfl)⟩) hK hE hA hP hD hS 0 (T := TX8) (N := 48) (ci := 8) rfl rfl [0, 8, 9] rfl (by decide) rfl rfl rfl rfl rfl rfl hl.1 (Nat.le_of_ble_eq_true rfl) dX8_itemAll_32 ⟨Nat.zero_le _, Nat.zero_le _⟩ (fun H locs hP hD hS => ?_)
      cases hM
      exact rt_v hx hb hr hlk hP hD hS rfl dX8_itemAll_35
  · replace hM := if_f c1 hM
    refine lv_aload_n hx hb dX8_itemAll_5 rfl (lv_at hl 0 rfl) ?_
    refine lv_iconst (v := 0) hx hb dX8_itemAll_6 (by decide) ?_
    refine lv_iload_n hx hb dX8_itemAll_7 rfl (lv_at hl 1 rfl) ?_
    obtain ⟨r6, hcr6, hM⟩ := ob_use hM
    refine cl_V (As := [.int 0, .int a1]) (rest := []) (wM0 ad o_X o_L o_N o_T o_U o_O o_E o_Q o_V r6 ++ wMT cI ad o_T ++ wMI cI ad r6) [] ⟨hx, hb, hml, hown, hts⟩ (c_Model_item l D cI sd ad o_C o_X o_L o_N o_T o_U o_O o_E o_Q o_V o_I 0 a1 r6 hcr6) (cwV2 hts q1512 mvX8_item rfl rfl ⟨(Nat.le_of_ble_eq_true rfl), (Nat.le_of_ble_eq_true rfl)⟩) hK hE hA hP hD hS 0 (T := TX8) (N := 48) (ci := 8) rfl rfl [0, 8, 9] rfl (by decide) rfl rfl rfl rfl rfl rfl hl.1 (Nat.le_of_ble_eq_true rfl) dX8_itemAll_8 ⟨Nat.zero_le _, Nat.zero_le _⟩ (fun H locs hP hD hS => ?_)
    refine lv_aload_n hx hb dX8_itemAll_11 rfl (lv_at hl 0 rfl) ?_
    refine lv_iload_n hx hb dX8_itemAll_12 rfl (lv_at hl 2 rfl) ?_
    refine lv_aload_n hx hb dX8_itemAll_13 rfl (lv_at hl 0 rfl) ?_
    refine va_get (D := D) (ci := 8) (v := .ref (ad 112)) (C := RX8) (T := TX8) (N := 48) hx hb hts layX8 hown hK hP 0 rfl rfl 21 (by decide) (hts _ (inA q999)) (fun _ h9 => h9) rfl dX8_itemAll_14 ?_
    refine lv_iload_n hx hb dX8_itemAll_17 rfl (lv_at hl 3 rfl) ?_
    obtain ⟨b7, hM⟩ := gd_use hM
    refine va_iald hx hb hK hP 5 0 rfl rfl b7 dX8_itemAll_18 ?_
    obtain ⟨r8, hcr8, hM⟩ := ob_use hM
    refine cl_V (As := [.int a2, .int (o_T.2.2.2.2.2.2.1 a3.toNatClampNeg)]) (rest := []) (wM0 ad o_X o_L o_N o_T o_U o_O o_E o_Q o_V r8 ++ wMT cI ad o_T ++ wMI cI ad r8) [] ⟨hx, hb, hml, hown, hts⟩ (c_Model_item l D cI sd ad o_C o_X o_L o_N o_T o_U o_O o_E o_Q o_V r6 a2 (o_T.2.2.2.2.2.2.1 a3.toNatClampNeg) r8 hcr8) (cwV2 hts q1512 mvX8_item rfl rfl ⟨(Nat.le_of_ble_eq_true rfl), (Nat.le_of_ble_eq_true rfl)⟩) hK hE hA hP hD hS 0 (T := TX8) (N := 48) (ci := 8) rfl rfl [0, 8, 9] rfl (by decide) rfl rfl rfl rfl rfl rfl hl.1 (Nat.le_of_ble_eq_true rfl) dX8_itemAll_19 ⟨Nat.zero_le _, Nat.zero_le _⟩ (fun H locs hP hD hS => ?_)
    refine lv_iload hx hb dX8_itemAll_22 (lv_at hl 4 rfl) ?_
    refine lv_iconst (v := (-1)) hx hb dX8_itemAll_24 (by decide) ?_
    refine lv_icmp_eq (tgt := 35) hx hb dX8_itemAll_25 (by decide) (fun c9 => ?_) (fun c9 => ?_)
    · replace hM := if_t c9 hM
      cases hM
      exact rt_v hx hb hr hlk hP hD hS rfl dX8_itemAll_35
    · replace hM := if_f c9 hM
      refine lv_aload_n hx hb dX8_itemAll_28 rfl (lv_at hl 0 rfl) ?_
      refine lv_iconst (v := 0) hx hb dX8_itemAll_29 (by decide) ?_
      refine lv_iload hx hb dX8_itemAll_30 (lv_at hl 4 rfl) ?_
      obtain ⟨r10, hcr10, hM⟩ := ob_use hM
      refine cl_V (As := [.int 0, .int a4]) (rest := []) (wM0 ad o_X o_L o_N o_T o_U o_O o_E o_Q o_V r10 ++ wMT cI ad o_T ++ wMI cI ad r10) [] ⟨hx, hb, hml, hown, hts⟩ (c_Model_item l D cI sd ad o_C o_X o_L o_N o_T o_U o_O o_E o_Q o_V r8 0 a4 r10 hcr10) (cwV2 hts q1512 mvX8_item rfl rfl ⟨(Nat.le_of_ble_eq_true rfl), (Nat.le_of_ble_eq_true rfl)⟩) hK hE hA hP hD hS 0 (T := TX8) (N := 48) (ci := 8) rfl rfl [0, 8, 9] rfl (by decide) rfl rfl rfl rfl rfl rfl hl.1 (Nat.le_of_ble_eq_true rfl) dX8_itemAll_32 ⟨Nat.zero_le _, Nat.zero_le _⟩ (fun H locs hP hD hS => ?_)
      cases hM
      exact rt_v hx hb hr hlk hP hD hS rfl dX8_itemAll_35
