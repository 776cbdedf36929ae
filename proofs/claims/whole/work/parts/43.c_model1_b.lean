set_option maxHeartbeats 4000000 in
set_option maxRecDepth 100000 in
theorem c_Model_change (l : Launch) (D : va_G) (cI : ClassId) (sd : Nat → Nat) (ad : Nat → Nat) (o_C : S_MC) (o_L : S_ML) (o_N : S_MN) (o_T : S_MT) (o_U : S_MU) (o_O : S_MO) (o_E : S_ME) (o_Q : S_MQ) (o_V : S_MV) (o_I : S_MI) (o_X : S_MX) (a1 : Int32) (a2 : Int32) (res : Int32 × S_MX) (hM : f_Model_change o_X a1 a2 = some res) : Ctr l D cI sd yX8_change (wsM yX8_change cX8_change 4 (Option.some Jvm.ClassFile.FieldType.int)) { frames := 0, cells := 0, slots := 0, locals := 0 } [.ref (ad 100), .int a1, .int a2] (wM_X cI ad o_X o_L o_N o_T o_U o_O o_E o_Q o_V o_I) (wM_X cI ad res.2 o_L o_N o_T o_U o_O o_E o_Q o_V o_I) (some (.int res.1)) := by
  refine Ctr.of (cc := cX8_change) (maxL := 4) (own := RX8) (by decide +kernel) rfl rfl (Nat.le_of_ble_eq_true rfl) ?_
  intro p e s m below meth c A ls hx hb hr hml hown hts hlk hK hE hA hP hD hS hl
  have hl : lv_has ls 4 [(0, .ref (ad 100)), (1, .int a1), (2, .int a2)] := hl
  unfold f_Model_change at hM
  refine lv_iload_n hx hb dX8_change_0 rfl (lv_at hl 1 rfl) ?_
  refine lv_if_lt (tgt := 23) hx hb dX8_change_1 (by decide) (fun c1 => ?_) (fun c1 => ?_)
  · replace hM := if_t c1 hM
    refine lv_iconst (v := (-1)) hx hb dX8_change_23 (by decide) ?_
    cases hM
    exact rt_i hx hb hr hlk hP hD hS rfl dX8_change_24
  · replace hM := if_f c1 hM
    refine lv_iload_n hx hb dX8_change_4 rfl (lv_at hl 1 rfl) ?_
    refine lv_aload_n hx hb dX8_change_5 rfl (lv_at hl 0 rfl) ?_
    refine va_get (D := D) (ci := 8) (v := .int o_X.1) (C := RX8) (T := TX8) (N := 48) hx hb hts layX8 hown hK hP 0 rfl rfl 4 (by decide) (hts _ (inA q982)) (fun _ h9 => h9) rfl dX8_change_6 ?_
    refine lv_icmp_ge (tgt := 23) hx hb dX8_change_9 (by decide) (fun c2 => ?_) (fun c2 => ?_)
    · replace hM := if_t c2 hM
      refine lv_iconst (v := (-1)) hx hb dX8_change_23 (by decide) ?_
      cases hM
      exact rt_i hx hb hr hlk hP hD hS rfl dX8_change_24
    · replace hM := if_f c2 hM
      refine lv_iload_n hx hb dX8_change_12 rfl (lv_at hl 2 rfl) ?_
      refine lv_if_lt (tgt := 23) hx hb dX8_change_13 (by decide) (fun c3 => ?_) (fun c3 => ?_)
      · replace hM := if_t c3 hM
        refine lv_iconst (v := (-1)) hx hb dX8_change_23 (by decide) ?_
        cases hM
        exact rt_i hx hb hr hlk hP hD hS rfl dX8_change_24
      · replace hM := if_f c3 hM
        refine lv_iload_n hx hb dX8_change_16 rfl (lv_at hl 2 rfl) ?_
        refine lv_sipush (v := 255) hx hb dX8_change_17 (by decide) ?_
        refine lv_icmp_le (tgt := 25) hx hb dX8_change_20 (by decide) (fun c4 => ?_) (fun c4 => ?_)
        · replace hM := if_t c4 hM
          refine lv_aload_n hx hb dX8_change_25 rfl (lv_at hl 0 rfl) ?_
          refine va_get (D := D) (ci := 8) (v := .ref (ad 105)) (C := RX8) (T := TX8) (N := 48) hx hb hts layX8 hown hK hP 0 rfl rfl 5 (by decide) (hts _ (inA q983)) (fun _ h9 => h9) rfl dX8_change_26 ?_
          refine lv_iload_n hx hb dX8_change_29 rfl (lv_at hl 1 rfl) ?_
          obtain ⟨b5, hM⟩ := gd_use hM
          refine va_iald hx hb hK hP 1 0 rfl rfl b5 dX8_change_30 ?_
          refine lv_istore_n (lv' := [(3, .int (o_X.2 a1.toNatClampNeg)), (0, .ref (ad 100)), (1, .int a1), (2, .int a2)]) hx hb dX8_change_31 rfl hl (by decide) rfl (fun ls hl => ?_)
          refine lv_aload_n hx hb dX8_change_32 rfl (lv_at hl 1 rfl) ?_
          refine va_get (D := D) (ci := 8) (v := .ref (ad 105)) (C := RX8) (T := TX8) (N := 48) hx hb hts layX8 hown hK hP 0 rfl rfl 5 (by decide) (hts _ (inA q983)) (fun _ h9 => h9) rfl dX8_change_33 ?_
          refine lv_iload_n hx hb dX8_change_36 rfl (lv_at hl 2 rfl) ?_
          refine lv_iload_n hx hb dX8_change_37 rfl (lv_at hl 3 rfl) ?_
          obtain ⟨b6, hM⟩ := gd_use hM
          refine va_iast hx hb hK hP hD hS 1 0 rfl rfl b6 dX8_change_38 (fun H locs hP hD hS => ?_)
          have hP : va_P D vwCl (wM_X cI ad (o_X.1, upd o_X.2 a1.toNatClampNeg a2) o_L o_N o_T o_U o_O o_E o_Q o_V o_I) H := hP
          have hD : va_D A (wM_X cI ad (o_X.1, upd o_X.2 a1.toNatClampNeg a2) o_L o_N o_T o_U o_O o_E o_Q o_V o_I) := hD
          refine lv_iload_n hx hb dX8_change_39 rfl (lv_at hl 0 rfl) ?_
          cases hM
          exact rt_i hx hb hr hlk hP hD hS rfl dX8_change_40
        · replace hM := if_f c4 hM
          refine lv_iconst (v := (-1)) hx hb dX8_change_23 (by decide) ?_
          cases hM
          exact rt_i hx hb hr hlk hP hD hS rfl dX8_change_24

set_option maxHeartbeats 4000000 in
set_option maxRecDepth 100000 in
theorem c_Model_fail (l : Launch) (D : va_G) (cI : ClassId) (sd : Nat → Nat) (ad : Nat → Nat) (o_C : S_MC) (o_X : S_MX) (o_N : S_MN) (o_T : S_MT) (o_U : S_MU) (o_O : S_MO) (o_E : S_ME) (o_Q : S_MQ) (o_V : S_MV) (o_I : S_MI) (o_L : S_ML) (a1 : Int32) (a2 : Int32) (res : S_ML) (hM : f_Model_fail o_L a1 a2 = some res) : Ctr l D cI sd yX8_fail (wsM yX8_fail cX8_fail 3 (Option.none : Option Jvm.ClassFile.FieldType)) { frames := 0, cells := 0, slots := 0, locals := 0 } [.ref (ad 100), .int a1, .int a2] (wM_L cI ad o_X o_L o_N o_T o_U o_O o_E o_Q o_V o_I) (wM_L cI ad o_X res o_N o_T o_U o_O o_E o_Q o_V o_I) none := by
  refine Ctr.of (cc := cX8_fail) (maxL := 3) (own := RX8) (by decide +kernel) rfl rfl (Nat.le_of_ble_eq_true rfl) ?_
  intro p e s m below meth c A ls hx hb hr hml hown hts hlk hK hE hA hP hD hS hl
  have hl : lv_has ls 3 [(0, .ref (ad 100)), (1, .int a1), (2, .int a2)] := hl
  unfold f_Model_fail at hM
  refine lv_aload_n hx hb dX8_fail_0 rfl (lv_at hl 0 rfl) ?_
  refine va_get (D := D) (ci := 8) (v := .int o_L.2.2.2.2.2.1) (C := RX8) (T := TX8) (N := 48) hx hb hts layX8 hown hK hP 0 rfl rfl 11 (by decide) (hts _ (inA q989)) (fun _ h9 => h9) rfl dX8_fail_1 ?_
  refine lv_if_ne (tgt := 17) hx hb dX8_fail_4 (by decide) (fun c1 => ?_) (fun c1 => ?_)
  · replace hM := if_f c1 hM
    cases hM
    exact rt_v hx hb hr hlk hP hD hS rfl dX8_fail_17
  · replace hM := if_t c1 hM
    refine lv_aload_n hx hb dX8_fail_7 rfl (lv_at hl 0 rfl) ?_
    refine lv_iload_n hx hb dX8_fail_8 rfl (lv_at hl 1 rfl) ?_
    refine va_put (D := D) (ci := 8) (v := .int a1) (ty := .int) (C := RX8) (T := TX8) (N := 48) hx hb hts layX8 tyX8 tyX8_ok nmX8 hown hK hP hD hS 0 rfl rfl 11 (by decide) (hts _ (inA q989)) (fun _ h9 => h9) rfl (by decide +kernel) rfl rfl (Nat.le_of_ble_eq_true rfl) dX8_fail_9 (fun H locs hP hD hS => ?_)
    have hP : va_P D vwCl (wM_L cI ad o_X (o_L.1, o_L.2.1, o_L.2.2.1, o_L.2.2.2.1, o_L.2.2.2.2.1, a1, o_L.2.2.2.2.2.2) o_N o_T o_U o_O o_E o_Q o_V o_I) H := hP
    have hD : va_D A (wM_L cI ad o_X (o_L.1, o_L.2.1, o_L.2.2.1, o_L.2.2.2.1, o_L.2.2.2.2.1, a1, o_L.2.2.2.2.2.2) o_N o_T o_U o_O o_E o_Q o_V o_I) := hD
    refine lv_aload_n hx hb dX8_fail_12 rfl (lv_at hl 0 rfl) ?_
    refine lv_iload_n hx hb dX8_fail_13 rfl (lv_at hl 2 rfl) ?_
    refine va_put (D := D) (ci := 8) (v := .int a2) (ty := .int) (C := RX8) (T := TX8) (N := 48) hx hb hts layX8 tyX8 tyX8_ok nmX8 hown hK hP hD hS 0 rfl rfl 12 (by decide) (hts _ (inA q990)) (fun _ h9 => h9) rfl (by decide +kernel) rfl rfl (Nat.le_of_ble_eq_true rfl) dX8_fail_14 (fun H locs hP hD hS => ?_)
    have hP : va_P D vwCl (wM_L cI ad o_X (o_L.1, o_L.2.1, o_L.2.2.1, o_L.2.2.2.1, o_L.2.2.2.2.1, a1, a2) o_N o_T o_U o_O o_E o_Q o_V o_I) H := hP
    have hD : va_D A (wM_L cI ad o_X (o_L.1, o_L.2.1, o_L.2.2.1, o_L.2.2.2.1, o_L.2.2.2.2.1, a1, a2) o_N o_T o_U o_O o_E o_Q o_V o_I) := hD
    cases hM
    exact rt_v hx hb hr hlk hP hD hS rfl dX8_fail_17

set_option maxHeartbeats 4000000 in
set_option maxRecDepth 100000 in
theorem c_Model_skip (l : Launch) (D : va_G) (cI : ClassId) (sd : Nat → Nat) (ad : Nat → Nat) (o_C : S_MC) (o_N : S_MN) (o_T : S_MT) (o_U : S_MU) (o_O : S_MO) (o_E : S_ME) (o_Q : S_MQ) (o_V : S_MV) (o_I : S_MI) (o_X : S_MX) (o_L : S_ML) (res : S_ML) (hM : f_Model_skip o_X o_L = some res) : Ctr l D cI sd yX8_skip (wsM yX8_skip cX8_skip 4 (Option.none : Option Jvm.ClassFile.FieldType)) { frames := 1, cells := 0, slots := 0, locals := 22 } [.ref (ad 100)] (wM_XL cI ad o_X o_L o_N o_T o_U o_O o_E o_Q o_V o_I) (wM_XL cI ad o_X res o_N o_T o_U o_O o_E o_Q o_V o_I) none := by
  refine Ctr.of (cc := cX8_skip) (maxL := 4) (own := RX8) (by decide +kernel) rfl rfl (Nat.le_of_ble_eq_true rfl) ?_
  intro p e s m below meth c A ls hx hb hr hml hown hts hlk hK hE hA hP hD hS hl
  have hl : lv_has ls 4 [(0, .ref (ad 100))] := hl
  unfold f_Model_skip at hM
  refine lv_iconst (v := 1) hx hb dX8_skip_0 (by decide) ?_
  refine lv_istore_n (lv' := [(1, .int 1), (0, .ref (ad 100))]) hx hb dX8_skip_1 rfl hl (by decide) rfl (fun ls hl => ?_)
  have lp_L2 : ∀ (o_X_L2 : S_MX) (n : Nat) (v1_L2 : Int32) (o_L_L2 : S_ML) (out_L2 : S_ML) (H : Heap) (locs : List Loc) (ls : Array Slot), f_Model_skip_L2 o_X_L2 n v1_L2 o_L_L2 = some out_L2 → va_P D vwCl (wM_XL cI ad o_X_L2 o_L_L2 o_N o_T o_U o_O o_E o_Q o_V o_I) H → va_D A (wM_XL cI ad o_X_L2 o_L_L2 o_N o_T o_U o_O o_E o_Q o_V o_I) → va_S A s.heap H locs → lv_has ls 4 [(1, .int v1_L2), (0, .ref (ad 100))] → (∀ (H : Heap) (locs : List Loc) (ls : Array Slot), va_P D vwCl (wM_XL cI ad o_X_L2 out_L2 o_N o_T o_U o_O o_E o_Q o_V o_I) H → va_D A (wM_XL cI ad o_X_L2 out_L2 o_N o_T o_U o_O o_E o_Q o_V o_I) → va_S A s.heap H locs → lv_has ls 4 [(0, .ref (ad 100))] → W p l e { frames := 1, cells := 0, slots := 0, locals := 22 } s m [.ref (ad 100)].toArray below meth c H locs 0 0 (MQ below (CQ D A (wM_XL cI ad o_X res o_N o_T o_U o_O o_E o_Q o_V o_I) none) [.ref (ad 100)].toArray s 0 0 A) (F0 m 151 ls [])) → W p l e { frames := 1, cells := 0, slots := 0, locals := 22 } s m [.ref (ad 100)].toArray below meth c H locs 0 0 (MQ below (CQ D A (wM_XL cI ad o_X res o_N o_T o_U o_O o_E o_Q o_V o_I) none) [.ref (ad 100)].toArray s 0 0 A) (F0 m 2 ls []) := by
    intro o_X_L2 n
    induction n with
    | zero => intro v1_L2 o_L_L2 out_L2 H locs ls hM; exact absurd (show none = some _ from hM) (by simp)
    | succ n ih_L2 =>
      intro v1_L2 o_L_L2 out_L2 H locs ls hM hP hD hS hl kx_L2
      rw [f_Model_skip_L2] at hM
      refine lv_iload_n hx hb dX8_skip_2 rfl (lv_at hl 0 rfl) ?_
      refine lv_if_eq (tgt := 151) hx hb dX8_skip_3 (by decide) (fun c1121 => ?_) (fun c1121 => ?_)
      · replace hM := if_t c1121 hM
        cases hM
        exact kx_L2 _ _ _ hP hD hS (lv_sub hl [1] rfl)
      · replace hM := if_f c1121 hM
        refine lv_aload_n hx hb dX8_skip_6 rfl (lv_at hl 1 rfl) ?_
        refine lv_aload_n hx hb dX8_skip_7 rfl (lv_at hl 1 rfl) ?_
        refine va_get (D := D) (ci := 8) (v := .int o_L_L2.2.2.2.1) (C := RX8) (T := TX8) (N := 48) hx hb hts layX8 hown hK hP 0 rfl rfl 9 (by decide) (hts _ (inA q987)) (fun _ h9 => h9) rfl dX8_skip_8 ?_
        obtain ⟨r1122, hcr1122, hM⟩ := ob_use hM
        refine cl_V (As := [.int o_L_L2.2.2.2.1]) (rest := []) (wM_XL cI ad o_X_L2 o_L_L2 o_N o_T o_U o_O o_E o_Q o_V o_I) (.int r1122 :: []) ⟨hx, hb, hml, hown, hts⟩ (c_Model_at l D cI sd ad o_C o_L_L2 o_N o_T o_U o_O o_E o_Q o_V o_I o_X_L2 o_L_L2.2.2.2.1 r1122 hcr1122) (cwV2 hts q1159 mvX8_at rfl rfl ⟨(Nat.le_of_ble_eq_true rfl), (Nat.le_of_ble_eq_true rfl)⟩) hK hE hA hP hD hS 0 (T := TX8) (N := 48) (ci := 8) rfl rfl [0, 1] rfl (by decide) rfl rfl rfl rfl rfl rfl hl.1 (Nat.le_of_ble_eq_true rfl) dX8_skip_11 ⟨Nat.zero_le _, Nat.zero_le _⟩ (fun H locs hP hD hS => ?_)
        refine lv_istore_n (lv' := [(2, .int r1122), (1, .int v1_L2), (0, .ref (ad 100))]) hx hb dX8_skip_14 rfl hl (by decide) rfl (fun ls hl => ?_)
        refine lv_iload_n hx hb dX8_skip_15 rfl (lv_at hl 0 rfl) ?_
        refine lv_bipush (v := 9) hx hb dX8_skip_16 (by decide) ?_
        refine lv_icmp_eq (tgt := 39) hx hb dX8_skip_18 (by decide) (fun c1123 => ?_) (fun c1123 => ?_)
        · replace hM := if_t c1123 hM
          refine lv_aload_n hx hb dX8_skip_39 rfl (lv_at hl 2 rfl) ?_
          refine lv_dup hx hb dX8_skip_40 rfl ?_
          refine va_get (D := D) (ci := 8) (v := .int o_L_L2.2.2.2.1) (C := RX8) (T := TX8) (N := 48) hx hb hts layX8 hown hK hP 0 rfl rfl 9 (by decide) (hts _ (inA q987)) (fun _ h9 => h9) rfl dX8_skip_41 ?_
          refine lv_iconst (v := 1) hx hb dX8_skip_44 (by decide) ?_
          refine lv_iadd hx hb dX8_skip_45 ?_
          refine va_put (D := D) (ci := 8) (v := .int (o_L_L2.2.2.2.1 + 1)) (ty := .int) (C := RX8) (T := TX8) (N := 48) hx hb hts layX8 tyX8 tyX8_ok nmX8 hown hK hP hD hS 0 rfl rfl 9 (by decide) (hts _ (inA q987)) (fun _ h9 => h9) rfl (by decide +kernel) rfl rfl (Nat.le_of_ble_eq_true rfl) dX8_skip_46 (fun H locs hP hD hS => ?_)
          have hP : va_P D vwCl (wM_XL cI ad o_X_L2 (o_L_L2.1, o_L_L2.2.1, o_L_L2.2.2.1, o_L_L2.2.2.2.1 + 1, o_L_L2.2.2.2.2) o_N o_T o_U o_O o_E o_Q o_V o_I) H := hP
          have hD : va_D A (wM_XL cI ad o_X_L2 (o_L_L2.1, o_L_L2.2.1, o_L_L2.2.2.1, o_L_L2.2.2.2.1 + 1, o_L_L2.2.2.2.2) o_N o_T o_U o_O o_E o_Q o_V o_I) := hD
          refine lv_goto (tgt := 148) hx hb dX8_skip_49 (by decide) ?_
          refine lv_goto (tgt := 2) hx hb dX8_skip_148 (by decide) ?_
          exact ih_L2 v1_L2 (o_L_L2.1, o_L_L2.2.1, o_L_L2.2.2.1, o_L_L2.2.2.2.1 + 1, o_L_L2.2.2.2.2) out_L2 _ _ _ hM hP hD hS (lv_sub hl [1, 2] rfl) kx_L2
        · replace hM := if_f c1123 hM
          refine lv_iload_n hx hb dX8_skip_21 rfl (lv_at hl 0 rfl) ?_
          refine lv_bipush (v := 10) hx hb dX8_skip_22 (by decide) ?_
          refine lv_icmp_eq (tgt := 39) hx hb dX8_skip_24 (by decide) (fun c1124 => ?_) (fun c1124 => ?_)
          · replace hM := if_t c1124 hM
            refine lv_aload_n hx hb dX8_skip_39 rfl (lv_at hl 2 rfl) ?_
            refine lv_dup hx hb dX8_skip_40 rfl ?_
            refine va_get (D := D) (ci := 8) (v := .int o_L_L2.2.2.2.1) (C := RX8) (T := TX8) (N := 48) hx hb hts layX8 hown hK hP 0 rfl rfl 9 (by decide) (hts _ (inA q987)) (fun _ h9 => h9) rfl dX8_skip_41 ?_
            refine lv_iconst (v := 1) hx hb dX8_skip_44 (by decide) ?_
            refine lv_iadd hx hb dX8_skip_45 ?_
            refine va_put (D := D) (ci := 8) (v := .int (o_L_L2.2.2.2.1 + 1)) (ty := .int) (C := RX8) (T := TX8) (N := 48) hx hb hts layX8 tyX8 tyX8_ok nmX8 hown hK hP hD hS 0 rfl rfl 9 (by decide) (hts _ (inA q987)) (fun _ h9 => h9) rfl (by decide +kernel) rfl rfl (Nat.le_of_ble_eq_true rfl) dX8_skip_46 (fun H locs hP hD hS => ?_)
            have hP : va_P D vwCl (wM_XL cI ad o_X_L2 (o_L_L2.1, o_L_L2.2.1, o_L_L2.2.2.1, o_L_L2.2.2.2.1 + 1, o_L_L2.2.2.2.2) o_N o_T o_U o_O o_E o_Q o_V o_I) H := hP
            have hD : va_D A (wM_XL cI ad o_X_L2 (o_L_L2.1, o_L_L2.2.1, o_L_L2.2.2.1, o_L_L2.2.2.2.1 + 1, o_L_L2.2.2.2.2) o_N o_T o_U o_O o_E o_Q o_V o_I) := hD
            refine lv_goto (tgt := 148) hx hb dX8_skip_49 (by decide) ?_
            refine lv_goto (tgt := 2) hx hb dX8_skip_148 (by decide) ?_
            exact ih_L2 v1_L2 (o_L_L2.1, o_L_L2.2.1, o_L_L2.2.2.1, o_L_L2.2.2.2.1 + 1, o_L_L2.2.2.2.2) out_L2 _ _ _ hM hP hD hS (lv_sub hl [1, 2] rfl) kx_L2
          · replace hM := if_f c1124 hM
            refine lv_iload_n hx hb dX8_skip_27 rfl (lv_at hl 0 rfl) ?_
            refine lv_bipush (v := 13) hx hb dX8_skip_28 (by decide) ?_
            refine lv_icmp_eq (tgt := 39) hx hb dX8_skip_30 (by decide) (fun c1125 => ?_) (fun c1125 => ?_)
            · replace hM := if_t c1125 hM
              refine lv_aload_n hx hb dX8_skip_39 rfl (lv_at hl 2 rfl) ?_
              refine lv_dup hx hb dX8_skip_40 rfl ?_
              refine va_get (D := D) (ci := 8) (v := .int o_L_L2.2.2.2.1) (C := RX8) (T := TX8) (N := 48) hx hb hts layX8 hown hK hP 0 rfl rfl 9 (by decide) (hts _ (inA q987)) (fun _ h9 => h9) rfl dX8_skip_41 ?_
              refine lv_iconst (v := 1) hx hb dX8_skip_44 (by decide) ?_
              refine lv_iadd hx hb dX8_skip_45 ?_
              refine va_put (D := D) (ci := 8) (v := .int (o_L_L2.2.2.2.1 + 1)) (ty := .int) (C := RX8) (T := TX8) (N := 48) hx hb hts layX8 tyX8 tyX8_ok nmX8 hown hK hP hD hS 0 rfl rfl 9 (by decide) (hts _ (inA q987)) (fun _ h9 => h9) rfl (by decide +kernel) rfl rfl (Nat.le_of_ble_eq_true rfl) dX8_skip_46 (fun H locs hP hD hS => ?_)
              have hP : va_P D vwCl (wM_XL cI ad o_X_L2 (o_L_L2.1, o_L_L2.2.1, o_L_L2.2.2.1, o_L_L2.2.2.2.1 + 1, o_L_L2.2.2.2.2) o_N o_T o_U o_O o_E o_Q o_V o_I) H := hP
              have hD : va_D A (wM_XL cI ad o_X_L2 (o_L_L2.1, o_L_L2.2.1, o_L_L2.2.2.1, o_L_L2.2.2.2.1 + 1, o_L_L2.2.2.2.2) o_N o_T o_U o_O o_E o_Q o_V o_I) := hD
              refine lv_goto (tgt := 148) hx hb dX8_skip_49 (by decide) ?_
              refine lv_goto (tgt := 2) hx hb dX8_skip_148 (by decide) ?_
              exact ih_L2 v1_L2 (o_L_L2.1, o_L_L2.2.1, o_L_L2.2.2.1, o_L_L2.2.2.2.1 + 1, o_L_L2.2.2.2.2) out_L2 _ _ _ hM hP hD hS (lv_sub hl [1, 2] rfl) kx_L2
            · replace hM := if_f c1125 hM
              refine lv_iload_n hx hb dX8_skip_33 rfl (lv_at hl 0 rfl) ?_
              refine lv_bipush (v := 32) hx hb dX8_skip_34 (by decide) ?_
              refine lv_icmp_ne (tgt := 52) hx hb dX8_skip_36 (by decide) (fun c1126 => ?_) (fun c1126 => ?_)
              · replace hM := if_f c1126 hM
                refine lv_iload_n hx hb dX8_skip_52 rfl (lv_at hl 0 rfl) ?_
                refine lv_bipush (v := 40) hx hb dX8_skip_53 (by decide) ?_
                refine lv_icmp_ne (tgt := 146) hx hb dX8_skip_55 (by decide) (fun c1127 => ?_) (fun c1127 => ?_)
                · replace hM := if_f c1127 hM
                  refine lv_iconst (v := 0) hx hb dX8_skip_146 (by decide) ?_
                  refine lv_istore_n (lv' := [(1, .int 0), (2, .int r1122), (0, .ref (ad 100))]) hx hb dX8_skip_147 rfl hl (by decide) rfl (fun ls hl => ?_)
                  refine lv_goto (tgt := 2) hx hb dX8_skip_148 (by decide) ?_
                  exact ih_L2 0 o_L_L2 out_L2 _ _ _ hM hP hD hS (lv_sub hl [0, 2] rfl) kx_L2
                · replace hM := if_t c1127 hM
                  refine lv_aload_n hx hb dX8_skip_58 rfl (lv_at hl 2 rfl) ?_
                  refine lv_aload_n hx hb dX8_skip_59 rfl (lv_at hl 2 rfl) ?_
                  refine va_get (D := D) (ci := 8) (v := .int o_L_L2.2.2.2.1) (C := RX8) (T := TX8) (N := 48) hx hb hts layX8 hown hK hP 0 rfl rfl 9 (by decide) (hts _ (inA q987)) (fun _ h9 => h9) rfl dX8_skip_60 ?_
                  refine lv_iconst (v := 1) hx hb dX8_skip_63 (by decide) ?_
                  refine lv_iadd hx hb dX8_skip_64 ?_
                  obtain ⟨r1128, hcr1128, hM⟩ := ob_use hM
                  refine cl_V (As := [.int (o_L_L2.2.2.2.1 + 1)]) (rest := []) (wM_XL cI ad o_X_L2 o_L_L2 o_N o_T o_U o_O o_E o_Q o_V o_I) (.int r1128 :: []) ⟨hx, hb, hml, hown, hts⟩ (c_Model_at l D cI sd ad o_C o_L_L2 o_N o_T o_U o_O o_E o_Q o_V o_I o_X_L2 (o_L_L2.2.2.2.1 + 1) r1128 hcr1128) (cwV2 hts q1159 mvX8_at rfl rfl ⟨(Nat.le_of_ble_eq_true rfl), (Nat.le_of_ble_eq_true rfl)⟩) hK hE hA hP hD hS 0 (T := TX8) (N := 48) (ci := 8) rfl rfl [0, 1] rfl (by decide) rfl rfl rfl rfl rfl rfl hl.1 (Nat.le_of_ble_eq_true rfl) dX8_skip_65 ⟨Nat.zero_le _, Nat.zero_le _⟩ (fun H locs hP hD hS => ?_)
                  refine lv_bipush (v := 42) hx hb dX8_skip_68 (by decide) ?_
                  refine lv_icmp_ne (tgt := 146) hx hb dX8_skip_70 (by decide) (fun c1129 => ?_) (fun c1129 => ?_)
                  · replace hM := if_f c1129 hM
                    refine lv_iconst (v := 0) hx hb dX8_skip_146 (by decide) ?_
                    refine lv_istore_n (lv' := [(1, .int 0), (2, .int r1122), (0, .ref (ad 100))]) hx hb dX8_skip_147 rfl hl (by decide) rfl (fun ls hl => ?_)
                    refine lv_goto (tgt := 2) hx hb dX8_skip_148 (by decide) ?_
                    exact ih_L2 0 o_L_L2 out_L2 _ _ _ hM hP hD hS (lv_sub hl [0, 2] rfl) kx_L2
                  · replace hM := if_t c1129 hM
                    refine lv_aload_n hx hb dX8_skip_73 rfl (lv_at hl 2 rfl) ?_
                    refine va_get (D := D) (ci := 8) (v := .int o_L_L2.2.2.2.1) (C := RX8) (T := TX8) (N := 48) hx hb hts layX8 hown hK hP 0 rfl rfl 9 (by decide) (hts _ (inA q987)) (fun _ h9 => h9) rfl dX8_skip_74 ?_
                    refine lv_iconst (v := 2) hx hb dX8_skip_77 (by decide) ?_
                    refine lv_iadd hx hb dX8_skip_78 ?_
                    refine lv_istore_n (lv' := [(3, .int (o_L_L2.2.2.2.1 + 2)), (2, .int r1122), (1, .int v1_L2), (0, .ref (ad 100))]) hx hb dX8_skip_79 rfl hl (by decide) rfl (fun ls hl => ?_)
                    have lp_L80 : ∀ (w1_L80 : Int32) (o_X_L80 : S_MX) (o_L_L80 : S_ML) (n : Nat) (v3_L80 : Int32) (out_L80 : Int32) (H : Heap) (locs : List Loc) (ls : Array Slot), f_Model_skip_L80 o_X_L80 n v3_L80 = some out_L80 → va_P D vwCl (wM_XL cI ad o_X_L80 o_L_L80 o_N o_T o_U o_O o_E o_Q o_V o_I) H → va_D A (wM_XL cI ad o_X_L80 o_L_L80 o_N o_T o_U o_O o_E o_Q o_V o_I) → va_S A s.heap H locs → lv_has ls 4 [(3, .int v3_L80), (1, .int w1_L80), (0, .ref (ad 100))] → (∀ (H : Heap) (locs : List Loc) (ls : Array Slot), va_P D vwCl (wM_XL cI ad o_X_L80 o_L_L80 o_N o_T o_U o_O o_E o_Q o_V o_I) H → va_D A (wM_XL cI ad o_X_L80 o_L_L80 o_N o_T o_U o_O o_E o_Q o_V o_I) → va_S A s.heap H locs → lv_has ls 4 [(3, .int out_L80), (1, .int w1_L80), (0, .ref (ad 100))] → W p l e { frames := 1, cells := 0, slots := 0, locals := 22 } s m [.ref (ad 100)].toArray below meth c H locs 0 0 (MQ below (CQ D A (wM_XL cI ad o_X res o_N o_T o_U o_O o_E o_Q o_V o_I) none) [.ref (ad 100)].toArray s 0 0 A) (F0 m 117 ls [])) → W p l e { frames := 1, cells := 0, slots := 0, locals := 22 } s m [.ref (ad 100)].toArray below meth c H locs 0 0 (MQ below (CQ D A (wM_XL cI ad o_X res o_N o_T o_U o_O o_E o_Q o_V o_I) none) [.ref (ad 100)].toArray s 0 0 A) (F0 m 80 ls []) := by
                      intro w1_L80 o_X_L80 o_L_L80 n
                      induction n with
                      | zero => intro v3_L80 out_L80 H locs ls hM; exact absurd (show none = some _ from hM) (by simp)
                      | succ n ih_L80 =>
                        intro v3_L80 out_L80 H locs ls hM hP hD hS hl kx_L80
                        rw [f_Model_skip_L80] at hM
                        refine lv_iload_n hx hb dX8_skip_80 rfl (lv_at hl 0 rfl) ?_
                        refine lv_aload_n hx hb dX8_skip_81 rfl (lv_at hl 2 rfl) ?_
                        refine va_get (D := D) (ci := 8) (v := .int o_X_L80.1) (C := RX8) (T := TX8) (N := 48) hx hb hts layX8 hown hK hP 0 rfl rfl 4 (by decide) (hts _ (inA q982)) (fun _ h9 => h9) rfl dX8_skip_82 ?_
                        refine lv_icmp_ge (tgt := 117) hx hb dX8_skip_85 (by decide) (fun c2001 => ?_) (fun c2001 => ?_)
                        · replace hM := if_t c2001 hM
                          cases hM
                          exact kx_L80 _ _ _ hP hD hS (lv_sub hl [0, 1, 2] rfl)
                        · replace hM := if_f c2001 hM
                          refine lv_aload_n hx hb dX8_skip_88 rfl (lv_at hl 2 rfl) ?_
                          refine va_get (D := D) (ci := 8) (v := .ref (ad 105)) (C := RX8) (T := TX8) (N := 48) hx hb hts layX8 hown hK hP 0 rfl rfl 5 (by decide) (hts _ (inA q983)) (fun _ h9 => h9) rfl dX8_skip_89 ?_
                          refine lv_iload_n hx hb dX8_skip_92 rfl (lv_at hl 0 rfl) ?_
                          obtain ⟨b2002, hM⟩ := gd_use hM
                          refine va_iald hx hb hK hP 1 0 rfl rfl b2002 dX8_skip_93 ?_
                          refine lv_bipush (v := 42) hx hb dX8_skip_94 (by decide) ?_
                          refine lv_icmp_ne (tgt := 111) hx hb dX8_skip_96 (by decide) (fun c2003 => ?_) (fun c2003 => ?_)
                          · replace hM := if_f c2003 hM
                            obtain ⟨x2004, ex2004⟩ : ∃ y : Int32, y = v3_L80 + 1 := ⟨_, rfl⟩
                            replace hM := nm_use ex2004 hM
                            refine lv_iinc (v := x2004) (lv' := [(3, .int x2004), (1, .int w1_L80), (0, .ref (ad 100))]) hx hb dX8_skip_111 hl (k := 0) rfl (by rw [ex2004]; rfl) (by decide) rfl (fun ls hl => ?_)
                            refine lv_goto (tgt := 80) hx hb dX8_skip_114 (by decide) ?_
                            exact ih_L80 x2004 out_L80 _ _ _ hM hP hD hS (lv_sub hl [0, 1, 2] rfl) kx_L80
                          · replace hM := if_t c2003 hM
                            refine lv_aload_n hx hb dX8_skip_99 rfl (lv_at hl 2 rfl) ?_
                            refine lv_iload_n hx hb dX8_skip_100 rfl (lv_at hl 0 rfl) ?_
                            refine lv_iconst (v := 1) hx hb dX8_skip_101 (by decide) ?_
                            refine lv_iadd hx hb dX8_skip_102 ?_
                            obtain ⟨r2005, hcr2005, hM⟩ := ob_use hM
                            refine cl_V (As := [.int (v3_L80 + 1)]) (rest := []) (wM_XL cI ad o_X_L80 o_L_L80 o_N o_T o_U o_O o_E o_Q o_V o_I) (.int r2005 :: []) ⟨hx, hb, hml, hown, hts⟩ (c_Model_at l D cI sd ad o_C o_L_L80 o_N o_T o_U o_O o_E o_Q o_V o_I o_X_L80 (v3_L80 + 1) r2005 hcr2005) (cwV2 hts q1159 mvX8_at rfl rfl ⟨(Nat.le_of_ble_eq_true rfl), (Nat.le_of_ble_eq_true rfl)⟩) hK hE hA hP hD hS 0 (T := TX8) (N := 48) (ci := 8) rfl rfl [0, 1] rfl (by decide) rfl rfl rfl rfl rfl rfl hl.1 (Nat.le_of_ble_eq_true rfl) dX8_skip_103 ⟨Nat.zero_le _, Nat.zero_le _⟩ (fun H locs hP hD hS => ?_)
                            refine lv_bipush (v := 41) hx hb dX8_skip_106 (by decide) ?_
                            refine lv_icmp_eq (tgt := 117) hx hb dX8_skip_108 (by decide) (fun c2006 => ?_) (fun c2006 => ?_)
                            · replace hM := if_t c2006 hM
                              cases hM
                              exact kx_L80 _ _ _ hP hD hS (lv_sub hl [0, 1, 2] rfl)
                            · replace hM := if_f c2006 hM
                              obtain ⟨x2007, ex2007⟩ : ∃ y : Int32, y = v3_L80 + 1 := ⟨_, rfl⟩
                              replace hM := nm_use ex2007 hM
                              refine lv_iinc (v := x2007) (lv' := [(3, .int x2007), (1, .int w1_L80), (0, .ref (ad 100))]) hx hb dX8_skip_111 hl (k := 0) rfl (by rw [ex2007]; rfl) (by decide) rfl (fun ls hl => ?_)
                              refine lv_goto (tgt := 80) hx hb dX8_skip_114 (by decide) ?_
                              exact ih_L80 x2007 out_L80 _ _ _ hM hP hD hS (lv_sub hl [0, 1, 2] rfl) kx_L80
                    obtain ⟨r1130, hcr1130, hM⟩ := ob_use hM
                    refine lp_L80 v1_L2 o_X_L2 o_L_L2 FU (o_L_L2.2.2.2.1 + 2) r1130 _ _ _ hcr1130 hP hD hS (lv_sub hl [0, 2, 3] rfl) (fun H locs ls hP hD hS hl => ?_)
                    refine lv_iload_n hx hb dX8_skip_117 rfl (lv_at hl 0 rfl) ?_
                    refine lv_aload_n hx hb dX8_skip_118 rfl (lv_at hl 2 rfl) ?_
                    refine va_get (D := D) (ci := 8) (v := .int o_X_L2.1) (C := RX8) (T := TX8) (N := 48) hx hb hts layX8 hown hK hP 0 rfl rfl 4 (by decide) (hts _ (inA q982)) (fun _ h9 => h9) rfl dX8_skip_119 ?_
                    refine lv_icmp_lt (tgt := 136) hx hb dX8_skip_122 (by decide) (fun c1131 => ?_) (fun c1131 => ?_)
                    · replace hM := if_t c1131 hM
                      refine lv_aload_n hx hb dX8_skip_136 rfl (lv_at hl 2 rfl) ?_
                      refine lv_iload_n hx hb dX8_skip_137 rfl (lv_at hl 0 rfl) ?_
                      refine lv_iconst (v := 2) hx hb dX8_skip_138 (by decide) ?_
                      refine lv_iadd hx hb dX8_skip_139 ?_
                      refine va_put (D := D) (ci := 8) (v := .int (r1130 + 2)) (ty := .int) (C := RX8) (T := TX8) (N := 48) hx hb hts layX8 tyX8 tyX8_ok nmX8 hown hK hP hD hS 0 rfl rfl 9 (by decide) (hts _ (inA q987)) (fun _ h9 => h9) rfl (by decide +kernel) rfl rfl (Nat.le_of_ble_eq_true rfl) dX8_skip_140 (fun H locs hP hD hS => ?_)
                      have hP : va_P D vwCl (wM_XL cI ad o_X_L2 (o_L_L2.1, o_L_L2.2.1, o_L_L2.2.2.1, r1130 + 2, o_L_L2.2.2.2.2) o_N o_T o_U o_O o_E o_Q o_V o_I) H := hP
                      have hD : va_D A (wM_XL cI ad o_X_L2 (o_L_L2.1, o_L_L2.2.1, o_L_L2.2.2.1, r1130 + 2, o_L_L2.2.2.2.2) o_N o_T o_U o_O o_E o_Q o_V o_I) := hD
                      refine lv_goto (tgt := 148) hx hb dX8_skip_143 (by decide) ?_
                      refine lv_goto (tgt := 2) hx hb dX8_skip_148 (by decide) ?_
                      exact ih_L2 v1_L2 (o_L_L2.1, o_L_L2.2.1, o_L_L2.2.2.1, r1130 + 2, o_L_L2.2.2.2.2) out_L2 _ _ _ hM hP hD hS (lv_sub hl [1, 2] rfl) kx_L2
                    · replace hM := if_f c1131 hM
                      refine lv_aload_n hx hb dX8_skip_125 rfl (lv_at hl 2 rfl) ?_
                      refine lv_iconst (v := 2) hx hb dX8_skip_126 (by decide) ?_
                      refine lv_aload_n hx hb dX8_skip_127 rfl (lv_at hl 2 rfl) ?_
                      refine va_get (D := D) (ci := 8) (v := .int o_L_L2.2.2.2.1) (C := RX8) (T := TX8) (N := 48) hx hb hts layX8 hown hK hP 0 rfl rfl 9 (by decide) (hts _ (inA q987)) (fun _ h9 => h9) rfl dX8_skip_128 ?_
                      obtain ⟨r1132, hcr1132, hM⟩ := ob_use hM
                      refine cl_V (As := [.int 2, .int o_L_L2.2.2.2.1]) (rest := []) (wM_XL cI ad o_X_L2 r1132 o_N o_T o_U o_O o_E o_Q o_V o_I) [] ⟨hx, hb, hml, hown, hts⟩ (c_Model_fail l D cI sd ad o_C o_X_L2 o_N o_T o_U o_O o_E o_Q o_V o_I o_L_L2 2 o_L_L2.2.2.2.1 r1132 hcr1132) (cwV2 hts q1163 mvX8_fail rfl rfl ⟨(Nat.le_of_ble_eq_true rfl), (Nat.le_of_ble_eq_true rfl)⟩) hK hE hA hP hD hS 0 (T := TX8) (N := 48) (ci := 8) rfl rfl [0] rfl (by decide) rfl rfl rfl rfl rfl rfl hl.1 (Nat.le_of_ble_eq_true rfl) dX8_skip_131 ⟨Nat.zero_le _, Nat.zero_le _⟩ (fun H locs hP hD hS => ?_)
                      refine lv_iconst (v := 0) hx hb dX8_skip_134 (by decide) ?_
                      refine lv_istore_n (lv' := [(1, .int 0), (3, .int r1130), (0, .ref (ad 100))]) hx hb dX8_skip_135 rfl hl (by decide) rfl (fun ls hl => ?_)
                      refine lv_aload_n hx hb dX8_skip_136 rfl (lv_at hl 2 rfl) ?_
                      refine lv_iload_n hx hb dX8_skip_137 rfl (lv_at hl 1 rfl) ?_
                      refine lv_iconst (v := 2) hx hb dX8_skip_138 (by decide) ?_
                      refine lv_iadd hx hb dX8_skip_139 ?_
                      refine va_put (D := D) (ci := 8) (v := .int (r1130 + 2)) (ty := .int) (C := RX8) (T := TX8) (N := 48) hx hb hts layX8 tyX8 tyX8_ok nmX8 hown hK hP hD hS 0 rfl rfl 9 (by decide) (hts _ (inA q987)) (fun _ h9 => h9) rfl (by decide +kernel) rfl rfl (Nat.le_of_ble_eq_true rfl) dX8_skip_140 (fun H locs hP hD hS => ?_)
                      have hP : va_P D vwCl (wM_XL cI ad o_X_L2 (r1132.1, r1132.2.1, r1132.2.2.1, r1130 + 2, r1132.2.2.2.2) o_N o_T o_U o_O o_E o_Q o_V o_I) H := hP
                      have hD : va_D A (wM_XL cI ad o_X_L2 (r1132.1, r1132.2.1, r1132.2.2.1, r1130 + 2, r1132.2.2.2.2) o_N o_T o_U o_O o_E o_Q o_V o_I) := hD
                      refine lv_goto (tgt := 148) hx hb dX8_skip_143 (by decide) ?_
                      refine lv_goto (tgt := 2) hx hb dX8_skip_148 (by decide) ?_
                      exact ih_L2 0 (r1132.1, r1132.2.1, r1132.2.2.1, r1130 + 2, r1132.2.2.2.2) out_L2 _ _ _ hM hP hD hS (lv_sub hl [0, 2] rfl) kx_L2
              · replace hM := if_t c1126 hM
                refine lv_aload_n hx hb dX8_skip_39 rfl (lv_at hl 2 rfl) ?_
                refine lv_dup hx hb dX8_skip_40 rfl ?_
                refine va_get (D := D) (ci := 8) (v := .int o_L_L2.2.2.2.1) (C := RX8) (T := TX8) (N := 48) hx hb hts layX8 hown hK hP 0 rfl rfl 9 (by decide) (hts _ (inA q987)) (fun _ h9 => h9) rfl dX8_skip_41 ?_
                refine lv_iconst (v := 1) hx hb dX8_skip_44 (by decide) ?_
                refine lv_iadd hx hb dX8_skip_45 ?_
                refine va_put (D := D) (ci := 8) (v := .int (o_L_L2.2.2.2.1 + 1)) (ty := .int) (C := RX8) (T := TX8) (N := 48) hx hb hts layX8 tyX8 tyX8_ok nmX8 hown hK hP hD hS 0 rfl rfl 9 (by decide) (hts _ (inA q987)) (fun _ h9 => h9) rfl (by decide +kernel) rfl rfl (Nat.le_of_ble_eq_true rfl) dX8_skip_46 (fun H locs hP hD hS => ?_)
                have hP : va_P D vwCl (wM_XL cI ad o_X_L2 (o_L_L2.1, o_L_L2.2.1, o_L_L2.2.2.1, o_L_L2.2.2.2.1 + 1, o_L_L2.2.2.2.2) o_N o_T o_U o_O o_E o_Q o_V o_I) H := hP
                have hD : va_D A (wM_XL cI ad o_X_L2 (o_L_L2.1, o_L_L2.2.1, o_L_L2.2.2.1, o_L_L2.2.2.2.1 + 1, o_L_L2.2.2.2.2) o_N o_T o_U o_O o_E o_Q o_V o_I) := hD
                refine lv_goto (tgt := 148) hx hb dX8_skip_49 (by decide) ?_
                refine lv_goto (tgt := 2) hx hb dX8_skip_148 (by decide) ?_
                exact ih_L2 v1_L2 (o_L_L2.1, o_L_L2.2.1, o_L_L2.2.2.1, o_L_L2.2.2.2.1 + 1, o_L_L2.2.2.2.2) out_L2 _ _ _ hM hP hD hS (lv_sub hl [1, 2] rfl) kx_L2
  obtain ⟨r1, hcr1, hM⟩ := ob_use hM
  refine lp_L2 o_X FU 1 o_L r1 _ _ _ hcr1 hP hD hS (lv_sub hl [0, 1] rfl) (fun H locs ls hP hD hS hl => ?_)
  cases hM
  exact rt_v hx hb hr hlk hP hD hS rfl dX8_skip_151

set_option maxHeartbeats 4000000 in
set_option maxRecDepth 100000 in
theorem c_Model_wordOf (l : Launch) (D : va_G) (cI : ClassId) (sd : Nat → Nat) (ad : Nat → Nat) (o_L : S_ML) (o_N : S_MN) (o_T : S_MT) (o_U : S_MU) (o_O : S_MO) (o_E : S_ME) (o_Q : S_MQ) (o_V : S_MV) (o_I : S_MI) (o_C : S_MC) (o_X : S_MX) (a1 : Int32) (a2 : Int32) (res : Int32) (hM : f_Model_wordOf o_C o_X a1 a2 = some res) : Ctr l D cI sd yX8_wordOf (wsM yX8_wordOf cX8_wordOf 6 (Option.some Jvm.ClassFile.FieldType.int)) { frames := 1, cells := 0, slots := 0, locals := 20 } [.ref (ad 100), .int a1, .int a2] (wM_CX cI ad o_X o_L o_N o_T o_U o_O o_E o_Q o_V o_I o_C) (wM_CX cI ad o_X o_L o_N o_T o_U o_O o_E o_Q o_V o_I o_C) (some (.int res)) := by
  refine Ctr.of (cc := cX8_wordOf) (maxL := 6) (own := RX8) (by decide +kernel) rfl rfl (Nat.le_of_ble_eq_true rfl) ?_
  intro p e s m below meth c A ls hx hb hr hml hown hts hlk hK hE hA hP hD hS hl
  have hl : lv_has ls 6 [(0, .ref (ad 100)), (1, .int a1), (2, .int a2)] := hl
  unfold f_Model_wordOf at hM
  refine lv_iconst (v := 0) hx hb dX8_wordOf_0 (by decide) ?_
  refine lv_istore_n (lv' := [(3, .int 0), (0, .ref (ad 100)), (1, .int a1), (2, .int a2)]) hx hb dX8_wordOf_1 rfl hl (by decide) rfl (fun ls hl => ?_)
  have lp_L2 : ∀ (w1_L2 : Int32) (w2_L2 : Int32) (n : Nat) (v3_L2 : Int32) (H : Heap) (locs : List Loc) (ls : Array Slot), f_Model_wordOf_L2 o_C o_X w1_L2 w2_L2 n v3_L2 = some res → va_P D vwCl (wM_CX cI ad o_X o_L o_N o_T o_U o_O o_E o_Q o_V o_I o_C) H → va_D A (wM_CX cI ad o_X o_L o_N o_T o_U o_O o_E o_Q o_V o_I o_C) → va_S A s.heap H locs → lv_has ls 6 [(3, .int v3_L2), (0, .ref (ad 100)), (1, .int w1_L2), (2, .int w2_L2)] → W p l e { frames := 1, cells := 0, slots := 0, locals := 20 } s m [.ref (ad 100), .int a1, .int a2].toArray below meth c H locs 0 0 (MQ below (CQ D A (wM_CX cI ad o_X o_L o_N o_T o_U o_O o_E o_Q o_V o_I o_C) (some (.int res))) [.ref (ad 100), .int a1, .int a2].toArray s 0 0 A) (F0 m 2 ls []) := by
    intro w1_L2 w2_L2 n
    induction n with
    | zero => intro v3_L2 H locs ls hM; exact absurd (show none = some _ from hM) (by simp)
    | succ n ih_L2 =>
      intro v3_L2 H locs ls hM hP hD hS hl
      rw [f_Model_wordOf_L2] at hM
      refine lv_iload_n hx hb dX8_wordOf_2 rfl (lv_at hl 0 rfl) ?_
      refine lv_bipush (v := 41) hx hb dX8_wordOf_3 (by decide) ?_
      refine lv_icmp_ge (tgt := 105) hx hb dX8_wordOf_5 (by decide) (fun c1121 => ?_) (fun c1121 => ?_)
      · replace hM := if_t c1121 hM
        refine lv_iconst (v := (-1)) hx hb dX8_wordOf_105 (by decide) ?_
        cases hM
        exact rt_i hx hb hr hlk hP hD hS rfl dX8_wordOf_106
      · replace hM := if_f c1121 hM
        refine lv_aload_n hx hb dX8_wordOf_8 rfl (lv_at hl 1 rfl) ?_
        refine va_get (D := D) (ci := 8) (v := .ref (ad 102)) (C := RX8) (T := TX8) (N := 48) hx hb hts layX8 hown hK hP 0 rfl rfl 1 (by decide) (hts _ (inA q979)) (fun _ h9 => h9) rfl dX8_wordOf_9 ?_
        refine lv_iload_n hx hb dX8_wordOf_12 rfl (lv_at hl 0 rfl) ?_
        refine lv_iconst (v := 1) hx hb dX8_wordOf_13 (by decide) ?_
        refine lv_iadd hx hb dX8_wordOf_14 ?_
        obtain ⟨b1122, hM⟩ := gd_use hM
        refine va_iald hx hb hK hP 2 0 rfl rfl b1122 dX8_wordOf_15 ?_
        refine lv_aload_n hx hb dX8_wordOf_16 rfl (lv_at hl 1 rfl) ?_
        refine va_get (D := D) (ci := 8) (v := .ref (ad 102)) (C := RX8) (T := TX8) (N := 48) hx hb hts layX8 hown hK hP 0 rfl rfl 1 (by decide) (hts _ (inA q979)) (fun _ h9 => h9) rfl dX8_wordOf_17 ?_
        refine lv_iload_n hx hb dX8_wordOf_20 rfl (lv_at hl 0 rfl) ?_
        obtain ⟨b1123, hM⟩ := gd_use hM
        refine va_iald hx hb hK hP 2 0 rfl rfl b1123 dX8_wordOf_21 ?_
        refine lv_isub hx hb dX8_wordOf_22 ?_
        refine lv_iconst (v := 1) hx hb dX8_wordOf_23 (by decide) ?_
        refine lv_isub hx hb dX8_wordOf_24 ?_
        refine lv_iload_n hx hb dX8_wordOf_25 rfl (lv_at hl 3 rfl) ?_
        refine lv_icmp_ne (tgt := 33) hx hb dX8_wordOf_26 (by decide) (fun c1124 => ?_) (fun c1124 => ?_)
        · replace hM := if_f c1124 hM
          refine lv_iconst (v := 0) hx hb dX8_wordOf_33 (by decide) ?_
          refine lv_istore (lv' := [(4, .int 0), (3, .int v3_L2), (0, .ref (ad 100)), (1, .int w1_L2), (2, .int w2_L2)]) hx hb dX8_wordOf_34 hl (by decide) rfl (fun ls hl => ?_)
          refine lv_iconst (v := 0) hx hb dX8_wordOf_36 (by decide) ?_
          refine lv_istore (lv' := [(5, .int 0), (4, .int 0), (3, .int v3_L2), (0, .ref (ad 100)), (1, .int w1_L2), (2, .int w2_L2)]) hx hb dX8_wordOf_37 hl (by decide) rfl (fun ls hl => ?_)
          have lp_L39 : ∀ (w3_L39 : Int32) (w1_L39 : Int32) (w2_L39 : Int32) (o_C_L39 : S_MC) (o_X_L39 : S_MX) (n : Nat) (v5_L39 : Int32) (v4_L39 : Int32) (out_L39 : Int32) (H : Heap) (locs : List Loc) (ls : Array Slot), f_Model_wordOf_L39 w3_L39 w1_L39 w2_L39 o_C_L39 o_X_L39 n v5_L39 v4_L39 = some out_L39 → va_P D vwCl (wM_CX cI ad o_X_L39 o_L o_N o_T o_U o_O o_E o_Q o_V o_I o_C_L39) H → va_D A (wM_CX cI ad o_X_L39 o_L o_N o_T o_U o_O o_E o_Q o_V o_I o_C_L39) → va_S A s.heap H locs → lv_has ls 6 [(5, .int v5_L39), (4, .int v4_L39), (3, .int w3_L39), (0, .ref (ad 100)), (1, .int w1_L39), (2, .int w2_L39)] → (∀ (H : Heap) (locs : List Loc) (ls : Array Slot), va_P D vwCl (wM_CX cI ad o_X_L39 o_L o_N o_T o_U o_O o_E o_Q o_V o_I o_C_L39) H → va_D A (wM_CX cI ad o_X_L39 o_L o_N o_T o_U o_O o_E o_Q o_V o_I o_C_L39) → va_S A s.heap H locs → lv_has ls 6 [(4, .int out_L39), (3, .int w3_L39), (0, .ref (ad 100)), (1, .int w1_L39), (2, .int w2_L39)] → W p l e { frames := 1, cells := 0, slots := 0, locals := 20 } s m [.ref (ad 100), .int a1, .int a2].toArray below meth c H locs 0 0 (MQ below (CQ D A (wM_CX cI ad o_X o_L o_N o_T o_U o_O o_E o_Q o_V o_I o_C) (some (.int res))) [.ref (ad 100), .int a1, .int a2].toArray s 0 0 A) (F0 m 92 ls [])) → W p l e { frames := 1, cells := 0, slots := 0, locals := 20 } s m [.ref (ad 100), .int a1, .int a2].toArray below meth c H locs 0 0 (MQ below (CQ D A (wM_CX cI ad o_X o_L o_N o_T o_U o_O o_E o_Q o_V o_I o_C) (some (.int res))) [.ref (ad 100), .int a1, .int a2].toArray s 0 0 A) (F0 m 39 ls []) := by
            intro w3_L39 w1_L39 w2_L39 o_C_L39 o_X_L39 n
            induction n with
            | zero => intro v5_L39 v4_L39 out_L39 H locs ls hM; exact absurd (show none = some _ from hM) (by simp)
            | succ n ih_L39 =>
              intro v5_L39 v4_L39 out_L39 H locs ls hM hP hD hS hl kx_L39
              rw [f_Model_wordOf_L39] at hM
              refine lv_iload hx hb dX8_wordOf_39 (lv_at hl 0 rfl) ?_
              refine lv_iload_n hx hb dX8_wordOf_41 rfl (lv_at hl 5 rfl) ?_
              refine lv_icmp_ge (tgt := 92) hx hb dX8_wordOf_42 (by decide) (fun c1591 => ?_) (fun c1591 => ?_)
              · replace hM := if_t c1591 hM
                cases hM
                exact kx_L39 _ _ _ hP hD hS (lv_sub hl [1, 2, 3, 4, 5] rfl)
              · replace hM := if_f c1591 hM
                refine lv_iload hx hb dX8_wordOf_45 (lv_at hl 1 rfl) ?_
                refine lv_if_eq (tgt := 92) hx hb dX8_wordOf_47 (by decide) (fun c1592 => ?_) (fun c1592 => ?_)
                · replace hM := if_t c1592 hM
                  cases hM
                  exact kx_L39 _ _ _ hP hD hS (lv_sub hl [1, 2, 3, 4, 5] rfl)
                · replace hM := if_f c1592 hM
                  refine lv_aload_n hx hb dX8_wordOf_50 rfl (lv_at hl 3 rfl) ?_
                  refine va_get (D := D) (ci := 8) (v := .ref (ad 101)) (C := RX8) (T := TX8) (N := 48) hx hb hts layX8 hown hK hP 0 rfl rfl 0 (by decide) (hts _ (inA q978)) (fun _ h9 => h9) rfl dX8_wordOf_51 ?_
                  refine lv_aload_n hx hb dX8_wordOf_54 rfl (lv_at hl 3 rfl) ?_
                  refine va_get (D := D) (ci := 8) (v := .ref (ad 102)) (C := RX8) (T := TX8) (N := 48) hx hb hts layX8 hown hK hP 0 rfl rfl 1 (by decide) (hts _ (inA q979)) (fun _ h9 => h9) rfl dX8_wordOf_55 ?_
                  refine lv_iload_n hx hb dX8_wordOf_58 rfl (lv_at hl 2 rfl) ?_
                  obtain ⟨b1593, hM⟩ := gd_use hM
                  refine va_iald hx hb hK hP 2 0 rfl rfl b1593 dX8_wordOf_59 ?_
                  refine lv_iload hx hb dX8_wordOf_60 (lv_at hl 0 rfl) ?_
                  refine lv_iadd hx hb dX8_wordOf_62 ?_
                  obtain ⟨b1594, hM⟩ := gd_use hM
                  refine va_iald hx hb hK hP 1 0 rfl rfl b1594 dX8_wordOf_63 ?_
                  refine lv_aload_n hx hb dX8_wordOf_64 rfl (lv_at hl 3 rfl) ?_
                  refine va_get (D := D) (ci := 8) (v := .ref (ad 105)) (C := RX8) (T := TX8) (N := 48) hx hb hts layX8 hown hK hP 0 rfl rfl 5 (by decide) (hts _ (inA q983)) (fun _ h9 => h9) rfl dX8_wordOf_65 ?_
                  refine lv_iload_n hx hb dX8_wordOf_68 rfl (lv_at hl 4 rfl) ?_
                  refine lv_iload hx hb dX8_wordOf_69 (lv_at hl 0 rfl) ?_
                  refine lv_iadd hx hb dX8_wordOf_71 ?_
                  obtain ⟨b1595, hM⟩ := gd_use hM
                  refine va_iald hx hb hK hP 5 0 rfl rfl b1595 dX8_wordOf_72 ?_
                  obtain ⟨r1596, hcr1596, hM⟩ := ob_use hM
                  refine cl_S (As := [.int (o_X_L39.2 (w1_L39 + v5_L39).toNatClampNeg)]) (rest := [.int (o_C_L39.1 ((o_C_L39.2.1 w3_L39.toNatClampNeg) + v5_L39).toNatClampNeg)]) (wM_CX cI ad o_X_L39 o_L o_N o_T o_U o_O o_E o_Q o_V o_I o_C_L39) (.int r1596 :: [.int (o_C_L39.1 ((o_C_L39.2.1 w3_L39.toNatClampNeg) + v5_L39).toNatClampNeg)]) ⟨hx, hb, hml, hown, hts⟩ (c_Model_great l D cI sd ad (o_X_L39.2 (w1_L39 + v5_L39).toNatClampNeg) r1596 hcr1596) (cwS2 hts q1178 mvX8_great rfl rfl ⟨(Nat.le_of_ble_eq_true rfl), (Nat.le_of_ble_eq_true rfl)⟩) hK hE hA hP hD hS [] rfl (by decide) rfl rfl rfl rfl rfl rfl hl.1 (Nat.le_of_ble_eq_true rfl) dX8_wordOf_73 ⟨Nat.zero_le _, Nat.zero_le _⟩ (fun H locs hP hD hS => ?_)
                  refine lv_icmp_ne (tgt := 83) hx hb dX8_wordOf_76 (by decide) (fun c1597 => ?_) (fun c1597 => ?_)
                  · replace hM := if_f c1597 hM
                    refine lv_iconst (v := 0) hx hb dX8_wordOf_83 (by decide) ?_
                    refine lv_istore (lv' := [(4, .int 0), (5, .int v5_L39), (3, .int w3_L39), (0, .ref (ad 100)), (1, .int w1_L39), (2, .int w2_L39)]) hx hb dX8_wordOf_84 hl (by decide) rfl (fun ls hl => ?_)
                    obtain ⟨x1598, ex1598⟩ : ∃ y : Int32, y = v5_L39 + 1 := ⟨_, rfl⟩
                    replace hM := nm_use ex1598 hM
                    refine lv_iinc (v := x1598) (lv' := [(5, .int x1598), (4, .int 0), (3, .int w3_L39), (0, .ref (ad 100)), (1, .int w1_L39), (2, .int w2_L39)]) hx hb dX8_wordOf_86 hl (k := 1) rfl (by rw [ex1598]; rfl) (by decide) rfl (fun ls hl => ?_)
                    refine lv_goto (tgt := 39) hx hb dX8_wordOf_89 (by decide) ?_
                    exact ih_L39 x1598 0 out_L39 _ _ _ hM hP hD hS (lv_sub hl [0, 1, 2, 3, 4, 5] rfl) kx_L39
                  · replace hM := if_t c1597 hM
                    refine lv_iconst (v := 1) hx hb dX8_wordOf_79 (by decide) ?_
                    refine lv_goto (tgt := 84) hx hb dX8_wordOf_80 (by decide) ?_
                    refine lv_istore (lv' := [(4, .int 1), (5, .int v5_L39), (3, .int w3_L39), (0, .ref (ad 100)), (1, .int w1_L39), (2, .int w2_L39)]) hx hb dX8_wordOf_84 hl (by decide) rfl (fun ls hl => ?_)
                    obtain ⟨x1599, ex1599⟩ : ∃ y : Int32, y = v5_L39 + 1 := ⟨_, rfl⟩
                    replace hM := nm_use ex1599 hM
                    refine lv_iinc (v := x1599) (lv' := [(5, .int x1599), (4, .int 1), (3, .int w3_L39), (0, .ref (ad 100)), (1, .int w1_L39), (2, .int w2_L39)]) hx hb dX8_wordOf_86 hl (k := 1) rfl (by rw [ex1599]; rfl) (by decide) rfl (fun ls hl => ?_)
                    refine lv_goto (tgt := 39) hx hb dX8_wordOf_89 (by decide) ?_
                    exact ih_L39 x1599 1 out_L39 _ _ _ hM hP hD hS (lv_sub hl [0, 1, 2, 3, 4, 5] rfl) kx_L39
          obtain ⟨r1125, hcr1125, hM⟩ := ob_use hM
          refine lp_L39 v3_L2 w1_L2 w2_L2 o_C o_X FU 0 0 r1125 _ _ _ hcr1125 hP hD hS (lv_sub hl [0, 1, 2, 3, 4, 5] rfl) (fun H locs ls hP hD hS hl => ?_)
          refine lv_iload hx hb dX8_wordOf_92 (lv_at hl 0 rfl) ?_
          refine lv_if_eq (tgt := 99) hx hb dX8_wordOf_94 (by decide) (fun c1126 => ?_) (fun c1126 => ?_)
          · replace hM := if_t c1126 hM
            obtain ⟨x1127, ex1127⟩ : ∃ y : Int32, y = v3_L2 + 1 := ⟨_, rfl⟩
            replace hM := nm_use ex1127 hM
            refine lv_iinc (v := x1127) (lv' := [(3, .int x1127), (4, .int r1125), (0, .ref (ad 100)), (1, .int w1_L2), (2, .int w2_L2)]) hx hb dX8_wordOf_99 hl (k := 1) rfl (by rw [ex1127]; rfl) (by decide) rfl (fun ls hl => ?_)
            refine lv_goto (tgt := 2) hx hb dX8_wordOf_102 (by decide) ?_
            exact ih_L2 x1127 _ _ _ hM hP hD hS (lv_sub hl [0, 2, 3, 4] rfl)
          · replace hM := if_f c1126 hM
            refine lv_iload_n hx hb dX8_wordOf_97 rfl (lv_at hl 1 rfl) ?_
            cases hM
            exact rt_i hx hb hr hlk hP hD hS rfl dX8_wordOf_98
        · replace hM := if_t c1124 hM
          refine lv_iconst (v := 1) hx hb dX8_wordOf_29 (by decide) ?_
          refine lv_goto (tgt := 34) hx hb dX8_wordOf_30 (by decide) ?_
          refine lv_istore (lv' := [(4, .int 1), (3, .int v3_L2), (0, .ref (ad 100)), (1, .int w1_L2), (2, .int w2_L2)]) hx hb dX8_wordOf_34 hl (by decide) rfl (fun ls hl => ?_)
          refine lv_iconst (v := 0) hx hb dX8_wordOf_36 (by decide) ?_
          refine lv_istore (lv' := [(5, .int 0), (4, .int 1), (3, .int v3_L2), (0, .ref (ad 100)), (1, .int w1_L2), (2, .int w2_L2)]) hx hb dX8_wordOf_37 hl (by decide) rfl (fun ls hl => ?_)
          have lp_L39 : ∀ (w3_L39 : Int32) (w1_L39 : Int32) (w2_L39 : Int32) (o_C_L39 : S_MC) (o_X_L39 : S_MX) (n : Nat) (v5_L39 : Int32) (v4_L39 : Int32) (out_L39 : Int32) (H : Heap) (locs : List Loc) (ls : Array Slot), f_Model_wordOf_L39 w3_L39 w1_L39 w2_L39 o_C_L39 o_X_L39 n v5_L39 v4_L39 = some out_L39 → va_P D vwCl (wM_CX cI ad o_X_L39 o_L o_N o_T o_U o_O o_E o_Q o_V o_I o_C_L39) H → va_D A (wM_CX cI ad o_X_L39 o_L o_N o_T o_U o_O o_E o_Q o_V o_I o_C_L39) → va_S A s.heap H locs → lv_has ls 6 [(5, .int v5_L39), (4, .int v4_L39), (3, .int w3_L39), (0, .ref (ad 100)), (1, .int w1_L39), (2, .int w2_L39)] → (∀ (H : Heap) (locs : List Loc) (ls : Array Slot), va_P D vwCl (wM_CX cI ad o_X_L39 o_L o_N o_T o_U o_O o_E o_Q o_V o_I o_C_L39) H → va_D A (wM_CX cI ad o_X_L39 o_L o_N o_T o_U o_O o_E o_Q o_V o_I o_C_L39) → va_S A s.heap H locs → lv_has ls 6 [(4, .int out_L39), (3, .int w3_L39), (0, .ref (ad 100)), (1, .int w1_L39), (2, .int w2_L39)] → W p l e { frames := 1, cells := 0, slots := 0, locals := 20 } s m [.ref (ad 100), .int a1, .int a2].toArray below meth c H locs 0 0 (MQ below (CQ D A (wM_CX cI ad o_X o_L o_N o_T o_U o_O o_E o_Q o_V o_I o_C) (some (.int res))) [.ref (ad 100), .int a1, .int a2].toArray s 0 0 A) (F0 m 92 ls [])) → W p l e { frames := 1, cells := 0, slots := 0, locals := 20 } s m [.ref (ad 100), .int a1, .int a2].toArray below meth c H locs 0 0 (MQ below (CQ D A (wM_CX cI ad o_X o_L o_N o_T o_U o_O o_E o_Q o_V o_I o_C) (some (.int res))) [.ref (ad 100), .int a1, .int a2].toArray s 0 0 A) (F0 m 39 ls []) := by
            intro w3_L39 w1_L39 w2_L39 o_C_L39 o_X_L39 n
            induction n with
            | zero => intro v5_L39 v4_L39 out_L39 H locs ls hM; exact absurd (show none = some _ from hM) (by simp)
            | succ n ih_L39 =>
              intro v5_L39 v4_L39 out_L39 H locs ls hM hP hD hS hl kx_L39
              rw [f_Model_wordOf_L39] at hM
              refine lv_iload hx hb dX8_wordOf_39 (lv_at hl 0 rfl) ?_
              refine lv_iload_n hx hb dX8_wordOf_41 rfl (lv_at hl 5 rfl) ?_
              refine lv_icmp_ge (tgt := 92) hx hb dX8_wordOf_42 (by decide) (fun c1591 => ?_) (fun c1591 => ?_)
              · replace hM := if_t c1591 hM
                cases hM
                exact kx_L39 _ _ _ hP hD hS (lv_sub hl [1, 2, 3, 4, 5] rfl)
              · replace hM := if_f c1591 hM
                refine lv_iload hx hb dX8_wordOf_45 (lv_at hl 1 rfl) ?_
                refine lv_if_eq (tgt := 92) hx hb dX8_wordOf_47 (by decide) (fun c1592 => ?_) (fun c1592 => ?_)
                · replace hM := if_t c1592 hM
                  cases hM
                  exact kx_L39 _ _ _ hP hD hS (lv_sub hl [1, 2, 3, 4, 5] rfl)
                · replace hM := if_f c1592 hM
                  refine lv_aload_n hx hb dX8_wordOf_50 rfl (lv_at hl 3 rfl) ?_
                  refine va_get (D := D) (ci := 8) (v := .ref (ad 101)) (C := RX8) (T := TX8) (N := 48) hx hb hts layX8 hown hK hP 0 rfl rfl 0 (by decide) (hts _ (inA q978)) (fun _ h9 => h9) rfl dX8_wordOf_51 ?_
                  refine lv_aload_n hx hb dX8_wordOf_54 rfl (lv_at hl 3 rfl) ?_
                  refine va_get (D := D) (ci := 8) (v := .ref (ad 102)) (C := RX8) (T := TX8) (N := 48) hx hb hts layX8 hown hK hP 0 rfl rfl 1 (by decide) (hts _ (inA q979)) (fun _ h9 => h9) rfl dX8_wordOf_55 ?_
                  refine lv_iload_n hx hb dX8_wordOf_58 rfl (lv_at hl 2 rfl) ?_
                  obtain ⟨b1593, hM⟩ := gd_use hM
                  refine va_iald hx hb hK hP 2 0 rfl rfl b1593 dX8_wordOf_59 ?_
                  refine lv_iload hx hb dX8_wordOf_60 (lv_at hl 0 rfl) ?_
                  refine lv_iadd hx hb dX8_wordOf_62 ?_
                  obtain ⟨b1594, hM⟩ := gd_use hM
                  refine va_iald hx hb hK hP 1 0 rfl rfl b1594 dX8_wordOf_63 ?_
                  refine lv_aload_n hx hb dX8_wordOf_64 rfl (lv_at hl 3 rfl) ?_
                  refine va_get (D := D) (ci := 8) (v := .ref (ad 105)) (C := RX8) (T := TX8) (N := 48) hx hb hts layX8 hown hK hP 0 rfl rfl 5 (by decide) (hts _ (inA q983)) (fun _ h9 => h9) rfl dX8_wordOf_65 ?_
                  refine lv_iload_n hx hb dX8_wordOf_68 rfl (lv_at hl 4 rfl) ?_
                  refine lv_iload hx hb dX8_wordOf_69 (lv_at hl 0 rfl) ?_
                  refine lv_iadd hx hb dX8_wordOf_71 ?_
                  obtain ⟨b1595, hM⟩ := gd_use hM
                  refine va_iald hx hb hK hP 5 0 rfl rfl b1595 dX8_wordOf_72 ?_
                  obtain ⟨r1596, hcr1596, hM⟩ := ob_use hM
                  refine cl_S (As := [.int (o_X_L39.2 (w1_L39 + v5_L39).toNatClampNeg)]) (rest := [.int (o_C_L39.1 ((o_C_L39.2.1 w3_L39.toNatClampNeg) + v5_L39).toNatClampNeg)]) (wM_CX cI ad o_X_L39 o_L o_N o_T o_U o_O o_E o_Q o_V o_I o_C_L39) (.int r1596 :: [.int (o_C_L39.1 ((o_C_L39.2.1 w3_L39.toNatClampNeg) + v5_L39).toNatClampNeg)]) ⟨hx, hb, hml, hown, hts⟩ (c_Model_great l D cI sd ad (o_X_L39.2 (w1_L39 + v5_L39).toNatClampNeg) r1596 hcr1596) (cwS2 hts q1178 mvX8_great rfl rfl ⟨(Nat.le_of_ble_eq_true rfl), (Nat.le_of_ble_eq_true rfl)⟩) hK hE hA hP hD hS [] rfl (by decide) rfl rfl rfl rfl rfl rfl hl.1 (Nat.le_of_ble_eq_true rfl) dX8_wordOf_73 ⟨Nat.zero_le _, Nat.zero_le _⟩ (fun H locs hP hD hS => ?_)
                  refine lv_icmp_ne (tgt := 83) hx hb dX8_wordOf_76 (by decide) (fun c1597 => ?_) (fun c1597 => ?_)
                  · replace hM := if_f c1597 hM
                    refine lv_iconst (v := 0) hx hb dX8_wordOf_83 (by decide) ?_
                    refine lv_istore (lv' := [(4, .int 0), (5, .int v5_L39), (3, .int w3_L39), (0, .ref (ad 100)), (1, .int w1_L39), (2, .int w2_L39)]) hx hb dX8_wordOf_84 hl (by decide) rfl (fun ls hl => ?_)
                    obtain ⟨x1598, ex1598⟩ : ∃ y : Int32, y = v5_L39 + 1 := ⟨_, rfl⟩
                    replace hM := nm_use ex1598 hM
                    refine lv_iinc (v := x1598) (lv' := [(5, .int x1598), (4, .int 0), (3, .int w3_L39), (0, .ref (ad 100)), (1, .int w1_L39), (2, .int w2_L39)]) hx hb dX8_wordOf_86 hl (k := 1) rfl (by rw [ex1598]; rfl) (by decide) rfl (fun ls hl => ?_)
                    refine lv_goto (tgt := 39) hx hb dX8_wordOf_89 (by decide) ?_
                    exact ih_L39 x1598 0 out_L39 _ _ _ hM hP hD hS (lv_sub hl [0, 1, 2, 3, 4, 5] rfl) kx_L39
                  · replace hM := if_t c1597 hM
                    refine lv_iconst (v := 1) hx hb dX8_wordOf_79 (by decide) ?_
                    refine lv_goto (tgt := 84) hx hb dX8_wordOf_80 (by decide) ?_
                    refine lv_istore (lv' := [(4, .int 1), (5, .int v5_L39), (3, .int w3_L39), (0, .ref (ad 100)), (1, .int w1_L39), (2, .int w2_L39)]) hx hb dX8_wordOf_84 hl (by decide) rfl (fun ls hl => ?_)
                    obtain ⟨x1599, ex1599⟩ : ∃ y : Int32, y = v5_L39 + 1 := ⟨_, rfl⟩
                    replace hM := nm_use ex1599 hM
                    refine lv_iinc (v := x1599) (lv' := [(5, .int x1599), (4, .int 1), (3, .int w3_L39), (0, .ref (ad 100)), (1, .int w1_L39), (2, .int w2_L39)]) hx hb dX8_wordOf_86 hl (k := 1) rfl (by rw [ex1599]; rfl) (by decide) rfl (fun ls hl => ?_)
                    refine lv_goto (tgt := 39) hx hb dX8_wordOf_89 (by decide) ?_
                    exact ih_L39 x1599 1 out_L39 _ _ _ hM hP hD hS (lv_sub hl [0, 1, 2, 3, 4, 5] rfl) kx_L39
          obtain ⟨r1128, hcr1128, hM⟩ := ob_use hM
          refine lp_L39 v3_L2 w1_L2 w2_L2 o_C o_X FU 0 1 r1128 _ _ _ hcr1128 hP hD hS (lv_sub hl [0, 1, 2, 3, 4, 5] rfl) (fun H locs ls hP hD hS hl => ?_)
          refine lv_iload hx hb dX8_wordOf_92 (lv_at hl 0 rfl) ?_
          refine lv_if_eq (tgt := 99) hx hb dX8_wordOf_94 (by decide) (fun c1129 => ?_) (fun c1129 => ?_)
          · replace hM := if_t c1129 hM
            obtain ⟨x1130, ex1130⟩ : ∃ y : Int32, y = v3_L2 + 1 := ⟨_, rfl⟩
            replace hM := nm_use ex1130 hM
            refine lv_iinc (v := x1130) (lv' := [(3, .int x1130), (4, .int r1128), (0, .ref (ad 100)), (1, .int w1_L2), (2, .int w2_L2)]) hx hb dX8_wordOf_99 hl (k := 1) rfl (by rw [ex1130]; rfl) (by decide) rfl (fun ls hl => ?_)
            refine lv_goto (tgt := 2) hx hb dX8_wordOf_102 (by decide) ?_
            exact ih_L2 x1130 _ _ _ hM hP hD hS (lv_sub hl [0, 2, 3, 4] rfl)
          · replace hM := if_f c1129 hM
            refine lv_iload_n hx hb dX8_wordOf_97 rfl (lv_at hl 1 rfl) ?_
            cases hM
            exact rt_i hx hb hr hlk hP hD hS rfl dX8_wordOf_98
  exact lp_L2 a1 a2 FU 0 _ _ _ hM hP hD hS (lv_sub hl [0, 1, 2, 3] rfl)
