set_option maxHeartbeats 4000000 in
set_option maxRecDepth 100000 in
theorem c_Parser_coil (l : Launch) (D : va_G) (cI : ClassId) (sd : Nat → Nat) (ad : Nat → Nat) (o_this : S_Parser) (o_tokens : S_Tokens) (o_tree : S_Tree) (a1 : Int32) (res : S_Parser × S_Tree) (hM : f_Parser_coil o_this o_tokens o_tree a1 = some res) : Ctr l D cI sd yX4_coil (wsM yX4_coil cX4_coil 5 (Option.none : Option Jvm.ClassFile.FieldType)) { frames := 2, cells := 0, slots := 0, locals := 46 } [.ref (ad 22), .int a1] (w_Parser_this_tokens_tree cI ad o_this o_tokens o_tree) (w_Parser_this_tokens_tree cI ad res.1 o_tokens res.2) none := by
  refine Ctr.of (cc := cX4_coil) (maxL := 5) (own := RX4) (by decide +kernel) rfl rfl (Nat.le_of_ble_eq_true rfl) ?_
  intro p e s m below meth c A ls hx hb hr hml hown hts hlk hK hE hA hP hD hS hl
  have hl : lv_has ls 5 [(0, .ref (ad 22)), (1, .int a1)] := hl
  unfold f_Parser_coil at hM
  refine lv_aload_n hx hb dX4_coil_0 rfl (lv_at hl 0 rfl) ?_
  refine va_get (D := D) (ci := 4) (v := .int o_this.2.2.1) (C := RX4) (T := TX4) (N := 12) hx hb hts layX4 hown hK hP 0 rfl rfl 4 (by decide) (hts _ (inA q401)) (fun _ h9 => h9) rfl dX4_coil_1 ?_
  refine lv_istore_n (lv' := [(2, .int o_this.2.2.1), (0, .ref (ad 22)), (1, .int a1)]) hx hb dX4_coil_4 rfl hl (by decide) rfl (fun ls hl => ?_)
  refine lv_aload_n hx hb dX4_coil_5 rfl (lv_at hl 1 rfl) ?_
  refine lv_bipush (v := 40) hx hb dX4_coil_6 (by decide) ?_
  obtain ⟨r1, hcr1, hM⟩ := ob_use hM
  refine cl_V (As := [.int 40]) (rest := []) (w_Parser_this_tokens_tree cI ad r1 o_tokens o_tree) [] ⟨hx, hb, hml, hown, hts⟩ (c_Parser_take l D cI sd ad o_this o_tokens 40 r1 hcr1) (cwV2 hts q614 mvX4_take rfl rfl ⟨(Nat.le_of_ble_eq_true rfl), (Nat.le_of_ble_eq_true rfl)⟩) hK hE hA hP hD hS 0 (T := TX4) (N := 12) (ci := 4) rfl rfl [0, 1, 2, 3, 4] rfl (by decide) rfl rfl rfl rfl rfl rfl hl.1 (Nat.le_of_ble_eq_true rfl) dX4_coil_8 ⟨Nat.zero_le _, Nat.zero_le _⟩ (fun H locs hP hD hS => ?_)
  refine lv_aload_n hx hb dX4_coil_11 rfl (lv_at hl 1 rfl) ?_
  refine va_get (D := D) (ci := 4) (v := .int r1.2.1) (C := RX4) (T := TX4) (N := 12) hx hb hts layX4 hown hK hP 0 rfl rfl 3 (by decide) (hts _ (inA q400)) (fun _ h9 => h9) rfl dX4_coil_12 ?_
  obtain ⟨r2, hcr2, hM⟩ := ob_use hM
  refine cl_S (As := [.int r1.2.1]) (rest := []) (w_Parser_this_tokens_tree cI ad r1 o_tokens o_tree) (.int r2 :: []) ⟨hx, hb, hml, hown, hts⟩ (c_Parser_coilValue l D cI sd ad r1.2.1 r2 hcr2) (cwS2 hts q689 mvX4_coilValue rfl rfl ⟨(Nat.le_of_ble_eq_true rfl), (Nat.le_of_ble_eq_true rfl)⟩) hK hE hA hP hD hS [] rfl (by decide) rfl rfl rfl rfl rfl rfl hl.1 (Nat.le_of_ble_eq_true rfl) dX4_coil_15 ⟨Nat.zero_le _, Nat.zero_le _⟩ (fun H locs hP hD hS => ?_)
  refine lv_istore_n (lv' := [(3, .int r2), (2, .int o_this.2.2.1), (0, .ref (ad 22)), (1, .int a1)]) hx hb dX4_coil_18 rfl hl (by decide) rfl (fun ls hl => ?_)
  refine lv_aload_n hx hb dX4_coil_19 rfl (lv_at hl 2 rfl) ?_
  refine va_get (D := D) (ci := 4) (v := .ref (ad 14)) (C := RX4) (T := TX4) (N := 12) hx hb hts layX4 hown hK hP 0 rfl rfl 1 (by decide) (hts _ (inA q398)) (fun _ h9 => h9) rfl dX4_coil_20 ?_
  refine lv_iload_n hx hb dX4_coil_23 rfl (lv_at hl 3 rfl) ?_
  refine lv_bipush (v := 28) hx hb dX4_coil_24 (by decide) ?_
  refine lv_iload_n hx hb dX4_coil_26 rfl (lv_at hl 1 rfl) ?_
  refine lv_iload_n hx hb dX4_coil_27 rfl (lv_at hl 0 rfl) ?_
  obtain ⟨r3, hcr3, hM⟩ := ob_use hM
  refine cl_V (As := [.int a1, .int 28, .int o_this.2.2.1, .int r2]) (rest := []) (w_Parser_this_tokens_tree cI ad r1 o_tokens r3.2) (.int r3.1 :: []) ⟨hx, hb, hml, hown, hts⟩ (c_Tree_add l D cI sd ad o_tree a1 28 o_this.2.2.1 r2 r3 hcr3) (cwV2 hts q622 mvX3_add rfl rfl ⟨(Nat.le_of_ble_eq_true rfl), (Nat.le_of_ble_eq_true rfl)⟩) hK hE hA hP hD hS 5 (T := TX3) (N := 8) (ci := 3) rfl rfl [5, 6, 7, 8, 9, 10, 11, 12] rfl (by decide) rfl rfl rfl rfl rfl rfl hl.1 (Nat.le_of_ble_eq_true rfl) dX4_coil_28 ⟨Nat.zero_le _, Nat.zero_le _⟩ (fun H locs hP hD hS => ?_)
  refine lv_istore (lv' := [(4, .int r3.1), (3, .int r2), (2, .int o_this.2.2.1), (0, .ref (ad 22)), (1, .int a1)]) hx hb dX4_coil_31 hl (by decide) rfl (fun ls hl => ?_)
  refine lv_iload_n hx hb dX4_coil_33 rfl (lv_at hl 1 rfl) ?_
  refine lv_if_eq (tgt := 45) hx hb dX4_coil_34 (by decide) (fun c4 => ?_) (fun c4 => ?_)
  · replace hM := if_t c4 hM
    refine lv_aload_n hx hb dX4_coil_45 rfl (lv_at hl 3 rfl) ?_
    refine lv_iload hx hb dX4_coil_46 (lv_at hl 0 rfl) ?_
    obtain ⟨r5, hcr5, hM⟩ := ob_use hM
    refine cl_V (As := [.int r3.1]) (rest := []) (w_Parser_this_tokens_tree cI ad r5.1 o_tokens r5.2) [] ⟨hx, hb, hml, hown, hts⟩ (c_Parser_nameNode l D cI sd ad r1 o_tokens r3.2 r3.1 r5 hcr5) (cwV2 hts q657 mvX4_nameNode rfl rfl ⟨(Nat.le_of_ble_eq_true rfl), (Nat.le_of_ble_eq_true rfl)⟩) hK hE hA hP hD hS 0 (T := TX4) (N := 12) (ci := 4) rfl rfl [0, 1, 2, 3, 4, 5, 6, 7, 8, 9, 10, 11, 12] rfl (by decide) rfl rfl rfl rfl rfl rfl hl.1 (Nat.le_of_ble_eq_true rfl) dX4_coil_48 ⟨Nat.zero_le _, Nat.zero_le _⟩ (fun H locs hP hD hS => ?_)
    refine lv_aload_n hx hb dX4_coil_51 rfl (lv_at hl 3 rfl) ?_
    refine lv_bipush (v := 41) hx hb dX4_coil_52 (by decide) ?_
    obtain ⟨r6, hcr6, hM⟩ := ob_use hM
    refine cl_V (As := [.int 41]) (rest := []) (w_Parser_this_tokens_tree cI ad r6 o_tokens r5.2) [] ⟨hx, hb, hml, hown, hts⟩ (c_Parser_take l D cI sd ad r5.1 o_tokens 41 r6 hcr6) (cwV2 hts q614 mvX4_take rfl rfl ⟨(Nat.le_of_ble_eq_true rfl), (Nat.le_of_ble_eq_true rfl)⟩) hK hE hA hP hD hS 0 (T := TX4) (N := 12) (ci := 4) rfl rfl [0, 1, 2, 3, 4] rfl (by decide) rfl rfl rfl rfl rfl rfl hl.1 (Nat.le_of_ble_eq_true rfl) dX4_coil_54 ⟨Nat.zero_le _, Nat.zero_le _⟩ (fun H locs hP hD hS => ?_)
    cases hM
    exact rt_v hx hb hr hlk hP hD hS rfl dX4_coil_57
  · replace hM := if_f c4 hM
    refine lv_aload_n hx hb dX4_coil_37 rfl (lv_at hl 3 rfl) ?_
    refine lv_aload_n hx hb dX4_coil_38 rfl (lv_at hl 3 rfl) ?_
    refine va_get (D := D) (ci := 4) (v := .int r1.2.1) (C := RX4) (T := TX4) (N := 12) hx hb hts layX4 hown hK hP 0 rfl rfl 3 (by decide) (hts _ (inA q400)) (fun _ h9 => h9) rfl dX4_coil_39 ?_
    obtain ⟨r7, hcr7, hM⟩ := ob_use hM
    refine cl_V (As := [.int r1.2.1]) (rest := []) (w_Parser_this_tokens_tree cI ad r7 o_tokens r3.2) [] ⟨hx, hb, hml, hown, hts⟩ (c_Parser_take l D cI sd ad r1 o_tokens r1.2.1 r7 hcr7) (cwV2 hts q614 mvX4_take rfl rfl ⟨(Nat.le_of_ble_eq_true rfl), (Nat.le_of_ble_eq_true rfl)⟩) hK hE hA hP hD hS 0 (T := TX4) (N := 12) (ci := 4) rfl rfl [0, 1, 2, 3, 4] rfl (by decide) rfl rfl rfl rfl rfl rfl hl.1 (Nat.le_of_ble_eq_true rfl) dX4_coil_42 ⟨Nat.zero_le _, Nat.zero_le _⟩ (fun H locs hP hD hS => ?_)
    refine lv_aload_n hx hb dX4_coil_45 rfl (lv_at hl 3 rfl) ?_
    refine lv_iload hx hb dX4_coil_46 (lv_at hl 0 rfl) ?_
    obtain ⟨r8, hcr8, hM⟩ := ob_use hM
    refine cl_V (As := [.int r3.1]) (rest := []) (w_Parser_this_tokens_tree cI ad r8.1 o_tokens r8.2) [] ⟨hx, hb, hml, hown, hts⟩ (c_Parser_nameNode l D cI sd ad r7 o_tokens r3.2 r3.1 r8 hcr8) (cwV2 hts q657 mvX4_nameNode rfl rfl ⟨(Nat.le_of_ble_eq_true rfl), (Nat.le_of_ble_eq_true rfl)⟩) hK hE hA hP hD hS 0 (T := TX4) (N := 12) (ci := 4) rfl rfl [0, 1, 2, 3, 4, 5, 6, 7, 8, 9, 10, 11, 12] rfl (by decide) rfl rfl rfl rfl rfl rfl hl.1 (Nat.le_of_ble_eq_true rfl) dX4_coil_48 ⟨Nat.zero_le _, Nat.zero_le _⟩ (fun H locs hP hD hS => ?_)
    refine lv_aload_n hx hb dX4_coil_51 rfl (lv_at hl 3 rfl) ?_
    refine lv_bipush (v := 41) hx hb dX4_coil_52 (by decide) ?_
    obtain ⟨r9, hcr9, hM⟩ := ob_use hM
    refine cl_V (As := [.int 41]) (rest := []) (w_Parser_this_tokens_tree cI ad r9 o_tokens r8.2) [] ⟨hx, hb, hml, hown, hts⟩ (c_Parser_take l D cI sd ad r8.1 o_tokens 41 r9 hcr9) (cwV2 hts q614 mvX4_take rfl rfl ⟨(Nat.le_of_ble_eq_true rfl), (Nat.le_of_ble_eq_true rfl)⟩) hK hE hA hP hD hS 0 (T := TX4) (N := 12) (ci := 4) rfl rfl [0, 1, 2, 3, 4] rfl (by decide) rfl rfl rfl rfl rfl rfl hl.1 (Nat.le_of_ble_eq_true rfl) dX4_coil_54 ⟨Nat.zero_le _, Nat.zero_le _⟩ (fun H locs hP hD hS => ?_)
    cases hM
    exact rt_v hx hb hr hlk hP hD hS rfl dX4_coil_57

set_option maxHeartbeats 4000000 in
set_option maxRecDepth 100000 in
theorem c_Parser_contactValue (l : Launch) (D : va_G) (cI : ClassId) (sd : Nat → Nat) (ad : Nat → Nat) (a1 : Int32) (res : Int32) (hM : f_Parser_contactValue a1 = some res) : Ctr l D cI sd yX4_contactValue (wsM yX4_contactValue cX4_contactValue 1 (Option.some Jvm.ClassFile.FieldType.int)) { frames := 0, cells := 0, slots := 0, locals := 0 } [.int a1] (([] : va_W)) (([] : va_W)) (some (.int res)) := by
  refine Ctr.of (cc := cX4_contactValue) (maxL := 1) (own := RX4) (by decide +kernel) rfl rfl (Nat.le_of_ble_eq_true rfl) ?_
  intro p e s m below meth c A ls hx hb hr hml hown hts hlk hK hE hA hP hD hS hl
  have hl : lv_has ls 1 [(0, .int a1)] := hl
  unfold f_Parser_contactValue at hM
  refine lv_iload_n hx hb dX4_contactValue_0 rfl (lv_at hl 0 rfl) ?_
  by_cases c1 : a1 = 47
  · replace hM := if_t c1 hM
    refine lv_lookup (off := 35) (tgt := 36) hx hb dX4_contactValue_1 (by decide) (by exact sw_hit c1 (by decide)) (by decide) ?_
    refine lv_iconst (v := 1) hx hb dX4_contactValue_36 (by decide) ?_
    cases hM
    exact rt_i hx hb hr hlk hP hD hS rfl dX4_contactValue_37
  replace hM := if_f c1 hM
  by_cases c2 : a1 = 60
  · replace hM := if_t c2 hM
    refine lv_lookup (off := 39) (tgt := 40) hx hb dX4_contactValue_1 (by decide) (by rw [lv_osw c1 (by decide)]; exact sw_hit c2 (by decide)) (by decide) ?_
    refine lv_iconst (v := 3) hx hb dX4_contactValue_40 (by decide) ?_
    cases hM
    exact rt_i hx hb hr hlk hP hD hS rfl dX4_contactValue_41
  replace hM := if_f c2 hM
  by_cases c3 : a1 = 62
  · replace hM := if_t c3 hM
    refine lv_lookup (off := 37) (tgt := 38) hx hb dX4_contactValue_1 (by decide) (by rw [lv_osw c1 (by decide)]; rw [lv_osw c2 (by decide)]; exact sw_hit c3 (by decide)) (by decide) ?_
    refine lv_iconst (v := 2) hx hb dX4_contactValue_38 (by decide) ?_
    cases hM
    exact rt_i hx hb hr hlk hP hD hS rfl dX4_contactValue_39
  replace hM := if_f c3 hM
  refine lv_lookup (off := 41) (tgt := 42) hx hb dX4_contactValue_1 (by decide) (by rw [lv_osw c1 (by decide)]; rw [lv_osw c2 (by decide)]; rw [lv_osw c3 (by decide)]; rfl) (by decide) ?_
  refine lv_iconst (v := 0) hx hb dX4_contactValue_42 (by decide) ?_
  cases hM
  exact rt_i hx hb hr hlk hP hD hS rfl dX4_contactValue_43

set_option maxHeartbeats 4000000 in
set_option maxRecDepth 100000 in
theorem c_Parser_contact (l : Launch) (D : va_G) (cI : ClassId) (sd : Nat → Nat) (ad : Nat → Nat) (o_this : S_Parser) (o_tokens : S_Tokens) (o_tree : S_Tree) (a1 : Int32) (res : S_Parser × S_Tree) (hM : f_Parser_contact o_this o_tokens o_tree a1 = some res) : Ctr l D cI sd yX4_contact (wsM yX4_contact cX4_contact 6 (Option.none : Option Jvm.ClassFile.FieldType)) { frames := 2, cells := 0, slots := 0, locals := 46 } [.ref (ad 22), .int a1] (w_Parser_this_tokens_tree cI ad o_this o_tokens o_tree) (w_Parser_this_tokens_tree cI ad res.1 o_tokens res.2) none := by
  refine Ctr.of (cc := cX4_contact) (maxL := 6) (own := RX4) (by decide +kernel) rfl rfl (Nat.le_of_ble_eq_true rfl) ?_
  intro p e s m below meth c A ls hx hb hr hml hown hts hlk hK hE hA hP hD hS hl
  have hl : lv_has ls 6 [(0, .ref (ad 22)), (1, .int a1)] := hl
  unfold f_Parser_contact at hM
  refine lv_aload_n hx hb dX4_contact_0 rfl (lv_at hl 0 rfl) ?_
  refine va_get (D := D) (ci := 4) (v := .int o_this.2.1) (C := RX4) (T := TX4) (N := 12) hx hb hts layX4 hown hK hP 0 rfl rfl 3 (by decide) (hts _ (inA q400)) (fun _ h9 => h9) rfl dX4_contact_1 ?_
  obtain ⟨r1, hcr1, hM⟩ := ob_use hM
  refine cl_S (As := [.int o_this.2.1]) (rest := []) (w_Parser_this_tokens_tree cI ad o_this o_tokens o_tree) (.int r1 :: []) ⟨hx, hb, hml, hown, hts⟩ (c_Parser_contactValue l D cI sd ad o_this.2.1 r1 hcr1) (cwS2 hts q696 mvX4_contactValue rfl rfl ⟨(Nat.le_of_ble_eq_true rfl), (Nat.le_of_ble_eq_true rfl)⟩) hK hE hA hP hD hS [] rfl (by decide) rfl rfl rfl rfl rfl rfl hl.1 (Nat.le_of_ble_eq_true rfl) dX4_contact_4 ⟨Nat.zero_le _, Nat.zero_le _⟩ (fun H locs hP hD hS => ?_)
  refine lv_istore_n (lv' := [(2, .int r1), (0, .ref (ad 22)), (1, .int a1)]) hx hb dX4_contact_7 rfl hl (by decide) rfl (fun ls hl => ?_)
  refine lv_aload_n hx hb dX4_contact_8 rfl (lv_at hl 1 rfl) ?_
  refine va_get (D := D) (ci := 4) (v := .ref (ad 14)) (C := RX4) (T := TX4) (N := 12) hx hb hts layX4 hown hK hP 0 rfl rfl 1 (by decide) (hts _ (inA q398)) (fun _ h9 => h9) rfl dX4_contact_9 ?_
  refine lv_iload_n hx hb dX4_contact_12 rfl (lv_at hl 2 rfl) ?_
  refine lv_bipush (v := 25) hx hb dX4_contact_13 (by decide) ?_
  refine lv_aload_n hx hb dX4_contact_15 rfl (lv_at hl 1 rfl) ?_
  refine va_get (D := D) (ci := 4) (v := .int o_this.2.2.1) (C := RX4) (T := TX4) (N := 12) hx hb hts layX4 hown hK hP 0 rfl rfl 4 (by decide) (hts _ (inA q401)) (fun _ h9 => h9) rfl dX4_contact_16 ?_
  refine lv_iload_n hx hb dX4_contact_19 rfl (lv_at hl 0 rfl) ?_
  obtain ⟨r2, hcr2, hM⟩ := ob_use hM
  refine cl_V (As := [.int a1, .int 25, .int o_this.2.2.1, .int r1]) (rest := []) (w_Parser_this_tokens_tree cI ad o_this o_tokens r2.2) (.int r2.1 :: []) ⟨hx, hb, hml, hown, hts⟩ (c_Tree_add l D cI sd ad o_tree a1 25 o_this.2.2.1 r1 r2 hcr2) (cwV2 hts q622 mvX3_add rfl rfl ⟨(Nat.le_of_ble_eq_true rfl), (Nat.le_of_ble_eq_true rfl)⟩) hK hE hA hP hD hS 5 (T := TX3) (N := 8) (ci := 3) rfl rfl [5, 6, 7, 8, 9, 10, 11, 12] rfl (by decide) rfl rfl rfl rfl rfl rfl hl.1 (Nat.le_of_ble_eq_true rfl) dX4_contact_20 ⟨Nat.zero_le _, Nat.zero_le _⟩ (fun H locs hP hD hS => ?_)
  refine lv_istore_n (lv' := [(3, .int r2.1), (2, .int r1), (0, .ref (ad 22)), (1, .int a1)]) hx hb dX4_contact_23 rfl hl (by decide) rfl (fun ls hl => ?_)
  refine lv_iload_n hx hb dX4_contact_24 rfl (lv_at hl 1 rfl) ?_
  refine lv_if_eq (tgt := 36) hx hb dX4_contact_25 (by decide) (fun c3 => ?_) (fun c3 => ?_)
  · replace hM := if_t c3 hM
    refine lv_aload_n hx hb dX4_contact_36 rfl (lv_at hl 2 rfl) ?_
    refine va_get (D := D) (ci := 4) (v := .int o_this.2.2.1) (C := RX4) (T := TX4) (N := 12) hx hb hts layX4 hown hK hP 0 rfl rfl 4 (by decide) (hts _ (inA q401)) (fun _ h9 => h9) rfl dX4_contact_37 ?_
    refine lv_istore (lv' := [(4, .int o_this.2.2.1), (3, .int r2.1), (2, .int r1), (0, .ref (ad 22)), (1, .int a1)]) hx hb dX4_contact_40 hl (by decide) rfl (fun ls hl => ?_)
    refine lv_aload_n hx hb dX4_contact_42 rfl (lv_at hl 3 rfl) ?_
    obtain ⟨r4, hcr4, hM⟩ := ob_use hM
    refine cl_V (As := []) (rest := []) (w_Parser_this_tokens_tree cI ad r4.2 o_tokens r2.2) (.int r4.1 :: []) ⟨hx, hb, hml, hown, hts⟩ (c_Parser_takeName l D cI sd ad o_this o_tokens r4 hcr4) (cwV2 hts q637 mvX4_takeName rfl rfl ⟨(Nat.le_of_ble_eq_true rfl), (Nat.le_of_ble_eq_true rfl)⟩) hK hE hA hP hD hS 0 (T := TX4) (N := 12) (ci := 4) rfl rfl [0, 1, 2, 3, 4] rfl (by decide) rfl rfl rfl rfl rfl rfl hl.1 (Nat.le_of_ble_eq_true rfl) dX4_contact_43 ⟨Nat.zero_le _, Nat.zero_le _⟩ (fun H locs hP hD hS => ?_)
    refine lv_istore (lv' := [(5, .int r4.1), (4, .int o_this.2.2.1), (3, .int r2.1), (2, .int r1), (0, .ref (ad 22)), (1, .int a1)]) hx hb dX4_contact_46 hl (by decide) rfl (fun ls hl => ?_)
    refine lv_aload_n hx hb dX4_contact_48 rfl (lv_at hl 4 rfl) ?_
    refine va_get (D := D) (ci := 4) (v := .int r4.2.2.1) (C := RX4) (T := TX4) (N := 12) hx hb hts layX4 hown hK hP 0 rfl rfl 3 (by decide) (hts _ (inA q400)) (fun _ h9 => h9) rfl dX4_contact_49 ?_
    refine lv_bipush (v := 46) hx hb dX4_contact_52 (by decide) ?_
    refine lv_icmp_ne (tgt := 84) hx hb dX4_contact_54 (by decide) (fun c5 => ?_) (fun c5 => ?_)
    · replace hM := if_f c5 hM
      refine lv_aload_n hx hb dX4_contact_84 rfl (lv_at hl 4 rfl) ?_
      refine va_get (D := D) (ci := 4) (v := .ref (ad 14)) (C := RX4) (T := TX4) (N := 12) hx hb hts layX4 hown hK hP 0 rfl rfl 1 (by decide) (hts _ (inA q398)) (fun _ h9 => h9) rfl dX4_contact_85 ?_
      refine lv_iload_n hx hb dX4_contact_88 rfl (lv_at hl 2 rfl) ?_
      refine lv_bipush (v := 6) hx hb dX4_contact_89 (by decide) ?_
      refine lv_iload hx hb dX4_contact_91 (lv_at hl 1 rfl) ?_
      refine lv_iload hx hb dX4_contact_93 (lv_at hl 0 rfl) ?_
      obtain ⟨r6, hcr6, hM⟩ := ob_use hM
      refine cl_V (As := [.int r2.1, .int 6, .int o_this.2.2.1, .int r4.1]) (rest := []) (w_Parser_this_tokens_tree cI ad r4.2 o_tokens r6.2) (.int r6.1 :: []) ⟨hx, hb, hml, hown, hts⟩ (c_Tree_add l D cI sd ad r2.2 r2.1 6 o_this.2.2.1 r4.1 r6 hcr6) (cwV2 hts q622 mvX3_add rfl rfl ⟨(Nat.le_of_ble_eq_true rfl), (Nat.le_of_ble_eq_true rfl)⟩) hK hE hA hP hD hS 5 (T := TX3) (N := 8) (ci := 3) rfl rfl [5, 6, 7, 8, 9, 10, 11, 12] rfl (by decide) rfl rfl rfl rfl rfl rfl hl.1 (Nat.le_of_ble_eq_true rfl) dX4_contact_95 ⟨Nat.zero_le _, Nat.zero_le _⟩ (fun H locs hP hD hS => ?_)
      refine lv_pop hx hb dX4_contact_98 rfl ?_
      cases hM
      exact rt_v hx hb hr hlk hP hD hS rfl dX4_contact_99
    · replace hM := if_t c5 hM
      refine lv_aload_n hx hb dX4_contact_57 rfl (lv_at hl 4 rfl) ?_
      refine lv_bipush (v := 46) hx hb dX4_contact_58 (by decide) ?_
      obtain ⟨r7, hcr7, hM⟩ := ob_use hM
      refine cl_V (As := [.int 46]) (rest := []) (w_Parser_this_tokens_tree cI ad r7 o_tokens r2.2) [] ⟨hx, hb, hml, hown, hts⟩ (c_Parser_take l D cI sd ad r4.2 o_tokens 46 r7 hcr7) (cwV2 hts q614 mvX4_take rfl rfl ⟨(Nat.le_of_ble_eq_true rfl), (Nat.le_of_ble_eq_true rfl)⟩) hK hE hA hP hD hS 0 (T := TX4) (N := 12) (ci := 4) rfl rfl [0, 1, 2, 3, 4] rfl (by decide) rfl rfl rfl rfl rfl rfl hl.1 (Nat.le_of_ble_eq_true rfl) dX4_contact_60 ⟨Nat.zero_le _, Nat.zero_le _⟩ (fun H locs hP hD hS => ?_)
      refine lv_aload_n hx hb dX4_contact_63 rfl (lv_at hl 4 rfl) ?_
      refine lv_aload_n hx hb dX4_contact_64 rfl (lv_at hl 4 rfl) ?_
      refine va_get (D := D) (ci := 4) (v := .ref (ad 14)) (C := RX4) (T := TX4) (N := 12) hx hb hts layX4 hown hK hP 0 rfl rfl 1 (by decide) (hts _ (inA q398)) (fun _ h9 => h9) rfl dX4_contact_65 ?_
      refine lv_iload_n hx hb dX4_contact_68 rfl (lv_at hl 2 rfl) ?_
      refine lv_bipush (v := 33) hx hb dX4_contact_69 (by decide) ?_
      refine lv_iload hx hb dX4_contact_71 (lv_at hl 1 rfl) ?_
      refine lv_iload hx hb dX4_contact_73 (lv_at hl 0 rfl) ?_
      obtain ⟨r8, hcr8, hM⟩ := ob_use hM
      refine cl_V (As := [.int r2.1, .int 33, .int o_this.2.2.1, .int r4.1]) (rest := [.ref (ad 22)]) (w_Parser_this_tokens_tree cI ad r7 o_tokens r8.2) (.int r8.1 :: [.ref (ad 22)]) ⟨hx, hb, hml, hown, hts⟩ (c_Tree_add l D cI sd ad r2.2 r2.1 33 o_this.2.2.1 r4.1 r8 hcr8) (cwV2 hts q622 mvX3_add rfl rfl ⟨(Nat.le_of_ble_eq_true rfl), (Nat.le_of_ble_eq_true rfl)⟩) hK hE hA hP hD hS 5 (T := TX3) (N := 8) (ci := 3) rfl rfl [5, 6, 7, 8, 9, 10, 11, 12] rfl (by decide) rfl rfl rfl rfl rfl rfl hl.1 (Nat.le_of_ble_eq_true rfl) dX4_contact_75 ⟨Nat.zero_le _, Nat.zero_le _⟩ (fun H locs hP hD hS => ?_)
      obtain ⟨r9, hcr9, hM⟩ := ob_use hM
      refine cl_V (As := [.int r8.1]) (rest := []) (w_Parser_this_tokens_tree cI ad r9.1 o_tokens r9.2) [] ⟨hx, hb, hml, hown, hts⟩ (c_Parser_nameNode l D cI sd ad r7 o_tokens r8.2 r8.1 r9 hcr9) (cwV2 hts q657 mvX4_nameNode rfl rfl ⟨(Nat.le_of_ble_eq_true rfl), (Nat.le_of_ble_eq_true rfl)⟩) hK hE hA hP hD hS 0 (T := TX4) (N := 12) (ci := 4) rfl rfl [0, 1, 2, 3, 4, 5, 6, 7, 8, 9, 10, 11, 12] rfl (by decide) rfl rfl rfl rfl rfl rfl hl.1 (Nat.le_of_ble_eq_true rfl) dX4_contact_78 ⟨Nat.zero_le _, Nat.zero_le _⟩ (fun H locs hP hD hS => ?_)
      refine lv_goto (tgt := 99) hx hb dX4_contact_81 (by decide) ?_
      cases hM
      exact rt_v hx hb hr hlk hP hD hS rfl dX4_contact_99
  · replace hM := if_f c3 hM
    refine lv_aload_n hx hb dX4_contact_28 rfl (lv_at hl 2 rfl) ?_
    refine lv_aload_n hx hb dX4_contact_29 rfl (lv_at hl 2 rfl) ?_
    refine va_get (D := D) (ci := 4) (v := .int o_this.2.1) (C := RX4) (T := TX4) (N := 12) hx hb hts layX4 hown hK hP 0 rfl rfl 3 (by decide) (hts _ (inA q400)) (fun _ h9 => h9) rfl dX4_contact_30 ?_
    obtain ⟨r10, hcr10, hM⟩ := ob_use hM
    refine cl_V (As := [.int o_this.2.1]) (rest := []) (w_Parser_this_tokens_tree cI ad r10 o_tokens r2.2) [] ⟨hx, hb, hml, hown, hts⟩ (c_Parser_take l D cI sd ad o_this o_tokens o_this.2.1 r10 hcr10) (cwV2 hts q614 mvX4_take rfl rfl ⟨(Nat.le_of_ble_eq_true rfl), (Nat.le_of_ble_eq_true rfl)⟩) hK hE hA hP hD hS 0 (T := TX4) (N := 12) (ci := 4) rfl rfl [0, 1, 2, 3, 4] rfl (by decide) rfl rfl rfl rfl rfl rfl hl.1 (Nat.le_of_ble_eq_true rfl) dX4_contact_33 ⟨Nat.zero_le _, Nat.zero_le _⟩ (fun H locs hP hD hS => ?_)
    refine lv_aload_n hx hb dX4_contact_36 rfl (lv_at hl 2 rfl) ?_
    refine va_get (D := D) (ci := 4) (v := .int r10.2.2.1) (C := RX4) (T := TX4) (N := 12) hx hb hts layX4 hown hK hP 0 rfl rfl 4 (by decide) (hts _ (inA q401)) (fun _ h9 => h9) rfl dX4_contact_37 ?_
    refine lv_istore (lv' := [(4, .int r10.2.2.1), (3, .int r2.1), (2, .int r1), (0, .ref (ad 22)), (1, .int a1)]) hx hb dX4_contact_40 hl (by decide) rfl (fun ls hl => ?_)
    refine lv_aload_n hx hb dX4_contact_42 rfl (lv_at hl 3 rfl) ?_
    obtain ⟨r11, hcr11, hM⟩ := ob_use hM
    refine cl_V (As := []) (rest := []) (w_Parser_this_tokens_tree cI ad r11.2 o_tokens r2.2) (.int r11.1 :: []) ⟨hx, hb, hml, hown, hts⟩ (c_Parser_takeName l D cI sd ad r10 o_tokens r11 hcr11) (cwV2 hts q637 mvX4_takeName rfl rfl ⟨(Nat.le_of_ble_eq_true rfl), (Nat.le_of_ble_eq_true rfl)⟩) hK hE hA hP hD hS 0 (T := TX4) (N := 12) (ci := 4) rfl rfl [0, 1, 2, 3, 4] rfl (by decide) rfl rfl rfl rfl rfl rfl hl.1 (Nat.le_of_ble_eq_true rfl) dX4_contact_43 ⟨Nat.zero_le _, Nat.zero_le _⟩ (fun H locs hP hD hS => ?_)
    refine lv_istore (lv' := [(5, .int r11.1), (4, .int r10.2.2.1), (3, .int r2.1), (2, .int r1), (0, .ref (ad 22)), (1, .int a1)]) hx hb dX4_contact_46 hl (by decide) rfl (fun ls hl => ?_)
    refine lv_aload_n hx hb dX4_contact_48 rfl (lv_at hl 4 rfl) ?_
    refine va_get (D := D) (ci := 4) (v := .int r11.2.2.1) (C := RX4) (T := TX4) (N := 12) hx hb hts layX4 hown hK hP 0 rfl rfl 3 (by decide) (hts _ (inA q400)) (fun _ h9 => h9) rfl dX4_contact_49 ?_
    refine lv_bipush (v := 46) hx hb dX4_contact_52 (by decide) ?_
    refine lv_icmp_ne (tgt := 84) hx hb dX4_contact_54 (by decide) (fun c12 => ?_) (fun c12 => ?_)
    · replace hM := if_f c12 hM
      refine lv_aload_n hx hb dX4_contact_84 rfl (lv_at hl 4 rfl) ?_
      refine va_get (D := D) (ci := 4) (v := .ref (ad 14)) (C := RX4) (T := TX4) (N := 12) hx hb hts layX4 hown hK hP 0 rfl rfl 1 (by decide) (hts _ (inA q398)) (fun _ h9 => h9) rfl dX4_contact_85 ?_
      refine lv_iload_n hx hb dX4_contact_88 rfl (lv_at hl 2 rfl) ?_
      refine lv_bipush (v := 6) hx hb dX4_contact_89 (by decide) ?_
      refine lv_iload hx hb dX4_contact_91 (lv_at hl 1 rfl) ?_
      refine lv_iload hx hb dX4_contact_93 (lv_at hl 0 rfl) ?_
      obtain ⟨r13, hcr13, hM⟩ := ob_use hM
      refine cl_V (As := [.int r2.1, .int 6, .int r10.2.2.1, .int r11.1]) (rest := []) (w_Parser_this_tokens_tree cI ad r11.2 o_tokens r13.2) (.int r13.1 :: []) ⟨hx, hb, hml, hown, hts⟩ (c_Tree_add l D cI sd ad r2.2 r2.1 6 r10.2.2.1 r11.1 r13 hcr13) (cwV2 hts q622 mvX3_add rfl rfl ⟨(Nat.le_of_ble_eq_true rfl), (Nat.le_of_ble_eq_true rfl)⟩) hK hE hA hP hD hS 5 (T := TX3) (N := 8) (ci := 3) rfl rfl [5, 6, 7, 8, 9, 10, 11, 12] rfl (by decide) rfl rfl rfl rfl rfl rfl hl.1 (Nat.le_of_ble_eq_true rfl) dX4_contact_95 ⟨Nat.zero_le _, Nat.zero_le _⟩ (fun H locs hP hD hS => ?_)
      refine lv_pop hx hb dX4_contact_98 rfl ?_
      cases hM
      exact rt_v hx hb hr hlk hP hD hS rfl dX4_contact_99
    · replace hM := if_t c12 hM
      refine lv_aload_n hx hb dX4_contact_57 rfl (lv_at hl 4 rfl) ?_
      refine lv_bipush (v := 46) hx hb dX4_contact_58 (by decide) ?_
      obtain ⟨r14, hcr14, hM⟩ := ob_use hM
      refine cl_V (As := [.int 46]) (rest := []) (w_Parser_this_tokens_tree cI ad r14 o_tokens r2.2) [] ⟨hx, hb, hml, hown, hts⟩ (c_Parser_take l D cI sd ad r11.2 o_tokens 46 r14 hcr14) (cwV2 hts q614 mvX4_take rfl rfl ⟨(Nat.le_of_ble_eq_true rfl), (Nat.le_of_ble_eq_true rfl)⟩) hK hE hA hP hD hS 0 (T := TX4) (N := 12) (ci := 4) rfl rfl [0, 1, 2, 3, 4] rfl (by decide) rfl rfl rfl rfl rfl rfl hl.1 (Nat.le_of_ble_eq_true rfl) dX4_contact_60 ⟨Nat.zero_le _, Nat.zero_le _⟩ (fun H locs hP hD hS => ?_)
      refine lv_aload_n hx hb dX4_contact_63 rfl (lv_at hl 4 rfl) ?_
      refine lv_aload_n hx hb dX4_contact_64 rfl (lv_at hl 4 rfl) ?_
      refine va_get (D := D) (ci := 4) (v := .ref (ad 14)) (C := RX4) (T := TX4) (N := 12) hx hb hts layX4 hown hK hP 0 rfl rfl 1 (by decide) (hts _ (inA q398)) (fun _ h9 => h9) rfl dX4_contact_65 ?_
      refine lv_iload_n hx hb dX4_contact_68 rfl (lv_at hl 2 rfl) ?_
      refine lv_bipush (v := 33) hx hb dX4_contact_69 (by decide) ?_
      refine lv_iload hx hb dX4_contact_71 (lv_at hl 1 rfl) ?_
      refine lv_iload hx hb dX4_contact_73 (lv_at hl 0 rfl) ?_
      obtain ⟨r15, hcr15, hM⟩ := ob_use hM
      refine cl_V (As := [.int r2.1, .int 33, .int r10.2.2.1, .int r11.1]) (rest := [.ref (ad 22)]) (w_Parser_this_tokens_tree cI ad r14 o_tokens r15.2) (.int r15.1 :: [.ref (ad 22)]) ⟨hx, hb, hml, hown, hts⟩ (c_Tree_add l D cI sd ad r2.2 r2.1 33 r10.2.2.1 r11.1 r15 hcr15) (cwV2 hts q622 mvX3_add rfl rfl ⟨(Nat.le_of_ble_eq_true rfl), (Nat.le_of_ble_eq_true rfl)⟩) hK hE hA hP hD hS 5 (T := TX3) (N := 8) (ci := 3) rfl rfl [5, 6, 7, 8, 9, 10, 11, 12] rfl (by decide) rfl rfl rfl rfl rfl rfl hl.1 (Nat.le_of_ble_eq_true rfl) dX4_contact_75 ⟨Nat.zero_le _, Nat.zero_le _⟩ (fun H locs hP hD hS => ?_)
      obtain ⟨r16, hcr16, hM⟩ := ob_use hM
      refine cl_V (As := [.int r15.1]) (rest := []) (w_Parser_this_tokens_tree cI ad r16.1 o_tokens r16.2) [] ⟨hx, hb, hml, hown, hts⟩ (c_Parser_nameNode l D cI sd ad r14 o_tokens r15.2 r15.1 r16 hcr16) (cwV2 hts q657 mvX4_nameNode rfl rfl ⟨(Nat.le_of_ble_eq_true rfl), (Nat.le_of_ble_eq_true rfl)⟩) hK hE hA hP hD hS 0 (T := TX4) (N := 12) (ci := 4) rfl rfl [0, 1, 2, 3, 4, 5, 6, 7, 8, 9, 10, 11, 12] rfl (by decide) rfl rfl rfl rfl rfl rfl hl.1 (Nat.le_of_ble_eq_true rfl) dX4_contact_78 ⟨Nat.zero_le _, Nat.zero_le _⟩ (fun H locs hP hD hS => ?_)
      refine lv_goto (tgt := 99) hx hb dX4_contact_81 (by decide) ?_
      cases hM
      exact rt_v hx hb hr hlk hP hD hS rfl dX4_contact_99

set_option maxHeartbeats 4000000 in
set_option maxRecDepth 100000 in
theorem c_Parser_cell (l : Launch) (D : va_G) (cI : ClassId) (sd : Nat → Nat) (ad : Nat → Nat) (o_this : S_Parser) (o_tokens : S_Tokens) (o_tree : S_Tree) (a1 : Int32) (res : S_Parser × S_Tree) (hM : f_Parser_cell o_this o_tokens o_tree a1 = some res) : Ctr l D cI sd yX4_cell (wsM yX4_cell cX4_cell 2 (Option.none : Option Jvm.ClassFile.FieldType)) { frames := 3, cells := 0, slots := 0, locals := 71 } [.ref (ad 22), .int a1] (w_Parser_this_tokens_tree cI ad o_this o_tokens o_tree) (w_Parser_this_tokens_tree cI ad res.1 o_tokens res.2) none := by
  refine Ctr.of (cc := cX4_cell) (maxL := 2) (own := RX4) (by decide +kernel) rfl rfl (Nat.le_of_ble_eq_true rfl) ?_
  intro p e s m below meth c A ls hx hb hr hml hown hts hlk hK hE hA hP hD hS hl
  have hl : lv_has ls 2 [(0, .ref (ad 22)), (1, .int a1)] := hl
  unfold f_Parser_cell at hM
  refine lv_aload_n hx hb dX4_cell_0 rfl (lv_at hl 0 rfl) ?_
  refine va_get (D := D) (ci := 4) (v := .int o_this.2.1) (C := RX4) (T := TX4) (N := 12) hx hb hts layX4 hown hK hP 0 rfl rfl 3 (by decide) (hts _ (inA q400)) (fun _ h9 => h9) rfl dX4_cell_1 ?_
  by_cases c1 : o_this.2.1 = 1
  · replace hM := if_t c1 hM
    refine lv_lookup (off := 126) (tgt := 130) hx hb dX4_cell_4 (by decide) (by exact sw_hit c1 (by decide)) (by decide) ?_
    refine lv_aload_n hx hb dX4_cell_130 rfl (lv_at hl 0 rfl) ?_
    refine lv_iload_n hx hb dX4_cell_131 rfl (lv_at hl 1 rfl) ?_
    obtain ⟨r2, hcr2, hM⟩ := ob_use hM
    refine cl_V (As := [.int a1]) (rest := []) (w_Parser_this_tokens_tree cI ad r2.1 o_tokens r2.2) [] ⟨hx, hb, hml, hown, hts⟩ (c_Parser_contact l D cI sd ad o_this o_tokens o_tree a1 r2 hcr2) (cwV2 hts q692 mvX4_contact rfl rfl ⟨(Nat.le_of_ble_eq_true rfl), (Nat.le_of_ble_eq_true rfl)⟩) hK hE hA hP hD hS 0 (T := TX4) (N := 12) (ci := 4) rfl rfl [0, 1, 2, 3, 4, 5, 6, 7, 8, 9, 10, 11, 12] rfl (by decide) rfl rfl rfl rfl rfl rfl hl.1 (Nat.le_of_ble_eq_true rfl) dX4_cell_132 ⟨Nat.zero_le _, Nat.zero_le _⟩ (fun H locs hP hD hS => ?_)
    refine lv_goto (tgt := 144) hx hb dX4_cell_135 (by decide) ?_
    cases hM
    exact rt_v hx hb hr hlk hP hD hS rfl dX4_cell_144
  replace hM := if_f c1 hM
  by_cases c3 : o_this.2.1 = 40
  · replace hM := if_t c3 hM
    refine lv_lookup (off := 118) (tgt := 122) hx hb dX4_cell_4 (by decide) (by rw [lv_osw c1 (by decide)]; exact sw_hit c3 (by decide)) (by decide) ?_
    refine lv_aload_n hx hb dX4_cell_122 rfl (lv_at hl 0 rfl) ?_
    refine lv_iload_n hx hb dX4_cell_123 rfl (lv_at hl 1 rfl) ?_
    obtain ⟨r4, hcr4, hM⟩ := ob_use hM
    refine cl_V (As := [.int a1]) (rest := []) (w_Parser_this_tokens_tree cI ad r4.1 o_tokens r4.2) [] ⟨hx, hb, hml, hown, hts⟩ (c_Parser_coil l D cI sd ad o_this o_tokens o_tree a1 r4 hcr4) (cwV2 hts q685 mvX4_coil rfl rfl ⟨(Nat.le_of_ble_eq_true rfl), (Nat.le_of_ble_eq_true rfl)⟩) hK hE hA hP hD hS 0 (T := TX4) (N := 12) (ci := 4) rfl rfl [0, 1, 2, 3, 4, 5, 6, 7, 8, 9, 10, 11, 12] rfl (by decide) rfl rfl rfl rfl rfl rfl hl.1 (Nat.le_of_ble_eq_true rfl) dX4_cell_124 ⟨Nat.zero_le _, Nat.zero_le _⟩ (fun H locs hP hD hS => ?_)
    refine lv_goto (tgt := 144) hx hb dX4_cell_127 (by decide) ?_
    cases hM
    exact rt_v hx hb hr hlk hP hD hS rfl dX4_cell_144
  replace hM := if_f c3 hM
  by_cases c5 : o_this.2.1 = 42
  · replace hM := if_t c5 hM
    refine lv_lookup (off := 93) (tgt := 97) hx hb dX4_cell_4 (by decide) (by rw [lv_osw c1 (by decide)]; rw [lv_osw c3 (by decide)]; exact sw_hit c5 (by decide)) (by decide) ?_
    refine lv_aload_n hx hb dX4_cell_97 rfl (lv_at hl 0 rfl) ?_
    refine va_get (D := D) (ci := 4) (v := .ref (ad 14)) (C := RX4) (T := TX4) (N := 12) hx hb hts layX4 hown hK hP 0 rfl rfl 1 (by decide) (hts _ (inA q398)) (fun _ h9 => h9) rfl dX4_cell_98 ?_
    refine lv_iload_n hx hb dX4_cell_101 rfl (lv_at hl 1 rfl) ?_
    refine lv_bipush (v := 27) hx hb dX4_cell_102 (by decide) ?_
    refine lv_aload_n hx hb dX4_cell_104 rfl (lv_at hl 0 rfl) ?_
    refine va_get (D := D) (ci := 4) (v := .int o_this.2.2.1) (C := RX4) (T := TX4) (N := 12) hx hb hts layX4 hown hK hP 0 rfl rfl 4 (by decide) (hts _ (inA q401)) (fun _ h9 => h9) rfl dX4_cell_105 ?_
    refine lv_iconst (v := 0) hx hb dX4_cell_108 (by decide) ?_
    obtain ⟨r6, hcr6, hM⟩ := ob_use hM
    refine cl_V (As := [.int a1, .int 27, .int o_this.2.2.1, .int 0]) (rest := []) (w_Parser_this_tokens_tree cI ad o_this o_tokens r6.2) (.int r6.1 :: []) ⟨hx, hb, hml, hown, hts⟩ (c_Tree_add l D cI sd ad o_tree a1 27 o_this.2.2.1 0 r6 hcr6) (cwV2 hts q622 mvX3_add rfl rfl ⟨(Nat.le_of_ble_eq_true rfl), (Nat.le_of_ble_eq_true rfl)⟩) hK hE hA hP hD hS 5 (T := TX3) (N := 8) (ci := 3) rfl rfl [5, 6, 7, 8, 9, 10, 11, 12] rfl (by decide) rfl rfl rfl rfl rfl rfl hl.1 (Nat.le_of_ble_eq_true rfl) dX4_cell_109 ⟨Nat.zero_le _, Nat.zero_le _⟩ (fun H locs hP hD hS => ?_)
    refine lv_pop hx hb dX4_cell_112 rfl ?_
    refine lv_aload_n hx hb dX4_cell_113 rfl (lv_at hl 0 rfl) ?_
    refine lv_bipush (v := 42) hx hb dX4_cell_114 (by decide) ?_
    obtain ⟨r7, hcr7, hM⟩ := ob_use hM
    refine cl_V (As := [.int 42]) (rest := []) (w_Parser_this_tokens_tree cI ad r7 o_tokens r6.2) [] ⟨hx, hb, hml, hown, hts⟩ (c_Parser_take l D cI sd ad o_this o_tokens 42 r7 hcr7) (cwV2 hts q614 mvX4_take rfl rfl ⟨(Nat.le_of_ble_eq_true rfl), (Nat.le_of_ble_eq_true rfl)⟩) hK hE hA hP hD hS 0 (T := TX4) (N := 12) (ci := 4) rfl rfl [0, 1, 2, 3, 4] rfl (by decide) rfl rfl rfl rfl rfl rfl hl.1 (Nat.le_of_ble_eq_true rfl) dX4_cell_116 ⟨Nat.zero_le _, Nat.zero_le _⟩ (fun H locs hP hD hS => ?_)
    refine lv_goto (tgt := 144) hx hb dX4_cell_119 (by decide) ?_
    cases hM
    exact rt_v hx hb hr hlk hP hD hS rfl dX4_cell_144
  replace hM := if_f c5 hM
  by_cases c8 : o_this.2.1 = 45
  · replace hM := if_t c8 hM
    refine lv_lookup (off := 68) (tgt := 72) hx hb dX4_cell_4 (by decide) (by rw [lv_osw c1 (by decide)]; rw [lv_osw c3 (by decide)]; rw [lv_osw c5 (by decide)]; exact sw_hit c8 (by decide)) (by decide) ?_
    refine lv_aload_n hx hb dX4_cell_72 rfl (lv_at hl 0 rfl) ?_
    refine va_get (D := D) (ci := 4) (v := .ref (ad 14)) (C := RX4) (T := TX4) (N := 12) hx hb hts layX4 hown hK hP 0 rfl rfl 1 (by decide) (hts _ (inA q398)) (fun _ h9 => h9) rfl dX4_cell_73 ?_
    refine lv_iload_n hx hb dX4_cell_76 rfl (lv_at hl 1 rfl) ?_
    refine lv_bipush (v := 26) hx hb dX4_cell_77 (by decide) ?_
    refine lv_aload_n hx hb dX4_cell_79 rfl (lv_at hl 0 rfl) ?_
    refine va_get (D := D) (ci := 4) (v := .int o_this.2.2.1) (C := RX4) (T := TX4) (N := 12) hx hb hts layX4 hown hK hP 0 rfl rfl 4 (by decide) (hts _ (inA q401)) (fun _ h9 => h9) rfl dX4_cell_80 ?_
    refine lv_iconst (v := 0) hx hb dX4_cell_83 (by decide) ?_
    obtain ⟨r9, hcr9, hM⟩ := ob_use hM
    refine cl_V (As := [.int a1, .int 26, .int o_this.2.2.1, .int 0]) (rest := []) (w_Parser_this_tokens_tree cI ad o_this o_tokens r9.2) (.int r9.1 :: []) ⟨hx, hb, hml, hown, hts⟩ (c_Tree_add l D cI sd ad o_tree a1 26 o_this.2.2.1 0 r9 hcr9) (cwV2 hts q622 mvX3_add rfl rfl ⟨(Nat.le_of_ble_eq_true rfl), (Nat.le_of_ble_eq_true rfl)⟩) hK hE hA hP hD hS 5 (T := TX3) (N := 8) (ci := 3) rfl rfl [5, 6, 7, 8, 9, 10, 11, 12] rfl (by decide) rfl rfl rfl rfl rfl rfl hl.1 (Nat.le_of_ble_eq_true rfl) dX4_cell_84 ⟨Nat.zero_le _, Nat.zero_le _⟩ (fun H locs hP hD hS => ?_)
    refine lv_pop hx hb dX4_cell_87 rfl ?_
    refine lv_aload_n hx hb dX4_cell_88 rfl (lv_at hl 0 rfl) ?_
    refine lv_bipush (v := 45) hx hb dX4_cell_89 (by decide) ?_
    obtain ⟨r10, hcr10, hM⟩ := ob_use hM
    refine cl_V (As := [.int 45]) (rest := []) (w_Parser_this_tokens_tree cI ad r10 o_tokens r9.2) [] ⟨hx, hb, hml, hown, hts⟩ (c_Parser_take l D cI sd ad o_this o_tokens 45 r10 hcr10) (cwV2 hts q614 mvX4_take rfl rfl ⟨(Nat.le_of_ble_eq_true rfl), (Nat.le_of_ble_eq_true rfl)⟩) hK hE hA hP hD hS 0 (T := TX4) (N := 12) (ci := 4) rfl rfl [0, 1, 2, 3, 4] rfl (by decide) rfl rfl rfl rfl rfl rfl hl.1 (Nat.le_of_ble_eq_true rfl) dX4_cell_91 ⟨Nat.zero_le _, Nat.zero_le _⟩ (fun H locs hP hD hS => ?_)
    refine lv_goto (tgt := 144) hx hb dX4_cell_94 (by decide) ?_
    cases hM
    exact rt_v hx hb hr hlk hP hD hS rfl dX4_cell_144
  replace hM := if_f c8 hM
  by_cases c11 : o_this.2.1 = 47
  · replace hM := if_t c11 hM
    refine lv_lookup (off := 126) (tgt := 130) hx hb dX4_cell_4 (by decide) (by rw [lv_osw c1 (by decide)]; rw [lv_osw c3 (by decide)]; rw [lv_osw c5 (by decide)]; rw [lv_osw c8 (by decide)]; exact sw_hit c11 (by decide)) (by decide) ?_
    refine lv_aload_n hx hb dX4_cell_130 rfl (lv_at hl 0 rfl) ?_
    refine lv_iload_n hx hb dX4_cell_131 rfl (lv_at hl 1 rfl) ?_
    obtain ⟨r12, hcr12, hM⟩ := ob_use hM
    refine cl_V (As := [.int a1]) (rest := []) (w_Parser_this_tokens_tree cI ad r12.1 o_tokens r12.2) [] ⟨hx, hb, hml, hown, hts⟩ (c_Parser_contact l D cI sd ad o_this o_tokens o_tree a1 r12 hcr12) (cwV2 hts q692 mvX4_contact rfl rfl ⟨(Nat.le_of_ble_eq_true rfl), (Nat.le_of_ble_eq_true rfl)⟩) hK hE hA hP hD hS 0 (T := TX4) (N := 12) (ci := 4) rfl rfl [0, 1, 2, 3, 4, 5, 6, 7, 8, 9, 10, 11, 12] rfl (by decide) rfl rfl rfl rfl rfl rfl hl.1 (Nat.le_of_ble_eq_true rfl) dX4_cell_132 ⟨Nat.zero_le _, Nat.zero_le _⟩ (fun H locs hP hD hS => ?_)
    refine lv_goto (tgt := 144) hx hb dX4_cell_135 (by decide) ?_
    cases hM
    exact rt_v hx hb hr hlk hP hD hS rfl dX4_cell_144
  replace hM := if_f c11 hM
  by_cases c13 : o_this.2.1 = 60
  · replace hM := if_t c13 hM
    refine lv_lookup (off := 126) (tgt := 130) hx hb dX4_cell_4 (by decide) (by rw [lv_osw c1 (by decide)]; rw [lv_osw c3 (by decide)]; rw [lv_osw c5 (by decide)]; rw [lv_osw c8 (by decide)]; rw [lv_osw c11 (by decide)]; exact sw_hit c13 (by decide)) (by decide) ?_
    refine lv_aload_n hx hb dX4_cell_130 rfl (lv_at hl 0 rfl) ?_
    refine lv_iload_n hx hb dX4_cell_131 rfl (lv_at hl 1 rfl) ?_
    obtain ⟨r14, hcr14, hM⟩ := ob_use hM
    refine cl_V (As := [.int a1]) (rest := []) (w_Parser_this_tokens_tree cI ad r14.1 o_tokens r14.2) [] ⟨hx, hb, hml, hown, hts⟩ (c_Parser_contact l D cI sd ad o_this o_tokens o_tree a1 r14 hcr14) (cwV2 hts q692 mvX4_contact rfl rfl ⟨(Nat.le_of_ble_eq_true rfl), (Nat.le_of_ble_eq_true rfl)⟩) hK hE hA hP hD hS 0 (T := TX4) (N := 12) (ci := 4) rfl rfl [0, 1, 2, 3, 4, 5, 6, 7, 8, 9, 10, 11, 12] rfl (by decide) rfl rfl rfl rfl rfl rfl hl.1 (Nat.le_of_ble_eq_true rfl) dX4_cell_132 ⟨Nat.zero_le _, Nat.zero_le _⟩ (fun H locs hP hD hS => ?_)
    refine lv_goto (tgt := 144) hx hb dX4_cell_135 (by decide) ?_
    cases hM
    exact rt_v hx hb hr hlk hP hD hS rfl dX4_cell_144
  replace hM := if_f c13 hM
  by_cases c15 : o_this.2.1 = 62
  · replace hM := if_t c15 hM
    refine lv_lookup (off := 126) (tgt := 130) hx hb dX4_cell_4 (by decide) (by rw [lv_osw c1 (by decide)]; rw [lv_osw c3 (by decide)]; rw [lv_osw c5 (by decide)]; rw [lv_osw c8 (by decide)]; rw [lv_osw c11 (by decide)]; rw [lv_osw c13 (by decide)]; exact sw_hit c15 (by decide)) (by decide) ?_
    refine lv_aload_n hx hb dX4_cell_130 rfl (lv_at hl 0 rfl) ?_
    refine lv_iload_n hx hb dX4_cell_131 rfl (lv_at hl 1 rfl) ?_
    obtain ⟨r16, hcr16, hM⟩ := ob_use hM
    refine cl_V (As := [.int a1]) (rest := []) (w_Parser_this_tokens_tree cI ad r16.1 o_tokens r16.2) [] ⟨hx, hb, hml, hown, hts⟩ (c_Parser_contact l D cI sd ad o_this o_tokens o_tree a1 r16 hcr16) (cwV2 hts q692 mvX4_contact rfl rfl ⟨(Nat.le_of_ble_eq_true rfl), (Nat.le_of_ble_eq_true rfl)⟩) hK hE hA hP hD hS 0 (T := TX4) (N := 12) (ci := 4) rfl rfl [0, 1, 2, 3, 4, 5, 6, 7, 8, 9, 10, 11, 12] rfl (by decide) rfl rfl rfl rfl rfl rfl hl.1 (Nat.le_of_ble_eq_true rfl) dX4_cell_132 ⟨Nat.zero_le _, Nat.zero_le _⟩ (fun H locs hP hD hS => ?_)
    refine lv_goto (tgt := 144) hx hb dX4_cell_135 (by decide) ?_
    cases hM
    exact rt_v hx hb hr hlk hP hD hS rfl dX4_cell_144
  replace hM := if_f c15 hM
  refine lv_lookup (off := 134) (tgt := 138) hx hb dX4_cell_4 (by decide) (by rw [lv_osw c1 (by decide)]; rw [lv_osw c3 (by decide)]; rw [lv_osw c5 (by decide)]; rw [lv_osw c8 (by decide)]; rw [lv_osw c11 (by decide)]; rw [lv_osw c13 (by decide)]; rw [lv_osw c15 (by decide)]; rfl) (by decide) ?_
  refine lv_aload_n hx hb dX4_cell_138 rfl (lv_at hl 0 rfl) ?_
  refine lv_bipush (v := 6) hx hb dX4_cell_139 (by decide) ?_
  refine va_put (D := D) (ci := 4) (v := .int 6) (ty := .int) (C := RX4) (T := TX4) (N := 12) hx hb hts layX4 tyX4 tyX4_ok nmX4 hown hK hP hD hS 0 rfl rfl 3 (by decide) (hts _ (inA q400)) (fun _ h9 => h9) rfl (by decide +kernel) rfl rfl (Nat.le_of_ble_eq_true rfl) dX4_cell_141 (fun H locs hP hD hS => ?_)
  have hP : va_P D vwCl (w_Parser_this_tokens_tree cI ad (o_this.1, 6, o_this.2.2) o_tokens o_tree) H := hP
  have hD : va_D A (w_Parser_this_tokens_tree cI ad (o_this.1, 6, o_this.2.2) o_tokens o_tree) := hD
  cases hM
  exact rt_v hx hb hr hlk hP hD hS rfl dX4_cell_144

set_option maxHeartbeats 4000000 in
set_option maxRecDepth 100000 in
theorem c_Parser_startsCell (l : Launch) (D : va_G) (cI : ClassId) (sd : Nat → Nat) (ad : Nat → Nat) (o_this : S_Parser) (res : Int32) (hM : f_Parser_startsCell o_this = some res) : Ctr l D cI sd yX4_startsCell (wsM yX4_startsCell cX4_startsCell 1 (Option.some Jvm.ClassFile.FieldType.boolean)) { frames := 0, cells := 0, slots := 0, locals := 0 } [.ref (ad 22)] (wP cI ad o_this) (wP cI ad o_this) (some (.int res)) := by
  refine Ctr.of (cc := cX4_startsCell) (maxL := 1) (own := RX4) (by decide +kernel) rfl rfl (Nat.le_of_ble_eq_true rfl) ?_
  intro p e s m below meth c A ls hx hb hr hml hown hts hlk hK hE hA hP hD hS hl
  have hl : lv_has ls 1 [(0, .ref (ad 22))] := hl
  unfold f_Parser_startsCell at hM
  refine lv_aload_n hx hb dX4_startsCell_0 rfl (lv_at hl 0 rfl) ?_
  refine va_get (D := D) (ci := 4) (v := .int o_this.2.1) (C := RX4) (T := TX4) (N := 12) hx hb hts layX4 hown hK hP 0 rfl rfl 3 (by decide) (hts _ (inA q400)) (fun _ h9 => h9) rfl dX4_startsCell_1 ?_
  by_cases c1 : o_this.2.1 = 1
  · replace hM := if_t c1 hM
    refine lv_lookup (off := 68) (tgt := 72) hx hb dX4_startsCell_4 (by decide) (by exact sw_hit c1 (by decide)) (by decide) ?_
    refine lv_iconst (v := 1) hx hb dX4_startsCell_72 (by decide) ?_
    cases hM
    exact rt_z hx hb hr hlk (by decide) hP hD hS rfl dX4_startsCell_73
  replace hM := if_f c1 hM
  by_cases c2 : o_this.2.1 = 40
  · replace hM := if_t c2 hM
    refine lv_lookup (off := 68) (tgt := 72) hx hb dX4_startsCell_4 (by decide) (by rw [lv_osw c1 (by decide)]; exact sw_hit c2 (by decide)) (by decide) ?_
    refine lv_iconst (v := 1) hx hb dX4_startsCell_72 (by decide) ?_
    cases hM
    exact rt_z hx hb hr hlk (by decide) hP hD hS rfl dX4_startsCell_73
  replace hM := if_f c2 hM
  by_cases c3 : o_this.2.1 = 42
  · replace hM := if_t c3 hM
    refine lv_lookup (off := 68) (tgt := 72) hx hb dX4_startsCell_4 (by decide) (by rw [lv_osw c1 (by decide)]; rw [lv_osw c2 (by decide)]; exact sw_hit c3 (by decide)) (by decide) ?_
    refine lv_iconst (v := 1) hx hb dX4_startsCell_72 (by decide) ?_
    cases hM
    exact rt_z hx hb hr hlk (by decide) hP hD hS rfl dX4_startsCell_73
  replace hM := if_f c3 hM
  by_cases c4 : o_this.2.1 = 45
  · replace hM := if_t c4 hM
    refine lv_lookup (off := 68) (tgt := 72) hx hb dX4_startsCell_4 (by decide) (by rw [lv_osw c1 (by decide)]; rw [lv_osw c2 (by decide)]; rw [lv_osw c3 (by decide)]; exact sw_hit c4 (by decide)) (by decide) ?_
    refine lv_iconst (v := 1) hx hb dX4_startsCell_72 (by decide) ?_
    cases hM
    exact rt_z hx hb hr hlk (by decide) hP hD hS rfl dX4_startsCell_73
  replace hM := if_f c4 hM
  by_cases c5 : o_this.2.1 = 47
  · replace hM := if_t c5 hM
    refine lv_lookup (off := 68) (tgt := 72) hx hb dX4_startsCell_4 (by decide) (by rw [lv_osw c1 (by decide)]; rw [lv_osw c2 (by decide)]; rw [lv_osw c3 (by decide)]; rw [lv_osw c4 (by decide)]; exact sw_hit c5 (by decide)) (by decide) ?_
    refine lv_iconst (v := 1) hx hb dX4_startsCell_72 (by decide) ?_
    cases hM
    exact rt_z hx hb hr hlk (by decide) hP hD hS rfl dX4_startsCell_73
  replace hM := if_f c5 hM
  by_cases c6 : o_this.2.1 = 60
  · replace hM := if_t c6 hM
    refine lv_lookup (off := 68) (tgt := 72) hx hb dX4_startsCell_4 (by decide) (by rw [lv_osw c1 (by decide)]; rw [lv_osw c2 (by decide)]; rw [lv_osw c3 (by decide)]; rw [lv_osw c4 (by decide)]; rw [lv_osw c5 (by decide)]; exact sw_hit c6 (by decide)) (by decide) ?_
    refine lv_iconst (v := 1) hx hb dX4_startsCell_72 (by decide) ?_
    cases hM
    exact rt_z hx hb hr hlk (by decide) hP hD hS rfl dX4_startsCell_73
  replace hM := if_f c6 hM
  by_cases c7 : o_this.2.1 = 62
  · replace hM := if_t c7 hM
    refine lv_lookup (off := 68) (tgt := 72) hx hb dX4_startsCell_4 (by decide) (by rw [lv_osw c1 (by decide)]; rw [lv_osw c2 (by decide)]; rw [lv_osw c3 (by decide)]; rw [lv_osw c4 (by decide)]; rw [lv_osw c5 (by decide)]; rw [lv_osw c6 (by decide)]; exact sw_hit c7 (by decide)) (by decide) ?_
    refine lv_iconst (v := 1) hx hb dX4_startsCell_72 (by decide) ?_
    cases hM
    exact rt_z hx hb hr hlk (by decide) hP hD hS rfl dX4_startsCell_73
  replace hM := if_f c7 hM
  refine lv_lookup (off := 70) (tgt := 74) hx hb dX4_startsCell_4 (by decide) (by rw [lv_osw c1 (by decide)]; rw [lv_osw c2 (by decide)]; rw [lv_osw c3 (by decide)]; rw [lv_osw c4 (by decide)]; rw [lv_osw c5 (by decide)]; rw [lv_osw c6 (by decide)]; rw [lv_osw c7 (by decide)]; rfl) (by decide) ?_
  refine lv_iconst (v := 0) hx hb dX4_startsCell_74 (by decide) ?_
  cases hM
  exact rt_z hx hb hr hlk (by decide) hP hD hS rfl dX4_startsCell_75
