set_option maxHeartbeats 4000000 in
set_option maxRecDepth 100000 in
theorem c_Parser_constant (l : Launch) (D : va_G) (cI : ClassId) (sd : Nat → Nat) (ad : Nat → Nat) (o_this : S_Parser) (o_tokens : S_Tokens) (o_tree : S_Tree) (a1 : Int32) (res : S_Parser × S_Tree) (hM : f_Parser_constant o_this o_tokens o_tree a1 = some res) : Ctr l D cI sd yX4_constant (wsM yX4_constant cX4_constant 3 (Option.none : Option Jvm.ClassFile.FieldType)) { frames := 2, cells := 0, slots := 0, locals := 46 } [.ref (ad 22), .int a1] (w_Parser_this_tokens_tree cI ad o_this o_tokens o_tree) (w_Parser_this_tokens_tree cI ad res.1 o_tokens res.2) none := by
  refine Ctr.of (cc := cX4_constant) (maxL := 3) (own := RX4) (by decide +kernel) rfl rfl (Nat.le_of_ble_eq_true rfl) ?_
  intro p e s m below meth c A ls hx hb hr hml hown hts hlk hK hE hA hP hD hS hl
  have hl : lv_has ls 3 [(0, .ref (ad 22)), (1, .int a1)] := hl
  unfold f_Parser_constant at hM
  refine lv_aload_n hx hb dX4_constant_0 rfl (lv_at hl 0 rfl) ?_
  refine va_get (D := D) (ci := 4) (v := .int o_this.2.1) (C := RX4) (T := TX4) (N := 12) hx hb hts layX4 hown hK hP 0 rfl rfl 3 (by decide) (hts _ (inA q400)) (fun _ h9 => h9) rfl dX4_constant_1 ?_
  refine lv_bipush (v := 45) hx hb dX4_constant_4 (by decide) ?_
  refine lv_icmp_ne (tgt := 45) hx hb dX4_constant_6 (by decide) (fun c1 => ?_) (fun c1 => ?_)
  · replace hM := if_f c1 hM
    refine lv_aload_n hx hb dX4_constant_45 rfl (lv_at hl 0 rfl) ?_
    refine lv_iload_n hx hb dX4_constant_46 rfl (lv_at hl 1 rfl) ?_
    obtain ⟨r2, hcr2, hM⟩ := ob_use hM
    refine cl_V (As := [.int a1]) (rest := []) (w_Parser_this_tokens_tree cI ad r2.1 o_tokens r2.2) [] ⟨hx, hb, hml, hown, hts⟩ (c_Parser_literal l D cI sd ad o_this o_tokens o_tree a1 r2 hcr2) (cwV2 hts q669 mvX4_literal rfl rfl ⟨(Nat.le_of_ble_eq_true rfl), (Nat.le_of_ble_eq_true rfl)⟩) hK hE hA hP hD hS 0 (T := TX4) (N := 12) (ci := 4) rfl rfl [0, 1, 2, 3, 4, 5, 6, 7, 8, 9, 10, 11, 12] rfl (by decide) rfl rfl rfl rfl rfl rfl hl.1 (Nat.le_of_ble_eq_true rfl) dX4_constant_47 ⟨Nat.zero_le _, Nat.zero_le _⟩ (fun H locs hP hD hS => ?_)
    cases hM
    exact rt_v hx hb hr hlk hP hD hS rfl dX4_constant_50
  · replace hM := if_t c1 hM
    refine lv_aload_n hx hb dX4_constant_9 rfl (lv_at hl 0 rfl) ?_
    refine va_get (D := D) (ci := 4) (v := .int o_this.2.2.1) (C := RX4) (T := TX4) (N := 12) hx hb hts layX4 hown hK hP 0 rfl rfl 4 (by decide) (hts _ (inA q401)) (fun _ h9 => h9) rfl dX4_constant_10 ?_
    refine lv_istore_n (lv' := [(2, .int o_this.2.2.1), (0, .ref (ad 22)), (1, .int a1)]) hx hb dX4_constant_13 rfl hl (by decide) rfl (fun ls hl => ?_)
    refine lv_aload_n hx hb dX4_constant_14 rfl (lv_at hl 1 rfl) ?_
    refine lv_bipush (v := 45) hx hb dX4_constant_15 (by decide) ?_
    obtain ⟨r3, hcr3, hM⟩ := ob_use hM
    refine cl_V (As := [.int 45]) (rest := []) (w_Parser_this_tokens_tree cI ad r3 o_tokens o_tree) [] ⟨hx, hb, hml, hown, hts⟩ (c_Parser_take l D cI sd ad o_this o_tokens 45 r3 hcr3) (cwV2 hts q614 mvX4_take rfl rfl ⟨(Nat.le_of_ble_eq_true rfl), (Nat.le_of_ble_eq_true rfl)⟩) hK hE hA hP hD hS 0 (T := TX4) (N := 12) (ci := 4) rfl rfl [0, 1, 2, 3, 4] rfl (by decide) rfl rfl rfl rfl rfl rfl hl.1 (Nat.le_of_ble_eq_true rfl) dX4_constant_17 ⟨Nat.zero_le _, Nat.zero_le _⟩ (fun H locs hP hD hS => ?_)
    refine lv_aload_n hx hb dX4_constant_20 rfl (lv_at hl 1 rfl) ?_
    refine va_get (D := D) (ci := 4) (v := .ref (ad 14)) (C := RX4) (T := TX4) (N := 12) hx hb hts layX4 hown hK hP 0 rfl rfl 1 (by decide) (hts _ (inA q398)) (fun _ h9 => h9) rfl dX4_constant_21 ?_
    refine lv_iload_n hx hb dX4_constant_24 rfl (lv_at hl 2 rfl) ?_
    refine lv_bipush (v := 30) hx hb dX4_constant_25 (by decide) ?_
    refine lv_iload_n hx hb dX4_constant_27 rfl (lv_at hl 0 rfl) ?_
    refine lv_aload_n hx hb dX4_constant_28 rfl (lv_at hl 1 rfl) ?_
    refine va_get (D := D) (ci := 4) (v := .int r3.2.2.2.1) (C := RX4) (T := TX4) (N := 12) hx hb hts layX4 hown hK hP 0 rfl rfl 5 (by decide) (hts _ (inA q402)) (fun _ h9 => h9) rfl dX4_constant_29 ?_
    refine lv_ineg hx hb dX4_constant_32 ?_
    obtain ⟨r4, hcr4, hM⟩ := ob_use hM
    refine cl_V (As := [.int a1, .int 30, .int o_this.2.2.1, .int (-r3.2.2.2.1)]) (rest := []) (w_Parser_this_tokens_tree cI ad r3 o_tokens r4.2) (.int r4.1 :: []) ⟨hx, hb, hml, hown, hts⟩ (c_Tree_add l D cI sd ad o_tree a1 30 o_this.2.2.1 (-r3.2.2.2.1) r4 hcr4) (cwV2 hts q622 mvX3_add rfl rfl ⟨(Nat.le_of_ble_eq_true rfl), (Nat.le_of_ble_eq_true rfl)⟩) hK hE hA hP hD hS 5 (T := TX3) (N := 8) (ci := 3) rfl rfl [5, 6, 7, 8, 9, 10, 11, 12] rfl (by decide) rfl rfl rfl rfl rfl rfl hl.1 (Nat.le_of_ble_eq_true rfl) dX4_constant_33 ⟨Nat.zero_le _, Nat.zero_le _⟩ (fun H locs hP hD hS => ?_)
    refine lv_pop hx hb dX4_constant_36 rfl ?_
    refine lv_aload_n hx hb dX4_constant_37 rfl (lv_at hl 1 rfl) ?_
    refine lv_iconst (v := 2) hx hb dX4_constant_38 (by decide) ?_
    obtain ⟨r5, hcr5, hM⟩ := ob_use hM
    refine cl_V (As := [.int 2]) (rest := []) (w_Parser_this_tokens_tree cI ad r5 o_tokens r4.2) [] ⟨hx, hb, hml, hown, hts⟩ (c_Parser_take l D cI sd ad r3 o_tokens 2 r5 hcr5) (cwV2 hts q614 mvX4_take rfl rfl ⟨(Nat.le_of_ble_eq_true rfl), (Nat.le_of_ble_eq_true rfl)⟩) hK hE hA hP hD hS 0 (T := TX4) (N := 12) (ci := 4) rfl rfl [0, 1, 2, 3, 4] rfl (by decide) rfl rfl rfl rfl rfl rfl hl.1 (Nat.le_of_ble_eq_true rfl) dX4_constant_39 ⟨Nat.zero_le _, Nat.zero_le _⟩ (fun H locs hP hD hS => ?_)
    refine lv_goto (tgt := 50) hx hb dX4_constant_42 (by decide) ?_
    cases hM
    exact rt_v hx hb hr hlk hP hD hS rfl dX4_constant_50

set_option maxHeartbeats 4000000 in
set_option maxRecDepth 100000 in
theorem c_Parser_ranges (l : Launch) (D : va_G) (cI : ClassId) (sd : Nat → Nat) (ad : Nat → Nat) (o_this : S_Parser) (o_tokens : S_Tokens) (o_tree : S_Tree) (a1 : Int32) (res : S_Parser × S_Tree) (hM : f_Parser_ranges o_this o_tokens o_tree a1 = some res) : Ctr l D cI sd yX4_ranges (wsM yX4_ranges cX4_ranges 5 (Option.none : Option Jvm.ClassFile.FieldType)) { frames := 3, cells := 0, slots := 0, locals := 68 } [.ref (ad 22), .int a1] (w_Parser_this_tokens_tree cI ad o_this o_tokens o_tree) (w_Parser_this_tokens_tree cI ad res.1 o_tokens res.2) none := by
  refine Ctr.of (cc := cX4_ranges) (maxL := 5) (own := RX4) (by decide +kernel) rfl rfl (Nat.le_of_ble_eq_true rfl) ?_
  intro p e s m below meth c A ls hx hb hr hml hown hts hlk hK hE hA hP hD hS hl
  have hl : lv_has ls 5 [(0, .ref (ad 22)), (1, .int a1)] := hl
  unfold f_Parser_ranges at hM
  refine lv_iconst (v := 1) hx hb dX4_ranges_0 (by decide) ?_
  refine lv_istore_n (lv' := [(2, .int 1), (0, .ref (ad 22)), (1, .int a1)]) hx hb dX4_ranges_1 rfl hl (by decide) rfl (fun ls hl => ?_)
  refine lv_iconst (v := 0) hx hb dX4_ranges_2 (by decide) ?_
  refine lv_istore_n (lv' := [(3, .int 0), (2, .int 1), (0, .ref (ad 22)), (1, .int a1)]) hx hb dX4_ranges_3 rfl hl (by decide) rfl (fun ls hl => ?_)
  have lp_L4 : ∀ (w1_L4 : Int32) (o_tokens_L4 : S_Tokens) (n : Nat) (v3_L4 : Int32) (v2_L4 : Int32) (o_this_L4 : S_Parser) (o_tree_L4 : S_Tree) (out_L4 : S_Parser × S_Tree) (H : Heap) (locs : List Loc) (ls : Array Slot), f_Parser_ranges_L4 w1_L4 o_tokens_L4 n v3_L4 v2_L4 o_this_L4 o_tree_L4 = some out_L4 → va_P D vwCl (w_Parser_this_tokens_tree cI ad o_this_L4 o_tokens_L4 o_tree_L4) H → va_D A (w_Parser_this_tokens_tree cI ad o_this_L4 o_tokens_L4 o_tree_L4) → va_S A s.heap H locs → lv_has ls 5 [(3, .int v3_L4), (2, .int v2_L4), (0, .ref (ad 22)), (1, .int w1_L4)] → (∀ (H : Heap) (locs : List Loc) (ls : Array Slot), va_P D vwCl (w_Parser_this_tokens_tree cI ad out_L4.1 o_tokens_L4 out_L4.2) H → va_D A (w_Parser_this_tokens_tree cI ad out_L4.1 o_tokens_L4 out_L4.2) → va_S A s.heap H locs → lv_has ls 5 [(0, .ref (ad 22)), (1, .int w1_L4)] → W p l e { frames := 3, cells := 0, slots := 0, locals := 68 } s m [.ref (ad 22), .int a1].toArray below meth c H locs 0 0 (MQ below (CQ D A (w_Parser_this_tokens_tree cI ad res.1 o_tokens res.2) none) [.ref (ad 22), .int a1].toArray s 0 0 A) (F0 m 72 ls [])) → W p l e { frames := 3, cells := 0, slots := 0, locals := 68 } s m [.ref (ad 22), .int a1].toArray below meth c H locs 0 0 (MQ below (CQ D A (w_Parser_this_tokens_tree cI ad res.1 o_tokens res.2) none) [.ref (ad 22), .int a1].toArray s 0 0 A) (F0 m 4 ls []) := by
    intro w1_L4 o_tokens_L4 n
    induction n with
    | zero => intro v3_L4 v2_L4 o_this_L4 o_tree_L4 out_L4 H locs ls hM; exact absurd (show none = some _ from hM) (by simp)
    | succ n ih_L4 =>
      intro v3_L4 v2_L4 o_this_L4 o_tree_L4 out_L4 H locs ls hM hP hD hS hl kx_L4
      rw [f_Parser_ranges_L4] at hM
      refine lv_iload_n hx hb dX4_ranges_4 rfl (lv_at hl 1 rfl) ?_
      refine lv_if_eq (tgt := 72) hx hb dX4_ranges_5 (by decide) (fun c1141 => ?_) (fun c1141 => ?_)
      · replace hM := if_t c1141 hM
        cases hM
        exact kx_L4 _ _ _ hP hD hS (lv_sub hl [2, 3] rfl)
      · replace hM := if_f c1141 hM
        refine lv_iload_n hx hb dX4_ranges_8 rfl (lv_at hl 0 rfl) ?_
        refine lv_sipush (v := 8192) hx hb dX4_ranges_9 (by decide) ?_
        refine lv_icmp_ge (tgt := 72) hx hb dX4_ranges_12 (by decide) (fun c1142 => ?_) (fun c1142 => ?_)
        · replace hM := if_t c1142 hM
          cases hM
          exact kx_L4 _ _ _ hP hD hS (lv_sub hl [2, 3] rfl)
        · replace hM := if_f c1142 hM
          refine lv_aload_n hx hb dX4_ranges_15 rfl (lv_at hl 2 rfl) ?_
          refine va_get (D := D) (ci := 4) (v := .ref (ad 14)) (C := RX4) (T := TX4) (N := 12) hx hb hts layX4 hown hK hP 0 rfl rfl 1 (by decide) (hts _ (inA q398)) (fun _ h9 => h9) rfl dX4_ranges_16 ?_
          refine lv_iload_n hx hb dX4_ranges_19 rfl (lv_at hl 3 rfl) ?_
          refine lv_bipush (v := 18) hx hb dX4_ranges_20 (by decide) ?_
          refine lv_aload_n hx hb dX4_ranges_22 rfl (lv_at hl 2 rfl) ?_
          refine va_get (D := D) (ci := 4) (v := .int o_this_L4.2.2.1) (C := RX4) (T := TX4) (N := 12) hx hb hts layX4 hown hK hP 0 rfl rfl 4 (by decide) (hts _ (inA q401)) (fun _ h9 => h9) rfl dX4_ranges_23 ?_
          refine lv_iconst (v := 0) hx hb dX4_ranges_26 (by decide) ?_
          obtain ⟨r1143, hcr1143, hM⟩ := ob_use hM
          refine cl_V (As := [.int w1_L4, .int 18, .int o_this_L4.2.2.1, .int 0]) (rest := []) (w_Parser_this_tokens_tree cI ad o_this_L4 o_tokens_L4 r1143.2) (.int r1143.1 :: []) ⟨hx, hb, hml, hown, hts⟩ (c_Tree_add l D cI sd ad o_tree_L4 w1_L4 18 o_this_L4.2.2.1 0 r1143 hcr1143) (cwV2 hts q622 mvX3_add rfl rfl ⟨(Nat.le_of_ble_eq_true rfl), (Nat.le_of_ble_eq_true rfl)⟩) hK hE hA hP hD hS 5 (T := TX3) (N := 8) (ci := 3) rfl rfl [5, 6, 7, 8, 9, 10, 11, 12] rfl (by decide) rfl rfl rfl rfl rfl rfl hl.1 (Nat.le_of_ble_eq_true rfl) dX4_ranges_27 ⟨Nat.zero_le _, Nat.zero_le _⟩ (fun H locs hP hD hS => ?_)
          refine lv_istore (lv' := [(4, .int r1143.1), (3, .int v3_L4), (2, .int v2_L4), (0, .ref (ad 22)), (1, .int w1_L4)]) hx hb dX4_ranges_30 hl (by decide) rfl (fun ls hl => ?_)
          refine lv_aload_n hx hb dX4_ranges_32 rfl (lv_at hl 3 rfl) ?_
          refine lv_iload hx hb dX4_ranges_33 (lv_at hl 0 rfl) ?_
          obtain ⟨r1144, hcr1144, hM⟩ := ob_use hM
          refine cl_V (As := [.int r1143.1]) (rest := []) (w_Parser_this_tokens_tree cI ad r1144.1 o_tokens_L4 r1144.2) [] ⟨hx, hb, hml, hown, hts⟩ (c_Parser_constant l D cI sd ad o_this_L4 o_tokens_L4 r1143.2 r1143.1 r1144 hcr1144) (cwV2 hts q665 mvX4_constant rfl rfl ⟨(Nat.le_of_ble_eq_true rfl), (Nat.le_of_ble_eq_true rfl)⟩) hK hE hA hP hD hS 0 (T := TX4) (N := 12) (ci := 4) rfl rfl [0, 1, 2, 3, 4, 5, 6, 7, 8, 9, 10, 11, 12] rfl (by decide) rfl rfl rfl rfl rfl rfl hl.1 (Nat.le_of_ble_eq_true rfl) dX4_ranges_35 ⟨Nat.zero_le _, Nat.zero_le _⟩ (fun H locs hP hD hS => ?_)
          refine lv_aload_n hx hb dX4_ranges_38 rfl (lv_at hl 3 rfl) ?_
          refine va_get (D := D) (ci := 4) (v := .int r1144.1.2.1) (C := RX4) (T := TX4) (N := 12) hx hb hts layX4 hown hK hP 0 rfl rfl 3 (by decide) (hts _ (inA q400)) (fun _ h9 => h9) rfl dX4_ranges_39 ?_
          refine lv_sipush (v := 11822) hx hb dX4_ranges_42 (by decide) ?_
          refine lv_icmp_ne (tgt := 61) hx hb dX4_ranges_45 (by decide) (fun c1145 => ?_) (fun c1145 => ?_)
          · replace hM := if_f c1145 hM
            refine lv_aload_n hx hb dX4_ranges_61 rfl (lv_at hl 3 rfl) ?_
            obtain ⟨r1146, hcr1146, hM⟩ := ob_use hM
            refine cl_V (As := []) (rest := []) (w_Parser_this_tokens_tree cI ad r1146.2 o_tokens_L4 r1144.2) (.int r1146.1 :: []) ⟨hx, hb, hml, hown, hts⟩ (c_Parser_takeComma l D cI sd ad r1144.1 o_tokens_L4 r1146 hcr1146) (cwV2 hts q743 mvX4_takeComma rfl rfl ⟨(Nat.le_of_ble_eq_true rfl), (Nat.le_of_ble_eq_true rfl)⟩) hK hE hA hP hD hS 0 (T := TX4) (N := 12) (ci := 4) rfl rfl [0, 1, 2, 3, 4] rfl (by decide) rfl rfl rfl rfl rfl rfl hl.1 (Nat.le_of_ble_eq_true rfl) dX4_ranges_62 ⟨Nat.zero_le _, Nat.zero_le _⟩ (fun H locs hP hD hS => ?_)
            refine lv_istore_n (lv' := [(2, .int r1146.1), (4, .int r1143.1), (3, .int v3_L4), (0, .ref (ad 22)), (1, .int w1_L4)]) hx hb dX4_ranges_65 rfl hl (by decide) rfl (fun ls hl => ?_)
            obtain ⟨x1147, ex1147⟩ : ∃ y : Int32, y = v3_L4 + 1 := ⟨_, rfl⟩
            replace hM := nm_use ex1147 hM
            refine lv_iinc (v := x1147) (lv' := [(3, .int x1147), (2, .int r1146.1), (4, .int r1143.1), (0, .ref (ad 22)), (1, .int w1_L4)]) hx hb dX4_ranges_66 hl (k := 2) rfl (by rw [ex1147]; rfl) (by decide) rfl (fun ls hl => ?_)
            refine lv_goto (tgt := 4) hx hb dX4_ranges_69 (by decide) ?_
            exact ih_L4 x1147 r1146.1 r1146.2 r1144.2 out_L4 _ _ _ hM hP hD hS (lv_sub hl [0, 1, 3, 4] rfl) kx_L4
          · replace hM := if_t c1145 hM
            refine lv_aload_n hx hb dX4_ranges_48 rfl (lv_at hl 3 rfl) ?_
            refine lv_sipush (v := 11822) hx hb dX4_ranges_49 (by decide) ?_
            obtain ⟨r1148, hcr1148, hM⟩ := ob_use hM
            refine cl_V (As := [.int 11822]) (rest := []) (w_Parser_this_tokens_tree cI ad r1148 o_tokens_L4 r1144.2) [] ⟨hx, hb, hml, hown, hts⟩ (c_Parser_take l D cI sd ad r1144.1 o_tokens_L4 11822 r1148 hcr1148) (cwV2 hts q614 mvX4_take rfl rfl ⟨(Nat.le_of_ble_eq_true rfl), (Nat.le_of_ble_eq_true rfl)⟩) hK hE hA hP hD hS 0 (T := TX4) (N := 12) (ci := 4) rfl rfl [0, 1, 2, 3, 4] rfl (by decide) rfl rfl rfl rfl rfl rfl hl.1 (Nat.le_of_ble_eq_true rfl) dX4_ranges_52 ⟨Nat.zero_le _, Nat.zero_le _⟩ (fun H locs hP hD hS => ?_)
            refine lv_aload_n hx hb dX4_ranges_55 rfl (lv_at hl 3 rfl) ?_
            refine lv_iload hx hb dX4_ranges_56 (lv_at hl 0 rfl) ?_
            obtain ⟨r1149, hcr1149, hM⟩ := ob_use hM
            refine cl_V (As := [.int r1143.1]) (rest := []) (w_Parser_this_tokens_tree cI ad r1149.1 o_tokens_L4 r1149.2) [] ⟨hx, hb, hml, hown, hts⟩ (c_Parser_constant l D cI sd ad r1148 o_tokens_L4 r1144.2 r1143.1 r1149 hcr1149) (cwV2 hts q665 mvX4_constant rfl rfl ⟨(Nat.le_of_ble_eq_true rfl), (Nat.le_of_ble_eq_true rfl)⟩) hK hE hA hP hD hS 0 (T := TX4) (N := 12) (ci := 4) rfl rfl [0, 1, 2, 3, 4, 5, 6, 7, 8, 9, 10, 11, 12] rfl (by decide) rfl rfl rfl rfl rfl rfl hl.1 (Nat.le_of_ble_eq_true rfl) dX4_ranges_58 ⟨Nat.zero_le _, Nat.zero_le _⟩ (fun H locs hP hD hS => ?_)
            refine lv_aload_n hx hb dX4_ranges_61 rfl (lv_at hl 3 rfl) ?_
            obtain ⟨r1150, hcr1150, hM⟩ := ob_use hM
            refine cl_V (As := []) (rest := []) (w_Parser_this_tokens_tree cI ad r1150.2 o_tokens_L4 r1149.2) (.int r1150.1 :: []) ⟨hx, hb, hml, hown, hts⟩ (c_Parser_takeComma l D cI sd ad r1149.1 o_tokens_L4 r1150 hcr1150) (cwV2 hts q743 mvX4_takeComma rfl rfl ⟨(Nat.le_of_ble_eq_true rfl), (Nat.le_of_ble_eq_true rfl)⟩) hK hE hA hP hD hS 0 (T := TX4) (N := 12) (ci := 4) rfl rfl [0, 1, 2, 3, 4] rfl (by decide) rfl rfl rfl rfl rfl rfl hl.1 (Nat.le_of_ble_eq_true rfl) dX4_ranges_62 ⟨Nat.zero_le _, Nat.zero_le _⟩ (fun H locs hP hD hS => ?_)
            refine lv_istore_n (lv' := [(2, .int r1150.1), (4, .int r1143.1), (3, .int v3_L4), (0, .ref (ad 22)), (1, .int w1_L4)]) hx hb dX4_ranges_65 rfl hl (by decide) rfl (fun ls hl => ?_)
            obtain ⟨x1151, ex1151⟩ : ∃ y : Int32, y = v3_L4 + 1 := ⟨_, rfl⟩
            replace hM := nm_use ex1151 hM
            refine lv_iinc (v := x1151) (lv' := [(3, .int x1151), (2, .int r1150.1), (4, .int r1143.1), (0, .ref (ad 22)), (1, .int w1_L4)]) hx hb dX4_ranges_66 hl (k := 2) rfl (by rw [ex1151]; rfl) (by decide) rfl (fun ls hl => ?_)
            refine lv_goto (tgt := 4) hx hb dX4_ranges_69 (by decide) ?_
            exact ih_L4 x1151 r1150.1 r1150.2 r1149.2 out_L4 _ _ _ hM hP hD hS (lv_sub hl [0, 1, 3, 4] rfl) kx_L4
  obtain ⟨r1, hcr1, hM⟩ := ob_use hM
  refine lp_L4 a1 o_tokens FU 0 1 o_this o_tree r1 _ _ _ hcr1 hP hD hS (lv_sub hl [0, 1, 2, 3] rfl) (fun H locs ls hP hD hS hl => ?_)
  cases hM
  exact rt_v hx hb hr hlk hP hD hS rfl dX4_ranges_72

set_option maxHeartbeats 4000000 in
set_option maxRecDepth 100000 in
theorem c_Parser_startsConstant (l : Launch) (D : va_G) (cI : ClassId) (sd : Nat → Nat) (ad : Nat → Nat) (o_this : S_Parser) (res : Int32) (hM : f_Parser_startsConstant o_this = some res) : Ctr l D cI sd yX4_startsConstant (wsM yX4_startsConstant cX4_startsConstant 1 (Option.some Jvm.ClassFile.FieldType.boolean)) { frames := 0, cells := 0, slots := 0, locals := 0 } [.ref (ad 22)] (wP cI ad o_this) (wP cI ad o_this) (some (.int res)) := by
  refine Ctr.of (cc := cX4_startsConstant) (maxL := 1) (own := RX4) (by decide +kernel) rfl rfl (Nat.le_of_ble_eq_true rfl) ?_
  intro p e s m below meth c A ls hx hb hr hml hown hts hlk hK hE hA hP hD hS hl
  have hl : lv_has ls 1 [(0, .ref (ad 22))] := hl
  unfold f_Parser_startsConstant at hM
  refine lv_aload_n hx hb dX4_startsConstant_0 rfl (lv_at hl 0 rfl) ?_
  refine va_get (D := D) (ci := 4) (v := .int o_this.2.1) (C := RX4) (T := TX4) (N := 12) hx hb hts layX4 hown hK hP 0 rfl rfl 3 (by decide) (hts _ (inA q400)) (fun _ h9 => h9) rfl dX4_startsConstant_1 ?_
  refine lv_bipush (v := 45) hx hb dX4_startsConstant_4 (by decide) ?_
  refine lv_icmp_eq (tgt := 37) hx hb dX4_startsConstant_6 (by decide) (fun c1 => ?_) (fun c1 => ?_)
  · replace hM := if_t c1 hM
    refine lv_iconst (v := 1) hx hb dX4_startsConstant_37 (by decide) ?_
    refine lv_goto (tgt := 42) hx hb dX4_startsConstant_38 (by decide) ?_
    cases hM
    exact rt_z hx hb hr hlk (by decide) hP hD hS rfl dX4_startsConstant_42
  · replace hM := if_f c1 hM
    refine lv_aload_n hx hb dX4_startsConstant_9 rfl (lv_at hl 0 rfl) ?_
    refine va_get (D := D) (ci := 4) (v := .int o_this.2.1) (C := RX4) (T := TX4) (N := 12) hx hb hts layX4 hown hK hP 0 rfl rfl 3 (by decide) (hts _ (inA q400)) (fun _ h9 => h9) rfl dX4_startsConstant_10 ?_
    refine lv_iconst (v := 2) hx hb dX4_startsConstant_13 (by decide) ?_
    refine lv_icmp_eq (tgt := 37) hx hb dX4_startsConstant_14 (by decide) (fun c2 => ?_) (fun c2 => ?_)
    · replace hM := if_t c2 hM
      refine lv_iconst (v := 1) hx hb dX4_startsConstant_37 (by decide) ?_
      refine lv_goto (tgt := 42) hx hb dX4_startsConstant_38 (by decide) ?_
      cases hM
      exact rt_z hx hb hr hlk (by decide) hP hD hS rfl dX4_startsConstant_42
    · replace hM := if_f c2 hM
      refine lv_aload_n hx hb dX4_startsConstant_17 rfl (lv_at hl 0 rfl) ?_
      refine va_get (D := D) (ci := 4) (v := .int o_this.2.1) (C := RX4) (T := TX4) (N := 12) hx hb hts layX4 hown hK hP 0 rfl rfl 3 (by decide) (hts _ (inA q400)) (fun _ h9 => h9) rfl dX4_startsConstant_18 ?_
      refine lv_sipush (v := 291) hx hb dX4_startsConstant_21 (by decide) ?_
      refine lv_icmp_eq (tgt := 37) hx hb dX4_startsConstant_24 (by decide) (fun c3 => ?_) (fun c3 => ?_)
      · replace hM := if_t c3 hM
        refine lv_iconst (v := 1) hx hb dX4_startsConstant_37 (by decide) ?_
        refine lv_goto (tgt := 42) hx hb dX4_startsConstant_38 (by decide) ?_
        cases hM
        exact rt_z hx hb hr hlk (by decide) hP hD hS rfl dX4_startsConstant_42
      · replace hM := if_f c3 hM
        refine lv_aload_n hx hb dX4_startsConstant_27 rfl (lv_at hl 0 rfl) ?_
        refine va_get (D := D) (ci := 4) (v := .int o_this.2.1) (C := RX4) (T := TX4) (N := 12) hx hb hts layX4 hown hK hP 0 rfl rfl 3 (by decide) (hts _ (inA q400)) (fun _ h9 => h9) rfl dX4_startsConstant_28 ?_
        refine lv_sipush (v := 292) hx hb dX4_startsConstant_31 (by decide) ?_
        refine lv_icmp_ne (tgt := 41) hx hb dX4_startsConstant_34 (by decide) (fun c4 => ?_) (fun c4 => ?_)
        · replace hM := if_f c4 hM
          refine lv_iconst (v := 0) hx hb dX4_startsConstant_41 (by decide) ?_
          cases hM
          exact rt_z hx hb hr hlk (by decide) hP hD hS rfl dX4_startsConstant_42
        · replace hM := if_t c4 hM
          refine lv_iconst (v := 1) hx hb dX4_startsConstant_37 (by decide) ?_
          refine lv_goto (tgt := 42) hx hb dX4_startsConstant_38 (by decide) ?_
          cases hM
          exact rt_z hx hb hr hlk (by decide) hP hD hS rfl dX4_startsConstant_42

set_option maxHeartbeats 4000000 in
set_option maxRecDepth 100000 in
theorem c_Parser_caseStatement (l : Launch) (D : va_G) (cI : ClassId) (sd : Nat → Nat) (ad : Nat → Nat) (fr lo : Nat) (f_body : S_Parser → S_Tokens → S_Tree → Int32 → Option (S_Parser × S_Tree)) (H_body : ∀ (o_this : S_Parser) (o_tokens : S_Tokens) (o_tree : S_Tree) (a1 : Int32) (res : S_Parser × S_Tree), f_body o_this o_tokens o_tree a1 = some res → Ctr l D cI sd yX4_body (wsM yX4_body cX4_body 5 (Option.none : Option Jvm.ClassFile.FieldType)) { frames := fr, cells := 0, slots := 0, locals := lo } [.ref (ad 22), .int a1] (w_Parser_this_tokens_tree cI ad o_this o_tokens o_tree) (w_Parser_this_tokens_tree cI ad res.1 o_tokens res.2) none) (o_this : S_Parser) (o_tokens : S_Tokens) (o_tree : S_Tree) (a1 : Int32) (res : S_Parser × S_Tree) (hM : f_Parser_caseStatement f_body o_this o_tokens o_tree a1 = some res) : Ctr l D cI sd yX4_caseStatement (wsM yX4_caseStatement cX4_caseStatement 5 (Option.none : Option Jvm.ClassFile.FieldType)) { frames := max (fr + 1) 263, cells := 0, slots := 0, locals := max (lo + 24) 6973 } [.ref (ad 22), .int a1] (w_Parser_this_tokens_tree cI ad o_this o_tokens o_tree) (w_Parser_this_tokens_tree cI ad res.1 o_tokens res.2) none := by
  refine Ctr.of (cc := cX4_caseStatement) (maxL := 5) (own := RX4) (by decide +kernel) rfl rfl (Nat.le_of_ble_eq_true rfl) ?_
  intro p e s m below meth c A ls hx hb hr hml hown hts hlk hK hE hA hP hD hS hl
  have hl : lv_has ls 5 [(0, .ref (ad 22)), (1, .int a1)] := hl
  unfold f_Parser_caseStatement at hM
  refine lv_aload_n hx hb dX4_caseStatement_0 rfl (lv_at hl 0 rfl) ?_
  refine va_get (D := D) (ci := 4) (v := .ref (ad 14)) (C := RX4) (T := TX4) (N := 12) hx hb hts layX4 hown hK hP 0 rfl rfl 1 (by decide) (hts _ (inA q398)) (fun _ h9 => h9) rfl dX4_caseStatement_1 ?_
  refine lv_iload_n hx hb dX4_caseStatement_4 rfl (lv_at hl 1 rfl) ?_
  refine lv_bipush (v := 16) hx hb dX4_caseStatement_5 (by decide) ?_
  refine lv_aload_n hx hb dX4_caseStatement_7 rfl (lv_at hl 0 rfl) ?_
  refine va_get (D := D) (ci := 4) (v := .int o_this.2.2.1) (C := RX4) (T := TX4) (N := 12) hx hb hts layX4 hown hK hP 0 rfl rfl 4 (by decide) (hts _ (inA q401)) (fun _ h9 => h9) rfl dX4_caseStatement_8 ?_
  refine lv_iconst (v := 0) hx hb dX4_caseStatement_11 (by decide) ?_
  obtain ⟨r1, hcr1, hM⟩ := ob_use hM
  refine cl_V (As := [.int a1, .int 16, .int o_this.2.2.1, .int 0]) (rest := []) (w_Parser_this_tokens_tree cI ad o_this o_tokens r1.2) (.int r1.1 :: []) ⟨hx, hb, hml, hown, hts⟩ (c_Tree_add l D cI sd ad o_tree a1 16 o_this.2.2.1 0 r1 hcr1) (cwV2 hts q622 mvX3_add rfl rfl ⟨(mxN (Nat.le_of_ble_eq_true rfl)), (mxN (Nat.le_of_ble_eq_true rfl))⟩) hK hE hA hP hD hS 5 (T := TX3) (N := 8) (ci := 3) rfl rfl [5, 6, 7, 8, 9, 10, 11, 12] rfl (by decide) rfl rfl rfl rfl rfl rfl hl.1 (Nat.le_of_ble_eq_true rfl) dX4_caseStatement_12 ⟨Nat.zero_le _, Nat.zero_le _⟩ (fun H locs hP hD hS => ?_)
  refine lv_istore_n (lv' := [(2, .int r1.1), (0, .ref (ad 22)), (1, .int a1)]) hx hb dX4_caseStatement_15 rfl hl (by decide) rfl (fun ls hl => ?_)
  refine lv_aload_n hx hb dX4_caseStatement_16 rfl (lv_at hl 1 rfl) ?_
  obtain ⟨r2, hcr2, hM⟩ := ob_use hM
  refine cl_V (As := []) (rest := []) (w_Parser_this_tokens_tree cI ad r2 o_tokens r1.2) [] ⟨hx, hb, hml, hown, hts⟩ (c_Parser_takeOpening l D cI sd ad o_this o_tokens r2 hcr2) (cwV2 hts q715 mvX4_takeOpening rfl rfl ⟨(mxN (Nat.le_of_ble_eq_true rfl)), (mxN (Nat.le_of_ble_eq_true rfl))⟩) hK hE hA hP hD hS 0 (T := TX4) (N := 12) (ci := 4) rfl rfl [0, 1, 2, 3, 4] rfl (by decide) rfl rfl rfl rfl rfl rfl hl.1 (Nat.le_of_ble_eq_true rfl) dX4_caseStatement_17 ⟨Nat.zero_le _, Nat.zero_le _⟩ (fun H locs hP hD hS => ?_)
  refine lv_aload_n hx hb dX4_caseStatement_20 rfl (lv_at hl 1 rfl) ?_
  refine lv_iload_n hx hb dX4_caseStatement_21 rfl (lv_at hl 0 rfl) ?_
  obtain ⟨r3, hcr3, hM⟩ := ob_use hM
  refine cl_V (As := [.int r1.1]) (rest := []) (w_Parser_this_tokens_tree cI ad r3.1 o_tokens r3.2) [] ⟨hx, hb, hml, hown, hts⟩ (c_Parser_outermostExpression l D cI sd ad r2 o_tokens r1.2 r1.1 r3 hcr3) (cwV2 hts q723 mvX4_outermostExpression rfl rfl ⟨(mxN (Nat.le_of_ble_eq_true rfl)), (mxN (Nat.le_of_ble_eq_true rfl))⟩) hK hE hA hP hD hS 0 (T := TX4) (N := 12) (ci := 4) rfl rfl [0, 1, 2, 3, 4, 5, 6, 7, 8, 9, 10, 11, 12] rfl (by decide) rfl rfl rfl rfl rfl rfl hl.1 (Nat.le_of_ble_eq_true rfl) dX4_caseStatement_22 ⟨Nat.zero_le _, Nat.zero_le _⟩ (fun H locs hP hD hS => ?_)
  refine lv_aload_n hx hb dX4_caseStatement_25 rfl (lv_at hl 1 rfl) ?_
  refine lv_sipush (v := 271) hx hb dX4_caseStatement_26 (by decide) ?_
  obtain ⟨r4, hcr4, hM⟩ := ob_use hM
  refine cl_V (As := [.int 271]) (rest := []) (w_Parser_this_tokens_tree cI ad r4 o_tokens r3.2) [] ⟨hx, hb, hml, hown, hts⟩ (c_Parser_take l D cI sd ad r3.1 o_tokens 271 r4 hcr4) (cwV2 hts q614 mvX4_take rfl rfl ⟨(mxN (Nat.le_of_ble_eq_true rfl)), (mxN (Nat.le_of_ble_eq_true rfl))⟩) hK hE hA hP hD hS 0 (T := TX4) (N := 12) (ci := 4) rfl rfl [0, 1, 2, 3, 4] rfl (by decide) rfl rfl rfl rfl rfl rfl hl.1 (Nat.le_of_ble_eq_true rfl) dX4_caseStatement_29 ⟨Nat.zero_le _, Nat.zero_le _⟩ (fun H locs hP hD hS => ?_)
  refine lv_iconst (v := 0) hx hb dX4_caseStatement_32 (by decide) ?_
  refine lv_istore_n (lv' := [(3, .int 0), (2, .int r1.1), (0, .ref (ad 22)), (1, .int a1)]) hx hb dX4_caseStatement_33 rfl hl (by decide) rfl (fun ls hl => ?_)
  have lp_L34 : ∀ (w2_L34 : Int32) (o_tokens_L34 : S_Tokens) (n : Nat) (v3_L34 : Int32) (o_this_L34 : S_Parser) (o_tree_L34 : S_Tree) (out_L34 : S_Parser × S_Tree) (H : Heap) (locs : List Loc) (ls : Array Slot), f_Parser_caseStatement_L34 f_body w2_L34 o_tokens_L34 n v3_L34 o_this_L34 o_tree_L34 = some out_L34 → va_P D vwCl (w_Parser_this_tokens_tree cI ad o_this_L34 o_tokens_L34 o_tree_L34) H → va_D A (w_Parser_this_tokens_tree cI ad o_this_L34 o_tokens_L34 o_tree_L34) → va_S A s.heap H locs → lv_has ls 5 [(3, .int v3_L34), (2, .int w2_L34), (0, .ref (ad 22))] → (∀ (H : Heap) (locs : List Loc) (ls : Array Slot), va_P D vwCl (w_Parser_this_tokens_tree cI ad out_L34.1 o_tokens_L34 out_L34.2) H → va_D A (w_Parser_this_tokens_tree cI ad out_L34.1 o_tokens_L34 out_L34.2) → va_S A s.heap H locs → lv_has ls 5 [(2, .int w2_L34), (0, .ref (ad 22))] → W p l e { frames := max (fr + 1) 263, cells := 0, slots := 0, locals := max (lo + 24) 6973 } s m [.ref (ad 22), .int a1].toArray below meth c H locs 0 0 (MQ below (CQ D A (w_Parser_this_tokens_tree cI ad res.1 o_tokens res.2) none) [.ref (ad 22), .int a1].toArray s 0 0 A) (F0 m 89 ls [])) → W p l e { frames := max (fr + 1) 263, cells := 0, slots := 0, locals := max (lo + 24) 6973 } s m [.ref (ad 22), .int a1].toArray below meth c H locs 0 0 (MQ below (CQ D A (w_Parser_this_tokens_tree cI ad res.1 o_tokens res.2) none) [.ref (ad 22), .int a1].toArray s 0 0 A) (F0 m 34 ls []) := by
    intro w2_L34 o_tokens_L34 n
    induction n with
    | zero => intro v3_L34 o_this_L34 o_tree_L34 out_L34 H locs ls hM; exact absurd (show none = some _ from hM) (by simp)
    | succ n ih_L34 =>
      intro v3_L34 o_this_L34 o_tree_L34 out_L34 H locs ls hM hP hD hS hl kx_L34
      rw [f_Parser_caseStatement_L34] at hM
      refine lv_iload_n hx hb dX4_caseStatement_34 rfl (lv_at hl 0 rfl) ?_
      refine lv_sipush (v := 8192) hx hb dX4_caseStatement_35 (by decide) ?_
      refine lv_icmp_ge (tgt := 89) hx hb dX4_caseStatement_38 (by decide) (fun c1441 => ?_) (fun c1441 => ?_)
      · replace hM := if_t c1441 hM
        cases hM
        exact kx_L34 _ _ _ hP hD hS (lv_sub hl [1, 2] rfl)
      · replace hM := if_f c1441 hM
        refine lv_aload_n hx hb dX4_caseStatement_41 rfl (lv_at hl 2 rfl) ?_
        obtain ⟨r1442, hcr1442, hM⟩ := ob_use hM
        refine cl_V (As := []) (rest := []) (w_Parser_this_tokens_tree cI ad o_this_L34 o_tokens_L34 o_tree_L34) (.int r1442 :: []) ⟨hx, hb, hml, hown, hts⟩ (c_Parser_startsConstant l D cI sd ad o_this_L34 r1442 hcr1442) (cwV2 hts q778 mvX4_startsConstant rfl rfl ⟨(mxN (Nat.le_of_ble_eq_true rfl)), (mxN (Nat.le_of_ble_eq_true rfl))⟩) hK hE hA hP hD hS 0 (T := TX4) (N := 12) (ci := 4) rfl rfl [0] rfl (by decide) rfl rfl rfl rfl rfl rfl hl.1 (Nat.le_of_ble_eq_true rfl) dX4_caseStatement_42 ⟨Nat.zero_le _, Nat.zero_le _⟩ (fun H locs hP hD hS => ?_)
        refine lv_if_eq (tgt := 89) hx hb dX4_caseStatement_45 (by decide) (fun c1443 => ?_) (fun c1443 => ?_)
        · replace hM := if_t c1443 hM
          cases hM
          exact kx_L34 _ _ _ hP hD hS (lv_sub hl [1, 2] rfl)
        · replace hM := if_f c1443 hM
          refine lv_aload_n hx hb dX4_caseStatement_48 rfl (lv_at hl 2 rfl) ?_
          refine va_get (D := D) (ci := 4) (v := .ref (ad 14)) (C := RX4) (T := TX4) (N := 12) hx hb hts layX4 hown hK hP 0 rfl rfl 1 (by decide) (hts _ (inA q398)) (fun _ h9 => h9) rfl dX4_caseStatement_49 ?_
          refine lv_iload_n hx hb dX4_caseStatement_52 rfl (lv_at hl 1 rfl) ?_
          refine lv_bipush (v := 17) hx hb dX4_caseStatement_53 (by decide) ?_
          refine lv_aload_n hx hb dX4_caseStatement_55 rfl (lv_at hl 2 rfl) ?_
          refine va_get (D := D) (ci := 4) (v := .int o_this_L34.2.2.1) (C := RX4) (T := TX4) (N := 12) hx hb hts layX4 hown hK hP 0 rfl rfl 4 (by decide) (hts _ (inA q401)) (fun _ h9 => h9) rfl dX4_caseStatement_56 ?_
          refine lv_iconst (v := 0) hx hb dX4_caseStatement_59 (by decide) ?_
          obtain ⟨r1444, hcr1444, hM⟩ := ob_use hM
          refine cl_V (As := [.int w2_L34, .int 17, .int o_this_L34.2.2.1, .int 0]) (rest := []) (w_Parser_this_tokens_tree cI ad o_this_L34 o_tokens_L34 r1444.2) (.int r1444.1 :: []) ⟨hx, hb, hml, hown, hts⟩ (c_Tree_add l D cI sd ad o_tree_L34 w2_L34 17 o_this_L34.2.2.1 0 r1444 hcr1444) (cwV2 hts q622 mvX3_add rfl rfl ⟨(mxN (Nat.le_of_ble_eq_true rfl)), (mxN (Nat.le_of_ble_eq_true rfl))⟩) hK hE hA hP hD hS 5 (T := TX3) (N := 8) (ci := 3) rfl rfl [5, 6, 7, 8, 9, 10, 11, 12] rfl (by decide) rfl rfl rfl rfl rfl rfl hl.1 (Nat.le_of_ble_eq_true rfl) dX4_caseStatement_60 ⟨Nat.zero_le _, Nat.zero_le _⟩ (fun H locs hP hD hS => ?_)
          refine lv_istore (lv' := [(4, .int r1444.1), (3, .int v3_L34), (2, .int w2_L34), (0, .ref (ad 22))]) hx hb dX4_caseStatement_63 hl (by decide) rfl (fun ls hl => ?_)
          refine lv_aload_n hx hb dX4_caseStatement_65 rfl (lv_at hl 3 rfl) ?_
          refine lv_iload hx hb dX4_caseStatement_66 (lv_at hl 0 rfl) ?_
          obtain ⟨r1445, hcr1445, hM⟩ := ob_use hM
          refine cl_V (As := [.int r1444.1]) (rest := []) (w_Parser_this_tokens_tree cI ad r1445.1 o_tokens_L34 r1445.2) [] ⟨hx, hb, hml, hown, hts⟩ (c_Parser_ranges l D cI sd ad o_this_L34 o_tokens_L34 r1444.2 r1444.1 r1445 hcr1445) (cwV2 hts q782 mvX4_ranges rfl rfl ⟨(mxN (Nat.le_of_ble_eq_true rfl)), (mxN (Nat.le_of_ble_eq_true rfl))⟩) hK hE hA hP hD hS 0 (T := TX4) (N := 12) (ci := 4) rfl rfl [0, 1, 2, 3, 4, 5, 6, 7, 8, 9, 10, 11, 12] rfl (by decide) rfl rfl rfl rfl rfl rfl hl.1 (Nat.le_of_ble_eq_true rfl) dX4_caseStatement_68 ⟨Nat.zero_le _, Nat.zero_le _⟩ (fun H locs hP hD hS => ?_)
          refine lv_aload_n hx hb dX4_caseStatement_71 rfl (lv_at hl 3 rfl) ?_
          refine lv_bipush (v := 58) hx hb dX4_caseStatement_72 (by decide) ?_
          obtain ⟨r1446, hcr1446, hM⟩ := ob_use hM
          refine cl_V (As := [.int 58]) (rest := []) (w_Parser_this_tokens_tree cI ad r1446 o_tokens_L34 r1445.2) [] ⟨hx, hb, hml, hown, hts⟩ (c_Parser_take l D cI sd ad r1445.1 o_tokens_L34 58 r1446 hcr1446) (cwV2 hts q614 mvX4_take rfl rfl ⟨(mxN (Nat.le_of_ble_eq_true rfl)), (mxN (Nat.le_of_ble_eq_true rfl))⟩) hK hE hA hP hD hS 0 (T := TX4) (N := 12) (ci := 4) rfl rfl [0, 1, 2, 3, 4] rfl (by decide) rfl rfl rfl rfl rfl rfl hl.1 (Nat.le_of_ble_eq_true rfl) dX4_caseStatement_74 ⟨Nat.zero_le _, Nat.zero_le _⟩ (fun H locs hP hD hS => ?_)
          refine lv_aload_n hx hb dX4_caseStatement_77 rfl (lv_at hl 3 rfl) ?_
          refine lv_iload hx hb dX4_caseStatement_78 (lv_at hl 0 rfl) ?_
          obtain ⟨r1447, hcr1447, hM⟩ := ob_use hM
          refine cl_V (As := [.int r1444.1]) (rest := []) (w_Parser_this_tokens_tree cI ad r1447.1 o_tokens_L34 r1447.2) [] ⟨hx, hb, hml, hown, hts⟩ (H_body r1446 o_tokens_L34 r1445.2 r1444.1 r1447 hcr1447) (cwV2 hts q703 mvX4_body rfl rfl ⟨mxF0 (by decide), mxL0 (by decide)⟩) hK hE hA hP hD hS 0 (T := TX4) (N := 12) (ci := 4) rfl rfl [0, 1, 2, 3, 4, 5, 6, 7, 8, 9, 10, 11, 12] rfl (by decide) rfl rfl rfl rfl rfl rfl hl.1 (Nat.le_of_ble_eq_true rfl) dX4_caseStatement_80 ⟨Nat.zero_le _, Nat.zero_le _⟩ (fun H locs hP hD hS => ?_)
          obtain ⟨x1448, ex1448⟩ : ∃ y : Int32, y = v3_L34 + 1 := ⟨_, rfl⟩
          replace hM := nm_use ex1448 hM
          refine lv_iinc (v := x1448) (lv' := [(3, .int x1448), (4, .int r1444.1), (2, .int w2_L34), (0, .ref (ad 22))]) hx hb dX4_caseStatement_83 hl (k := 1) rfl (by rw [ex1448]; rfl) (by decide) rfl (fun ls hl => ?_)
          refine lv_goto (tgt := 34) hx hb dX4_caseStatement_86 (by decide) ?_
          exact ih_L34 x1448 r1447.1 r1447.2 out_L34 _ _ _ hM hP hD hS (lv_sub hl [0, 2, 3] rfl) kx_L34
  obtain ⟨r5, hcr5, hM⟩ := ob_use hM
  refine lp_L34 r1.1 o_tokens FU 0 r4 r3.2 r5 _ _ _ hcr5 hP hD hS (lv_sub hl [0, 1, 2] rfl) (fun H locs ls hP hD hS hl => ?_)
  refine lv_aload_n hx hb dX4_caseStatement_89 rfl (lv_at hl 1 rfl) ?_
  refine va_get (D := D) (ci := 4) (v := .int r5.1.2.1) (C := RX4) (T := TX4) (N := 12) hx hb hts layX4 hown hK hP 0 rfl rfl 3 (by decide) (hts _ (inA q400)) (fun _ h9 => h9) rfl dX4_caseStatement_90 ?_
  refine lv_sipush (v := 275) hx hb dX4_caseStatement_93 (by decide) ?_
  refine lv_icmp_ne (tgt := 111) hx hb dX4_caseStatement_96 (by decide) (fun c6 => ?_) (fun c6 => ?_)
  · replace hM := if_f c6 hM
    refine lv_aload_n hx hb dX4_caseStatement_111 rfl (lv_at hl 1 rfl) ?_
    refine lv_sipush (v := 278) hx hb dX4_caseStatement_112 (by decide) ?_
    obtain ⟨r7, hcr7, hM⟩ := ob_use hM
    refine cl_V (As := [.int 278]) (rest := []) (w_Parser_this_tokens_tree cI ad r7 o_tokens r5.2) [] ⟨hx, hb, hml, hown, hts⟩ (c_Parser_takeClosing l D cI sd ad r5.1 o_tokens 278 r7 hcr7) (cwV2 hts q735 mvX4_takeClosing rfl rfl ⟨(mxN (Nat.le_of_ble_eq_true rfl)), (mxN (Nat.le_of_ble_eq_true rfl))⟩) hK hE hA hP hD hS 0 (T := TX4) (N := 12) (ci := 4) rfl rfl [0, 1, 2, 3, 4] rfl (by decide) rfl rfl rfl rfl rfl rfl hl.1 (Nat.le_of_ble_eq_true rfl) dX4_caseStatement_115 ⟨Nat.zero_le _, Nat.zero_le _⟩ (fun H locs hP hD hS => ?_)
    cases hM
    exact rt_v hx hb hr hlk hP hD hS rfl dX4_caseStatement_118
  · replace hM := if_t c6 hM
    refine lv_aload_n hx hb dX4_caseStatement_99 rfl (lv_at hl 1 rfl) ?_
    refine lv_sipush (v := 275) hx hb dX4_caseStatement_100 (by decide) ?_
    obtain ⟨r8, hcr8, hM⟩ := ob_use hM
    refine cl_V (As := [.int 275]) (rest := []) (w_Parser_this_tokens_tree cI ad r8 o_tokens r5.2) [] ⟨hx, hb, hml, hown, hts⟩ (c_Parser_take l D cI sd ad r5.1 o_tokens 275 r8 hcr8) (cwV2 hts q614 mvX4_take rfl rfl ⟨(mxN (Nat.le_of_ble_eq_true rfl)), (mxN (Nat.le_of_ble_eq_true rfl))⟩) hK hE hA hP hD hS 0 (T := TX4) (N := 12) (ci := 4) rfl rfl [0, 1, 2, 3, 4] rfl (by decide) rfl rfl rfl rfl rfl rfl hl.1 (Nat.le_of_ble_eq_true rfl) dX4_caseStatement_103 ⟨Nat.zero_le _, Nat.zero_le _⟩ (fun H locs hP hD hS => ?_)
    refine lv_aload_n hx hb dX4_caseStatement_106 rfl (lv_at hl 1 rfl) ?_
    refine lv_iload_n hx hb dX4_caseStatement_107 rfl (lv_at hl 0 rfl) ?_
    obtain ⟨r9, hcr9, hM⟩ := ob_use hM
    refine cl_V (As := [.int r1.1]) (rest := []) (w_Parser_this_tokens_tree cI ad r9.1 o_tokens r9.2) [] ⟨hx, hb, hml, hown, hts⟩ (H_body r8 o_tokens r5.2 r1.1 r9 hcr9) (cwV2 hts q703 mvX4_body rfl rfl ⟨mxF0 (by decide), mxL0 (by decide)⟩) hK hE hA hP hD hS 0 (T := TX4) (N := 12) (ci := 4) rfl rfl [0, 1, 2, 3, 4, 5, 6, 7, 8, 9, 10, 11, 12] rfl (by decide) rfl rfl rfl rfl rfl rfl hl.1 (Nat.le_of_ble_eq_true rfl) dX4_caseStatement_108 ⟨Nat.zero_le _, Nat.zero_le _⟩ (fun H locs hP hD hS => ?_)
    refine lv_aload_n hx hb dX4_caseStatement_111 rfl (lv_at hl 1 rfl) ?_
    refine lv_sipush (v := 278) hx hb dX4_caseStatement_112 (by decide) ?_
    obtain ⟨r10, hcr10, hM⟩ := ob_use hM
    refine cl_V (As := [.int 278]) (rest := []) (w_Parser_this_tokens_tree cI ad r10 o_tokens r9.2) [] ⟨hx, hb, hml, hown, hts⟩ (c_Parser_takeClosing l D cI sd ad r9.1 o_tokens 278 r10 hcr10) (cwV2 hts q735 mvX4_takeClosing rfl rfl ⟨(mxN (Nat.le_of_ble_eq_true rfl)), (mxN (Nat.le_of_ble_eq_true rfl))⟩) hK hE hA hP hD hS 0 (T := TX4) (N := 12) (ci := 4) rfl rfl [0, 1, 2, 3, 4] rfl (by decide) rfl rfl rfl rfl rfl rfl hl.1 (Nat.le_of_ble_eq_true rfl) dX4_caseStatement_115 ⟨Nat.zero_le _, Nat.zero_le _⟩ (fun H locs hP hD hS => ?_)
    cases hM
    exact rt_v hx hb hr hlk hP hD hS rfl dX4_caseStatement_118

set_option maxHeartbeats 4000000 in
set_option maxRecDepth 100000 in
theorem c_Parser_forStatement (l : Launch) (D : va_G) (cI : ClassId) (sd : Nat → Nat) (ad : Nat → Nat) (fr lo : Nat) (f_body : S_Parser → S_Tokens → S_Tree → Int32 → Option (S_Parser × S_Tree)) (H_body : ∀ (o_this : S_Parser) (o_tokens : S_Tokens) (o_tree : S_Tree) (a1 : Int32) (res : S_Parser × S_Tree), f_body o_this o_tokens o_tree a1 = some res → Ctr l D cI sd yX4_body (wsM yX4_body cX4_body 5 (Option.none : Option Jvm.ClassFile.FieldType)) { frames := fr, cells := 0, slots := 0, locals := lo } [.ref (ad 22), .int a1] (w_Parser_this_tokens_tree cI ad o_this o_tokens o_tree) (w_Parser_this_tokens_tree cI ad res.1 o_tokens res.2) none) (o_this : S_Parser) (o_tokens : S_Tokens) (o_tree : S_Tree) (a1 : Int32) (res : S_Parser × S_Tree) (hM : f_Parser_forStatement f_body o_this o_tokens o_tree a1 = some res) : Ctr l D cI sd yX4_forStatement (wsM yX4_forStatement cX4_forStatement 4 (Option.none : Option Jvm.ClassFile.FieldType)) { frames := max (fr + 1) 3, cells := 0, slots := 0, locals := max (lo + 24) 68 } [.ref (ad 22), .int a1] (w_Parser_this_tokens_tree cI ad o_this o_tokens o_tree) (w_Parser_this_tokens_tree cI ad res.1 o_tokens res.2) none := by
  refine Ctr.of (cc := cX4_forStatement) (maxL := 4) (own := RX4) (by decide +kernel) rfl rfl (Nat.le_of_ble_eq_true rfl) ?_
  intro p e s m below meth c A ls hx hb hr hml hown hts hlk hK hE hA hP hD hS hl
  have hl : lv_has ls 4 [(0, .ref (ad 22)), (1, .int a1)] := hl
  unfold f_Parser_forStatement at hM
  refine lv_aload_n hx hb dX4_forStatement_0 rfl (lv_at hl 0 rfl) ?_
  refine va_get (D := D) (ci := 4) (v := .int o_this.2.2.1) (C := RX4) (T := TX4) (N := 12) hx hb hts layX4 hown hK hP 0 rfl rfl 4 (by decide) (hts _ (inA q401)) (fun _ h9 => h9) rfl dX4_forStatement_1 ?_
  refine lv_istore_n (lv' := [(2, .int o_this.2.2.1), (0, .ref (ad 22)), (1, .int a1)]) hx hb dX4_forStatement_4 rfl hl (by decide) rfl (fun ls hl => ?_)
  refine lv_aload_n hx hb dX4_forStatement_5 rfl (lv_at hl 1 rfl) ?_
  obtain ⟨r1, hcr1, hM⟩ := ob_use hM
  refine cl_V (As := []) (rest := []) (w_Parser_this_tokens_tree cI ad r1 o_tokens o_tree) [] ⟨hx, hb, hml, hown, hts⟩ (c_Parser_takeOpening l D cI sd ad o_this o_tokens r1 hcr1) (cwV2 hts q715 mvX4_takeOpening rfl rfl ⟨(mxN (Nat.le_of_ble_eq_true rfl)), (mxN (Nat.le_of_ble_eq_true rfl))⟩) hK hE hA hP hD hS 0 (T := TX4) (N := 12) (ci := 4) rfl rfl [0, 1, 2, 3, 4] rfl (by decide) rfl rfl rfl rfl rfl rfl hl.1 (Nat.le_of_ble_eq_true rfl) dX4_forStatement_6 ⟨Nat.zero_le _, Nat.zero_le _⟩ (fun H locs hP hD hS => ?_)
  refine lv_aload_n hx hb dX4_forStatement_9 rfl (lv_at hl 1 rfl) ?_
  refine va_get (D := D) (ci := 4) (v := .ref (ad 14)) (C := RX4) (T := TX4) (N := 12) hx hb hts layX4 hown hK hP 0 rfl rfl 1 (by decide) (hts _ (inA q398)) (fun _ h9 => h9) rfl dX4_forStatement_10 ?_
  refine lv_iload_n hx hb dX4_forStatement_13 rfl (lv_at hl 2 rfl) ?_
  refine lv_bipush (v := 19) hx hb dX4_forStatement_14 (by decide) ?_
  refine lv_iload_n hx hb dX4_forStatement_16 rfl (lv_at hl 0 rfl) ?_
  refine lv_aload_n hx hb dX4_forStatement_17 rfl (lv_at hl 1 rfl) ?_
  obtain ⟨r2, hcr2, hM⟩ := ob_use hM
  refine cl_V (As := []) (rest := [.int o_this.2.2.1, .int 19, .int a1, .ref (ad 14)]) (w_Parser_this_tokens_tree cI ad r2.2 o_tokens o_tree) (.int r2.1 :: [.int o_this.2.2.1, .int 19, .int a1, .ref (ad 14)]) ⟨hx, hb, hml, hown, hts⟩ (c_Parser_takeName l D cI sd ad r1 o_tokens r2 hcr2) (cwV2 hts q637 mvX4_takeName rfl rfl ⟨(mxN (Nat.le_of_ble_eq_true rfl)), (mxN (Nat.le_of_ble_eq_true rfl))⟩) hK hE hA hP hD hS 0 (T := TX4) (N := 12) (ci := 4) rfl rfl [0, 1, 2, 3, 4] rfl (by decide) rfl rfl rfl rfl rfl rfl hl.1 (Nat.le_of_ble_eq_true rfl) dX4_forStatement_18 ⟨Nat.zero_le _, Nat.zero_le _⟩ (fun H locs hP hD hS => ?_)
  obtain ⟨r3, hcr3, hM⟩ := ob_use hM
  refine cl_V (As := [.int a1, .int 19, .int o_this.2.2.1, .int r2.1]) (rest := []) (w_Parser_this_tokens_tree cI ad r2.2 o_tokens r3.2) (.int r3.1 :: []) ⟨hx, hb, hml, hown, hts⟩ (c_Tree_add l D cI sd ad o_tree a1 19 o_this.2.2.1 r2.1 r3 hcr3) (cwV2 hts q622 mvX3_add rfl rfl ⟨(mxN (Nat.le_of_ble_eq_true rfl)), (mxN (Nat.le_of_ble_eq_true rfl))⟩) hK hE hA hP hD hS 5 (T := TX3) (N := 8) (ci := 3) rfl rfl [5, 6, 7, 8, 9, 10, 11, 12] rfl (by decide) rfl rfl rfl rfl rfl rfl hl.1 (Nat.le_of_ble_eq_true rfl) dX4_forStatement_21 ⟨Nat.zero_le _, Nat.zero_le _⟩ (fun H locs hP hD hS => ?_)
  refine lv_istore_n (lv' := [(3, .int r3.1), (2, .int o_this.2.2.1), (0, .ref (ad 22)), (1, .int a1)]) hx hb dX4_forStatement_24 rfl hl (by decide) rfl (fun ls hl => ?_)
  refine lv_aload_n hx hb dX4_forStatement_25 rfl (lv_at hl 2 rfl) ?_
  refine lv_sipush (v := 14909) hx hb dX4_forStatement_26 (by decide) ?_
  obtain ⟨r4, hcr4, hM⟩ := ob_use hM
  refine cl_V (As := [.int 14909]) (rest := []) (w_Parser_this_tokens_tree cI ad r4 o_tokens r3.2) [] ⟨hx, hb, hml, hown, hts⟩ (c_Parser_take l D cI sd ad r2.2 o_tokens 14909 r4 hcr4) (cwV2 hts q614 mvX4_take rfl rfl ⟨(mxN (Nat.le_of_ble_eq_true rfl)), (mxN (Nat.le_of_ble_eq_true rfl))⟩) hK hE hA hP hD hS 0 (T := TX4) (N := 12) (ci := 4) rfl rfl [0, 1, 2, 3, 4] rfl (by decide) rfl rfl rfl rfl rfl rfl hl.1 (Nat.le_of_ble_eq_true rfl) dX4_forStatement_29 ⟨Nat.zero_le _, Nat.zero_le _⟩ (fun H locs hP hD hS => ?_)
  refine lv_aload_n hx hb dX4_forStatement_32 rfl (lv_at hl 2 rfl) ?_
  refine lv_iload_n hx hb dX4_forStatement_33 rfl (lv_at hl 0 rfl) ?_
  obtain ⟨r5, hcr5, hM⟩ := ob_use hM
  refine cl_V (As := [.int r3.1]) (rest := []) (w_Parser_this_tokens_tree cI ad r5.1 o_tokens r5.2) [] ⟨hx, hb, hml, hown, hts⟩ (c_Parser_constant l D cI sd ad r4 o_tokens r3.2 r3.1 r5 hcr5) (cwV2 hts q665 mvX4_constant rfl rfl ⟨(mxN (Nat.le_of_ble_eq_true rfl)), (mxN (Nat.le_of_ble_eq_true rfl))⟩) hK hE hA hP hD hS 0 (T := TX4) (N := 12) (ci := 4) rfl rfl [0, 1, 2, 3, 4, 5, 6, 7, 8, 9, 10, 11, 12] rfl (by decide) rfl rfl rfl rfl rfl rfl hl.1 (Nat.le_of_ble_eq_true rfl) dX4_forStatement_34 ⟨Nat.zero_le _, Nat.zero_le _⟩ (fun H locs hP hD hS => ?_)
  refine lv_aload_n hx hb dX4_forStatement_37 rfl (lv_at hl 2 rfl) ?_
  refine lv_sipush (v := 280) hx hb dX4_forStatement_38 (by decide) ?_
  obtain ⟨r6, hcr6, hM⟩ := ob_use hM
  refine cl_V (As := [.int 280]) (rest := []) (w_Parser_this_tokens_tree cI ad r6 o_tokens r5.2) [] ⟨hx, hb, hml, hown, hts⟩ (c_Parser_take l D cI sd ad r5.1 o_tokens 280 r6 hcr6) (cwV2 hts q614 mvX4_take rfl rfl ⟨(mxN (Nat.le_of_ble_eq_true rfl)), (mxN (Nat.le_of_ble_eq_true rfl))⟩) hK hE hA hP hD hS 0 (T := TX4) (N := 12) (ci := 4) rfl rfl [0, 1, 2, 3, 4] rfl (by decide) rfl rfl rfl rfl rfl rfl hl.1 (Nat.le_of_ble_eq_true rfl) dX4_forStatement_41 ⟨Nat.zero_le _, Nat.zero_le _⟩ (fun H locs hP hD hS => ?_)
  refine lv_aload_n hx hb dX4_forStatement_44 rfl (lv_at hl 2 rfl) ?_
  refine lv_iload_n hx hb dX4_forStatement_45 rfl (lv_at hl 0 rfl) ?_
  obtain ⟨r7, hcr7, hM⟩ := ob_use hM
  refine cl_V (As := [.int r3.1]) (rest := []) (w_Parser_this_tokens_tree cI ad r7.1 o_tokens r7.2) [] ⟨hx, hb, hml, hown, hts⟩ (c_Parser_constant l D cI sd ad r6 o_tokens r5.2 r3.1 r7 hcr7) (cwV2 hts q665 mvX4_constant rfl rfl ⟨(mxN (Nat.le_of_ble_eq_true rfl)), (mxN (Nat.le_of_ble_eq_true rfl))⟩) hK hE hA hP hD hS 0 (T := TX4) (N := 12) (ci := 4) rfl rfl [0, 1, 2, 3, 4, 5, 6, 7, 8, 9, 10, 11, 12] rfl (by decide) rfl rfl rfl rfl rfl rfl hl.1 (Nat.le_of_ble_eq_true rfl) dX4_forStatement_46 ⟨Nat.zero_le _, Nat.zero_le _⟩ (fun H locs hP hD hS => ?_)
  refine lv_aload_n hx hb dX4_forStatement_49 rfl (lv_at hl 2 rfl) ?_
  refine va_get (D := D) (ci := 4) (v := .int r7.1.2.1) (C := RX4) (T := TX4) (N := 12) hx hb hts layX4 hown hK hP 0 rfl rfl 3 (by decide) (hts _ (inA q400)) (fun _ h9 => h9) rfl dX4_forStatement_50 ?_
  refine lv_sipush (v := 281) hx hb dX4_forStatement_53 (by decide) ?_
  refine lv_icmp_ne (tgt := 71) hx hb dX4_forStatement_56 (by decide) (fun c8 => ?_) (fun c8 => ?_)
  · replace hM := if_f c8 hM
    refine lv_aload_n hx hb dX4_forStatement_71 rfl (lv_at hl 2 rfl) ?_
    refine lv_sipush (v := 282) hx hb dX4_forStatement_72 (by decide) ?_
    obtain ⟨r9, hcr9, hM⟩ := ob_use hM
    refine cl_V (As := [.int 282]) (rest := []) (w_Parser_this_tokens_tree cI ad r9 o_tokens r7.2) [] ⟨hx, hb, hml, hown, hts⟩ (c_Parser_take l D cI sd ad r7.1 o_tokens 282 r9 hcr9) (cwV2 hts q614 mvX4_take rfl rfl ⟨(mxN (Nat.le_of_ble_eq_true rfl)), (mxN (Nat.le_of_ble_eq_true rfl))⟩) hK hE hA hP hD hS 0 (T := TX4) (N := 12) (ci := 4) rfl rfl [0, 1, 2, 3, 4] rfl (by decide) rfl rfl rfl rfl rfl rfl hl.1 (Nat.le_of_ble_eq_true rfl) dX4_forStatement_75 ⟨Nat.zero_le _, Nat.zero_le _⟩ (fun H locs hP hD hS => ?_)
    refine lv_aload_n hx hb dX4_forStatement_78 rfl (lv_at hl 2 rfl) ?_
    refine lv_iload_n hx hb dX4_forStatement_79 rfl (lv_at hl 0 rfl) ?_
    obtain ⟨r10, hcr10, hM⟩ := ob_use hM
    refine cl_V (As := [.int r3.1]) (rest := []) (w_Parser_this_tokens_tree cI ad r10.1 o_tokens r10.2) [] ⟨hx, hb, hml, hown, hts⟩ (H_body r9 o_tokens r7.2 r3.1 r10 hcr10) (cwV2 hts q703 mvX4_body rfl rfl ⟨mxF0 (by decide), mxL0 (by decide)⟩) hK hE hA hP hD hS 0 (T := TX4) (N := 12) (ci := 4) rfl rfl [0, 1, 2, 3, 4, 5, 6, 7, 8, 9, 10, 11, 12] rfl (by decide) rfl rfl rfl rfl rfl rfl hl.1 (Nat.le_of_ble_eq_true rfl) dX4_forStatement_80 ⟨Nat.zero_le _, Nat.zero_le _⟩ (fun H locs hP hD hS => ?_)
    refine lv_aload_n hx hb dX4_forStatement_83 rfl (lv_at hl 2 rfl) ?_
    refine lv_sipush (v := 283) hx hb dX4_forStatement_84 (by decide) ?_
    obtain ⟨r11, hcr11, hM⟩ := ob_use hM
    refine cl_V (As := [.int 283]) (rest := []) (w_Parser_this_tokens_tree cI ad r11 o_tokens r10.2) [] ⟨hx, hb, hml, hown, hts⟩ (c_Parser_takeClosing l D cI sd ad r10.1 o_tokens 283 r11 hcr11) (cwV2 hts q735 mvX4_takeClosing rfl rfl ⟨(mxN (Nat.le_of_ble_eq_true rfl)), (mxN (Nat.le_of_ble_eq_true rfl))⟩) hK hE hA hP hD hS 0 (T := TX4) (N := 12) (ci := 4) rfl rfl [0, 1, 2, 3, 4] rfl (by decide) rfl rfl rfl rfl rfl rfl hl.1 (Nat.le_of_ble_eq_true rfl) dX4_forStatement_87 ⟨Nat.zero_le _, Nat.zero_le _⟩ (fun H locs hP hD hS => ?_)
    cases hM
    exact rt_v hx hb hr hlk hP hD hS rfl dX4_forStatement_90
  · replace hM := if_t c8 hM
    refine lv_aload_n hx hb dX4_forStatement_59 rfl (lv_at hl 2 rfl) ?_
    refine lv_sipush (v := 281) hx hb dX4_forStatement_60 (by decide) ?_
    obtain ⟨r12, hcr12, hM⟩ := ob_use hM
    refine cl_V (As := [.int 281]) (rest := []) (w_Parser_this_tokens_tree cI ad r12 o_tokens r7.2) [] ⟨hx, hb, hml, hown, hts⟩ (c_Parser_take l D cI sd ad r7.1 o_tokens 281 r12 hcr12) (cwV2 hts q614 mvX4_take rfl rfl ⟨(mxN (Nat.le_of_ble_eq_true rfl)), (mxN (Nat.le_of_ble_eq_true rfl))⟩) hK hE hA hP hD hS 0 (T := TX4) (N := 12) (ci := 4) rfl rfl [0, 1, 2, 3, 4] rfl (by decide) rfl rfl rfl rfl rfl rfl hl.1 (Nat.le_of_ble_eq_true rfl) dX4_forStatement_63 ⟨Nat.zero_le _, Nat.zero_le _⟩ (fun H locs hP hD hS => ?_)
    refine lv_aload_n hx hb dX4_forStatement_66 rfl (lv_at hl 2 rfl) ?_
    refine lv_iload_n hx hb dX4_forStatement_67 rfl (lv_at hl 0 rfl) ?_
    obtain ⟨r13, hcr13, hM⟩ := ob_use hM
    refine cl_V (As := [.int r3.1]) (rest := []) (w_Parser_this_tokens_tree cI ad r13.1 o_tokens r13.2) [] ⟨hx, hb, hml, hown, hts⟩ (c_Parser_constant l D cI sd ad r12 o_tokens r7.2 r3.1 r13 hcr13) (cwV2 hts q665 mvX4_constant rfl rfl ⟨(mxN (Nat.le_of_ble_eq_true rfl)), (mxN (Nat.le_of_ble_eq_true rfl))⟩) hK hE hA hP hD hS 0 (T := TX4) (N := 12) (ci := 4) rfl rfl [0, 1, 2, 3, 4, 5, 6, 7, 8, 9, 10, 11, 12] rfl (by decide) rfl rfl rfl rfl rfl rfl hl.1 (Nat.le_of_ble_eq_true rfl) dX4_forStatement_68 ⟨Nat.zero_le _, Nat.zero_le _⟩ (fun H locs hP hD hS => ?_)
    refine lv_aload_n hx hb dX4_forStatement_71 rfl (lv_at hl 2 rfl) ?_
    refine lv_sipush (v := 282) hx hb dX4_forStatement_72 (by decide) ?_
    obtain ⟨r14, hcr14, hM⟩ := ob_use hM
    refine cl_V (As := [.int 282]) (rest := []) (w_Parser_this_tokens_tree cI ad r14 o_tokens r13.2) [] ⟨hx, hb, hml, hown, hts⟩ (c_Parser_take l D cI sd ad r13.1 o_tokens 282 r14 hcr14) (cwV2 hts q614 mvX4_take rfl rfl ⟨(mxN (Nat.le_of_ble_eq_true rfl)), (mxN (Nat.le_of_ble_eq_true rfl))⟩) hK hE hA hP hD hS 0 (T := TX4) (N := 12) (ci := 4) rfl rfl [0, 1, 2, 3, 4] rfl (by decide) rfl rfl rfl rfl rfl rfl hl.1 (Nat.le_of_ble_eq_true rfl) dX4_forStatement_75 ⟨Nat.zero_le _, Nat.zero_le _⟩ (fun H locs hP hD hS => ?_)
    refine lv_aload_n hx hb dX4_forStatement_78 rfl (lv_at hl 2 rfl) ?_
    refine lv_iload_n hx hb dX4_forStatement_79 rfl (lv_at hl 0 rfl) ?_
    obtain ⟨r15, hcr15, hM⟩ := ob_use hM
    refine cl_V (As := [.int r3.1]) (rest := []) (w_Parser_this_tokens_tree cI ad r15.1 o_tokens r15.2) [] ⟨hx, hb, hml, hown, hts⟩ (H_body r14 o_tokens r13.2 r3.1 r15 hcr15) (cwV2 hts q703 mvX4_body rfl rfl ⟨mxF0 (by decide), mxL0 (by decide)⟩) hK hE hA hP hD hS 0 (T := TX4) (N := 12) (ci := 4) rfl rfl [0, 1, 2, 3, 4, 5, 6, 7, 8, 9, 10, 11, 12] rfl (by decide) rfl rfl rfl rfl rfl rfl hl.1 (Nat.le_of_ble_eq_true rfl) dX4_forStatement_80 ⟨Nat.zero_le _, Nat.zero_le _⟩ (fun H locs hP hD hS => ?_)
    refine lv_aload_n hx hb dX4_forStatement_83 rfl (lv_at hl 2 rfl) ?_
    refine lv_sipush (v := 283) hx hb dX4_forStatement_84 (by decide) ?_
    obtain ⟨r16, hcr16, hM⟩ := ob_use hM
    refine cl_V (As := [.int 283]) (rest := []) (w_Parser_this_tokens_tree cI ad r16 o_tokens r15.2) [] ⟨hx, hb, hml, hown, hts⟩ (c_Parser_takeClosing l D cI sd ad r15.1 o_tokens 283 r16 hcr16) (cwV2 hts q735 mvX4_takeClosing rfl rfl ⟨(mxN (Nat.le_of_ble_eq_true rfl)), (mxN (Nat.le_of_ble_eq_true rfl))⟩) hK hE hA hP hD hS 0 (T := TX4) (N := 12) (ci := 4) rfl rfl [0, 1, 2, 3, 4] rfl (by decide) rfl rfl rfl rfl rfl rfl hl.1 (Nat.le_of_ble_eq_true rfl) dX4_forStatement_87 ⟨Nat.zero_le _, Nat.zero_le _⟩ (fun H locs hP hD hS => ?_)
    cases hM
    exact rt_v hx hb hr hlk hP hD hS rfl dX4_forStatement_90

set_option maxHeartbeats 4000000 in
set_option maxRecDepth 100000 in
theorem c_Parser_ifStatement (l : Launch) (D : va_G) (cI : ClassId) (sd : Nat → Nat) (ad : Nat → Nat) (fr lo : Nat) (f_body : S_Parser → S_Tokens → S_Tree → Int32 → Option (S_Parser × S_Tree)) (H_body : ∀ (o_this : S_Parser) (o_tokens : S_Tokens) (o_tree : S_Tree) (a1 : Int32) (res : S_Parser × S_Tree), f_body o_this o_tokens o_tree a1 = some res → Ctr l D cI sd yX4_body (wsM yX4_body cX4_body 5 (Option.none : Option Jvm.ClassFile.FieldType)) { frames := fr, cells := 0, slots := 0, locals := lo } [.ref (ad 22), .int a1] (w_Parser_this_tokens_tree cI ad o_this o_tokens o_tree) (w_Parser_this_tokens_tree cI ad res.1 o_tokens res.2) none) (o_this : S_Parser) (o_tokens : S_Tokens) (o_tree : S_Tree) (a1 : Int32) (res : S_Parser × S_Tree) (hM : f_Parser_ifStatement f_body o_this o_tokens o_tree a1 = some res) : Ctr l D cI sd yX4_ifStatement (wsM yX4_ifStatement cX4_ifStatement 4 (Option.none : Option Jvm.ClassFile.FieldType)) { frames := max (fr + 1) 263, cells := 0, slots := 0, locals := max (lo + 24) 6973 } [.ref (ad 22), .int a1] (w_Parser_this_tokens_tree cI ad o_this o_tokens o_tree) (w_Parser_this_tokens_tree cI ad res.1 o_tokens res.2) none := by
  refine Ctr.of (cc := cX4_ifStatement) (maxL := 4) (own := RX4) (by decide +kernel) rfl rfl (Nat.le_of_ble_eq_true rfl) ?_
  intro p e s m below meth c A ls hx hb hr hml hown hts hlk hK hE hA hP hD hS hl
  have hl : lv_has ls 4 [(0, .ref (ad 22)), (1, .int a1)] := hl
  unfold f_Parser_ifStatement at hM
  refine lv_aload_n hx hb dX4_ifStatement_0 rfl (lv_at hl 0 rfl) ?_
  refine va_get (D := D) (ci := 4) (v := .ref (ad 14)) (C := RX4) (T := TX4) (N := 12) hx hb hts layX4 hown hK hP 0 rfl rfl 1 (by decide) (hts _ (inA q398)) (fun _ h9 => h9) rfl dX4_ifStatement_1 ?_
  refine lv_iload_n hx hb dX4_ifStatement_4 rfl (lv_at hl 1 rfl) ?_
  refine lv_bipush (v := 15) hx hb dX4_ifStatement_5 (by decide) ?_
  refine lv_aload_n hx hb dX4_ifStatement_7 rfl (lv_at hl 0 rfl) ?_
  refine va_get (D := D) (ci := 4) (v := .int o_this.2.2.1) (C := RX4) (T := TX4) (N := 12) hx hb hts layX4 hown hK hP 0 rfl rfl 4 (by decide) (hts _ (inA q401)) (fun _ h9 => h9) rfl dX4_ifStatement_8 ?_
  refine lv_iconst (v := 0) hx hb dX4_ifStatement_11 (by decide) ?_
  obtain ⟨r1, hcr1, hM⟩ := ob_use hM
  refine cl_V (As := [.int a1, .int 15, .int o_this.2.2.1, .int 0]) (rest := []) (w_Parser_this_tokens_tree cI ad o_this o_tokens r1.2) (.int r1.1 :: []) ⟨hx, hb, hml, hown, hts⟩ (c_Tree_add l D cI sd ad o_tree a1 15 o_this.2.2.1 0 r1 hcr1) (cwV2 hts q622 mvX3_add rfl rfl ⟨(mxN (Nat.le_of_ble_eq_true rfl)), (mxN (Nat.le_of_ble_eq_true rfl))⟩) hK hE hA hP hD hS 5 (T := TX3) (N := 8) (ci := 3) rfl rfl [5, 6, 7, 8, 9, 10, 11, 12] rfl (by decide) rfl rfl rfl rfl rfl rfl hl.1 (Nat.le_of_ble_eq_true rfl) dX4_ifStatement_12 ⟨Nat.zero_le _, Nat.zero_le _⟩ (fun H locs hP hD hS => ?_)
  refine lv_istore_n (lv' := [(2, .int r1.1), (0, .ref (ad 22)), (1, .int a1)]) hx hb dX4_ifStatement_15 rfl hl (by decide) rfl (fun ls hl => ?_)
  refine lv_aload_n hx hb dX4_ifStatement_16 rfl (lv_at hl 1 rfl) ?_
  obtain ⟨r2, hcr2, hM⟩ := ob_use hM
  refine cl_V (As := []) (rest := []) (w_Parser_this_tokens_tree cI ad r2 o_tokens r1.2) [] ⟨hx, hb, hml, hown, hts⟩ (c_Parser_takeOpening l D cI sd ad o_this o_tokens r2 hcr2) (cwV2 hts q715 mvX4_takeOpening rfl rfl ⟨(mxN (Nat.le_of_ble_eq_true rfl)), (mxN (Nat.le_of_ble_eq_true rfl))⟩) hK hE hA hP hD hS 0 (T := TX4) (N := 12) (ci := 4) rfl rfl [0, 1, 2, 3, 4] rfl (by decide) rfl rfl rfl rfl rfl rfl hl.1 (Nat.le_of_ble_eq_true rfl) dX4_ifStatement_17 ⟨Nat.zero_le _, Nat.zero_le _⟩ (fun H locs hP hD hS => ?_)
  refine lv_aload_n hx hb dX4_ifStatement_20 rfl (lv_at hl 1 rfl) ?_
  refine lv_iload_n hx hb dX4_ifStatement_21 rfl (lv_at hl 0 rfl) ?_
  obtain ⟨r3, hcr3, hM⟩ := ob_use hM
  refine cl_V (As := [.int r1.1]) (rest := []) (w_Parser_this_tokens_tree cI ad r3.1 o_tokens r3.2) [] ⟨hx, hb, hml, hown, hts⟩ (c_Parser_outermostExpression l D cI sd ad r2 o_tokens r1.2 r1.1 r3 hcr3) (cwV2 hts q723 mvX4_outermostExpression rfl rfl ⟨(mxN (Nat.le_of_ble_eq_true rfl)), (mxN (Nat.le_of_ble_eq_true rfl))⟩) hK hE hA hP hD hS 0 (T := TX4) (N := 12) (ci := 4) rfl rfl [0, 1, 2, 3, 4, 5, 6, 7, 8, 9, 10, 11, 12] rfl (by decide) rfl rfl rfl rfl rfl rfl hl.1 (Nat.le_of_ble_eq_true rfl) dX4_ifStatement_22 ⟨Nat.zero_le _, Nat.zero_le _⟩ (fun H locs hP hD hS => ?_)
  refine lv_aload_n hx hb dX4_ifStatement_25 rfl (lv_at hl 1 rfl) ?_
  refine lv_sipush (v := 273) hx hb dX4_ifStatement_26 (by decide) ?_
  obtain ⟨r4, hcr4, hM⟩ := ob_use hM
  refine cl_V (As := [.int 273]) (rest := []) (w_Parser_this_tokens_tree cI ad r4 o_tokens r3.2) [] ⟨hx, hb, hml, hown, hts⟩ (c_Parser_take l D cI sd ad r3.1 o_tokens 273 r4 hcr4) (cwV2 hts q614 mvX4_take rfl rfl ⟨(mxN (Nat.le_of_ble_eq_true rfl)), (mxN (Nat.le_of_ble_eq_true rfl))⟩) hK hE hA hP hD hS 0 (T := TX4) (N := 12) (ci := 4) rfl rfl [0, 1, 2, 3, 4] rfl (by decide) rfl rfl rfl rfl rfl rfl hl.1 (Nat.le_of_ble_eq_true rfl) dX4_ifStatement_29 ⟨Nat.zero_le _, Nat.zero_le _⟩ (fun H locs hP hD hS => ?_)
  refine lv_aload_n hx hb dX4_ifStatement_32 rfl (lv_at hl 1 rfl) ?_
  refine lv_iload_n hx hb dX4_ifStatement_33 rfl (lv_at hl 0 rfl) ?_
  obtain ⟨r5, hcr5, hM⟩ := ob_use hM
  refine cl_V (As := [.int r1.1]) (rest := []) (w_Parser_this_tokens_tree cI ad r5.1 o_tokens r5.2) [] ⟨hx, hb, hml, hown, hts⟩ (H_body r4 o_tokens r3.2 r1.1 r5 hcr5) (cwV2 hts q703 mvX4_body rfl rfl ⟨mxF0 (by decide), mxL0 (by decide)⟩) hK hE hA hP hD hS 0 (T := TX4) (N := 12) (ci := 4) rfl rfl [0, 1, 2, 3, 4, 5, 6, 7, 8, 9, 10, 11, 12] rfl (by decide) rfl rfl rfl rfl rfl rfl hl.1 (Nat.le_of_ble_eq_true rfl) dX4_ifStatement_34 ⟨Nat.zero_le _, Nat.zero_le _⟩ (fun H locs hP hD hS => ?_)
  refine lv_iconst (v := 0) hx hb dX4_ifStatement_37 (by decide) ?_
  refine lv_istore_n (lv' := [(3, .int 0), (2, .int r1.1), (0, .ref (ad 22)), (1, .int a1)]) hx hb dX4_ifStatement_38 rfl hl (by decide) rfl (fun ls hl => ?_)
  have lp_L39 : ∀ (w2_L39 : Int32) (o_tokens_L39 : S_Tokens) (n : Nat) (v3_L39 : Int32) (o_this_L39 : S_Parser) (o_tree_L39 : S_Tree) (out_L39 : S_Parser × S_Tree) (H : Heap) (locs : List Loc) (ls : Array Slot), f_Parser_ifStatement_L39 f_body w2_L39 o_tokens_L39 n v3_L39 o_this_L39 o_tree_L39 = some out_L39 → va_P D vwCl (w_Parser_this_tokens_tree cI ad o_this_L39 o_tokens_L39 o_tree_L39) H → va_D A (w_Parser_this_tokens_tree cI ad o_this_L39 o_tokens_L39 o_tree_L39) → va_S A s.heap H locs → lv_has ls 4 [(3, .int v3_L39), (2, .int w2_L39), (0, .ref (ad 22))] → (∀ (H : Heap) (locs : List Loc) (ls : Array Slot), va_P D vwCl (w_Parser_this_tokens_tree cI ad out_L39.1 o_tokens_L39 out_L39.2) H → va_D A (w_Parser_this_tokens_tree cI ad out_L39.1 o_tokens_L39 out_L39.2) → va_S A s.heap H locs → lv_has ls 4 [(2, .int w2_L39), (0, .ref (ad 22))] → W p l e { frames := max (fr + 1) 263, cells := 0, slots := 0, locals := max (lo + 24) 6973 } s m [.ref (ad 22), .int a1].toArray below meth c H locs 0 0 (MQ below (CQ D A (w_Parser_this_tokens_tree cI ad res.1 o_tokens res.2) none) [.ref (ad 22), .int a1].toArray s 0 0 A) (F0 m 86 ls [])) → W p l e { frames := max (fr + 1) 263, cells := 0, slots := 0, locals := max (lo + 24) 6973 } s m [.ref (ad 22), .int a1].toArray below meth c H locs 0 0 (MQ below (CQ D A (w_Parser_this_tokens_tree cI ad res.1 o_tokens res.2) none) [.ref (ad 22), .int a1].toArray s 0 0 A) (F0 m 39 ls []) := by
    intro w2_L39 o_tokens_L39 n
    induction n with
    | zero => intro v3_L39 o_this_L39 o_tree_L39 out_L39 H locs ls hM; exact absurd (show none = some _ from hM) (by simp)
    | succ n ih_L39 =>
      intro v3_L39 o_this_L39 o_tree_L39 out_L39 H locs ls hM hP hD hS hl kx_L39
      rw [f_Parser_ifStatement_L39] at hM
      refine lv_iload_n hx hb dX4_ifStatement_39 rfl (lv_at hl 0 rfl) ?_
      refine lv_sipush (v := 8192) hx hb dX4_ifStatement_40 (by decide) ?_
      refine lv_icmp_ge (tgt := 86) hx hb dX4_ifStatement_43 (by decide) (fun c1491 => ?_) (fun c1491 => ?_)
      · replace hM := if_t c1491 hM
        cases hM
        exact kx_L39 _ _ _ hP hD hS (lv_sub hl [1, 2] rfl)
      · replace hM := if_f c1491 hM
        refine lv_aload_n hx hb dX4_ifStatement_46 rfl (lv_at hl 2 rfl) ?_
        refine va_get (D := D) (ci := 4) (v := .int o_this_L39.2.1) (C := RX4) (T := TX4) (N := 12) hx hb hts layX4 hown hK hP 0 rfl rfl 3 (by decide) (hts _ (inA q400)) (fun _ h9 => h9) rfl dX4_ifStatement_47 ?_
        refine lv_sipush (v := 274) hx hb dX4_ifStatement_50 (by decide) ?_
        refine lv_icmp_ne (tgt := 86) hx hb dX4_ifStatement_53 (by decide) (fun c1492 => ?_) (fun c1492 => ?_)
        · replace hM := if_f c1492 hM
          cases hM
          exact kx_L39 _ _ _ hP hD hS (lv_sub hl [1, 2] rfl)
        · replace hM := if_t c1492 hM
          refine lv_aload_n hx hb dX4_ifStatement_56 rfl (lv_at hl 2 rfl) ?_
          refine lv_sipush (v := 274) hx hb dX4_ifStatement_57 (by decide) ?_
          obtain ⟨r1493, hcr1493, hM⟩ := ob_use hM
          refine cl_V (As := [.int 274]) (rest := []) (w_Parser_this_tokens_tree cI ad r1493 o_tokens_L39 o_tree_L39) [] ⟨hx, hb, hml, hown, hts⟩ (c_Parser_take l D cI sd ad o_this_L39 o_tokens_L39 274 r1493 hcr1493) (cwV2 hts q614 mvX4_take rfl rfl ⟨(mxN (Nat.le_of_ble_eq_true rfl)), (mxN (Nat.le_of_ble_eq_true rfl))⟩) hK hE hA hP hD hS 0 (T := TX4) (N := 12) (ci := 4) rfl rfl [0, 1, 2, 3, 4] rfl (by decide) rfl rfl rfl rfl rfl rfl hl.1 (Nat.le_of_ble_eq_true rfl) dX4_ifStatement_60 ⟨Nat.zero_le _, Nat.zero_le _⟩ (fun H locs hP hD hS => ?_)
          refine lv_aload_n hx hb dX4_ifStatement_63 rfl (lv_at hl 2 rfl) ?_
          refine lv_iload_n hx hb dX4_ifStatement_64 rfl (lv_at hl 1 rfl) ?_
          obtain ⟨r1494, hcr1494, hM⟩ := ob_use hM
          refine cl_V (As := [.int w2_L39]) (rest := []) (w_Parser_this_tokens_tree cI ad r1494.1 o_tokens_L39 r1494.2) [] ⟨hx, hb, hml, hown, hts⟩ (c_Parser_outermostExpression l D cI sd ad r1493 o_tokens_L39 o_tree_L39 w2_L39 r1494 hcr1494) (cwV2 hts q723 mvX4_outermostExpression rfl rfl ⟨(mxN (Nat.le_of_ble_eq_true rfl)), (mxN (Nat.le_of_ble_eq_true rfl))⟩) hK hE hA hP hD hS 0 (T := TX4) (N := 12) (ci := 4) rfl rfl [0, 1, 2, 3, 4, 5, 6, 7, 8, 9, 10, 11, 12] rfl (by decide) rfl rfl rfl rfl rfl rfl hl.1 (Nat.le_of_ble_eq_true rfl) dX4_ifStatement_65 ⟨Nat.zero_le _, Nat.zero_le _⟩ (fun H locs hP hD hS => ?_)
          refine lv_aload_n hx hb dX4_ifStatement_68 rfl (lv_at hl 2 rfl) ?_
          refine lv_sipush (v := 273) hx hb dX4_ifStatement_69 (by decide) ?_
          obtain ⟨r1495, hcr1495, hM⟩ := ob_use hM
          refine cl_V (As := [.int 273]) (rest := []) (w_Parser_this_tokens_tree cI ad r1495 o_tokens_L39 r1494.2) [] ⟨hx, hb, hml, hown, hts⟩ (c_Parser_take l D cI sd ad r1494.1 o_tokens_L39 273 r1495 hcr1495) (cwV2 hts q614 mvX4_take rfl rfl ⟨(mxN (Nat.le_of_ble_eq_true rfl)), (mxN (Nat.le_of_ble_eq_true rfl))⟩) hK hE hA hP hD hS 0 (T := TX4) (N := 12) (ci := 4) rfl rfl [0, 1, 2, 3, 4] rfl (by decide) rfl rfl rfl rfl rfl rfl hl.1 (Nat.le_of_ble_eq_true rfl) dX4_ifStatement_72 ⟨Nat.zero_le _, Nat.zero_le _⟩ (fun H locs hP hD hS => ?_)
          refine lv_aload_n hx hb dX4_ifStatement_75 rfl (lv_at hl 2 rfl) ?_
          refine lv_iload_n hx hb dX4_ifStatement_76 rfl (lv_at hl 1 rfl) ?_
          obtain ⟨r1496, hcr1496, hM⟩ := ob_use hM
          refine cl_V (As := [.int w2_L39]) (rest := []) (w_Parser_this_tokens_tree cI ad r1496.1 o_tokens_L39 r1496.2) [] ⟨hx, hb, hml, hown, hts⟩ (H_body r1495 o_tokens_L39 r1494.2 w2_L39 r1496 hcr1496) (cwV2 hts q703 mvX4_body rfl rfl ⟨mxF0 (by decide), mxL0 (by decide)⟩) hK hE hA hP hD hS 0 (T := TX4) (N := 12) (ci := 4) rfl rfl [0, 1, 2, 3, 4, 5, 6, 7, 8, 9, 10, 11, 12] rfl (by decide) rfl rfl rfl rfl rfl rfl hl.1 (Nat.le_of_ble_eq_true rfl) dX4_ifStatement_77 ⟨Nat.zero_le _, Nat.zero_le _⟩ (fun H locs hP hD hS => ?_)
          obtain ⟨x1497, ex1497⟩ : ∃ y : Int32, y = v3_L39 + 1 := ⟨_, rfl⟩
          replace hM := nm_use ex1497 hM
          refine lv_iinc (v := x1497) (lv' := [(3, .int x1497), (2, .int w2_L39), (0, .ref (ad 22))]) hx hb dX4_ifStatement_80 hl (k := 0) rfl (by rw [ex1497]; rfl) (by decide) rfl (fun ls hl => ?_)
          refine lv_goto (tgt := 39) hx hb dX4_ifStatement_83 (by decide) ?_
          exact ih_L39 x1497 r1496.1 r1496.2 out_L39 _ _ _ hM hP hD hS (lv_sub hl [0, 1, 2] rfl) kx_L39
  obtain ⟨r6, hcr6, hM⟩ := ob_use hM
  refine lp_L39 r1.1 o_tokens FU 0 r5.1 r5.2 r6 _ _ _ hcr6 hP hD hS (lv_sub hl [0, 1, 2] rfl) (fun H locs ls hP hD hS hl => ?_)
  refine lv_aload_n hx hb dX4_ifStatement_86 rfl (lv_at hl 1 rfl) ?_
  refine va_get (D := D) (ci := 4) (v := .int r6.1.2.1) (C := RX4) (T := TX4) (N := 12) hx hb hts layX4 hown hK hP 0 rfl rfl 3 (by decide) (hts _ (inA q400)) (fun _ h9 => h9) rfl dX4_ifStatement_87 ?_
  refine lv_sipush (v := 275) hx hb dX4_ifStatement_90 (by decide) ?_
  refine lv_icmp_ne (tgt := 108) hx hb dX4_ifStatement_93 (by decide) (fun c7 => ?_) (fun c7 => ?_)
  · replace hM := if_f c7 hM
    refine lv_aload_n hx hb dX4_ifStatement_108 rfl (lv_at hl 1 rfl) ?_
    refine lv_sipush (v := 276) hx hb dX4_ifStatement_109 (by decide) ?_
    obtain ⟨r8, hcr8, hM⟩ := ob_use hM
    refine cl_V (As := [.int 276]) (rest := []) (w_Parser_this_tokens_tree cI ad r8 o_tokens r6.2) [] ⟨hx, hb, hml, hown, hts⟩ (c_Parser_takeClosing l D cI sd ad r6.1 o_tokens 276 r8 hcr8) (cwV2 hts q735 mvX4_takeClosing rfl rfl ⟨(mxN (Nat.le_of_ble_eq_true rfl)), (mxN (Nat.le_of_ble_eq_true rfl))⟩) hK hE hA hP hD hS 0 (T := TX4) (N := 12) (ci := 4) rfl rfl [0, 1, 2, 3, 4] rfl (by decide) rfl rfl rfl rfl rfl rfl hl.1 (Nat.le_of_ble_eq_true rfl) dX4_ifStatement_112 ⟨Nat.zero_le _, Nat.zero_le _⟩ (fun H locs hP hD hS => ?_)
    cases hM
    exact rt_v hx hb hr hlk hP hD hS rfl dX4_ifStatement_115
  · replace hM := if_t c7 hM
    refine lv_aload_n hx hb dX4_ifStatement_96 rfl (lv_at hl 1 rfl) ?_
    refine lv_sipush (v := 275) hx hb dX4_ifStatement_97 (by decide) ?_
    obtain ⟨r9, hcr9, hM⟩ := ob_use hM
    refine cl_V (As := [.int 275]) (rest := []) (w_Parser_this_tokens_tree cI ad r9 o_tokens r6.2) [] ⟨hx, hb, hml, hown, hts⟩ (c_Parser_take l D cI sd ad r6.1 o_tokens 275 r9 hcr9) (cwV2 hts q614 mvX4_take rfl rfl ⟨(mxN (Nat.le_of_ble_eq_true rfl)), (mxN (Nat.le_of_ble_eq_true rfl))⟩) hK hE hA hP hD hS 0 (T := TX4) (N := 12) (ci := 4) rfl rfl [0, 1, 2, 3, 4] rfl (by decide) rfl rfl rfl rfl rfl rfl hl.1 (Nat.le_of_ble_eq_true rfl) dX4_ifStatement_100 ⟨Nat.zero_le _, Nat.zero_le _⟩ (fun H locs hP hD hS => ?_)
    refine lv_aload_n hx hb dX4_ifStatement_103 rfl (lv_at hl 1 rfl) ?_
    refine lv_iload_n hx hb dX4_ifStatement_104 rfl (lv_at hl 0 rfl) ?_
    obtain ⟨r10, hcr10, hM⟩ := ob_use hM
    refine cl_V (As := [.int r1.1]) (rest := []) (w_Parser_this_tokens_tree cI ad r10.1 o_tokens r10.2) [] ⟨hx, hb, hml, hown, hts⟩ (H_body r9 o_tokens r6.2 r1.1 r10 hcr10) (cwV2 hts q703 mvX4_body rfl rfl ⟨mxF0 (by decide), mxL0 (by decide)⟩) hK hE hA hP hD hS 0 (T := TX4) (N := 12) (ci := 4) rfl rfl [0, 1, 2, 3, 4, 5, 6, 7, 8, 9, 10, 11, 12] rfl (by decide) rfl rfl rfl rfl rfl rfl hl.1 (Nat.le_of_ble_eq_true rfl) dX4_ifStatement_105 ⟨Nat.zero_le _, Nat.zero_le _⟩ (fun H locs hP hD hS => ?_)
    refine lv_aload_n hx hb dX4_ifStatement_108 rfl (lv_at hl 1 rfl) ?_
    refine lv_sipush (v := 276) hx hb dX4_ifStatement_109 (by decide) ?_
    obtain ⟨r11, hcr11, hM⟩ := ob_use hM
    refine cl_V (As := [.int 276]) (rest := []) (w_Parser_this_tokens_tree cI ad r11 o_tokens r10.2) [] ⟨hx, hb, hml, hown, hts⟩ (c_Parser_takeClosing l D cI sd ad r10.1 o_tokens 276 r11 hcr11) (cwV2 hts q735 mvX4_takeClosing rfl rfl ⟨(mxN (Nat.le_of_ble_eq_true rfl)), (mxN (Nat.le_of_ble_eq_true rfl))⟩) hK hE hA hP hD hS 0 (T := TX4) (N := 12) (ci := 4) rfl rfl [0, 1, 2, 3, 4] rfl (by decide) rfl rfl rfl rfl rfl rfl hl.1 (Nat.le_of_ble_eq_true rfl) dX4_ifStatement_112 ⟨Nat.zero_le _, Nat.zero_le _⟩ (fun H locs hP hD hS => ?_)
    cases hM
    exact rt_v hx hb hr hlk hP hD hS rfl dX4_ifStatement_115
