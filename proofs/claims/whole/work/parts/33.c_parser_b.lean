set_option maxHeartbeats 4000000 in
set_option maxRecDepth 100000 in
theorem c_Parser_expression_o (l : Launch) (D : va_G) (cI : ClassId) (sd : Nat → Nat) (ad : Nat → Nat) (fr lo : Nat) (f_operand : S_Parser → S_Tokens → S_Tree → Int32 → Option (S_Parser × S_Tree)) (f_expression : S_Parser → S_Tokens → S_Tree → Int32 → Int32 → Option (S_Parser × S_Tree)) (H_operand : ∀ (o_this : S_Parser) (o_tokens : S_Tokens) (o_tree : S_Tree) (a1 : Int32) (res : S_Parser × S_Tree), f_operand o_this o_tokens o_tree a1 = some res → Ctr l D cI sd yX4_operand (wsM yX4_operand cX4_operand 3 (Option.none : Option Jvm.ClassFile.FieldType)) { frames := fr, cells := 0, slots := 0, locals := lo } [.ref (ad 22), .int a1] (w_Parser_this_tokens_tree cI ad o_this o_tokens o_tree) (w_Parser_this_tokens_tree cI ad res.1 o_tokens res.2) none) (H_expression : ∀ (o_this : S_Parser) (o_tokens : S_Tokens) (o_tree : S_Tree) (a1 : Int32) (a2 : Int32) (res : S_Parser × S_Tree), f_expression o_this o_tokens o_tree a1 a2 = some res → Ctr l D cI sd yX4_expression (wsM yX4_expression cX4_expression 7 (Option.none : Option Jvm.ClassFile.FieldType)) { frames := fr, cells := 0, slots := 0, locals := lo } [.ref (ad 22), .int a1, .int a2] (w_Parser_this_tokens_tree cI ad o_this o_tokens o_tree) (w_Parser_this_tokens_tree cI ad res.1 o_tokens res.2) none) (o_this : S_Parser) (o_tokens : S_Tokens) (o_tree : S_Tree) (a1 : Int32) (a2 : Int32) (res : S_Parser × S_Tree) (hM : f_Parser_expression_o f_operand f_expression o_this o_tokens o_tree a1 a2 = some res) : Ctr l D cI sd yX4_expression (wsM yX4_expression cX4_expression 7 (Option.none : Option Jvm.ClassFile.FieldType)) { frames := max (fr + 2) 3, cells := 0, slots := 0, locals := max (lo + 53) 89 } [.ref (ad 22), .int a1, .int a2] (w_Parser_this_tokens_tree cI ad o_this o_tokens o_tree) (w_Parser_this_tokens_tree cI ad res.1 o_tokens res.2) none := by
  refine Ctr.of (cc := cX4_expression) (maxL := 7) (own := RX4) (by decide +kernel) rfl rfl (Nat.le_of_ble_eq_true rfl) ?_
  intro p e s m below meth c A ls hx hb hr hml hown hts hlk hK hE hA hP hD hS hl
  have hl : lv_has ls 7 [(0, .ref (ad 22)), (1, .int a1), (2, .int a2)] := hl
  unfold f_Parser_expression_o at hM
  refine lv_aload_n hx hb dX4_expression_0 rfl (lv_at hl 0 rfl) ?_
  refine va_get (D := D) (ci := 4) (v := .ref (ad 14)) (C := RX4) (T := TX4) (N := 12) hx hb hts layX4 hown hK hP 0 rfl rfl 1 (by decide) (hts _ (inA q398)) (fun _ h9 => h9) rfl dX4_expression_1 ?_
  refine va_getN (D := D) (ci := 3) (v := .int o_tree.1) (C := RX3) (T := TX3) (N := 8) hx hb hts layX3 hown hK hP 5 rfl rfl 7 (by decide) (nfE10 hE) (fun _ h9 => h9) rfl dX4_expression_4 ?_
  refine lv_istore_n (lv' := [(3, .int o_tree.1), (0, .ref (ad 22)), (1, .int a1), (2, .int a2)]) hx hb dX4_expression_7 rfl hl (by decide) rfl (fun ls hl => ?_)
  refine lv_aload_n hx hb dX4_expression_8 rfl (lv_at hl 1 rfl) ?_
  refine lv_iload_n hx hb dX4_expression_9 rfl (lv_at hl 2 rfl) ?_
  obtain ⟨r1, hcr1, hM⟩ := ob_use hM
  refine cl_V (As := [.int a1]) (rest := []) (w_Parser_this_tokens_tree cI ad r1.1 o_tokens r1.2) [] ⟨hx, hb, hml, hown, hts⟩ (H_operand o_this o_tokens o_tree a1 r1 hcr1) (cwV2 hts q731 mvX4_operand rfl rfl ⟨mxF0 (by decide), mxL0 (by decide)⟩) hK hE hA hP hD hS 0 (T := TX4) (N := 12) (ci := 4) rfl rfl [0, 1, 2, 3, 4, 5, 6, 7, 8, 9, 10, 11, 12] rfl (by decide) rfl rfl rfl rfl rfl rfl hl.1 (Nat.le_of_ble_eq_true rfl) dX4_expression_10 ⟨Nat.zero_le _, Nat.zero_le _⟩ (fun H locs hP hD hS => ?_)
  refine lv_iconst (v := 0) hx hb dX4_expression_13 (by decide) ?_
  refine lv_istore (lv' := [(4, .int 0), (3, .int o_tree.1), (0, .ref (ad 22)), (1, .int a1), (2, .int a2)]) hx hb dX4_expression_14 hl (by decide) rfl (fun ls hl => ?_)
  have lp_L16 : ∀ (w3_L16 : Int32) (w2_L16 : Int32) (n : Nat) (v4_L16 : Int32) (o_this_L16 : S_Parser) (o_tree_L16 : S_Tree) (H : Heap) (locs : List Loc) (ls : Array Slot), f_Parser_expression_o_L16 f_expression o_tokens w3_L16 w2_L16 n v4_L16 o_this_L16 o_tree_L16 = some res → va_P D vwCl (w_Parser_this_tokens_tree cI ad o_this_L16 o_tokens o_tree_L16) H → va_D A (w_Parser_this_tokens_tree cI ad o_this_L16 o_tokens o_tree_L16) → va_S A s.heap H locs → lv_has ls 7 [(4, .int v4_L16), (3, .int w3_L16), (0, .ref (ad 22)), (2, .int w2_L16)] → W p l e { frames := max (fr + 2) 3, cells := 0, slots := 0, locals := max (lo + 53) 89 } s m [.ref (ad 22), .int a1, .int a2].toArray below meth c H locs 0 0 (MQ below (CQ D A (w_Parser_this_tokens_tree cI ad res.1 o_tokens res.2) none) [.ref (ad 22), .int a1, .int a2].toArray s 0 0 A) (F0 m 16 ls []) := by
    intro w3_L16 w2_L16 n
    induction n with
    | zero => intro v4_L16 o_this_L16 o_tree_L16 H locs ls hM; exact absurd (show none = some _ from hM) (by simp)
    | succ n ih_L16 =>
      intro v4_L16 o_this_L16 o_tree_L16 H locs ls hM hP hD hS hl
      rw [f_Parser_expression_o_L16] at hM
      refine lv_iload hx hb dX4_expression_16 (lv_at hl 0 rfl) ?_
      refine lv_sipush (v := 8192) hx hb dX4_expression_18 (by decide) ?_
      refine lv_icmp_ge (tgt := 103) hx hb dX4_expression_21 (by decide) (fun c1261 => ?_) (fun c1261 => ?_)
      · replace hM := if_t c1261 hM
        cases hM
        exact rt_v hx hb hr hlk hP hD hS rfl dX4_expression_103
      · replace hM := if_f c1261 hM
        refine lv_aload_n hx hb dX4_expression_24 rfl (lv_at hl 2 rfl) ?_
        refine va_get (D := D) (ci := 4) (v := .int o_this_L16.2.1) (C := RX4) (T := TX4) (N := 12) hx hb hts layX4 hown hK hP 0 rfl rfl 3 (by decide) (hts _ (inA q400)) (fun _ h9 => h9) rfl dX4_expression_25 ?_
        obtain ⟨r1262, hcr1262, hM⟩ := ob_use hM
        refine cl_S (As := [.int o_this_L16.2.1]) (rest := []) (w_Parser_this_tokens_tree cI ad o_this_L16 o_tokens o_tree_L16) (.int r1262 :: []) ⟨hx, hb, hml, hown, hts⟩ (c_Sign_operation l D cI sd ad o_this_L16.2.1 r1262 hcr1262) (cwS2 hts q747 mvX7_operation rfl rfl ⟨(mxN (Nat.le_of_ble_eq_true rfl)), (mxN (Nat.le_of_ble_eq_true rfl))⟩) hK hE hA hP hD hS [] rfl (by decide) rfl rfl rfl rfl rfl rfl hl.1 (Nat.le_of_ble_eq_true rfl) dX4_expression_28 ⟨Nat.zero_le _, Nat.zero_le _⟩ (fun H locs hP hD hS => ?_)
        refine lv_istore (lv' := [(5, .int r1262), (4, .int v4_L16), (3, .int w3_L16), (0, .ref (ad 22)), (2, .int w2_L16)]) hx hb dX4_expression_31 hl (by decide) rfl (fun ls hl => ?_)
        refine lv_iload hx hb dX4_expression_33 (lv_at hl 0 rfl) ?_
        obtain ⟨r1263, hcr1263, hM⟩ := ob_use hM
        refine cl_S (As := [.int r1262]) (rest := []) (w_Parser_this_tokens_tree cI ad o_this_L16 o_tokens o_tree_L16) (.int r1263 :: []) ⟨hx, hb, hml, hown, hts⟩ (c_Sign_binding l D cI sd ad r1262 r1263 hcr1263) (cwS2 hts q750 mvX7_binding rfl rfl ⟨(mxN (Nat.le_of_ble_eq_true rfl)), (mxN (Nat.le_of_ble_eq_true rfl))⟩) hK hE hA hP hD hS [] rfl (by decide) rfl rfl rfl rfl rfl rfl hl.1 (Nat.le_of_ble_eq_true rfl) dX4_expression_35 ⟨Nat.zero_le _, Nat.zero_le _⟩ (fun H locs hP hD hS => ?_)
        refine lv_istore (lv' := [(6, .int r1263), (5, .int r1262), (4, .int v4_L16), (3, .int w3_L16), (0, .ref (ad 22)), (2, .int w2_L16)]) hx hb dX4_expression_38 hl (by decide) rfl (fun ls hl => ?_)
        refine lv_iload hx hb dX4_expression_40 (lv_at hl 0 rfl) ?_
        refine lv_iload_n hx hb dX4_expression_42 rfl (lv_at hl 5 rfl) ?_
        refine lv_icmp_lt (tgt := 53) hx hb dX4_expression_43 (by decide) (fun c1264 => ?_) (fun c1264 => ?_)
        · replace hM := if_t c1264 hM
          cases hM
          exact rt_v hx hb hr hlk hP hD hS rfl dX4_expression_53
        · replace hM := if_f c1264 hM
          refine lv_aload_n hx hb dX4_expression_46 rfl (lv_at hl 4 rfl) ?_
          obtain ⟨r1265, hcr1265, hM⟩ := ob_use hM
          refine cl_V (As := []) (rest := []) (w_Parser_this_tokens_tree cI ad r1265.2 o_tokens o_tree_L16) (.int r1265.1 :: []) ⟨hx, hb, hml, hown, hts⟩ (c_Parser_mayOpen l D cI sd ad o_this_L16 r1265 hcr1265) (cwV2 hts q719 mvX4_mayOpen rfl rfl ⟨(mxN (Nat.le_of_ble_eq_true rfl)), (mxN (Nat.le_of_ble_eq_true rfl))⟩) hK hE hA hP hD hS 0 (T := TX4) (N := 12) (ci := 4) rfl rfl [0] rfl (by decide) rfl rfl rfl rfl rfl rfl hl.1 (Nat.le_of_ble_eq_true rfl) dX4_expression_47 ⟨Nat.zero_le _, Nat.zero_le _⟩ (fun H locs hP hD hS => ?_)
          refine lv_if_ne (tgt := 54) hx hb dX4_expression_50 (by decide) (fun c1266 => ?_) (fun c1266 => ?_)
          · replace hM := if_f c1266 hM
            refine lv_aload_n hx hb dX4_expression_54 rfl (lv_at hl 4 rfl) ?_
            refine va_get (D := D) (ci := 4) (v := .ref (ad 14)) (C := RX4) (T := TX4) (N := 12) hx hb hts layX4 hown hK hP 0 rfl rfl 1 (by decide) (hts _ (inA q398)) (fun _ h9 => h9) rfl dX4_expression_55 ?_
            refine lv_iload_n hx hb dX4_expression_58 rfl (lv_at hl 3 rfl) ?_
            refine lv_bipush (v := 35) hx hb dX4_expression_59 (by decide) ?_
            refine lv_aload_n hx hb dX4_expression_61 rfl (lv_at hl 4 rfl) ?_
            refine va_get (D := D) (ci := 4) (v := .int r1265.2.2.2.1) (C := RX4) (T := TX4) (N := 12) hx hb hts layX4 hown hK hP 0 rfl rfl 4 (by decide) (hts _ (inA q401)) (fun _ h9 => h9) rfl dX4_expression_62 ?_
            refine lv_iload hx hb dX4_expression_65 (lv_at hl 1 rfl) ?_
            obtain ⟨r1267, hcr1267, hM⟩ := ob_use hM
            refine cl_V (As := [.int w3_L16, .int 35, .int r1265.2.2.2.1, .int r1262]) (rest := []) (w_Parser_this_tokens_tree cI ad r1265.2 o_tokens r1267) [] ⟨hx, hb, hml, hown, hts⟩ (c_Tree_wrap l D cI sd ad o_tree_L16 w3_L16 35 r1265.2.2.2.1 r1262 r1267 hcr1267) (cwV2 hts q755 mvX3_wrap rfl rfl ⟨(mxN (Nat.le_of_ble_eq_true rfl)), (mxN (Nat.le_of_ble_eq_true rfl))⟩) hK hE hA hP hD hS 5 (T := TX3) (N := 8) (ci := 3) rfl rfl [5, 6, 7, 8, 9, 10, 11, 12] rfl (by decide) rfl rfl rfl rfl rfl rfl hl.1 (Nat.le_of_ble_eq_true rfl) dX4_expression_67 ⟨Nat.zero_le _, Nat.zero_le _⟩ (fun H locs hP hD hS => ?_)
            refine lv_aload_n hx hb dX4_expression_70 rfl (lv_at hl 4 rfl) ?_
            refine lv_dup hx hb dX4_expression_71 rfl ?_
            refine va_get (D := D) (ci := 4) (v := .int r1265.2.2.2.2.2.2.1) (C := RX4) (T := TX4) (N := 12) hx hb hts layX4 hown hK hP 0 rfl rfl 7 (by decide) (hts _ (inA q404)) (fun _ h9 => h9) rfl dX4_expression_72 ?_
            refine lv_iconst (v := 1) hx hb dX4_expression_75 (by decide) ?_
            refine lv_iadd hx hb dX4_expression_76 ?_
            refine va_put (D := D) (ci := 4) (v := .int (r1265.2.2.2.2.2.2.1 + 1)) (ty := .int) (C := RX4) (T := TX4) (N := 12) hx hb hts layX4 tyX4 tyX4_ok nmX4 hown hK hP hD hS 0 rfl rfl 7 (by decide) (hts _ (inA q404)) (fun _ h9 => h9) rfl (by decide +kernel) rfl rfl (Nat.le_of_ble_eq_true rfl) dX4_expression_77 (fun H locs hP hD hS => ?_)
            have hP : va_P D vwCl (w_Parser_this_tokens_tree cI ad (r1265.2.1, r1265.2.2.1, r1265.2.2.2.1, r1265.2.2.2.2.1, r1265.2.2.2.2.2.1, r1265.2.2.2.2.2.2.1 + 1, r1265.2.2.2.2.2.2.2) o_tokens r1267) H := hP
            have hD : va_D A (w_Parser_this_tokens_tree cI ad (r1265.2.1, r1265.2.2.1, r1265.2.2.2.1, r1265.2.2.2.2.1, r1265.2.2.2.2.2.1, r1265.2.2.2.2.2.2.1 + 1, r1265.2.2.2.2.2.2.2) o_tokens r1267) := hD
            refine lv_aload_n hx hb dX4_expression_80 rfl (lv_at hl 4 rfl) ?_
            refine lv_aload_n hx hb dX4_expression_81 rfl (lv_at hl 4 rfl) ?_
            refine va_get (D := D) (ci := 4) (v := .int r1265.2.2.1) (C := RX4) (T := TX4) (N := 12) hx hb hts layX4 hown hK hP 0 rfl rfl 3 (by decide) (hts _ (inA q400)) (fun _ h9 => h9) rfl dX4_expression_82 ?_
            obtain ⟨r1268, hcr1268, hM⟩ := ob_use hM
            refine cl_V (As := [.int r1265.2.2.1]) (rest := []) (w_Parser_this_tokens_tree cI ad r1268 o_tokens r1267) [] ⟨hx, hb, hml, hown, hts⟩ (c_Parser_take l D cI sd ad (r1265.2.1, r1265.2.2.1, r1265.2.2.2.1, r1265.2.2.2.2.1, r1265.2.2.2.2.2.1, r1265.2.2.2.2.2.2.1 + 1, r1265.2.2.2.2.2.2.2) o_tokens r1265.2.2.1 r1268 hcr1268) (cwV2 hts q614 mvX4_take rfl rfl ⟨(mxN (Nat.le_of_ble_eq_true rfl)), (mxN (Nat.le_of_ble_eq_true rfl))⟩) hK hE hA hP hD hS 0 (T := TX4) (N := 12) (ci := 4) rfl rfl [0, 1, 2, 3, 4] rfl (by decide) rfl rfl rfl rfl rfl rfl hl.1 (Nat.le_of_ble_eq_true rfl) dX4_expression_85 ⟨Nat.zero_le _, Nat.zero_le _⟩ (fun H locs hP hD hS => ?_)
            refine lv_aload_n hx hb dX4_expression_88 rfl (lv_at hl 4 rfl) ?_
            refine lv_iload_n hx hb dX4_expression_89 rfl (lv_at hl 3 rfl) ?_
            refine lv_iload hx hb dX4_expression_90 (lv_at hl 0 rfl) ?_
            refine lv_iconst (v := 1) hx hb dX4_expression_92 (by decide) ?_
            refine lv_iadd hx hb dX4_expression_93 ?_
            obtain ⟨r1269, hcr1269, hM⟩ := ob_use hM
            refine cl_V (As := [.int w3_L16, .int (r1263 + 1)]) (rest := []) (w_Parser_this_tokens_tree cI ad r1269.1 o_tokens r1269.2) [] ⟨hx, hb, hml, hown, hts⟩ (H_expression r1268 o_tokens r1267 w3_L16 (r1263 + 1) r1269 hcr1269) (cwV2 hts q727 mvX4_expression rfl rfl ⟨mxF0 (by decide), mxL0 (by decide)⟩) hK hE hA hP hD hS 0 (T := TX4) (N := 12) (ci := 4) rfl rfl [0, 1, 2, 3, 4, 5, 6, 7, 8, 9, 10, 11, 12] rfl (by decide) rfl rfl rfl rfl rfl rfl hl.1 (Nat.le_of_ble_eq_true rfl) dX4_expression_94 ⟨Nat.zero_le _, Nat.zero_le _⟩ (fun H locs hP hD hS => ?_)
            obtain ⟨x1270, ex1270⟩ : ∃ y : Int32, y = v4_L16 + 1 := ⟨_, rfl⟩
            replace hM := nm_use ex1270 hM
            refine lv_iinc (v := x1270) (lv' := [(4, .int x1270), (6, .int r1263), (5, .int r1262), (3, .int w3_L16), (0, .ref (ad 22)), (2, .int w2_L16)]) hx hb dX4_expression_97 hl (k := 2) rfl (by rw [ex1270]; rfl) (by decide) rfl (fun ls hl => ?_)
            refine lv_goto (tgt := 16) hx hb dX4_expression_100 (by decide) ?_
            exact ih_L16 x1270 r1269.1 r1269.2 _ _ _ hM hP hD hS (lv_sub hl [0, 3, 4, 5] rfl)
          · replace hM := if_t c1266 hM
            cases hM
            exact rt_v hx hb hr hlk hP hD hS rfl dX4_expression_53
  exact lp_L16 o_tree.1 a2 FU 0 r1.1 r1.2 _ _ _ hM hP hD hS (lv_sub hl [0, 1, 2, 4] rfl)

set_option maxHeartbeats 4000000 in
set_option maxRecDepth 100000 in
theorem c_Parser_literal (l : Launch) (D : va_G) (cI : ClassId) (sd : Nat → Nat) (ad : Nat → Nat) (o_this : S_Parser) (o_tokens : S_Tokens) (o_tree : S_Tree) (a1 : Int32) (res : S_Parser × S_Tree) (hM : f_Parser_literal o_this o_tokens o_tree a1 = some res) : Ctr l D cI sd yX4_literal (wsM yX4_literal cX4_literal 2 (Option.none : Option Jvm.ClassFile.FieldType)) { frames := 1, cells := 0, slots := 0, locals := 25 } [.ref (ad 22), .int a1] (w_Parser_this_tokens_tree cI ad o_this o_tokens o_tree) (w_Parser_this_tokens_tree cI ad res.1 o_tokens res.2) none := by
  refine Ctr.of (cc := cX4_literal) (maxL := 2) (own := RX4) (by decide +kernel) rfl rfl (Nat.le_of_ble_eq_true rfl) ?_
  intro p e s m below meth c A ls hx hb hr hml hown hts hlk hK hE hA hP hD hS hl
  have hl : lv_has ls 2 [(0, .ref (ad 22)), (1, .int a1)] := hl
  unfold f_Parser_literal at hM
  refine lv_aload_n hx hb dX4_literal_0 rfl (lv_at hl 0 rfl) ?_
  refine va_get (D := D) (ci := 4) (v := .int o_this.2.1) (C := RX4) (T := TX4) (N := 12) hx hb hts layX4 hown hK hP 0 rfl rfl 3 (by decide) (hts _ (inA q400)) (fun _ h9 => h9) rfl dX4_literal_1 ?_
  refine lv_iconst (v := 2) hx hb dX4_literal_4 (by decide) ?_
  refine lv_icmp_ne (tgt := 35) hx hb dX4_literal_5 (by decide) (fun c1 => ?_) (fun c1 => ?_)
  · replace hM := if_f c1 hM
    refine lv_aload_n hx hb dX4_literal_35 rfl (lv_at hl 0 rfl) ?_
    refine va_get (D := D) (ci := 4) (v := .int o_this.2.1) (C := RX4) (T := TX4) (N := 12) hx hb hts layX4 hown hK hP 0 rfl rfl 3 (by decide) (hts _ (inA q400)) (fun _ h9 => h9) rfl dX4_literal_36 ?_
    refine lv_sipush (v := 291) hx hb dX4_literal_39 (by decide) ?_
    refine lv_icmp_eq (tgt := 55) hx hb dX4_literal_42 (by decide) (fun c2 => ?_) (fun c2 => ?_)
    · replace hM := if_t c2 hM
      refine lv_aload_n hx hb dX4_literal_55 rfl (lv_at hl 0 rfl) ?_
      refine va_get (D := D) (ci := 4) (v := .ref (ad 14)) (C := RX4) (T := TX4) (N := 12) hx hb hts layX4 hown hK hP 0 rfl rfl 1 (by decide) (hts _ (inA q398)) (fun _ h9 => h9) rfl dX4_literal_56 ?_
      refine lv_iload_n hx hb dX4_literal_59 rfl (lv_at hl 1 rfl) ?_
      refine lv_bipush (v := 31) hx hb dX4_literal_60 (by decide) ?_
      refine lv_aload_n hx hb dX4_literal_62 rfl (lv_at hl 0 rfl) ?_
      refine va_get (D := D) (ci := 4) (v := .int o_this.2.2.1) (C := RX4) (T := TX4) (N := 12) hx hb hts layX4 hown hK hP 0 rfl rfl 4 (by decide) (hts _ (inA q401)) (fun _ h9 => h9) rfl dX4_literal_63 ?_
      refine lv_aload_n hx hb dX4_literal_66 rfl (lv_at hl 0 rfl) ?_
      refine va_get (D := D) (ci := 4) (v := .int o_this.2.1) (C := RX4) (T := TX4) (N := 12) hx hb hts layX4 hown hK hP 0 rfl rfl 3 (by decide) (hts _ (inA q400)) (fun _ h9 => h9) rfl dX4_literal_67 ?_
      refine lv_sipush (v := 291) hx hb dX4_literal_70 (by decide) ?_
      refine lv_icmp_ne (tgt := 80) hx hb dX4_literal_73 (by decide) (fun c3 => ?_) (fun c3 => ?_)
      · replace hM := if_f c3 hM
        refine lv_iconst (v := 0) hx hb dX4_literal_80 (by decide) ?_
        obtain ⟨r4, hcr4, hM⟩ := ob_use hM
        refine cl_V (As := [.int a1, .int 31, .int o_this.2.2.1, .int 0]) (rest := []) (w_Parser_this_tokens_tree cI ad o_this o_tokens r4.2) (.int r4.1 :: []) ⟨hx, hb, hml, hown, hts⟩ (c_Tree_add l D cI sd ad o_tree a1 31 o_this.2.2.1 0 r4 hcr4) (cwV2 hts q622 mvX3_add rfl rfl ⟨(Nat.le_of_ble_eq_true rfl), (Nat.le_of_ble_eq_true rfl)⟩) hK hE hA hP hD hS 5 (T := TX3) (N := 8) (ci := 3) rfl rfl [5, 6, 7, 8, 9, 10, 11, 12] rfl (by decide) rfl rfl rfl rfl rfl rfl hl.1 (Nat.le_of_ble_eq_true rfl) dX4_literal_81 ⟨Nat.zero_le _, Nat.zero_le _⟩ (fun H locs hP hD hS => ?_)
        refine lv_pop hx hb dX4_literal_84 rfl ?_
        refine lv_aload_n hx hb dX4_literal_85 rfl (lv_at hl 0 rfl) ?_
        refine lv_aload_n hx hb dX4_literal_86 rfl (lv_at hl 0 rfl) ?_
        refine va_get (D := D) (ci := 4) (v := .int o_this.2.1) (C := RX4) (T := TX4) (N := 12) hx hb hts layX4 hown hK hP 0 rfl rfl 3 (by decide) (hts _ (inA q400)) (fun _ h9 => h9) rfl dX4_literal_87 ?_
        obtain ⟨r5, hcr5, hM⟩ := ob_use hM
        refine cl_V (As := [.int o_this.2.1]) (rest := []) (w_Parser_this_tokens_tree cI ad r5 o_tokens r4.2) [] ⟨hx, hb, hml, hown, hts⟩ (c_Parser_take l D cI sd ad o_this o_tokens o_this.2.1 r5 hcr5) (cwV2 hts q614 mvX4_take rfl rfl ⟨(Nat.le_of_ble_eq_true rfl), (Nat.le_of_ble_eq_true rfl)⟩) hK hE hA hP hD hS 0 (T := TX4) (N := 12) (ci := 4) rfl rfl [0, 1, 2, 3, 4] rfl (by decide) rfl rfl rfl rfl rfl rfl hl.1 (Nat.le_of_ble_eq_true rfl) dX4_literal_90 ⟨Nat.zero_le _, Nat.zero_le _⟩ (fun H locs hP hD hS => ?_)
        refine lv_goto (tgt := 102) hx hb dX4_literal_93 (by decide) ?_
        cases hM
        exact rt_v hx hb hr hlk hP hD hS rfl dX4_literal_102
      · replace hM := if_t c3 hM
        refine lv_iconst (v := 1) hx hb dX4_literal_76 (by decide) ?_
        refine lv_goto (tgt := 81) hx hb dX4_literal_77 (by decide) ?_
        obtain ⟨r6, hcr6, hM⟩ := ob_use hM
        refine cl_V (As := [.int a1, .int 31, .int o_this.2.2.1, .int 1]) (rest := []) (w_Parser_this_tokens_tree cI ad o_this o_tokens r6.2) (.int r6.1 :: []) ⟨hx, hb, hml, hown, hts⟩ (c_Tree_add l D cI sd ad o_tree a1 31 o_this.2.2.1 1 r6 hcr6) (cwV2 hts q622 mvX3_add rfl rfl ⟨(Nat.le_of_ble_eq_true rfl), (Nat.le_of_ble_eq_true rfl)⟩) hK hE hA hP hD hS 5 (T := TX3) (N := 8) (ci := 3) rfl rfl [5, 6, 7, 8, 9, 10, 11, 12] rfl (by decide) rfl rfl rfl rfl rfl rfl hl.1 (Nat.le_of_ble_eq_true rfl) dX4_literal_81 ⟨Nat.zero_le _, Nat.zero_le _⟩ (fun H locs hP hD hS => ?_)
        refine lv_pop hx hb dX4_literal_84 rfl ?_
        refine lv_aload_n hx hb dX4_literal_85 rfl (lv_at hl 0 rfl) ?_
        refine lv_aload_n hx hb dX4_literal_86 rfl (lv_at hl 0 rfl) ?_
        refine va_get (D := D) (ci := 4) (v := .int o_this.2.1) (C := RX4) (T := TX4) (N := 12) hx hb hts layX4 hown hK hP 0 rfl rfl 3 (by decide) (hts _ (inA q400)) (fun _ h9 => h9) rfl dX4_literal_87 ?_
        obtain ⟨r7, hcr7, hM⟩ := ob_use hM
        refine cl_V (As := [.int o_this.2.1]) (rest := []) (w_Parser_this_tokens_tree cI ad r7 o_tokens r6.2) [] ⟨hx, hb, hml, hown, hts⟩ (c_Parser_take l D cI sd ad o_this o_tokens o_this.2.1 r7 hcr7) (cwV2 hts q614 mvX4_take rfl rfl ⟨(Nat.le_of_ble_eq_true rfl), (Nat.le_of_ble_eq_true rfl)⟩) hK hE hA hP hD hS 0 (T := TX4) (N := 12) (ci := 4) rfl rfl [0, 1, 2, 3, 4] rfl (by decide) rfl rfl rfl rfl rfl rfl hl.1 (Nat.le_of_ble_eq_true rfl) dX4_literal_90 ⟨Nat.zero_le _, Nat.zero_le _⟩ (fun H locs hP hD hS => ?_)
        refine lv_goto (tgt := 102) hx hb dX4_literal_93 (by decide) ?_
        cases hM
        exact rt_v hx hb hr hlk hP hD hS rfl dX4_literal_102
    · replace hM := if_f c2 hM
      refine lv_aload_n hx hb dX4_literal_45 rfl (lv_at hl 0 rfl) ?_
      refine va_get (D := D) (ci := 4) (v := .int o_this.2.1) (C := RX4) (T := TX4) (N := 12) hx hb hts layX4 hown hK hP 0 rfl rfl 3 (by decide) (hts _ (inA q400)) (fun _ h9 => h9) rfl dX4_literal_46 ?_
      refine lv_sipush (v := 292) hx hb dX4_literal_49 (by decide) ?_
      refine lv_icmp_ne (tgt := 96) hx hb dX4_literal_52 (by decide) (fun c8 => ?_) (fun c8 => ?_)
      · replace hM := if_f c8 hM
        refine lv_aload_n hx hb dX4_literal_96 rfl (lv_at hl 0 rfl) ?_
        refine lv_bipush (v := 6) hx hb dX4_literal_97 (by decide) ?_
        refine va_put (D := D) (ci := 4) (v := .int 6) (ty := .int) (C := RX4) (T := TX4) (N := 12) hx hb hts layX4 tyX4 tyX4_ok nmX4 hown hK hP hD hS 0 rfl rfl 3 (by decide) (hts _ (inA q400)) (fun _ h9 => h9) rfl (by decide +kernel) rfl rfl (Nat.le_of_ble_eq_true rfl) dX4_literal_99 (fun H locs hP hD hS => ?_)
        have hP : va_P D vwCl (w_Parser_this_tokens_tree cI ad (o_this.1, 6, o_this.2.2) o_tokens o_tree) H := hP
        have hD : va_D A (w_Parser_this_tokens_tree cI ad (o_this.1, 6, o_this.2.2) o_tokens o_tree) := hD
        cases hM
        exact rt_v hx hb hr hlk hP hD hS rfl dX4_literal_102
      · replace hM := if_t c8 hM
        refine lv_aload_n hx hb dX4_literal_55 rfl (lv_at hl 0 rfl) ?_
        refine va_get (D := D) (ci := 4) (v := .ref (ad 14)) (C := RX4) (T := TX4) (N := 12) hx hb hts layX4 hown hK hP 0 rfl rfl 1 (by decide) (hts _ (inA q398)) (fun _ h9 => h9) rfl dX4_literal_56 ?_
        refine lv_iload_n hx hb dX4_literal_59 rfl (lv_at hl 1 rfl) ?_
        refine lv_bipush (v := 31) hx hb dX4_literal_60 (by decide) ?_
        refine lv_aload_n hx hb dX4_literal_62 rfl (lv_at hl 0 rfl) ?_
        refine va_get (D := D) (ci := 4) (v := .int o_this.2.2.1) (C := RX4) (T := TX4) (N := 12) hx hb hts layX4 hown hK hP 0 rfl rfl 4 (by decide) (hts _ (inA q401)) (fun _ h9 => h9) rfl dX4_literal_63 ?_
        refine lv_aload_n hx hb dX4_literal_66 rfl (lv_at hl 0 rfl) ?_
        refine va_get (D := D) (ci := 4) (v := .int o_this.2.1) (C := RX4) (T := TX4) (N := 12) hx hb hts layX4 hown hK hP 0 rfl rfl 3 (by decide) (hts _ (inA q400)) (fun _ h9 => h9) rfl dX4_literal_67 ?_
        refine lv_sipush (v := 291) hx hb dX4_literal_70 (by decide) ?_
        refine lv_icmp_ne (tgt := 80) hx hb dX4_literal_73 (by decide) (fun c9 => ?_) (fun c9 => ?_)
        · replace hM := if_f c9 hM
          refine lv_iconst (v := 0) hx hb dX4_literal_80 (by decide) ?_
          obtain ⟨r10, hcr10, hM⟩ := ob_use hM
          refine cl_V (As := [.int a1, .int 31, .int o_this.2.2.1, .int 0]) (rest := []) (w_Parser_this_tokens_tree cI ad o_this o_tokens r10.2) (.int r10.1 :: []) ⟨hx, hb, hml, hown, hts⟩ (c_Tree_add l D cI sd ad o_tree a1 31 o_this.2.2.1 0 r10 hcr10) (cwV2 hts q622 mvX3_add rfl rfl ⟨(Nat.le_of_ble_eq_true rfl), (Nat.le_of_ble_eq_true rfl)⟩) hK hE hA hP hD hS 5 (T := TX3) (N := 8) (ci := 3) rfl rfl [5, 6, 7, 8, 9, 10, 11, 12] rfl (by decide) rfl rfl rfl rfl rfl rfl hl.1 (Nat.le_of_ble_eq_true rfl) dX4_literal_81 ⟨Nat.zero_le _, Nat.zero_le _⟩ (fun H locs hP hD hS => ?_)
          refine lv_pop hx hb dX4_literal_84 rfl ?_
          refine lv_aload_n hx hb dX4_literal_85 rfl (lv_at hl 0 rfl) ?_
          refine lv_aload_n hx hb dX4_literal_86 rfl (lv_at hl 0 rfl) ?_
          refine va_get (D := D) (ci := 4) (v := .int o_this.2.1) (C := RX4) (T := TX4) (N := 12) hx hb hts layX4 hown hK hP 0 rfl rfl 3 (by decide) (hts _ (inA q400)) (fun _ h9 => h9) rfl dX4_literal_87 ?_
          obtain ⟨r11, hcr11, hM⟩ := ob_use hM
          refine cl_V (As := [.int o_this.2.1]) (rest := []) (w_Parser_this_tokens_tree cI ad r11 o_tokens r10.2) [] ⟨hx, hb, hml, hown, hts⟩ (c_Parser_take l D cI sd ad o_this o_tokens o_this.2.1 r11 hcr11) (cwV2 hts q614 mvX4_take rfl rfl ⟨(Nat.le_of_ble_eq_true rfl), (Nat.le_of_ble_eq_true rfl)⟩) hK hE hA hP hD hS 0 (T := TX4) (N := 12) (ci := 4) rfl rfl [0, 1, 2, 3, 4] rfl (by decide) rfl rfl rfl rfl rfl rfl hl.1 (Nat.le_of_ble_eq_true rfl) dX4_literal_90 ⟨Nat.zero_le _, Nat.zero_le _⟩ (fun H locs hP hD hS => ?_)
          refine lv_goto (tgt := 102) hx hb dX4_literal_93 (by decide) ?_
          cases hM
          exact rt_v hx hb hr hlk hP hD hS rfl dX4_literal_102
        · replace hM := if_t c9 hM
          refine lv_iconst (v := 1) hx hb dX4_literal_76 (by decide) ?_
          refine lv_goto (tgt := 81) hx hb dX4_literal_77 (by decide) ?_
          obtain ⟨r12, hcr12, hM⟩ := ob_use hM
          refine cl_V (As := [.int a1, .int 31, .int o_this.2.2.1, .int 1]) (rest := []) (w_Parser_this_tokens_tree cI ad o_this o_tokens r12.2) (.int r12.1 :: []) ⟨hx, hb, hml, hown, hts⟩ (c_Tree_add l D cI sd ad o_tree a1 31 o_this.2.2.1 1 r12 hcr12) (cwV2 hts q622 mvX3_add rfl rfl ⟨(Nat.le_of_ble_eq_true rfl), (Nat.le_of_ble_eq_true rfl)⟩) hK hE hA hP hD hS 5 (T := TX3) (N := 8) (ci := 3) rfl rfl [5, 6, 7, 8, 9, 10, 11, 12] rfl (by decide) rfl rfl rfl rfl rfl rfl hl.1 (Nat.le_of_ble_eq_true rfl) dX4_literal_81 ⟨Nat.zero_le _, Nat.zero_le _⟩ (fun H locs hP hD hS => ?_)
          refine lv_pop hx hb dX4_literal_84 rfl ?_
          refine lv_aload_n hx hb dX4_literal_85 rfl (lv_at hl 0 rfl) ?_
          refine lv_aload_n hx hb dX4_literal_86 rfl (lv_at hl 0 rfl) ?_
          refine va_get (D := D) (ci := 4) (v := .int o_this.2.1) (C := RX4) (T := TX4) (N := 12) hx hb hts layX4 hown hK hP 0 rfl rfl 3 (by decide) (hts _ (inA q400)) (fun _ h9 => h9) rfl dX4_literal_87 ?_
          obtain ⟨r13, hcr13, hM⟩ := ob_use hM
          refine cl_V (As := [.int o_this.2.1]) (rest := []) (w_Parser_this_tokens_tree cI ad r13 o_tokens r12.2) [] ⟨hx, hb, hml, hown, hts⟩ (c_Parser_take l D cI sd ad o_this o_tokens o_this.2.1 r13 hcr13) (cwV2 hts q614 mvX4_take rfl rfl ⟨(Nat.le_of_ble_eq_true rfl), (Nat.le_of_ble_eq_true rfl)⟩) hK hE hA hP hD hS 0 (T := TX4) (N := 12) (ci := 4) rfl rfl [0, 1, 2, 3, 4] rfl (by decide) rfl rfl rfl rfl rfl rfl hl.1 (Nat.le_of_ble_eq_true rfl) dX4_literal_90 ⟨Nat.zero_le _, Nat.zero_le _⟩ (fun H locs hP hD hS => ?_)
          refine lv_goto (tgt := 102) hx hb dX4_literal_93 (by decide) ?_
          cases hM
          exact rt_v hx hb hr hlk hP hD hS rfl dX4_literal_102
  · replace hM := if_t c1 hM
    refine lv_aload_n hx hb dX4_literal_8 rfl (lv_at hl 0 rfl) ?_
    refine va_get (D := D) (ci := 4) (v := .ref (ad 14)) (C := RX4) (T := TX4) (N := 12) hx hb hts layX4 hown hK hP 0 rfl rfl 1 (by decide) (hts _ (inA q398)) (fun _ h9 => h9) rfl dX4_literal_9 ?_
    refine lv_iload_n hx hb dX4_literal_12 rfl (lv_at hl 1 rfl) ?_
    refine lv_bipush (v := 30) hx hb dX4_literal_13 (by decide) ?_
    refine lv_aload_n hx hb dX4_literal_15 rfl (lv_at hl 0 rfl) ?_
    refine va_get (D := D) (ci := 4) (v := .int o_this.2.2.1) (C := RX4) (T := TX4) (N := 12) hx hb hts layX4 hown hK hP 0 rfl rfl 4 (by decide) (hts _ (inA q401)) (fun _ h9 => h9) rfl dX4_literal_16 ?_
    refine lv_aload_n hx hb dX4_literal_19 rfl (lv_at hl 0 rfl) ?_
    refine va_get (D := D) (ci := 4) (v := .int o_this.2.2.2.1) (C := RX4) (T := TX4) (N := 12) hx hb hts layX4 hown hK hP 0 rfl rfl 5 (by decide) (hts _ (inA q402)) (fun _ h9 => h9) rfl dX4_literal_20 ?_
    obtain ⟨r14, hcr14, hM⟩ := ob_use hM
    refine cl_V (As := [.int a1, .int 30, .int o_this.2.2.1, .int o_this.2.2.2.1]) (rest := []) (w_Parser_this_tokens_tree cI ad o_this o_tokens r14.2) (.int r14.1 :: []) ⟨hx, hb, hml, hown, hts⟩ (c_Tree_add l D cI sd ad o_tree a1 30 o_this.2.2.1 o_this.2.2.2.1 r14 hcr14) (cwV2 hts q622 mvX3_add rfl rfl ⟨(Nat.le_of_ble_eq_true rfl), (Nat.le_of_ble_eq_true rfl)⟩) hK hE hA hP hD hS 5 (T := TX3) (N := 8) (ci := 3) rfl rfl [5, 6, 7, 8, 9, 10, 11, 12] rfl (by decide) rfl rfl rfl rfl rfl rfl hl.1 (Nat.le_of_ble_eq_true rfl) dX4_literal_23 ⟨Nat.zero_le _, Nat.zero_le _⟩ (fun H locs hP hD hS => ?_)
    refine lv_pop hx hb dX4_literal_26 rfl ?_
    refine lv_aload_n hx hb dX4_literal_27 rfl (lv_at hl 0 rfl) ?_
    refine lv_iconst (v := 2) hx hb dX4_literal_28 (by decide) ?_
    obtain ⟨r15, hcr15, hM⟩ := ob_use hM
    refine cl_V (As := [.int 2]) (rest := []) (w_Parser_this_tokens_tree cI ad r15 o_tokens r14.2) [] ⟨hx, hb, hml, hown, hts⟩ (c_Parser_take l D cI sd ad o_this o_tokens 2 r15 hcr15) (cwV2 hts q614 mvX4_take rfl rfl ⟨(Nat.le_of_ble_eq_true rfl), (Nat.le_of_ble_eq_true rfl)⟩) hK hE hA hP hD hS 0 (T := TX4) (N := 12) (ci := 4) rfl rfl [0, 1, 2, 3, 4] rfl (by decide) rfl rfl rfl rfl rfl rfl hl.1 (Nat.le_of_ble_eq_true rfl) dX4_literal_29 ⟨Nat.zero_le _, Nat.zero_le _⟩ (fun H locs hP hD hS => ?_)
    refine lv_goto (tgt := 102) hx hb dX4_literal_32 (by decide) ?_
    cases hM
    exact rt_v hx hb hr hlk hP hD hS rfl dX4_literal_102

set_option maxHeartbeats 4000000 in
set_option maxRecDepth 100000 in
theorem c_Parser_nameNode (l : Launch) (D : va_G) (cI : ClassId) (sd : Nat → Nat) (ad : Nat → Nat) (o_this : S_Parser) (o_tokens : S_Tokens) (o_tree : S_Tree) (a1 : Int32) (res : S_Parser × S_Tree) (hM : f_Parser_nameNode o_this o_tokens o_tree a1 = some res) : Ctr l D cI sd yX4_nameNode (wsM yX4_nameNode cX4_nameNode 2 (Option.none : Option Jvm.ClassFile.FieldType)) { frames := 1, cells := 0, slots := 0, locals := 25 } [.ref (ad 22), .int a1] (w_Parser_this_tokens_tree cI ad o_this o_tokens o_tree) (w_Parser_this_tokens_tree cI ad res.1 o_tokens res.2) none := by
  refine Ctr.of (cc := cX4_nameNode) (maxL := 2) (own := RX4) (by decide +kernel) rfl rfl (Nat.le_of_ble_eq_true rfl) ?_
  intro p e s m below meth c A ls hx hb hr hml hown hts hlk hK hE hA hP hD hS hl
  have hl : lv_has ls 2 [(0, .ref (ad 22)), (1, .int a1)] := hl
  unfold f_Parser_nameNode at hM
  refine lv_aload_n hx hb dX4_nameNode_0 rfl (lv_at hl 0 rfl) ?_
  refine va_get (D := D) (ci := 4) (v := .ref (ad 14)) (C := RX4) (T := TX4) (N := 12) hx hb hts layX4 hown hK hP 0 rfl rfl 1 (by decide) (hts _ (inA q398)) (fun _ h9 => h9) rfl dX4_nameNode_1 ?_
  refine lv_iload_n hx hb dX4_nameNode_4 rfl (lv_at hl 1 rfl) ?_
  refine lv_bipush (v := 6) hx hb dX4_nameNode_5 (by decide) ?_
  refine lv_aload_n hx hb dX4_nameNode_7 rfl (lv_at hl 0 rfl) ?_
  refine va_get (D := D) (ci := 4) (v := .int o_this.2.2.1) (C := RX4) (T := TX4) (N := 12) hx hb hts layX4 hown hK hP 0 rfl rfl 4 (by decide) (hts _ (inA q401)) (fun _ h9 => h9) rfl dX4_nameNode_8 ?_
  refine lv_aload_n hx hb dX4_nameNode_11 rfl (lv_at hl 0 rfl) ?_
  refine va_get (D := D) (ci := 4) (v := .int o_this.2.2.2.1) (C := RX4) (T := TX4) (N := 12) hx hb hts layX4 hown hK hP 0 rfl rfl 5 (by decide) (hts _ (inA q402)) (fun _ h9 => h9) rfl dX4_nameNode_12 ?_
  obtain ⟨r1, hcr1, hM⟩ := ob_use hM
  refine cl_V (As := [.int a1, .int 6, .int o_this.2.2.1, .int o_this.2.2.2.1]) (rest := []) (w_Parser_this_tokens_tree cI ad o_this o_tokens r1.2) (.int r1.1 :: []) ⟨hx, hb, hml, hown, hts⟩ (c_Tree_add l D cI sd ad o_tree a1 6 o_this.2.2.1 o_this.2.2.2.1 r1 hcr1) (cwV2 hts q622 mvX3_add rfl rfl ⟨(Nat.le_of_ble_eq_true rfl), (Nat.le_of_ble_eq_true rfl)⟩) hK hE hA hP hD hS 5 (T := TX3) (N := 8) (ci := 3) rfl rfl [5, 6, 7, 8, 9, 10, 11, 12] rfl (by decide) rfl rfl rfl rfl rfl rfl hl.1 (Nat.le_of_ble_eq_true rfl) dX4_nameNode_15 ⟨Nat.zero_le _, Nat.zero_le _⟩ (fun H locs hP hD hS => ?_)
  refine lv_pop hx hb dX4_nameNode_18 rfl ?_
  refine lv_aload_n hx hb dX4_nameNode_19 rfl (lv_at hl 0 rfl) ?_
  refine lv_iconst (v := 1) hx hb dX4_nameNode_20 (by decide) ?_
  obtain ⟨r2, hcr2, hM⟩ := ob_use hM
  refine cl_V (As := [.int 1]) (rest := []) (w_Parser_this_tokens_tree cI ad r2 o_tokens r1.2) [] ⟨hx, hb, hml, hown, hts⟩ (c_Parser_take l D cI sd ad o_this o_tokens 1 r2 hcr2) (cwV2 hts q614 mvX4_take rfl rfl ⟨(Nat.le_of_ble_eq_true rfl), (Nat.le_of_ble_eq_true rfl)⟩) hK hE hA hP hD hS 0 (T := TX4) (N := 12) (ci := 4) rfl rfl [0, 1, 2, 3, 4] rfl (by decide) rfl rfl rfl rfl rfl rfl hl.1 (Nat.le_of_ble_eq_true rfl) dX4_nameNode_21 ⟨Nat.zero_le _, Nat.zero_le _⟩ (fun H locs hP hD hS => ?_)
  cases hM
  exact rt_v hx hb hr hlk hP hD hS rfl dX4_nameNode_24

set_option maxHeartbeats 4000000 in
set_option maxRecDepth 100000 in
theorem c_Parser_takeClosing (l : Launch) (D : va_G) (cI : ClassId) (sd : Nat → Nat) (ad : Nat → Nat) (o_this : S_Parser) (o_tokens : S_Tokens) (a1 : Int32) (res : S_Parser) (hM : f_Parser_takeClosing o_this o_tokens a1 = some res) : Ctr l D cI sd yX4_takeClosing (wsM yX4_takeClosing cX4_takeClosing 2 (Option.none : Option Jvm.ClassFile.FieldType)) { frames := 1, cells := 0, slots := 0, locals := 22 } [.ref (ad 22), .int a1] (w_Parser_this_tokens cI ad o_this o_tokens) (w_Parser_this_tokens cI ad res o_tokens) none := by
  refine Ctr.of (cc := cX4_takeClosing) (maxL := 2) (own := RX4) (by decide +kernel) rfl rfl (Nat.le_of_ble_eq_true rfl) ?_
  intro p e s m below meth c A ls hx hb hr hml hown hts hlk hK hE hA hP hD hS hl
  have hl : lv_has ls 2 [(0, .ref (ad 22)), (1, .int a1)] := hl
  unfold f_Parser_takeClosing at hM
  refine lv_aload_n hx hb dX4_takeClosing_0 rfl (lv_at hl 0 rfl) ?_
  refine lv_dup hx hb dX4_takeClosing_1 rfl ?_
  refine va_get (D := D) (ci := 4) (v := .int o_this.2.2.2.2.2.2.1) (C := RX4) (T := TX4) (N := 12) hx hb hts layX4 hown hK hP 0 rfl rfl 8 (by decide) (hts _ (inA q405)) (fun _ h9 => h9) rfl dX4_takeClosing_2 ?_
  refine lv_iconst (v := 1) hx hb dX4_takeClosing_5 (by decide) ?_
  refine lv_isub hx hb dX4_takeClosing_6 ?_
  refine va_put (D := D) (ci := 4) (v := .int (o_this.2.2.2.2.2.2.1 - 1)) (ty := .int) (C := RX4) (T := TX4) (N := 12) hx hb hts layX4 tyX4 tyX4_ok nmX4 hown hK hP hD hS 0 rfl rfl 8 (by decide) (hts _ (inA q405)) (fun _ h9 => h9) rfl (by decide +kernel) rfl rfl (Nat.le_of_ble_eq_true rfl) dX4_takeClosing_7 (fun H locs hP hD hS => ?_)
  have hP : va_P D vwCl (w_Parser_this_tokens cI ad (o_this.1, o_this.2.1, o_this.2.2.1, o_this.2.2.2.1, o_this.2.2.2.2.1, o_this.2.2.2.2.2.1, o_this.2.2.2.2.2.2.1 - 1, o_this.2.2.2.2.2.2.2) o_tokens) H := hP
  have hD : va_D A (w_Parser_this_tokens cI ad (o_this.1, o_this.2.1, o_this.2.2.1, o_this.2.2.2.1, o_this.2.2.2.2.1, o_this.2.2.2.2.2.1, o_this.2.2.2.2.2.2.1 - 1, o_this.2.2.2.2.2.2.2) o_tokens) := hD
  refine lv_aload_n hx hb dX4_takeClosing_10 rfl (lv_at hl 0 rfl) ?_
  refine lv_iload_n hx hb dX4_takeClosing_11 rfl (lv_at hl 1 rfl) ?_
  obtain ⟨r1, hcr1, hM⟩ := ob_use hM
  refine cl_V (As := [.int a1]) (rest := []) (w_Parser_this_tokens cI ad r1 o_tokens) [] ⟨hx, hb, hml, hown, hts⟩ (c_Parser_take l D cI sd ad (o_this.1, o_this.2.1, o_this.2.2.1, o_this.2.2.2.1, o_this.2.2.2.2.1, o_this.2.2.2.2.2.1, o_this.2.2.2.2.2.2.1 - 1, o_this.2.2.2.2.2.2.2) o_tokens a1 r1 hcr1) (cwV2 hts q614 mvX4_take rfl rfl ⟨(Nat.le_of_ble_eq_true rfl), (Nat.le_of_ble_eq_true rfl)⟩) hK hE hA hP hD hS 0 (T := TX4) (N := 12) (ci := 4) rfl rfl [0, 1, 2, 3, 4] rfl (by decide) rfl rfl rfl rfl rfl rfl hl.1 (Nat.le_of_ble_eq_true rfl) dX4_takeClosing_12 ⟨Nat.zero_le _, Nat.zero_le _⟩ (fun H locs hP hD hS => ?_)
  cases hM
  exact rt_v hx hb hr hlk hP hD hS rfl dX4_takeClosing_15

set_option maxHeartbeats 4000000 in
set_option maxRecDepth 100000 in
theorem c_Parser_takeComma (l : Launch) (D : va_G) (cI : ClassId) (sd : Nat → Nat) (ad : Nat → Nat) (o_this : S_Parser) (o_tokens : S_Tokens) (res : Int32 × S_Parser) (hM : f_Parser_takeComma o_this o_tokens = some res) : Ctr l D cI sd yX4_takeComma (wsM yX4_takeComma cX4_takeComma 1 (Option.some Jvm.ClassFile.FieldType.boolean)) { frames := 1, cells := 0, slots := 0, locals := 22 } [.ref (ad 22)] (w_Parser_this_tokens cI ad o_this o_tokens) (w_Parser_this_tokens cI ad res.2 o_tokens) (some (.int res.1)) := by
  refine Ctr.of (cc := cX4_takeComma) (maxL := 1) (own := RX4) (by decide +kernel) rfl rfl (Nat.le_of_ble_eq_true rfl) ?_
  intro p e s m below meth c A ls hx hb hr hml hown hts hlk hK hE hA hP hD hS hl
  have hl : lv_has ls 1 [(0, .ref (ad 22))] := hl
  unfold f_Parser_takeComma at hM
  refine lv_aload_n hx hb dX4_takeComma_0 rfl (lv_at hl 0 rfl) ?_
  refine va_get (D := D) (ci := 4) (v := .int o_this.2.1) (C := RX4) (T := TX4) (N := 12) hx hb hts layX4 hown hK hP 0 rfl rfl 3 (by decide) (hts _ (inA q400)) (fun _ h9 => h9) rfl dX4_takeComma_1 ?_
  refine lv_bipush (v := 44) hx hb dX4_takeComma_4 (by decide) ?_
  refine lv_icmp_eq (tgt := 11) hx hb dX4_takeComma_6 (by decide) (fun c1 => ?_) (fun c1 => ?_)
  · replace hM := if_t c1 hM
    refine lv_aload_n hx hb dX4_takeComma_11 rfl (lv_at hl 0 rfl) ?_
    refine lv_bipush (v := 44) hx hb dX4_takeComma_12 (by decide) ?_
    obtain ⟨r2, hcr2, hM⟩ := ob_use hM
    refine cl_V (As := [.int 44]) (rest := []) (w_Parser_this_tokens cI ad r2 o_tokens) [] ⟨hx, hb, hml, hown, hts⟩ (c_Parser_take l D cI sd ad o_this o_tokens 44 r2 hcr2) (cwV2 hts q614 mvX4_take rfl rfl ⟨(Nat.le_of_ble_eq_true rfl), (Nat.le_of_ble_eq_true rfl)⟩) hK hE hA hP hD hS 0 (T := TX4) (N := 12) (ci := 4) rfl rfl [0, 1, 2, 3, 4] rfl (by decide) rfl rfl rfl rfl rfl rfl hl.1 (Nat.le_of_ble_eq_true rfl) dX4_takeComma_14 ⟨Nat.zero_le _, Nat.zero_le _⟩ (fun H locs hP hD hS => ?_)
    refine lv_iconst (v := 1) hx hb dX4_takeComma_17 (by decide) ?_
    cases hM
    exact rt_z hx hb hr hlk (by decide) hP hD hS rfl dX4_takeComma_18
  · replace hM := if_f c1 hM
    refine lv_iconst (v := 0) hx hb dX4_takeComma_9 (by decide) ?_
    cases hM
    exact rt_z hx hb hr hlk (by decide) hP hD hS rfl dX4_takeComma_10

set_option maxHeartbeats 4000000 in
set_option maxRecDepth 100000 in
theorem c_Parser_takeOpening (l : Launch) (D : va_G) (cI : ClassId) (sd : Nat → Nat) (ad : Nat → Nat) (o_this : S_Parser) (o_tokens : S_Tokens) (res : S_Parser) (hM : f_Parser_takeOpening o_this o_tokens = some res) : Ctr l D cI sd yX4_takeOpening (wsM yX4_takeOpening cX4_takeOpening 1 (Option.none : Option Jvm.ClassFile.FieldType)) { frames := 1, cells := 0, slots := 0, locals := 22 } [.ref (ad 22)] (w_Parser_this_tokens cI ad o_this o_tokens) (w_Parser_this_tokens cI ad res o_tokens) none := by
  refine Ctr.of (cc := cX4_takeOpening) (maxL := 1) (own := RX4) (by decide +kernel) rfl rfl (Nat.le_of_ble_eq_true rfl) ?_
  intro p e s m below meth c A ls hx hb hr hml hown hts hlk hK hE hA hP hD hS hl
  have hl : lv_has ls 1 [(0, .ref (ad 22))] := hl
  unfold f_Parser_takeOpening at hM
  refine lv_aload_n hx hb dX4_takeOpening_0 rfl (lv_at hl 0 rfl) ?_
  obtain ⟨r1, hcr1, hM⟩ := ob_use hM
  refine cl_V (As := []) (rest := []) (w_Parser_this_tokens cI ad r1.2 o_tokens) (.int r1.1 :: []) ⟨hx, hb, hml, hown, hts⟩ (c_Parser_mayOpen l D cI sd ad o_this r1 hcr1) (cwV2 hts q719 mvX4_mayOpen rfl rfl ⟨(Nat.le_of_ble_eq_true rfl), (Nat.le_of_ble_eq_true rfl)⟩) hK hE hA hP hD hS 0 (T := TX4) (N := 12) (ci := 4) rfl rfl [0] rfl (by decide) rfl rfl rfl rfl rfl rfl hl.1 (Nat.le_of_ble_eq_true rfl) dX4_takeOpening_1 ⟨Nat.zero_le _, Nat.zero_le _⟩ (fun H locs hP hD hS => ?_)
  refine lv_if_eq (tgt := 25) hx hb dX4_takeOpening_4 (by decide) (fun c2 => ?_) (fun c2 => ?_)
  · replace hM := if_t c2 hM
    cases hM
    exact rt_v hx hb hr hlk hP hD hS rfl dX4_takeOpening_25
  · replace hM := if_f c2 hM
    refine lv_aload_n hx hb dX4_takeOpening_7 rfl (lv_at hl 0 rfl) ?_
    refine lv_dup hx hb dX4_takeOpening_8 rfl ?_
    refine va_get (D := D) (ci := 4) (v := .int r1.2.2.2.2.2.2.2.1) (C := RX4) (T := TX4) (N := 12) hx hb hts layX4 hown hK hP 0 rfl rfl 8 (by decide) (hts _ (inA q405)) (fun _ h9 => h9) rfl dX4_takeOpening_9 ?_
    refine lv_iconst (v := 1) hx hb dX4_takeOpening_12 (by decide) ?_
    refine lv_iadd hx hb dX4_takeOpening_13 ?_
    refine va_put (D := D) (ci := 4) (v := .int (r1.2.2.2.2.2.2.2.1 + 1)) (ty := .int) (C := RX4) (T := TX4) (N := 12) hx hb hts layX4 tyX4 tyX4_ok nmX4 hown hK hP hD hS 0 rfl rfl 8 (by decide) (hts _ (inA q405)) (fun _ h9 => h9) rfl (by decide +kernel) rfl rfl (Nat.le_of_ble_eq_true rfl) dX4_takeOpening_14 (fun H locs hP hD hS => ?_)
    have hP : va_P D vwCl (w_Parser_this_tokens cI ad (r1.2.1, r1.2.2.1, r1.2.2.2.1, r1.2.2.2.2.1, r1.2.2.2.2.2.1, r1.2.2.2.2.2.2.1, r1.2.2.2.2.2.2.2.1 + 1, r1.2.2.2.2.2.2.2.2) o_tokens) H := hP
    have hD : va_D A (w_Parser_this_tokens cI ad (r1.2.1, r1.2.2.1, r1.2.2.2.1, r1.2.2.2.2.1, r1.2.2.2.2.2.1, r1.2.2.2.2.2.2.1, r1.2.2.2.2.2.2.2.1 + 1, r1.2.2.2.2.2.2.2.2) o_tokens) := hD
    refine lv_aload_n hx hb dX4_takeOpening_17 rfl (lv_at hl 0 rfl) ?_
    refine lv_aload_n hx hb dX4_takeOpening_18 rfl (lv_at hl 0 rfl) ?_
    refine va_get (D := D) (ci := 4) (v := .int r1.2.2.1) (C := RX4) (T := TX4) (N := 12) hx hb hts layX4 hown hK hP 0 rfl rfl 3 (by decide) (hts _ (inA q400)) (fun _ h9 => h9) rfl dX4_takeOpening_19 ?_
    obtain ⟨r3, hcr3, hM⟩ := ob_use hM
    refine cl_V (As := [.int r1.2.2.1]) (rest := []) (w_Parser_this_tokens cI ad r3 o_tokens) [] ⟨hx, hb, hml, hown, hts⟩ (c_Parser_take l D cI sd ad (r1.2.1, r1.2.2.1, r1.2.2.2.1, r1.2.2.2.2.1, r1.2.2.2.2.2.1, r1.2.2.2.2.2.2.1, r1.2.2.2.2.2.2.2.1 + 1, r1.2.2.2.2.2.2.2.2) o_tokens r1.2.2.1 r3 hcr3) (cwV2 hts q614 mvX4_take rfl rfl ⟨(Nat.le_of_ble_eq_true rfl), (Nat.le_of_ble_eq_true rfl)⟩) hK hE hA hP hD hS 0 (T := TX4) (N := 12) (ci := 4) rfl rfl [0, 1, 2, 3, 4] rfl (by decide) rfl rfl rfl rfl rfl rfl hl.1 (Nat.le_of_ble_eq_true rfl) dX4_takeOpening_22 ⟨Nat.zero_le _, Nat.zero_le _⟩ (fun H locs hP hD hS => ?_)
    cases hM
    exact rt_v hx hb hr hlk hP hD hS rfl dX4_takeOpening_25
