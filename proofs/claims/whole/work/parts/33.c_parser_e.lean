set_option maxHeartbeats 4000000 in
set_option maxRecDepth 100000 in
theorem c_Parser_invocation (l : Launch) (D : va_G) (cI : ClassId) (sd : Nat → Nat) (ad : Nat → Nat) (o_this : S_Parser) (o_tokens : S_Tokens) (o_tree : S_Tree) (a1 : Int32) (a2 : Int32) (a3 : Int32) (res : S_Parser × S_Tree) (hM : f_Parser_invocation o_this o_tokens o_tree a1 a2 a3 = some res) : Ctr l D cI sd yX4_invocation (wsM yX4_invocation cX4_invocation 9 (Option.none : Option Jvm.ClassFile.FieldType)) { frames := 263, cells := 0, slots := 0, locals := 6973 } [.ref (ad 22), .int a1, .int a2, .int a3] (w_Parser_this_tokens_tree cI ad o_this o_tokens o_tree) (w_Parser_this_tokens_tree cI ad res.1 o_tokens res.2) none := by
  refine Ctr.of (cc := cX4_invocation) (maxL := 9) (own := RX4) (by decide +kernel) rfl rfl (Nat.le_of_ble_eq_true rfl) ?_
  intro p e s m below meth c A ls hx hb hr hml hown hts hlk hK hE hA hP hD hS hl
  have hl : lv_has ls 9 [(0, .ref (ad 22)), (1, .int a1), (2, .int a2), (3, .int a3)] := hl
  unfold f_Parser_invocation at hM
  refine lv_aload_n hx hb dX4_invocation_0 rfl (lv_at hl 0 rfl) ?_
  refine va_get (D := D) (ci := 4) (v := .ref (ad 14)) (C := RX4) (T := TX4) (N := 12) hx hb hts layX4 hown hK hP 0 rfl rfl 1 (by decide) (hts _ (inA q398)) (fun _ h9 => h9) rfl dX4_invocation_1 ?_
  refine lv_iload_n hx hb dX4_invocation_4 rfl (lv_at hl 1 rfl) ?_
  refine lv_bipush (v := 13) hx hb dX4_invocation_5 (by decide) ?_
  refine lv_iload_n hx hb dX4_invocation_7 rfl (lv_at hl 2 rfl) ?_
  refine lv_iload_n hx hb dX4_invocation_8 rfl (lv_at hl 3 rfl) ?_
  obtain ⟨r1, hcr1, hM⟩ := ob_use hM
  refine cl_V (As := [.int a1, .int 13, .int a2, .int a3]) (rest := []) (w_Parser_this_tokens_tree cI ad o_this o_tokens r1.2) (.int r1.1 :: []) ⟨hx, hb, hml, hown, hts⟩ (c_Tree_add l D cI sd ad o_tree a1 13 a2 a3 r1 hcr1) (cwV2 hts q622 mvX3_add rfl rfl ⟨(Nat.le_of_ble_eq_true rfl), (Nat.le_of_ble_eq_true rfl)⟩) hK hE hA hP hD hS 5 (T := TX3) (N := 8) (ci := 3) rfl rfl [5, 6, 7, 8, 9, 10, 11, 12] rfl (by decide) rfl rfl rfl rfl rfl rfl hl.1 (Nat.le_of_ble_eq_true rfl) dX4_invocation_9 ⟨Nat.zero_le _, Nat.zero_le _⟩ (fun H locs hP hD hS => ?_)
  refine lv_istore (lv' := [(4, .int r1.1), (0, .ref (ad 22)), (1, .int a1), (2, .int a2), (3, .int a3)]) hx hb dX4_invocation_12 hl (by decide) rfl (fun ls hl => ?_)
  refine lv_aload_n hx hb dX4_invocation_14 rfl (lv_at hl 1 rfl) ?_
  obtain ⟨r2, hcr2, hM⟩ := ob_use hM
  refine cl_V (As := []) (rest := []) (w_Parser_this_tokens_tree cI ad r2 o_tokens r1.2) [] ⟨hx, hb, hml, hown, hts⟩ (c_Parser_takeOpening l D cI sd ad o_this o_tokens r2 hcr2) (cwV2 hts q715 mvX4_takeOpening rfl rfl ⟨(Nat.le_of_ble_eq_true rfl), (Nat.le_of_ble_eq_true rfl)⟩) hK hE hA hP hD hS 0 (T := TX4) (N := 12) (ci := 4) rfl rfl [0, 1, 2, 3, 4] rfl (by decide) rfl rfl rfl rfl rfl rfl hl.1 (Nat.le_of_ble_eq_true rfl) dX4_invocation_15 ⟨Nat.zero_le _, Nat.zero_le _⟩ (fun H locs hP hD hS => ?_)
  refine lv_aload_n hx hb dX4_invocation_18 rfl (lv_at hl 1 rfl) ?_
  refine va_get (D := D) (ci := 4) (v := .int r2.2.1) (C := RX4) (T := TX4) (N := 12) hx hb hts layX4 hown hK hP 0 rfl rfl 3 (by decide) (hts _ (inA q400)) (fun _ h9 => h9) rfl dX4_invocation_19 ?_
  refine lv_bipush (v := 41) hx hb dX4_invocation_22 (by decide) ?_
  refine lv_icmp_eq (tgt := 31) hx hb dX4_invocation_24 (by decide) (fun c3 => ?_) (fun c3 => ?_)
  · replace hM := if_t c3 hM
    refine lv_iconst (v := 0) hx hb dX4_invocation_31 (by decide) ?_
    refine lv_istore (lv' := [(5, .int 0), (4, .int r1.1), (0, .ref (ad 22)), (1, .int a1), (2, .int a2), (3, .int a3)]) hx hb dX4_invocation_32 hl (by decide) rfl (fun ls hl => ?_)
    refine lv_iconst (v := 0) hx hb dX4_invocation_34 (by decide) ?_
    refine lv_istore (lv' := [(6, .int 0), (5, .int 0), (4, .int r1.1), (0, .ref (ad 22)), (1, .int a1), (2, .int a2), (3, .int a3)]) hx hb dX4_invocation_35 hl (by decide) rfl (fun ls hl => ?_)
    have lp_L37 : ∀ (w4_L37 : Int32) (o_tokens_L37 : S_Tokens) (n : Nat) (v6_L37 : Int32) (v5_L37 : Int32) (o_this_L37 : S_Parser) (o_tree_L37 : S_Tree) (out_L37 : S_Parser × S_Tree) (H : Heap) (locs : List Loc) (ls : Array Slot), f_Parser_invocation_L37 w4_L37 o_tokens_L37 n v6_L37 v5_L37 o_this_L37 o_tree_L37 = some out_L37 → va_P D vwCl (w_Parser_this_tokens_tree cI ad o_this_L37 o_tokens_L37 o_tree_L37) H → va_D A (w_Parser_this_tokens_tree cI ad o_this_L37 o_tokens_L37 o_tree_L37) → va_S A s.heap H locs → lv_has ls 9 [(6, .int v6_L37), (5, .int v5_L37), (4, .int w4_L37), (0, .ref (ad 22))] → (∀ (H : Heap) (locs : List Loc) (ls : Array Slot), va_P D vwCl (w_Parser_this_tokens_tree cI ad out_L37.1 o_tokens_L37 out_L37.2) H → va_D A (w_Parser_this_tokens_tree cI ad out_L37.1 o_tokens_L37 out_L37.2) → va_S A s.heap H locs → lv_has ls 9 [(4, .int w4_L37), (0, .ref (ad 22))] → W p l e { frames := 263, cells := 0, slots := 0, locals := 6973 } s m [.ref (ad 22), .int a1, .int a2, .int a3].toArray below meth c H locs 0 0 (MQ below (CQ D A (w_Parser_this_tokens_tree cI ad res.1 o_tokens res.2) none) [.ref (ad 22), .int a1, .int a2, .int a3].toArray s 0 0 A) (F0 m 100 ls [])) → W p l e { frames := 263, cells := 0, slots := 0, locals := 6973 } s m [.ref (ad 22), .int a1, .int a2, .int a3].toArray below meth c H locs 0 0 (MQ below (CQ D A (w_Parser_this_tokens_tree cI ad res.1 o_tokens res.2) none) [.ref (ad 22), .int a1, .int a2, .int a3].toArray s 0 0 A) (F0 m 37 ls []) := by
      intro w4_L37 o_tokens_L37 n
      induction n with
      | zero => intro v6_L37 v5_L37 o_this_L37 o_tree_L37 out_L37 H locs ls hM; exact absurd (show none = some _ from hM) (by simp)
      | succ n ih_L37 =>
        intro v6_L37 v5_L37 o_this_L37 o_tree_L37 out_L37 H locs ls hM hP hD hS hl kx_L37
        rw [f_Parser_invocation_L37] at hM
        refine lv_iload hx hb dX4_invocation_37 (lv_at hl 1 rfl) ?_
        refine lv_if_eq (tgt := 100) hx hb dX4_invocation_39 (by decide) (fun c1471 => ?_) (fun c1471 => ?_)
        · replace hM := if_t c1471 hM
          cases hM
          exact kx_L37 _ _ _ hP hD hS (lv_sub hl [2, 3] rfl)
        · replace hM := if_f c1471 hM
          refine lv_iload hx hb dX4_invocation_42 (lv_at hl 0 rfl) ?_
          refine lv_sipush (v := 8192) hx hb dX4_invocation_44 (by decide) ?_
          refine lv_icmp_ge (tgt := 100) hx hb dX4_invocation_47 (by decide) (fun c1472 => ?_) (fun c1472 => ?_)
          · replace hM := if_t c1472 hM
            cases hM
            exact kx_L37 _ _ _ hP hD hS (lv_sub hl [2, 3] rfl)
          · replace hM := if_f c1472 hM
            refine lv_aload_n hx hb dX4_invocation_50 rfl (lv_at hl 3 rfl) ?_
            refine va_get (D := D) (ci := 4) (v := .int o_this_L37.2.2.1) (C := RX4) (T := TX4) (N := 12) hx hb hts layX4 hown hK hP 0 rfl rfl 4 (by decide) (hts _ (inA q401)) (fun _ h9 => h9) rfl dX4_invocation_51 ?_
            refine lv_istore (lv' := [(7, .int o_this_L37.2.2.1), (6, .int v6_L37), (5, .int v5_L37), (4, .int w4_L37), (0, .ref (ad 22))]) hx hb dX4_invocation_54 hl (by decide) rfl (fun ls hl => ?_)
            refine lv_aload_n hx hb dX4_invocation_56 rfl (lv_at hl 4 rfl) ?_
            refine va_get (D := D) (ci := 4) (v := .ref (ad 14)) (C := RX4) (T := TX4) (N := 12) hx hb hts layX4 hown hK hP 0 rfl rfl 1 (by decide) (hts _ (inA q398)) (fun _ h9 => h9) rfl dX4_invocation_57 ?_
            refine lv_iload hx hb dX4_invocation_60 (lv_at hl 3 rfl) ?_
            refine lv_bipush (v := 14) hx hb dX4_invocation_62 (by decide) ?_
            refine lv_iload hx hb dX4_invocation_64 (lv_at hl 0 rfl) ?_
            refine lv_aload_n hx hb dX4_invocation_66 rfl (lv_at hl 4 rfl) ?_
            obtain ⟨r1473, hcr1473, hM⟩ := ob_use hM
            refine cl_V (As := []) (rest := [.int o_this_L37.2.2.1, .int 14, .int w4_L37, .ref (ad 14)]) (w_Parser_this_tokens_tree cI ad r1473.2 o_tokens_L37 o_tree_L37) (.int r1473.1 :: [.int o_this_L37.2.2.1, .int 14, .int w4_L37, .ref (ad 14)]) ⟨hx, hb, hml, hown, hts⟩ (c_Parser_takeName l D cI sd ad o_this_L37 o_tokens_L37 r1473 hcr1473) (cwV2 hts q637 mvX4_takeName rfl rfl ⟨(Nat.le_of_ble_eq_true rfl), (Nat.le_of_ble_eq_true rfl)⟩) hK hE hA hP hD hS 0 (T := TX4) (N := 12) (ci := 4) rfl rfl [0, 1, 2, 3, 4] rfl (by decide) rfl rfl rfl rfl rfl rfl hl.1 (Nat.le_of_ble_eq_true rfl) dX4_invocation_67 ⟨Nat.zero_le _, Nat.zero_le _⟩ (fun H locs hP hD hS => ?_)
            obtain ⟨r1474, hcr1474, hM⟩ := ob_use hM
            refine cl_V (As := [.int w4_L37, .int 14, .int o_this_L37.2.2.1, .int r1473.1]) (rest := []) (w_Parser_this_tokens_tree cI ad r1473.2 o_tokens_L37 r1474.2) (.int r1474.1 :: []) ⟨hx, hb, hml, hown, hts⟩ (c_Tree_add l D cI sd ad o_tree_L37 w4_L37 14 o_this_L37.2.2.1 r1473.1 r1474 hcr1474) (cwV2 hts q622 mvX3_add rfl rfl ⟨(Nat.le_of_ble_eq_true rfl), (Nat.le_of_ble_eq_true rfl)⟩) hK hE hA hP hD hS 5 (T := TX3) (N := 8) (ci := 3) rfl rfl [5, 6, 7, 8, 9, 10, 11, 12] rfl (by decide) rfl rfl rfl rfl rfl rfl hl.1 (Nat.le_of_ble_eq_true rfl) dX4_invocation_70 ⟨Nat.zero_le _, Nat.zero_le _⟩ (fun H locs hP hD hS => ?_)
            refine lv_istore (lv' := [(8, .int r1474.1), (7, .int o_this_L37.2.2.1), (6, .int v6_L37), (5, .int v5_L37), (4, .int w4_L37), (0, .ref (ad 22))]) hx hb dX4_invocation_73 hl (by decide) rfl (fun ls hl => ?_)
            refine lv_aload_n hx hb dX4_invocation_75 rfl (lv_at hl 5 rfl) ?_
            refine lv_sipush (v := 14909) hx hb dX4_invocation_76 (by decide) ?_
            obtain ⟨r1475, hcr1475, hM⟩ := ob_use hM
            refine cl_V (As := [.int 14909]) (rest := []) (w_Parser_this_tokens_tree cI ad r1475 o_tokens_L37 r1474.2) [] ⟨hx, hb, hml, hown, hts⟩ (c_Parser_take l D cI sd ad r1473.2 o_tokens_L37 14909 r1475 hcr1475) (cwV2 hts q614 mvX4_take rfl rfl ⟨(Nat.le_of_ble_eq_true rfl), (Nat.le_of_ble_eq_true rfl)⟩) hK hE hA hP hD hS 0 (T := TX4) (N := 12) (ci := 4) rfl rfl [0, 1, 2, 3, 4] rfl (by decide) rfl rfl rfl rfl rfl rfl hl.1 (Nat.le_of_ble_eq_true rfl) dX4_invocation_79 ⟨Nat.zero_le _, Nat.zero_le _⟩ (fun H locs hP hD hS => ?_)
            refine lv_aload_n hx hb dX4_invocation_82 rfl (lv_at hl 5 rfl) ?_
            refine lv_iload hx hb dX4_invocation_83 (lv_at hl 0 rfl) ?_
            obtain ⟨r1476, hcr1476, hM⟩ := ob_use hM
            refine cl_V (As := [.int r1474.1]) (rest := []) (w_Parser_this_tokens_tree cI ad r1476.1 o_tokens_L37 r1476.2) [] ⟨hx, hb, hml, hown, hts⟩ (c_Parser_outermostExpression l D cI sd ad r1475 o_tokens_L37 r1474.2 r1474.1 r1476 hcr1476) (cwV2 hts q723 mvX4_outermostExpression rfl rfl ⟨(Nat.le_of_ble_eq_true rfl), (Nat.le_of_ble_eq_true rfl)⟩) hK hE hA hP hD hS 0 (T := TX4) (N := 12) (ci := 4) rfl rfl [0, 1, 2, 3, 4, 5, 6, 7, 8, 9, 10, 11, 12] rfl (by decide) rfl rfl rfl rfl rfl rfl hl.1 (Nat.le_of_ble_eq_true rfl) dX4_invocation_85 ⟨Nat.zero_le _, Nat.zero_le _⟩ (fun H locs hP hD hS => ?_)
            refine lv_aload_n hx hb dX4_invocation_88 rfl (lv_at hl 5 rfl) ?_
            obtain ⟨r1477, hcr1477, hM⟩ := ob_use hM
            refine cl_V (As := []) (rest := []) (w_Parser_this_tokens_tree cI ad r1477.2 o_tokens_L37 r1476.2) (.int r1477.1 :: []) ⟨hx, hb, hml, hown, hts⟩ (c_Parser_takeComma l D cI sd ad r1476.1 o_tokens_L37 r1477 hcr1477) (cwV2 hts q743 mvX4_takeComma rfl rfl ⟨(Nat.le_of_ble_eq_true rfl), (Nat.le_of_ble_eq_true rfl)⟩) hK hE hA hP hD hS 0 (T := TX4) (N := 12) (ci := 4) rfl rfl [0, 1, 2, 3, 4] rfl (by decide) rfl rfl rfl rfl rfl rfl hl.1 (Nat.le_of_ble_eq_true rfl) dX4_invocation_89 ⟨Nat.zero_le _, Nat.zero_le _⟩ (fun H locs hP hD hS => ?_)
            refine lv_istore (lv' := [(5, .int r1477.1), (8, .int r1474.1), (7, .int o_this_L37.2.2.1), (6, .int v6_L37), (4, .int w4_L37), (0, .ref (ad 22))]) hx hb dX4_invocation_92 hl (by decide) rfl (fun ls hl => ?_)
            obtain ⟨x1478, ex1478⟩ : ∃ y : Int32, y = v6_L37 + 1 := ⟨_, rfl⟩
            replace hM := nm_use ex1478 hM
            refine lv_iinc (v := x1478) (lv' := [(6, .int x1478), (5, .int r1477.1), (8, .int r1474.1), (7, .int o_this_L37.2.2.1), (4, .int w4_L37), (0, .ref (ad 22))]) hx hb dX4_invocation_94 hl (k := 3) rfl (by rw [ex1478]; rfl) (by decide) rfl (fun ls hl => ?_)
            refine lv_goto (tgt := 37) hx hb dX4_invocation_97 (by decide) ?_
            exact ih_L37 x1478 r1477.1 r1477.2 r1476.2 out_L37 _ _ _ hM hP hD hS (lv_sub hl [0, 1, 4, 5] rfl) kx_L37
    obtain ⟨r4, hcr4, hM⟩ := ob_use hM
    refine lp_L37 r1.1 o_tokens FU 0 0 r2 r1.2 r4 _ _ _ hcr4 hP hD hS (lv_sub hl [0, 1, 2, 3] rfl) (fun H locs ls hP hD hS hl => ?_)
    refine lv_aload_n hx hb dX4_invocation_100 rfl (lv_at hl 1 rfl) ?_
    refine lv_bipush (v := 41) hx hb dX4_invocation_101 (by decide) ?_
    obtain ⟨r5, hcr5, hM⟩ := ob_use hM
    refine cl_V (As := [.int 41]) (rest := []) (w_Parser_this_tokens_tree cI ad r5 o_tokens r4.2) [] ⟨hx, hb, hml, hown, hts⟩ (c_Parser_takeClosing l D cI sd ad r4.1 o_tokens 41 r5 hcr5) (cwV2 hts q735 mvX4_takeClosing rfl rfl ⟨(Nat.le_of_ble_eq_true rfl), (Nat.le_of_ble_eq_true rfl)⟩) hK hE hA hP hD hS 0 (T := TX4) (N := 12) (ci := 4) rfl rfl [0, 1, 2, 3, 4] rfl (by decide) rfl rfl rfl rfl rfl rfl hl.1 (Nat.le_of_ble_eq_true rfl) dX4_invocation_103 ⟨Nat.zero_le _, Nat.zero_le _⟩ (fun H locs hP hD hS => ?_)
    cases hM
    exact rt_v hx hb hr hlk hP hD hS rfl dX4_invocation_106
  · replace hM := if_f c3 hM
    refine lv_iconst (v := 1) hx hb dX4_invocation_27 (by decide) ?_
    refine lv_goto (tgt := 32) hx hb dX4_invocation_28 (by decide) ?_
    refine lv_istore (lv' := [(5, .int 1), (4, .int r1.1), (0, .ref (ad 22)), (1, .int a1), (2, .int a2), (3, .int a3)]) hx hb dX4_invocation_32 hl (by decide) rfl (fun ls hl => ?_)
    refine lv_iconst (v := 0) hx hb dX4_invocation_34 (by decide) ?_
    refine lv_istore (lv' := [(6, .int 0), (5, .int 1), (4, .int r1.1), (0, .ref (ad 22)), (1, .int a1), (2, .int a2), (3, .int a3)]) hx hb dX4_invocation_35 hl (by decide) rfl (fun ls hl => ?_)
    have lp_L37 : ∀ (w4_L37 : Int32) (o_tokens_L37 : S_Tokens) (n : Nat) (v6_L37 : Int32) (v5_L37 : Int32) (o_this_L37 : S_Parser) (o_tree_L37 : S_Tree) (out_L37 : S_Parser × S_Tree) (H : Heap) (locs : List Loc) (ls : Array Slot), f_Parser_invocation_L37 w4_L37 o_tokens_L37 n v6_L37 v5_L37 o_this_L37 o_tree_L37 = some out_L37 → va_P D vwCl (w_Parser_this_tokens_tree cI ad o_this_L37 o_tokens_L37 o_tree_L37) H → va_D A (w_Parser_this_tokens_tree cI ad o_this_L37 o_tokens_L37 o_tree_L37) → va_S A s.heap H locs → lv_has ls 9 [(6, .int v6_L37), (5, .int v5_L37), (4, .int w4_L37), (0, .ref (ad 22))] → (∀ (H : Heap) (locs : List Loc) (ls : Array Slot), va_P D vwCl (w_Parser_this_tokens_tree cI ad out_L37.1 o_tokens_L37 out_L37.2) H → va_D A (w_Parser_this_tokens_tree cI ad out_L37.1 o_tokens_L37 out_L37.2) → va_S A s.heap H locs → lv_has ls 9 [(4, .int w4_L37), (0, .ref (ad 22))] → W p l e { frames := 263, cells := 0, slots := 0, locals := 6973 } s m [.ref (ad 22), .int a1, .int a2, .int a3].toArray below meth c H locs 0 0 (MQ below (CQ D A (w_Parser_this_tokens_tree cI ad res.1 o_tokens res.2) none) [.ref (ad 22), .int a1, .int a2, .int a3].toArray s 0 0 A) (F0 m 100 ls [])) → W p l e { frames := 263, cells := 0, slots := 0, locals := 6973 } s m [.ref (ad 22), .int a1, .int a2, .int a3].toArray below meth c H locs 0 0 (MQ below (CQ D A (w_Parser_this_tokens_tree cI ad res.1 o_tokens res.2) none) [.ref (ad 22), .int a1, .int a2, .int a3].toArray s 0 0 A) (F0 m 37 ls []) := by
      intro w4_L37 o_tokens_L37 n
      induction n with
      | zero => intro v6_L37 v5_L37 o_this_L37 o_tree_L37 out_L37 H locs ls hM; exact absurd (show none = some _ from hM) (by simp)
      | succ n ih_L37 =>
        intro v6_L37 v5_L37 o_this_L37 o_tree_L37 out_L37 H locs ls hM hP hD hS hl kx_L37
        rw [f_Parser_invocation_L37] at hM
        refine lv_iload hx hb dX4_invocation_37 (lv_at hl 1 rfl) ?_
        refine lv_if_eq (tgt := 100) hx hb dX4_invocation_39 (by decide) (fun c1471 => ?_) (fun c1471 => ?_)
        · replace hM := if_t c1471 hM
          cases hM
          exact kx_L37 _ _ _ hP hD hS (lv_sub hl [2, 3] rfl)
        · replace hM := if_f c1471 hM
          refine lv_iload hx hb dX4_invocation_42 (lv_at hl 0 rfl) ?_
          refine lv_sipush (v := 8192) hx hb dX4_invocation_44 (by decide) ?_
          refine lv_icmp_ge (tgt := 100) hx hb dX4_invocation_47 (by decide) (fun c1472 => ?_) (fun c1472 => ?_)
          · replace hM := if_t c1472 hM
            cases hM
            exact kx_L37 _ _ _ hP hD hS (lv_sub hl [2, 3] rfl)
          · replace hM := if_f c1472 hM
            refine lv_aload_n hx hb dX4_invocation_50 rfl (lv_at hl 3 rfl) ?_
            refine va_get (D := D) (ci := 4) (v := .int o_this_L37.2.2.1) (C := RX4) (T := TX4) (N := 12) hx hb hts layX4 hown hK hP 0 rfl rfl 4 (by decide) (hts _ (inA q401)) (fun _ h9 => h9) rfl dX4_invocation_51 ?_
            refine lv_istore (lv' := [(7, .int o_this_L37.2.2.1), (6, .int v6_L37), (5, .int v5_L37), (4, .int w4_L37), (0, .ref (ad 22))]) hx hb dX4_invocation_54 hl (by decide) rfl (fun ls hl => ?_)
            refine lv_aload_n hx hb dX4_invocation_56 rfl (lv_at hl 4 rfl) ?_
            refine va_get (D := D) (ci := 4) (v := .ref (ad 14)) (C := RX4) (T := TX4) (N := 12) hx hb hts layX4 hown hK hP 0 rfl rfl 1 (by decide) (hts _ (inA q398)) (fun _ h9 => h9) rfl dX4_invocation_57 ?_
            refine lv_iload hx hb dX4_invocation_60 (lv_at hl 3 rfl) ?_
            refine lv_bipush (v := 14) hx hb dX4_invocation_62 (by decide) ?_
            refine lv_iload hx hb dX4_invocation_64 (lv_at hl 0 rfl) ?_
            refine lv_aload_n hx hb dX4_invocation_66 rfl (lv_at hl 4 rfl) ?_
            obtain ⟨r1473, hcr1473, hM⟩ := ob_use hM
            refine cl_V (As := []) (rest := [.int o_this_L37.2.2.1, .int 14, .int w4_L37, .ref (ad 14)]) (w_Parser_this_tokens_tree cI ad r1473.2 o_tokens_L37 o_tree_L37) (.int r1473.1 :: [.int o_this_L37.2.2.1, .int 14, .int w4_L37, .ref (ad 14)]) ⟨hx, hb, hml, hown, hts⟩ (c_Parser_takeName l D cI sd ad o_this_L37 o_tokens_L37 r1473 hcr1473) (cwV2 hts q637 mvX4_takeName rfl rfl ⟨(Nat.le_of_ble_eq_true rfl), (Nat.le_of_ble_eq_true rfl)⟩) hK hE hA hP hD hS 0 (T := TX4) (N := 12) (ci := 4) rfl rfl [0, 1, 2, 3, 4] rfl (by decide) rfl rfl rfl rfl rfl rfl hl.1 (Nat.le_of_ble_eq_true rfl) dX4_invocation_67 ⟨Nat.zero_le _, Nat.zero_le _⟩ (fun H locs hP hD hS => ?_)
            obtain ⟨r1474, hcr1474, hM⟩ := ob_use hM
            refine cl_V (As := [.int w4_L37, .int 14, .int o_this_L37.2.2.1, .int r1473.1]) (rest := []) (w_Parser_this_tokens_tree cI ad r1473.2 o_tokens_L37 r1474.2) (.int r1474.1 :: []) ⟨hx, hb, hml, hown, hts⟩ (c_Tree_add l D cI sd ad o_tree_L37 w4_L37 14 o_this_L37.2.2.1 r1473.1 r1474 hcr1474) (cwV2 hts q622 mvX3_add rfl rfl ⟨(Nat.le_of_ble_eq_true rfl), (Nat.le_of_ble_eq_true rfl)⟩) hK hE hA hP hD hS 5 (T := TX3) (N := 8) (ci := 3) rfl rfl [5, 6, 7, 8, 9, 10, 11, 12] rfl (by decide) rfl rfl rfl rfl rfl rfl hl.1 (Nat.le_of_ble_eq_true rfl) dX4_invocation_70 ⟨Nat.zero_le _, Nat.zero_le _⟩ (fun H locs hP hD hS => ?_)
            refine lv_istore (lv' := [(8, .int r1474.1), (7, .int o_this_L37.2.2.1), (6, .int v6_L37), (5, .int v5_L37), (4, .int w4_L37), (0, .ref (ad 22))]) hx hb dX4_invocation_73 hl (by decide) rfl (fun ls hl => ?_)
            refine lv_aload_n hx hb dX4_invocation_75 rfl (lv_at hl 5 rfl) ?_
            refine lv_sipush (v := 14909) hx hb dX4_invocation_76 (by decide) ?_
            obtain ⟨r1475, hcr1475, hM⟩ := ob_use hM
            refine cl_V (As := [.int 14909]) (rest := []) (w_Parser_this_tokens_tree cI ad r1475 o_tokens_L37 r1474.2) [] ⟨hx, hb, hml, hown, hts⟩ (c_Parser_take l D cI sd ad r1473.2 o_tokens_L37 14909 r1475 hcr1475) (cwV2 hts q614 mvX4_take rfl rfl ⟨(Nat.le_of_ble_eq_true rfl), (Nat.le_of_ble_eq_true rfl)⟩) hK hE hA hP hD hS 0 (T := TX4) (N := 12) (ci := 4) rfl rfl [0, 1, 2, 3, 4] rfl (by decide) rfl rfl rfl rfl rfl rfl hl.1 (Nat.le_of_ble_eq_true rfl) dX4_invocation_79 ⟨Nat.zero_le _, Nat.zero_le _⟩ (fun H locs hP hD hS => ?_)
            refine lv_aload_n hx hb dX4_invocation_82 rfl (lv_at hl 5 rfl) ?_
            refine lv_iload hx hb dX4_invocation_83 (lv_at hl 0 rfl) ?_
            obtain ⟨r1476, hcr1476, hM⟩ := ob_use hM
            refine cl_V (As := [.int r1474.1]) (rest := []) (w_Parser_this_tokens_tree cI ad r1476.1 o_tokens_L37 r1476.2) [] ⟨hx, hb, hml, hown, hts⟩ (c_Parser_outermostExpression l D cI sd ad r1475 o_tokens_L37 r1474.2 r1474.1 r1476 hcr1476) (cwV2 hts q723 mvX4_outermostExpression rfl rfl ⟨(Nat.le_of_ble_eq_true rfl), (Nat.le_of_ble_eq_true rfl)⟩) hK hE hA hP hD hS 0 (T := TX4) (N := 12) (ci := 4) rfl rfl [0, 1, 2, 3, 4, 5, 6, 7, 8, 9, 10, 11, 12] rfl (by decide) rfl rfl rfl rfl rfl rfl hl.1 (Nat.le_of_ble_eq_true rfl) dX4_invocation_85 ⟨Nat.zero_le _, Nat.zero_le _⟩ (fun H locs hP hD hS => ?_)
            refine lv_aload_n hx hb dX4_invocation_88 rfl (lv_at hl 5 rfl) ?_
            obtain ⟨r1477, hcr1477, hM⟩ := ob_use hM
            refine cl_V (As := []) (rest := []) (w_Parser_this_tokens_tree cI ad r1477.2 o_tokens_L37 r1476.2) (.int r1477.1 :: []) ⟨hx, hb, hml, hown, hts⟩ (c_Parser_takeComma l D cI sd ad r1476.1 o_tokens_L37 r1477 hcr1477) (cwV2 hts q743 mvX4_takeComma rfl rfl ⟨(Nat.le_of_ble_eq_true rfl), (Nat.le_of_ble_eq_true rfl)⟩) hK hE hA hP hD hS 0 (T := TX4) (N := 12) (ci := 4) rfl rfl [0, 1, 2, 3, 4] rfl (by decide) rfl rfl rfl rfl rfl rfl hl.1 (Nat.le_of_ble_eq_true rfl) dX4_invocation_89 ⟨Nat.zero_le _, Nat.zero_le _⟩ (fun H locs hP hD hS => ?_)
            refine lv_istore (lv' := [(5, .int r1477.1), (8, .int r1474.1), (7, .int o_this_L37.2.2.1), (6, .int v6_L37), (4, .int w4_L37), (0, .ref (ad 22))]) hx hb dX4_invocation_92 hl (by decide) rfl (fun ls hl => ?_)
            obtain ⟨x1478, ex1478⟩ : ∃ y : Int32, y = v6_L37 + 1 := ⟨_, rfl⟩
            replace hM := nm_use ex1478 hM
            refine lv_iinc (v := x1478) (lv' := [(6, .int x1478), (5, .int r1477.1), (8, .int r1474.1), (7, .int o_this_L37.2.2.1), (4, .int w4_L37), (0, .ref (ad 22))]) hx hb dX4_invocation_94 hl (k := 3) rfl (by rw [ex1478]; rfl) (by decide) rfl (fun ls hl => ?_)
            refine lv_goto (tgt := 37) hx hb dX4_invocation_97 (by decide) ?_
            exact ih_L37 x1478 r1477.1 r1477.2 r1476.2 out_L37 _ _ _ hM hP hD hS (lv_sub hl [0, 1, 4, 5] rfl) kx_L37
    obtain ⟨r6, hcr6, hM⟩ := ob_use hM
    refine lp_L37 r1.1 o_tokens FU 0 1 r2 r1.2 r6 _ _ _ hcr6 hP hD hS (lv_sub hl [0, 1, 2, 3] rfl) (fun H locs ls hP hD hS hl => ?_)
    refine lv_aload_n hx hb dX4_invocation_100 rfl (lv_at hl 1 rfl) ?_
    refine lv_bipush (v := 41) hx hb dX4_invocation_101 (by decide) ?_
    obtain ⟨r7, hcr7, hM⟩ := ob_use hM
    refine cl_V (As := [.int 41]) (rest := []) (w_Parser_this_tokens_tree cI ad r7 o_tokens r6.2) [] ⟨hx, hb, hml, hown, hts⟩ (c_Parser_takeClosing l D cI sd ad r6.1 o_tokens 41 r7 hcr7) (cwV2 hts q735 mvX4_takeClosing rfl rfl ⟨(Nat.le_of_ble_eq_true rfl), (Nat.le_of_ble_eq_true rfl)⟩) hK hE hA hP hD hS 0 (T := TX4) (N := 12) (ci := 4) rfl rfl [0, 1, 2, 3, 4] rfl (by decide) rfl rfl rfl rfl rfl rfl hl.1 (Nat.le_of_ble_eq_true rfl) dX4_invocation_103 ⟨Nat.zero_le _, Nat.zero_le _⟩ (fun H locs hP hD hS => ?_)
    cases hM
    exact rt_v hx hb hr hlk hP hD hS rfl dX4_invocation_106

set_option maxHeartbeats 4000000 in
set_option maxRecDepth 100000 in
theorem c_Parser_statement (l : Launch) (D : va_G) (cI : ClassId) (sd : Nat → Nat) (ad : Nat → Nat) (fr lo : Nat) (f_body : S_Parser → S_Tokens → S_Tree → Int32 → Option (S_Parser × S_Tree)) (H_body : ∀ (o_this : S_Parser) (o_tokens : S_Tokens) (o_tree : S_Tree) (a1 : Int32) (res : S_Parser × S_Tree), f_body o_this o_tokens o_tree a1 = some res → Ctr l D cI sd yX4_body (wsM yX4_body cX4_body 5 (Option.none : Option Jvm.ClassFile.FieldType)) { frames := fr, cells := 0, slots := 0, locals := lo } [.ref (ad 22), .int a1] (w_Parser_this_tokens_tree cI ad o_this o_tokens o_tree) (w_Parser_this_tokens_tree cI ad res.1 o_tokens res.2) none) (o_this : S_Parser) (o_tokens : S_Tokens) (o_tree : S_Tree) (a1 : Int32) (res : Int32 × S_Parser × S_Tree) (hM : f_Parser_statement f_body o_this o_tokens o_tree a1 = some res) : Ctr l D cI sd yX4_statement (wsM yX4_statement cX4_statement 4 (Option.some Jvm.ClassFile.FieldType.boolean)) { frames := max (fr + 2) 264, cells := 0, slots := 0, locals := max (lo + 48) 7001 } [.ref (ad 22), .int a1] (w_Parser_this_tokens_tree cI ad o_this o_tokens o_tree) (w_Parser_this_tokens_tree cI ad res.2.1 o_tokens res.2.2) (some (.int res.1)) := by
  refine Ctr.of (cc := cX4_statement) (maxL := 4) (own := RX4) (by decide +kernel) rfl rfl (Nat.le_of_ble_eq_true rfl) ?_
  intro p e s m below meth c A ls hx hb hr hml hown hts hlk hK hE hA hP hD hS hl
  have hl : lv_has ls 4 [(0, .ref (ad 22)), (1, .int a1)] := hl
  unfold f_Parser_statement at hM
  refine lv_aload_n hx hb dX4_statement_0 rfl (lv_at hl 0 rfl) ?_
  refine va_get (D := D) (ci := 4) (v := .int o_this.2.1) (C := RX4) (T := TX4) (N := 12) hx hb hts layX4 hown hK hP 0 rfl rfl 3 (by decide) (hts _ (inA q400)) (fun _ h9 => h9) rfl dX4_statement_1 ?_
  by_cases c1 : o_this.2.1 = 1
  · replace hM := if_t c1 hM
    refine lv_lookup (off := 68) (tgt := 72) hx hb dX4_statement_4 (by decide) (by exact sw_hit c1 (by decide)) (by decide) ?_
    refine lv_aload_n hx hb dX4_statement_72 rfl (lv_at hl 0 rfl) ?_
    refine va_get (D := D) (ci := 4) (v := .int o_this.2.2.1) (C := RX4) (T := TX4) (N := 12) hx hb hts layX4 hown hK hP 0 rfl rfl 4 (by decide) (hts _ (inA q401)) (fun _ h9 => h9) rfl dX4_statement_73 ?_
    refine lv_istore_n (lv' := [(2, .int o_this.2.2.1), (0, .ref (ad 22)), (1, .int a1)]) hx hb dX4_statement_76 rfl hl (by decide) rfl (fun ls hl => ?_)
    refine lv_aload_n hx hb dX4_statement_77 rfl (lv_at hl 1 rfl) ?_
    obtain ⟨r2, hcr2, hM⟩ := ob_use hM
    refine cl_V (As := []) (rest := []) (w_Parser_this_tokens_tree cI ad r2.2 o_tokens o_tree) (.int r2.1 :: []) ⟨hx, hb, hml, hown, hts⟩ (c_Parser_takeName l D cI sd ad o_this o_tokens r2 hcr2) (cwV2 hts q637 mvX4_takeName rfl rfl ⟨(mxN (Nat.le_of_ble_eq_true rfl)), (mxN (Nat.le_of_ble_eq_true rfl))⟩) hK hE hA hP hD hS 0 (T := TX4) (N := 12) (ci := 4) rfl rfl [0, 1, 2, 3, 4] rfl (by decide) rfl rfl rfl rfl rfl rfl hl.1 (Nat.le_of_ble_eq_true rfl) dX4_statement_78 ⟨Nat.zero_le _, Nat.zero_le _⟩ (fun H locs hP hD hS => ?_)
    refine lv_istore_n (lv' := [(3, .int r2.1), (2, .int o_this.2.2.1), (0, .ref (ad 22)), (1, .int a1)]) hx hb dX4_statement_81 rfl hl (by decide) rfl (fun ls hl => ?_)
    refine lv_aload_n hx hb dX4_statement_82 rfl (lv_at hl 2 rfl) ?_
    refine va_get (D := D) (ci := 4) (v := .int r2.2.2.1) (C := RX4) (T := TX4) (N := 12) hx hb hts layX4 hown hK hP 0 rfl rfl 3 (by decide) (hts _ (inA q400)) (fun _ h9 => h9) rfl dX4_statement_83 ?_
    refine lv_bipush (v := 40) hx hb dX4_statement_86 (by decide) ?_
    refine lv_icmp_ne (tgt := 101) hx hb dX4_statement_88 (by decide) (fun c3 => ?_) (fun c3 => ?_)
    · replace hM := if_f c3 hM
      refine lv_aload_n hx hb dX4_statement_101 rfl (lv_at hl 2 rfl) ?_
      refine lv_iload_n hx hb dX4_statement_102 rfl (lv_at hl 3 rfl) ?_
      refine lv_iload_n hx hb dX4_statement_103 rfl (lv_at hl 1 rfl) ?_
      refine lv_iload_n hx hb dX4_statement_104 rfl (lv_at hl 0 rfl) ?_
      obtain ⟨r4, hcr4, hM⟩ := ob_use hM
      refine cl_V (As := [.int a1, .int o_this.2.2.1, .int r2.1]) (rest := []) (w_Parser_this_tokens_tree cI ad r4.1 o_tokens r4.2) [] ⟨hx, hb, hml, hown, hts⟩ (c_Parser_assignment l D cI sd ad r2.2 o_tokens o_tree a1 o_this.2.2.1 r2.1 r4 hcr4) (cwV2 hts q766 mvX4_assignment rfl rfl ⟨(mxN (Nat.le_of_ble_eq_true rfl)), (mxN (Nat.le_of_ble_eq_true rfl))⟩) hK hE hA hP hD hS 0 (T := TX4) (N := 12) (ci := 4) rfl rfl [0, 1, 2, 3, 4, 5, 6, 7, 8, 9, 10, 11, 12] rfl (by decide) rfl rfl rfl rfl rfl rfl hl.1 (Nat.le_of_ble_eq_true rfl) dX4_statement_105 ⟨Nat.zero_le _, Nat.zero_le _⟩ (fun H locs hP hD hS => ?_)
      refine lv_goto (tgt := 192) hx hb dX4_statement_108 (by decide) ?_
      refine lv_aload_n hx hb dX4_statement_192 rfl (lv_at hl 2 rfl) ?_
      refine lv_bipush (v := 59) hx hb dX4_statement_193 (by decide) ?_
      obtain ⟨r5, hcr5, hM⟩ := ob_use hM
      refine cl_V (As := [.int 59]) (rest := []) (w_Parser_this_tokens_tree cI ad r5 o_tokens r4.2) [] ⟨hx, hb, hml, hown, hts⟩ (c_Parser_take l D cI sd ad r4.1 o_tokens 59 r5 hcr5) (cwV2 hts q614 mvX4_take rfl rfl ⟨(mxN (Nat.le_of_ble_eq_true rfl)), (mxN (Nat.le_of_ble_eq_true rfl))⟩) hK hE hA hP hD hS 0 (T := TX4) (N := 12) (ci := 4) rfl rfl [0, 1, 2, 3, 4] rfl (by decide) rfl rfl rfl rfl rfl rfl hl.1 (Nat.le_of_ble_eq_true rfl) dX4_statement_195 ⟨Nat.zero_le _, Nat.zero_le _⟩ (fun H locs hP hD hS => ?_)
      refine lv_iconst (v := 1) hx hb dX4_statement_198 (by decide) ?_
      cases hM
      exact rt_z hx hb hr hlk (by decide) hP hD hS rfl dX4_statement_199
    · replace hM := if_t c3 hM
      refine lv_aload_n hx hb dX4_statement_91 rfl (lv_at hl 2 rfl) ?_
      refine lv_iload_n hx hb dX4_statement_92 rfl (lv_at hl 3 rfl) ?_
      refine lv_iload_n hx hb dX4_statement_93 rfl (lv_at hl 1 rfl) ?_
      refine lv_iload_n hx hb dX4_statement_94 rfl (lv_at hl 0 rfl) ?_
      obtain ⟨r6, hcr6, hM⟩ := ob_use hM
      refine cl_V (As := [.int a1, .int o_this.2.2.1, .int r2.1]) (rest := []) (w_Parser_this_tokens_tree cI ad r6.1 o_tokens r6.2) [] ⟨hx, hb, hml, hown, hts⟩ (c_Parser_invocation l D cI sd ad r2.2 o_tokens o_tree a1 o_this.2.2.1 r2.1 r6 hcr6) (cwV2 hts q711 mvX4_invocation rfl rfl ⟨(mxN (Nat.le_of_ble_eq_true rfl)), (mxN (Nat.le_of_ble_eq_true rfl))⟩) hK hE hA hP hD hS 0 (T := TX4) (N := 12) (ci := 4) rfl rfl [0, 1, 2, 3, 4, 5, 6, 7, 8, 9, 10, 11, 12] rfl (by decide) rfl rfl rfl rfl rfl rfl hl.1 (Nat.le_of_ble_eq_true rfl) dX4_statement_95 ⟨Nat.zero_le _, Nat.zero_le _⟩ (fun H locs hP hD hS => ?_)
      refine lv_goto (tgt := 192) hx hb dX4_statement_98 (by decide) ?_
      refine lv_aload_n hx hb dX4_statement_192 rfl (lv_at hl 2 rfl) ?_
      refine lv_bipush (v := 59) hx hb dX4_statement_193 (by decide) ?_
      obtain ⟨r7, hcr7, hM⟩ := ob_use hM
      refine cl_V (As := [.int 59]) (rest := []) (w_Parser_this_tokens_tree cI ad r7 o_tokens r6.2) [] ⟨hx, hb, hml, hown, hts⟩ (c_Parser_take l D cI sd ad r6.1 o_tokens 59 r7 hcr7) (cwV2 hts q614 mvX4_take rfl rfl ⟨(mxN (Nat.le_of_ble_eq_true rfl)), (mxN (Nat.le_of_ble_eq_true rfl))⟩) hK hE hA hP hD hS 0 (T := TX4) (N := 12) (ci := 4) rfl rfl [0, 1, 2, 3, 4] rfl (by decide) rfl rfl rfl rfl rfl rfl hl.1 (Nat.le_of_ble_eq_true rfl) dX4_statement_195 ⟨Nat.zero_le _, Nat.zero_le _⟩ (fun H locs hP hD hS => ?_)
      refine lv_iconst (v := 1) hx hb dX4_statement_198 (by decide) ?_
      cases hM
      exact rt_z hx hb hr hlk (by decide) hP hD hS rfl dX4_statement_199
  replace hM := if_f c1 hM
  by_cases c8 : o_this.2.1 = 59
  · replace hM := if_t c8 hM
    refine lv_lookup (off := 183) (tgt := 187) hx hb dX4_statement_4 (by decide) (by rw [lv_osw c1 (by decide)]; exact sw_hit c8 (by decide)) (by decide) ?_
    refine lv_goto (tgt := 192) hx hb dX4_statement_187 (by decide) ?_
    refine lv_aload_n hx hb dX4_statement_192 rfl (lv_at hl 0 rfl) ?_
    refine lv_bipush (v := 59) hx hb dX4_statement_193 (by decide) ?_
    obtain ⟨r9, hcr9, hM⟩ := ob_use hM
    refine cl_V (As := [.int 59]) (rest := []) (w_Parser_this_tokens_tree cI ad r9 o_tokens o_tree) [] ⟨hx, hb, hml, hown, hts⟩ (c_Parser_take l D cI sd ad o_this o_tokens 59 r9 hcr9) (cwV2 hts q614 mvX4_take rfl rfl ⟨(mxN (Nat.le_of_ble_eq_true rfl)), (mxN (Nat.le_of_ble_eq_true rfl))⟩) hK hE hA hP hD hS 0 (T := TX4) (N := 12) (ci := 4) rfl rfl [0, 1, 2, 3, 4] rfl (by decide) rfl rfl rfl rfl rfl rfl hl.1 (Nat.le_of_ble_eq_true rfl) dX4_statement_195 ⟨Nat.zero_le _, Nat.zero_le _⟩ (fun H locs hP hD hS => ?_)
    refine lv_iconst (v := 1) hx hb dX4_statement_198 (by decide) ?_
    cases hM
    exact rt_z hx hb hr hlk (by decide) hP hD hS rfl dX4_statement_199
  replace hM := if_f c8 hM
  by_cases c10 : o_this.2.1 = 272
  · replace hM := if_t c10 hM
    refine lv_lookup (off := 107) (tgt := 111) hx hb dX4_statement_4 (by decide) (by rw [lv_osw c1 (by decide)]; rw [lv_osw c8 (by decide)]; exact sw_hit c10 (by decide)) (by decide) ?_
    refine lv_aload_n hx hb dX4_statement_111 rfl (lv_at hl 0 rfl) ?_
    refine lv_iload_n hx hb dX4_statement_112 rfl (lv_at hl 1 rfl) ?_
    obtain ⟨r11, hcr11, hM⟩ := ob_use hM
    refine cl_V (As := [.int a1]) (rest := []) (w_Parser_this_tokens_tree cI ad r11.1 o_tokens r11.2) [] ⟨hx, hb, hml, hown, hts⟩ (c_Parser_ifStatement l D cI sd ad fr lo f_body H_body o_this o_tokens o_tree a1 r11 hcr11) (cwV2 hts q770 mvX4_ifStatement rfl rfl ⟨mxF (by decide) (by decide), mxL (by decide) (by decide)⟩) hK hE hA hP hD hS 0 (T := TX4) (N := 12) (ci := 4) rfl rfl [0, 1, 2, 3, 4, 5, 6, 7, 8, 9, 10, 11, 12] rfl (by decide) rfl rfl rfl rfl rfl rfl hl.1 (Nat.le_of_ble_eq_true rfl) dX4_statement_113 ⟨Nat.zero_le _, Nat.zero_le _⟩ (fun H locs hP hD hS => ?_)
    refine lv_goto (tgt := 192) hx hb dX4_statement_116 (by decide) ?_
    refine lv_aload_n hx hb dX4_statement_192 rfl (lv_at hl 0 rfl) ?_
    refine lv_bipush (v := 59) hx hb dX4_statement_193 (by decide) ?_
    obtain ⟨r12, hcr12, hM⟩ := ob_use hM
    refine cl_V (As := [.int 59]) (rest := []) (w_Parser_this_tokens_tree cI ad r12 o_tokens r11.2) [] ⟨hx, hb, hml, hown, hts⟩ (c_Parser_take l D cI sd ad r11.1 o_tokens 59 r12 hcr12) (cwV2 hts q614 mvX4_take rfl rfl ⟨(mxN (Nat.le_of_ble_eq_true rfl)), (mxN (Nat.le_of_ble_eq_true rfl))⟩) hK hE hA hP hD hS 0 (T := TX4) (N := 12) (ci := 4) rfl rfl [0, 1, 2, 3, 4] rfl (by decide) rfl rfl rfl rfl rfl rfl hl.1 (Nat.le_of_ble_eq_true rfl) dX4_statement_195 ⟨Nat.zero_le _, Nat.zero_le _⟩ (fun H locs hP hD hS => ?_)
    refine lv_iconst (v := 1) hx hb dX4_statement_198 (by decide) ?_
    cases hM
    exact rt_z hx hb hr hlk (by decide) hP hD hS rfl dX4_statement_199
  replace hM := if_f c10 hM
  by_cases c13 : o_this.2.1 = 277
  · replace hM := if_t c13 hM
    refine lv_lookup (off := 115) (tgt := 119) hx hb dX4_statement_4 (by decide) (by rw [lv_osw c1 (by decide)]; rw [lv_osw c8 (by decide)]; rw [lv_osw c10 (by decide)]; exact sw_hit c13 (by decide)) (by decide) ?_
    refine lv_aload_n hx hb dX4_statement_119 rfl (lv_at hl 0 rfl) ?_
    refine lv_iload_n hx hb dX4_statement_120 rfl (lv_at hl 1 rfl) ?_
    obtain ⟨r14, hcr14, hM⟩ := ob_use hM
    refine cl_V (As := [.int a1]) (rest := []) (w_Parser_this_tokens_tree cI ad r14.1 o_tokens r14.2) [] ⟨hx, hb, hml, hown, hts⟩ (c_Parser_caseStatement l D cI sd ad fr lo f_body H_body o_this o_tokens o_tree a1 r14 hcr14) (cwV2 hts q774 mvX4_caseStatement rfl rfl ⟨mxF (by decide) (by decide), mxL (by decide) (by decide)⟩) hK hE hA hP hD hS 0 (T := TX4) (N := 12) (ci := 4) rfl rfl [0, 1, 2, 3, 4, 5, 6, 7, 8, 9, 10, 11, 12] rfl (by decide) rfl rfl rfl rfl rfl rfl hl.1 (Nat.le_of_ble_eq_true rfl) dX4_statement_121 ⟨Nat.zero_le _, Nat.zero_le _⟩ (fun H locs hP hD hS => ?_)
    refine lv_goto (tgt := 192) hx hb dX4_statement_124 (by decide) ?_
    refine lv_aload_n hx hb dX4_statement_192 rfl (lv_at hl 0 rfl) ?_
    refine lv_bipush (v := 59) hx hb dX4_statement_193 (by decide) ?_
    obtain ⟨r15, hcr15, hM⟩ := ob_use hM
    refine cl_V (As := [.int 59]) (rest := []) (w_Parser_this_tokens_tree cI ad r15 o_tokens r14.2) [] ⟨hx, hb, hml, hown, hts⟩ (c_Parser_take l D cI sd ad r14.1 o_tokens 59 r15 hcr15) (cwV2 hts q614 mvX4_take rfl rfl ⟨(mxN (Nat.le_of_ble_eq_true rfl)), (mxN (Nat.le_of_ble_eq_true rfl))⟩) hK hE hA hP hD hS 0 (T := TX4) (N := 12) (ci := 4) rfl rfl [0, 1, 2, 3, 4] rfl (by decide) rfl rfl rfl rfl rfl rfl hl.1 (Nat.le_of_ble_eq_true rfl) dX4_statement_195 ⟨Nat.zero_le _, Nat.zero_le _⟩ (fun H locs hP hD hS => ?_)
    refine lv_iconst (v := 1) hx hb dX4_statement_198 (by decide) ?_
    cases hM
    exact rt_z hx hb hr hlk (by decide) hP hD hS rfl dX4_statement_199
  replace hM := if_f c13 hM
  by_cases c16 : o_this.2.1 = 279
  · replace hM := if_t c16 hM
    refine lv_lookup (off := 123) (tgt := 127) hx hb dX4_statement_4 (by decide) (by rw [lv_osw c1 (by decide)]; rw [lv_osw c8 (by decide)]; rw [lv_osw c10 (by decide)]; rw [lv_osw c13 (by decide)]; exact sw_hit c16 (by decide)) (by decide) ?_
    refine lv_aload_n hx hb dX4_statement_127 rfl (lv_at hl 0 rfl) ?_
    refine lv_iload_n hx hb dX4_statement_128 rfl (lv_at hl 1 rfl) ?_
    obtain ⟨r17, hcr17, hM⟩ := ob_use hM
    refine cl_V (As := [.int a1]) (rest := []) (w_Parser_this_tokens_tree cI ad r17.1 o_tokens r17.2) [] ⟨hx, hb, hml, hown, hts⟩ (c_Parser_forStatement l D cI sd ad fr lo f_body H_body o_this o_tokens o_tree a1 r17 hcr17) (cwV2 hts q786 mvX4_forStatement rfl rfl ⟨mxF (by decide) (by decide), mxL (by decide) (by decide)⟩) hK hE hA hP hD hS 0 (T := TX4) (N := 12) (ci := 4) rfl rfl [0, 1, 2, 3, 4, 5, 6, 7, 8, 9, 10, 11, 12] rfl (by decide) rfl rfl rfl rfl rfl rfl hl.1 (Nat.le_of_ble_eq_true rfl) dX4_statement_129 ⟨Nat.zero_le _, Nat.zero_le _⟩ (fun H locs hP hD hS => ?_)
    refine lv_goto (tgt := 192) hx hb dX4_statement_132 (by decide) ?_
    refine lv_aload_n hx hb dX4_statement_192 rfl (lv_at hl 0 rfl) ?_
    refine lv_bipush (v := 59) hx hb dX4_statement_193 (by decide) ?_
    obtain ⟨r18, hcr18, hM⟩ := ob_use hM
    refine cl_V (As := [.int 59]) (rest := []) (w_Parser_this_tokens_tree cI ad r18 o_tokens r17.2) [] ⟨hx, hb, hml, hown, hts⟩ (c_Parser_take l D cI sd ad r17.1 o_tokens 59 r18 hcr18) (cwV2 hts q614 mvX4_take rfl rfl ⟨(mxN (Nat.le_of_ble_eq_true rfl)), (mxN (Nat.le_of_ble_eq_true rfl))⟩) hK hE hA hP hD hS 0 (T := TX4) (N := 12) (ci := 4) rfl rfl [0, 1, 2, 3, 4] rfl (by decide) rfl rfl rfl rfl rfl rfl hl.1 (Nat.le_of_ble_eq_true rfl) dX4_statement_195 ⟨Nat.zero_le _, Nat.zero_le _⟩ (fun H locs hP hD hS => ?_)
    refine lv_iconst (v := 1) hx hb dX4_statement_198 (by decide) ?_
    cases hM
    exact rt_z hx hb hr hlk (by decide) hP hD hS rfl dX4_statement_199
  replace hM := if_f c16 hM
  by_cases c19 : o_this.2.1 = 284
  · replace hM := if_t c19 hM
    refine lv_lookup (off := 131) (tgt := 135) hx hb dX4_statement_4 (by decide) (by rw [lv_osw c1 (by decide)]; rw [lv_osw c8 (by decide)]; rw [lv_osw c10 (by decide)]; rw [lv_osw c13 (by decide)]; rw [lv_osw c16 (by decide)]; exact sw_hit c19 (by decide)) (by decide) ?_
    refine lv_aload_n hx hb dX4_statement_135 rfl (lv_at hl 0 rfl) ?_
    refine va_get (D := D) (ci := 4) (v := .ref (ad 14)) (C := RX4) (T := TX4) (N := 12) hx hb hts layX4 hown hK hP 0 rfl rfl 1 (by decide) (hts _ (inA q398)) (fun _ h9 => h9) rfl dX4_statement_136 ?_
    refine lv_iload_n hx hb dX4_statement_139 rfl (lv_at hl 1 rfl) ?_
    refine lv_bipush (v := 20) hx hb dX4_statement_140 (by decide) ?_
    refine lv_aload_n hx hb dX4_statement_142 rfl (lv_at hl 0 rfl) ?_
    refine va_get (D := D) (ci := 4) (v := .int o_this.2.2.1) (C := RX4) (T := TX4) (N := 12) hx hb hts layX4 hown hK hP 0 rfl rfl 4 (by decide) (hts _ (inA q401)) (fun _ h9 => h9) rfl dX4_statement_143 ?_
    refine lv_iconst (v := 0) hx hb dX4_statement_146 (by decide) ?_
    obtain ⟨r20, hcr20, hM⟩ := ob_use hM
    refine cl_V (As := [.int a1, .int 20, .int o_this.2.2.1, .int 0]) (rest := []) (w_Parser_this_tokens_tree cI ad o_this o_tokens r20.2) (.int r20.1 :: []) ⟨hx, hb, hml, hown, hts⟩ (c_Tree_add l D cI sd ad o_tree a1 20 o_this.2.2.1 0 r20 hcr20) (cwV2 hts q622 mvX3_add rfl rfl ⟨(mxN (Nat.le_of_ble_eq_true rfl)), (mxN (Nat.le_of_ble_eq_true rfl))⟩) hK hE hA hP hD hS 5 (T := TX3) (N := 8) (ci := 3) rfl rfl [5, 6, 7, 8, 9, 10, 11, 12] rfl (by decide) rfl rfl rfl rfl rfl rfl hl.1 (Nat.le_of_ble_eq_true rfl) dX4_statement_147 ⟨Nat.zero_le _, Nat.zero_le _⟩ (fun H locs hP hD hS => ?_)
    refine lv_pop hx hb dX4_statement_150 rfl ?_
    refine lv_aload_n hx hb dX4_statement_151 rfl (lv_at hl 0 rfl) ?_
    refine lv_sipush (v := 284) hx hb dX4_statement_152 (by decide) ?_
    obtain ⟨r21, hcr21, hM⟩ := ob_use hM
    refine cl_V (As := [.int 284]) (rest := []) (w_Parser_this_tokens_tree cI ad r21 o_tokens r20.2) [] ⟨hx, hb, hml, hown, hts⟩ (c_Parser_take l D cI sd ad o_this o_tokens 284 r21 hcr21) (cwV2 hts q614 mvX4_take rfl rfl ⟨(mxN (Nat.le_of_ble_eq_true rfl)), (mxN (Nat.le_of_ble_eq_true rfl))⟩) hK hE hA hP hD hS 0 (T := TX4) (N := 12) (ci := 4) rfl rfl [0, 1, 2, 3, 4] rfl (by decide) rfl rfl rfl rfl rfl rfl hl.1 (Nat.le_of_ble_eq_true rfl) dX4_statement_155 ⟨Nat.zero_le _, Nat.zero_le _⟩ (fun H locs hP hD hS => ?_)
    refine lv_goto (tgt := 192) hx hb dX4_statement_158 (by decide) ?_
    refine lv_aload_n hx hb dX4_statement_192 rfl (lv_at hl 0 rfl) ?_
    refine lv_bipush (v := 59) hx hb dX4_statement_193 (by decide) ?_
    obtain ⟨r22, hcr22, hM⟩ := ob_use hM
    refine cl_V (As := [.int 59]) (rest := []) (w_Parser_this_tokens_tree cI ad r22 o_tokens r20.2) [] ⟨hx, hb, hml, hown, hts⟩ (c_Parser_take l D cI sd ad r21 o_tokens 59 r22 hcr22) (cwV2 hts q614 mvX4_take rfl rfl ⟨(mxN (Nat.le_of_ble_eq_true rfl)), (mxN (Nat.le_of_ble_eq_true rfl))⟩) hK hE hA hP hD hS 0 (T := TX4) (N := 12) (ci := 4) rfl rfl [0, 1, 2, 3, 4] rfl (by decide) rfl rfl rfl rfl rfl rfl hl.1 (Nat.le_of_ble_eq_true rfl) dX4_statement_195 ⟨Nat.zero_le _, Nat.zero_le _⟩ (fun H locs hP hD hS => ?_)
    refine lv_iconst (v := 1) hx hb dX4_statement_198 (by decide) ?_
    cases hM
    exact rt_z hx hb hr hlk (by decide) hP hD hS rfl dX4_statement_199
  replace hM := if_f c19 hM
  by_cases c23 : o_this.2.1 = 285
  · replace hM := if_t c23 hM
    refine lv_lookup (off := 157) (tgt := 161) hx hb dX4_statement_4 (by decide) (by rw [lv_osw c1 (by decide)]; rw [lv_osw c8 (by decide)]; rw [lv_osw c10 (by decide)]; rw [lv_osw c13 (by decide)]; rw [lv_osw c16 (by decide)]; rw [lv_osw c19 (by decide)]; exact sw_hit c23 (by decide)) (by decide) ?_
    refine lv_aload_n hx hb dX4_statement_161 rfl (lv_at hl 0 rfl) ?_
    refine va_get (D := D) (ci := 4) (v := .ref (ad 14)) (C := RX4) (T := TX4) (N := 12) hx hb hts layX4 hown hK hP 0 rfl rfl 1 (by decide) (hts _ (inA q398)) (fun _ h9 => h9) rfl dX4_statement_162 ?_
    refine lv_iload_n hx hb dX4_statement_165 rfl (lv_at hl 1 rfl) ?_
    refine lv_bipush (v := 21) hx hb dX4_statement_166 (by decide) ?_
    refine lv_aload_n hx hb dX4_statement_168 rfl (lv_at hl 0 rfl) ?_
    refine va_get (D := D) (ci := 4) (v := .int o_this.2.2.1) (C := RX4) (T := TX4) (N := 12) hx hb hts layX4 hown hK hP 0 rfl rfl 4 (by decide) (hts _ (inA q401)) (fun _ h9 => h9) rfl dX4_statement_169 ?_
    refine lv_iconst (v := 0) hx hb dX4_statement_172 (by decide) ?_
    obtain ⟨r24, hcr24, hM⟩ := ob_use hM
    refine cl_V (As := [.int a1, .int 21, .int o_this.2.2.1, .int 0]) (rest := []) (w_Parser_this_tokens_tree cI ad o_this o_tokens r24.2) (.int r24.1 :: []) ⟨hx, hb, hml, hown, hts⟩ (c_Tree_add l D cI sd ad o_tree a1 21 o_this.2.2.1 0 r24 hcr24) (cwV2 hts q622 mvX3_add rfl rfl ⟨(mxN (Nat.le_of_ble_eq_true rfl)), (mxN (Nat.le_of_ble_eq_true rfl))⟩) hK hE hA hP hD hS 5 (T := TX3) (N := 8) (ci := 3) rfl rfl [5, 6, 7, 8, 9, 10, 11, 12] rfl (by decide) rfl rfl rfl rfl rfl rfl hl.1 (Nat.le_of_ble_eq_true rfl) dX4_statement_173 ⟨Nat.zero_le _, Nat.zero_le _⟩ (fun H locs hP hD hS => ?_)
    refine lv_pop hx hb dX4_statement_176 rfl ?_
    refine lv_aload_n hx hb dX4_statement_177 rfl (lv_at hl 0 rfl) ?_
    refine lv_sipush (v := 285) hx hb dX4_statement_178 (by decide) ?_
    obtain ⟨r25, hcr25, hM⟩ := ob_use hM
    refine cl_V (As := [.int 285]) (rest := []) (w_Parser_this_tokens_tree cI ad r25 o_tokens r24.2) [] ⟨hx, hb, hml, hown, hts⟩ (c_Parser_take l D cI sd ad o_this o_tokens 285 r25 hcr25) (cwV2 hts q614 mvX4_take rfl rfl ⟨(mxN (Nat.le_of_ble_eq_true rfl)), (mxN (Nat.le_of_ble_eq_true rfl))⟩) hK hE hA hP hD hS 0 (T := TX4) (N := 12) (ci := 4) rfl rfl [0, 1, 2, 3, 4] rfl (by decide) rfl rfl rfl rfl rfl rfl hl.1 (Nat.le_of_ble_eq_true rfl) dX4_statement_181 ⟨Nat.zero_le _, Nat.zero_le _⟩ (fun H locs hP hD hS => ?_)
    refine lv_goto (tgt := 192) hx hb dX4_statement_184 (by decide) ?_
    refine lv_aload_n hx hb dX4_statement_192 rfl (lv_at hl 0 rfl) ?_
    refine lv_bipush (v := 59) hx hb dX4_statement_193 (by decide) ?_
    obtain ⟨r26, hcr26, hM⟩ := ob_use hM
    refine cl_V (As := [.int 59]) (rest := []) (w_Parser_this_tokens_tree cI ad r26 o_tokens r24.2) [] ⟨hx, hb, hml, hown, hts⟩ (c_Parser_take l D cI sd ad r25 o_tokens 59 r26 hcr26) (cwV2 hts q614 mvX4_take rfl rfl ⟨(mxN (Nat.le_of_ble_eq_true rfl)), (mxN (Nat.le_of_ble_eq_true rfl))⟩) hK hE hA hP hD hS 0 (T := TX4) (N := 12) (ci := 4) rfl rfl [0, 1, 2, 3, 4] rfl (by decide) rfl rfl rfl rfl rfl rfl hl.1 (Nat.le_of_ble_eq_true rfl) dX4_statement_195 ⟨Nat.zero_le _, Nat.zero_le _⟩ (fun H locs hP hD hS => ?_)
    refine lv_iconst (v := 1) hx hb dX4_statement_198 (by decide) ?_
    cases hM
    exact rt_z hx hb hr hlk (by decide) hP hD hS rfl dX4_statement_199
  replace hM := if_f c23 hM
  refine lv_lookup (off := 186) (tgt := 190) hx hb dX4_statement_4 (by decide) (by rw [lv_osw c1 (by decide)]; rw [lv_osw c8 (by decide)]; rw [lv_osw c10 (by decide)]; rw [lv_osw c13 (by decide)]; rw [lv_osw c16 (by decide)]; rw [lv_osw c19 (by decide)]; rw [lv_osw c23 (by decide)]; rfl) (by decide) ?_
  refine lv_iconst (v := 0) hx hb dX4_statement_190 (by decide) ?_
  cases hM
  exact rt_z hx hb hr hlk (by decide) hP hD hS rfl dX4_statement_191

set_option maxHeartbeats 4000000 in
set_option maxRecDepth 100000 in
theorem c_Parser_body_o (l : Launch) (D : va_G) (cI : ClassId) (sd : Nat → Nat) (ad : Nat → Nat) (fr lo : Nat) (f_body : S_Parser → S_Tokens → S_Tree → Int32 → Option (S_Parser × S_Tree)) (H_body : ∀ (o_this : S_Parser) (o_tokens : S_Tokens) (o_tree : S_Tree) (a1 : Int32) (res : S_Parser × S_Tree), f_body o_this o_tokens o_tree a1 = some res → Ctr l D cI sd yX4_body (wsM yX4_body cX4_body 5 (Option.none : Option Jvm.ClassFile.FieldType)) { frames := fr, cells := 0, slots := 0, locals := lo } [.ref (ad 22), .int a1] (w_Parser_this_tokens_tree cI ad o_this o_tokens o_tree) (w_Parser_this_tokens_tree cI ad res.1 o_tokens res.2) none) (o_this : S_Parser) (o_tokens : S_Tokens) (o_tree : S_Tree) (a1 : Int32) (res : S_Parser × S_Tree) (hM : f_Parser_body_o f_body o_this o_tokens o_tree a1 = some res) : Ctr l D cI sd yX4_body (wsM yX4_body cX4_body 5 (Option.none : Option Jvm.ClassFile.FieldType)) { frames := max (fr + 3) 265, cells := 0, slots := 0, locals := max (lo + 71) 7024 } [.ref (ad 22), .int a1] (w_Parser_this_tokens_tree cI ad o_this o_tokens o_tree) (w_Parser_this_tokens_tree cI ad res.1 o_tokens res.2) none := by
  refine Ctr.of (cc := cX4_body) (maxL := 5) (own := RX4) (by decide +kernel) rfl rfl (Nat.le_of_ble_eq_true rfl) ?_
  intro p e s m below meth c A ls hx hb hr hml hown hts hlk hK hE hA hP hD hS hl
  have hl : lv_has ls 5 [(0, .ref (ad 22)), (1, .int a1)] := hl
  unfold f_Parser_body_o at hM
  refine lv_aload_n hx hb dX4_body_0 rfl (lv_at hl 0 rfl) ?_
  refine va_get (D := D) (ci := 4) (v := .ref (ad 14)) (C := RX4) (T := TX4) (N := 12) hx hb hts layX4 hown hK hP 0 rfl rfl 1 (by decide) (hts _ (inA q398)) (fun _ h9 => h9) rfl dX4_body_1 ?_
  refine lv_iload_n hx hb dX4_body_4 rfl (lv_at hl 1 rfl) ?_
  refine lv_bipush (v := 11) hx hb dX4_body_5 (by decide) ?_
  refine lv_aload_n hx hb dX4_body_7 rfl (lv_at hl 0 rfl) ?_
  refine va_get (D := D) (ci := 4) (v := .int o_this.2.2.2.2.1) (C := RX4) (T := TX4) (N := 12) hx hb hts layX4 hown hK hP 0 rfl rfl 6 (by decide) (hts _ (inA q403)) (fun _ h9 => h9) rfl dX4_body_8 ?_
  refine lv_iconst (v := 0) hx hb dX4_body_11 (by decide) ?_
  obtain ⟨r1, hcr1, hM⟩ := ob_use hM
  refine cl_V (As := [.int a1, .int 11, .int o_this.2.2.2.2.1, .int 0]) (rest := []) (w_Parser_this_tokens_tree cI ad o_this o_tokens r1.2) (.int r1.1 :: []) ⟨hx, hb, hml, hown, hts⟩ (c_Tree_add l D cI sd ad o_tree a1 11 o_this.2.2.2.2.1 0 r1 hcr1) (cwV2 hts q622 mvX3_add rfl rfl ⟨(mxN (Nat.le_of_ble_eq_true rfl)), (mxN (Nat.le_of_ble_eq_true rfl))⟩) hK hE hA hP hD hS 5 (T := TX3) (N := 8) (ci := 3) rfl rfl [5, 6, 7, 8, 9, 10, 11, 12] rfl (by decide) rfl rfl rfl rfl rfl rfl hl.1 (Nat.le_of_ble_eq_true rfl) dX4_body_12 ⟨Nat.zero_le _, Nat.zero_le _⟩ (fun H locs hP hD hS => ?_)
  refine lv_istore_n (lv' := [(2, .int r1.1), (0, .ref (ad 22)), (1, .int a1)]) hx hb dX4_body_15 rfl hl (by decide) rfl (fun ls hl => ?_)
  refine lv_iconst (v := 1) hx hb dX4_body_16 (by decide) ?_
  refine lv_istore_n (lv' := [(3, .int 1), (2, .int r1.1), (0, .ref (ad 22)), (1, .int a1)]) hx hb dX4_body_17 rfl hl (by decide) rfl (fun ls hl => ?_)
  refine lv_iconst (v := 0) hx hb dX4_body_18 (by decide) ?_
  refine lv_istore (lv' := [(4, .int 0), (3, .int 1), (2, .int r1.1), (0, .ref (ad 22)), (1, .int a1)]) hx hb dX4_body_19 hl (by decide) rfl (fun ls hl => ?_)
  have lp_L21 : ∀ (w2_L21 : Int32) (o_tokens_L21 : S_Tokens) (n : Nat) (v4_L21 : Int32) (v3_L21 : Int32) (o_this_L21 : S_Parser) (o_tree_L21 : S_Tree) (out_L21 : S_Parser × S_Tree) (H : Heap) (locs : List Loc) (ls : Array Slot), f_Parser_body_o_L21 f_body w2_L21 o_tokens_L21 n v4_L21 v3_L21 o_this_L21 o_tree_L21 = some out_L21 → va_P D vwCl (w_Parser_this_tokens_tree cI ad o_this_L21 o_tokens_L21 o_tree_L21) H → va_D A (w_Parser_this_tokens_tree cI ad o_this_L21 o_tokens_L21 o_tree_L21) → va_S A s.heap H locs → lv_has ls 5 [(4, .int v4_L21), (3, .int v3_L21), (2, .int w2_L21), (0, .ref (ad 22))] → (∀ (H : Heap) (locs : List Loc) (ls : Array Slot), va_P D vwCl (w_Parser_this_tokens_tree cI ad out_L21.1 o_tokens_L21 out_L21.2) H → va_D A (w_Parser_this_tokens_tree cI ad out_L21.1 o_tokens_L21 out_L21.2) → va_S A s.heap H locs → lv_has ls 5 [(2, .int w2_L21), (0, .ref (ad 22))] → W p l e { frames := max (fr + 3) 265, cells := 0, slots := 0, locals := max (lo + 71) 7024 } s m [.ref (ad 22), .int a1].toArray below meth c H locs 0 0 (MQ below (CQ D A (w_Parser_this_tokens_tree cI ad res.1 o_tokens res.2) none) [.ref (ad 22), .int a1].toArray s 0 0 A) (F0 m 45 ls [])) → W p l e { frames := max (fr + 3) 265, cells := 0, slots := 0, locals := max (lo + 71) 7024 } s m [.ref (ad 22), .int a1].toArray below meth c H locs 0 0 (MQ below (CQ D A (w_Parser_this_tokens_tree cI ad res.1 o_tokens res.2) none) [.ref (ad 22), .int a1].toArray s 0 0 A) (F0 m 21 ls []) := by
    intro w2_L21 o_tokens_L21 n
    induction n with
    | zero => intro v4_L21 v3_L21 o_this_L21 o_tree_L21 out_L21 H locs ls hM; exact absurd (show none = some _ from hM) (by simp)
    | succ n ih_L21 =>
      intro v4_L21 v3_L21 o_this_L21 o_tree_L21 out_L21 H locs ls hM hP hD hS hl kx_L21
      rw [f_Parser_body_o_L21] at hM
      refine lv_iload_n hx hb dX4_body_21 rfl (lv_at hl 1 rfl) ?_
      refine lv_if_eq (tgt := 45) hx hb dX4_body_22 (by decide) (fun c1311 => ?_) (fun c1311 => ?_)
      · replace hM := if_t c1311 hM
        cases hM
        exact kx_L21 _ _ _ hP hD hS (lv_sub hl [2, 3] rfl)
      · replace hM := if_f c1311 hM
        refine lv_iload hx hb dX4_body_25 (lv_at hl 0 rfl) ?_
        refine lv_sipush (v := 8192) hx hb dX4_body_27 (by decide) ?_
        refine lv_icmp_ge (tgt := 45) hx hb dX4_body_30 (by decide) (fun c1312 => ?_) (fun c1312 => ?_)
        · replace hM := if_t c1312 hM
          cases hM
          exact kx_L21 _ _ _ hP hD hS (lv_sub hl [2, 3] rfl)
        · replace hM := if_f c1312 hM
          refine lv_aload_n hx hb dX4_body_33 rfl (lv_at hl 3 rfl) ?_
          refine lv_iload_n hx hb dX4_body_34 rfl (lv_at hl 2 rfl) ?_
          obtain ⟨r1313, hcr1313, hM⟩ := ob_use hM
          refine cl_V (As := [.int w2_L21]) (rest := []) (w_Parser_this_tokens_tree cI ad r1313.2.1 o_tokens_L21 r1313.2.2) (.int r1313.1 :: []) ⟨hx, hb, hml, hown, hts⟩ (c_Parser_statement l D cI sd ad fr lo f_body H_body o_this_L21 o_tokens_L21 o_tree_L21 w2_L21 r1313 hcr1313) (cwV2 hts q707 mvX4_statement rfl rfl ⟨mxF (by decide) (by decide), mxL (by decide) (by decide)⟩) hK hE hA hP hD hS 0 (T := TX4) (N := 12) (ci := 4) rfl rfl [0, 1, 2, 3, 4, 5, 6, 7, 8, 9, 10, 11, 12] rfl (by decide) rfl rfl rfl rfl rfl rfl hl.1 (Nat.le_of_ble_eq_true rfl) dX4_body_35 ⟨Nat.zero_le _, Nat.zero_le _⟩ (fun H locs hP hD hS => ?_)
          refine lv_istore_n (lv' := [(3, .int r1313.1), (4, .int v4_L21), (2, .int w2_L21), (0, .ref (ad 22))]) hx hb dX4_body_38 rfl hl (by decide) rfl (fun ls hl => ?_)
          obtain ⟨x1314, ex1314⟩ : ∃ y : Int32, y = v4_L21 + 1 := ⟨_, rfl⟩
          replace hM := nm_use ex1314 hM
          refine lv_iinc (v := x1314) (lv' := [(4, .int x1314), (3, .int r1313.1), (2, .int w2_L21), (0, .ref (ad 22))]) hx hb dX4_body_39 hl (k := 1) rfl (by rw [ex1314]; rfl) (by decide) rfl (fun ls hl => ?_)
          refine lv_goto (tgt := 21) hx hb dX4_body_42 (by decide) ?_
          exact ih_L21 x1314 r1313.1 r1313.2.1 r1313.2.2 out_L21 _ _ _ hM hP hD hS (lv_sub hl [0, 1, 2, 3] rfl) kx_L21
  obtain ⟨r2, hcr2, hM⟩ := ob_use hM
  refine lp_L21 r1.1 o_tokens FU 0 1 o_this r1.2 r2 _ _ _ hcr2 hP hD hS (lv_sub hl [0, 1, 2, 3] rfl) (fun H locs ls hP hD hS hl => ?_)
  cases hM
  exact rt_v hx hb hr hlk hP hD hS rfl dX4_body_45

def frB : Nat → Nat
  | 0 => 0
  | d + 1 => max (frB d + 3) 265
def loB : Nat → Nat
  | 0 => 0
  | d + 1 => max (loB d + 71) 7024
set_option maxHeartbeats 4000000 in
set_option maxRecDepth 100000 in
theorem c_GB (l : Launch) (D : va_G) (cI : ClassId) (sd ad : Nat → Nat) : ∀ d : Nat, (∀ (o_this : S_Parser) (o_tokens : S_Tokens) (o_tree : S_Tree) (a1 : Int32) (res : S_Parser × S_Tree), (GB d) o_this o_tokens o_tree a1 = some res → Ctr l D cI sd yX4_body (wsM yX4_body cX4_body 5 (Option.none : Option Jvm.ClassFile.FieldType)) { frames := frB d, cells := 0, slots := 0, locals := loB d } [.ref (ad 22), .int a1] (w_Parser_this_tokens_tree cI ad o_this o_tokens o_tree) (w_Parser_this_tokens_tree cI ad res.1 o_tokens res.2) none) := by
  intro d
  induction d with
  | zero => exact fun x1 x2 x3 a0 res h => absurd (show none = some res from h) (by simp)
  | succ d ih => exact fun x1 x2 x3 a0 res h => c_Parser_body_o l D cI sd ad (frB d) (loB d) (GB d) ih x1 x2 x3 a0 res h
theorem frB_e : frB DB = 460 := by decide +kernel
theorem loB_e : loB DB = 11639 := by decide +kernel
set_option maxHeartbeats 4000000 in
theorem c_Parser_body (l : Launch) (D : va_G) (cI : ClassId) (sd ad : Nat → Nat) : ∀ (o_this : S_Parser) (o_tokens : S_Tokens) (o_tree : S_Tree) (a1 : Int32) (res : S_Parser × S_Tree), f_Parser_body o_this o_tokens o_tree a1 = some res → Ctr l D cI sd yX4_body (wsM yX4_body cX4_body 5 (Option.none : Option Jvm.ClassFile.FieldType)) { frames := 460, cells := 0, slots := 0, locals := 11639 } [.ref (ad 22), .int a1] (w_Parser_this_tokens_tree cI ad o_this o_tokens o_tree) (w_Parser_this_tokens_tree cI ad res.1 o_tokens res.2) none := by
  have h := c_GB l D cI sd ad DB
  rw [frB_e, loB_e] at h
  exact h

set_option maxHeartbeats 4000000 in
set_option maxRecDepth 100000 in
theorem c_Parser_endOfBlock (l : Launch) (D : va_G) (cI : ClassId) (sd : Nat → Nat) (ad : Nat → Nat) (a1 : Int32) (res : Int32) (hM : f_Parser_endOfBlock a1 = some res) : Ctr l D cI sd yX4_endOfBlock (wsM yX4_endOfBlock cX4_endOfBlock 1 (Option.some Jvm.ClassFile.FieldType.int)) { frames := 0, cells := 0, slots := 0, locals := 0 } [.int a1] (([] : va_W)) (([] : va_W)) (some (.int res)) := by
  refine Ctr.of (cc := cX4_endOfBlock) (maxL := 1) (own := RX4) (by decide +kernel) rfl rfl (Nat.le_of_ble_eq_true rfl) ?_
  intro p e s m below meth c A ls hx hb hr hml hown hts hlk hK hE hA hP hD hS hl
  have hl : lv_has ls 1 [(0, .int a1)] := hl
  unfold f_Parser_endOfBlock at hM
  refine lv_iload_n hx hb dX4_endOfBlock_0 rfl (lv_at hl 0 rfl) ?_
  by_cases c1 : a1 = 256
  · replace hM := if_t c1 hM
    refine lv_lookup (off := 27) (tgt := 28) hx hb dX4_endOfBlock_1 (by decide) (by exact sw_hit c1 (by decide)) (by decide) ?_
    refine lv_sipush (v := 257) hx hb dX4_endOfBlock_28 (by decide) ?_
    cases hM
    exact rt_i hx hb hr hlk hP hD hS rfl dX4_endOfBlock_31
  replace hM := if_f c1 hM
  by_cases c2 : a1 = 258
  · replace hM := if_t c2 hM
    refine lv_lookup (off := 31) (tgt := 32) hx hb dX4_endOfBlock_1 (by decide) (by rw [lv_osw c1 (by decide)]; exact sw_hit c2 (by decide)) (by decide) ?_
    refine lv_sipush (v := 259) hx hb dX4_endOfBlock_32 (by decide) ?_
    cases hM
    exact rt_i hx hb hr hlk hP hD hS rfl dX4_endOfBlock_35
  replace hM := if_f c2 hM
  refine lv_lookup (off := 35) (tgt := 36) hx hb dX4_endOfBlock_1 (by decide) (by rw [lv_osw c1 (by decide)]; rw [lv_osw c2 (by decide)]; rfl) (by decide) ?_
  refine lv_sipush (v := 261) hx hb dX4_endOfBlock_36 (by decide) ?_
  cases hM
  exact rt_i hx hb hr hlk hP hD hS rfl dX4_endOfBlock_39

set_option maxHeartbeats 4000000 in
set_option maxRecDepth 100000 in
theorem c_Parser_coilValue (l : Launch) (D : va_G) (cI : ClassId) (sd : Nat → Nat) (ad : Nat → Nat) (a1 : Int32) (res : Int32) (hM : f_Parser_coilValue a1 = some res) : Ctr l D cI sd yX4_coilValue (wsM yX4_coilValue cX4_coilValue 1 (Option.some Jvm.ClassFile.FieldType.int)) { frames := 0, cells := 0, slots := 0, locals := 0 } [.int a1] (([] : va_W)) (([] : va_W)) (some (.int res)) := by
  refine Ctr.of (cc := cX4_coilValue) (maxL := 1) (own := RX4) (by decide +kernel) rfl rfl (Nat.le_of_ble_eq_true rfl) ?_
  intro p e s m below meth c A ls hx hb hr hml hown hts hlk hK hE hA hP hD hS hl
  have hl : lv_has ls 1 [(0, .int a1)] := hl
  unfold f_Parser_coilValue at hM
  refine lv_iload_n hx hb dX4_coilValue_0 rfl (lv_at hl 0 rfl) ?_
  by_cases c1 : a1 = 43
  · replace hM := if_t c1 hM
    refine lv_tableIn (tgt := 38) hx hb dX4_coilValue_1 (by rw [c1]; decide) (by rw [c1]; decide) (by rw [c1]; rfl) (by decide) ?_
    refine lv_iconst (v := 2) hx hb dX4_coilValue_38 (by decide) ?_
    cases hM
    exact rt_i hx hb hr hlk hP hD hS rfl dX4_coilValue_39
  replace hM := if_f c1 hM
  by_cases c2 : a1 = 44
  · replace hM := if_t c2 hM
    refine lv_tableIn (tgt := 42) hx hb dX4_coilValue_1 (by rw [c2]; decide) (by rw [c2]; decide) (by rw [c2]; rfl) (by decide) ?_
    refine lv_iconst (v := 0) hx hb dX4_coilValue_42 (by decide) ?_
    cases hM
    exact rt_i hx hb hr hlk hP hD hS rfl dX4_coilValue_43
  replace hM := if_f c2 hM
  by_cases c3 : a1 = 45
  · replace hM := if_t c3 hM
    refine lv_tableIn (tgt := 40) hx hb dX4_coilValue_1 (by rw [c3]; decide) (by rw [c3]; decide) (by rw [c3]; rfl) (by decide) ?_
    refine lv_iconst (v := 3) hx hb dX4_coilValue_40 (by decide) ?_
    cases hM
    exact rt_i hx hb hr hlk hP hD hS rfl dX4_coilValue_41
  replace hM := if_f c3 hM
  by_cases c4 : a1 = 46
  · replace hM := if_t c4 hM
    refine lv_tableIn (tgt := 42) hx hb dX4_coilValue_1 (by rw [c4]; decide) (by rw [c4]; decide) (by rw [c4]; rfl) (by decide) ?_
    refine lv_iconst (v := 0) hx hb dX4_coilValue_42 (by decide) ?_
    cases hM
    exact rt_i hx hb hr hlk hP hD hS rfl dX4_coilValue_43
  replace hM := if_f c4 hM
  by_cases c5 : a1 = 47
  · replace hM := if_t c5 hM
    refine lv_tableIn (tgt := 36) hx hb dX4_coilValue_1 (by rw [c5]; decide) (by rw [c5]; decide) (by rw [c5]; rfl) (by decide) ?_
    refine lv_iconst (v := 1) hx hb dX4_coilValue_36 (by decide) ?_
    cases hM
    exact rt_i hx hb hr hlk hP hD hS rfl dX4_coilValue_37
  replace hM := if_f c5 hM
  refine lv_tableOut (tgt := 42) hx hb dX4_coilValue_1 (by have := lv_neT c1 (show (43 : Int32).toInt = 43 by decide); have := lv_neT c2 (show (44 : Int32).toInt = 44 by decide); have := lv_neT c3 (show (45 : Int32).toInt = 45 by decide); have := lv_neT c4 (show (46 : Int32).toInt = 46 by decide); have := lv_neT c5 (show (47 : Int32).toInt = 47 by decide); omega) (by decide) ?_
  refine lv_iconst (v := 0) hx hb dX4_coilValue_42 (by decide) ?_
  cases hM
  exact rt_i hx hb hr hlk hP hD hS rfl dX4_coilValue_43
