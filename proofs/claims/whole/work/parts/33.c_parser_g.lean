set_option maxHeartbeats 4000000 in
set_option maxRecDepth 100000 in
theorem c_Parser_row (l : Launch) (D : va_G) (cI : ClassId) (sd : Nat → Nat) (ad : Nat → Nat) (o_this : S_Parser) (o_tokens : S_Tokens) (o_tree : S_Tree) (a1 : Int32) (res : S_Parser × S_Tree) (hM : f_Parser_row o_this o_tokens o_tree a1 = some res) : Ctr l D cI sd yX4_row (wsM yX4_row cX4_row 4 (Option.none : Option Jvm.ClassFile.FieldType)) { frames := 4, cells := 0, slots := 0, locals := 92 } [.ref (ad 22), .int a1] (w_Parser_this_tokens_tree cI ad o_this o_tokens o_tree) (w_Parser_this_tokens_tree cI ad res.1 o_tokens res.2) none := by
  refine Ctr.of (cc := cX4_row) (maxL := 4) (own := RX4) (by decide +kernel) rfl rfl (Nat.le_of_ble_eq_true rfl) ?_
  intro p e s m below meth c A ls hx hb hr hml hown hts hlk hK hE hA hP hD hS hl
  have hl : lv_has ls 4 [(0, .ref (ad 22)), (1, .int a1)] := hl
  unfold f_Parser_row at hM
  refine lv_aload_n hx hb dX4_row_0 rfl (lv_at hl 0 rfl) ?_
  refine va_get (D := D) (ci := 4) (v := .ref (ad 14)) (C := RX4) (T := TX4) (N := 12) hx hb hts layX4 hown hK hP 0 rfl rfl 1 (by decide) (hts _ (inA q398)) (fun _ h9 => h9) rfl dX4_row_1 ?_
  refine lv_iload_n hx hb dX4_row_4 rfl (lv_at hl 1 rfl) ?_
  refine lv_bipush (v := 24) hx hb dX4_row_5 (by decide) ?_
  refine lv_aload_n hx hb dX4_row_7 rfl (lv_at hl 0 rfl) ?_
  refine va_get (D := D) (ci := 4) (v := .int o_this.2.2.1) (C := RX4) (T := TX4) (N := 12) hx hb hts layX4 hown hK hP 0 rfl rfl 4 (by decide) (hts _ (inA q401)) (fun _ h9 => h9) rfl dX4_row_8 ?_
  refine lv_iconst (v := 0) hx hb dX4_row_11 (by decide) ?_
  obtain ⟨r1, hcr1, hM⟩ := ob_use hM
  refine cl_V (As := [.int a1, .int 24, .int o_this.2.2.1, .int 0]) (rest := []) (w_Parser_this_tokens_tree cI ad o_this o_tokens r1.2) (.int r1.1 :: []) ⟨hx, hb, hml, hown, hts⟩ (c_Tree_add l D cI sd ad o_tree a1 24 o_this.2.2.1 0 r1 hcr1) (cwV2 hts q622 mvX3_add rfl rfl ⟨(Nat.le_of_ble_eq_true rfl), (Nat.le_of_ble_eq_true rfl)⟩) hK hE hA hP hD hS 5 (T := TX3) (N := 8) (ci := 3) rfl rfl [5, 6, 7, 8, 9, 10, 11, 12] rfl (by decide) rfl rfl rfl rfl rfl rfl hl.1 (Nat.le_of_ble_eq_true rfl) dX4_row_12 ⟨Nat.zero_le _, Nat.zero_le _⟩ (fun H locs hP hD hS => ?_)
  refine lv_istore_n (lv' := [(2, .int r1.1), (0, .ref (ad 22)), (1, .int a1)]) hx hb dX4_row_15 rfl hl (by decide) rfl (fun ls hl => ?_)
  refine lv_aload_n hx hb dX4_row_16 rfl (lv_at hl 1 rfl) ?_
  refine lv_iload_n hx hb dX4_row_17 rfl (lv_at hl 0 rfl) ?_
  obtain ⟨r2, hcr2, hM⟩ := ob_use hM
  refine cl_V (As := [.int r1.1]) (rest := []) (w_Parser_this_tokens_tree cI ad r2.1 o_tokens r2.2) [] ⟨hx, hb, hml, hown, hts⟩ (c_Parser_cell l D cI sd ad o_this o_tokens r1.2 r1.1 r2 hcr2) (cwV2 hts q681 mvX4_cell rfl rfl ⟨(Nat.le_of_ble_eq_true rfl), (Nat.le_of_ble_eq_true rfl)⟩) hK hE hA hP hD hS 0 (T := TX4) (N := 12) (ci := 4) rfl rfl [0, 1, 2, 3, 4, 5, 6, 7, 8, 9, 10, 11, 12] rfl (by decide) rfl rfl rfl rfl rfl rfl hl.1 (Nat.le_of_ble_eq_true rfl) dX4_row_18 ⟨Nat.zero_le _, Nat.zero_le _⟩ (fun H locs hP hD hS => ?_)
  refine lv_iconst (v := 0) hx hb dX4_row_21 (by decide) ?_
  refine lv_istore_n (lv' := [(3, .int 0), (2, .int r1.1), (0, .ref (ad 22)), (1, .int a1)]) hx hb dX4_row_22 rfl hl (by decide) rfl (fun ls hl => ?_)
  have lp_L23 : ∀ (w2_L23 : Int32) (o_tokens_L23 : S_Tokens) (n : Nat) (v3_L23 : Int32) (o_this_L23 : S_Parser) (o_tree_L23 : S_Tree) (out_L23 : S_Parser × S_Tree) (H : Heap) (locs : List Loc) (ls : Array Slot), f_Parser_row_L23 w2_L23 o_tokens_L23 n v3_L23 o_this_L23 o_tree_L23 = some out_L23 → va_P D vwCl (w_Parser_this_tokens_tree cI ad o_this_L23 o_tokens_L23 o_tree_L23) H → va_D A (w_Parser_this_tokens_tree cI ad o_this_L23 o_tokens_L23 o_tree_L23) → va_S A s.heap H locs → lv_has ls 4 [(3, .int v3_L23), (2, .int w2_L23), (0, .ref (ad 22))] → (∀ (H : Heap) (locs : List Loc) (ls : Array Slot), va_P D vwCl (w_Parser_this_tokens_tree cI ad out_L23.1 o_tokens_L23 out_L23.2) H → va_D A (w_Parser_this_tokens_tree cI ad out_L23.1 o_tokens_L23 out_L23.2) → va_S A s.heap H locs → lv_has ls 4 [(2, .int w2_L23), (0, .ref (ad 22))] → W p l e { frames := 4, cells := 0, slots := 0, locals := 92 } s m [.ref (ad 22), .int a1].toArray below meth c H locs 0 0 (MQ below (CQ D A (w_Parser_this_tokens_tree cI ad res.1 o_tokens res.2) none) [.ref (ad 22), .int a1].toArray s 0 0 A) (F0 m 88 ls [])) → W p l e { frames := 4, cells := 0, slots := 0, locals := 92 } s m [.ref (ad 22), .int a1].toArray below meth c H locs 0 0 (MQ below (CQ D A (w_Parser_this_tokens_tree cI ad res.1 o_tokens res.2) none) [.ref (ad 22), .int a1].toArray s 0 0 A) (F0 m 23 ls []) := by
    intro w2_L23 o_tokens_L23 n
    induction n with
    | zero => intro v3_L23 o_this_L23 o_tree_L23 out_L23 H locs ls hM; exact absurd (show none = some _ from hM) (by simp)
    | succ n ih_L23 =>
      intro v3_L23 o_this_L23 o_tree_L23 out_L23 H locs ls hM hP hD hS hl kx_L23
      rw [f_Parser_row_L23] at hM
      refine lv_iload_n hx hb dX4_row_23 rfl (lv_at hl 0 rfl) ?_
      refine lv_sipush (v := 8192) hx hb dX4_row_24 (by decide) ?_
      refine lv_icmp_ge (tgt := 88) hx hb dX4_row_27 (by decide) (fun c1331 => ?_) (fun c1331 => ?_)
      · replace hM := if_t c1331 hM
        cases hM
        exact kx_L23 _ _ _ hP hD hS (lv_sub hl [1, 2] rfl)
      · replace hM := if_f c1331 hM
        refine lv_aload_n hx hb dX4_row_30 rfl (lv_at hl 2 rfl) ?_
        refine va_get (D := D) (ci := 4) (v := .int o_this_L23.2.1) (C := RX4) (T := TX4) (N := 12) hx hb hts layX4 hown hK hP 0 rfl rfl 3 (by decide) (hts _ (inA q400)) (fun _ h9 => h9) rfl dX4_row_31 ?_
        refine lv_bipush (v := 124) hx hb dX4_row_34 (by decide) ?_
        refine lv_icmp_eq (tgt := 46) hx hb dX4_row_36 (by decide) (fun c1332 => ?_) (fun c1332 => ?_)
        · replace hM := if_t c1332 hM
          refine lv_aload_n hx hb dX4_row_46 rfl (lv_at hl 2 rfl) ?_
          refine va_get (D := D) (ci := 4) (v := .int o_this_L23.2.1) (C := RX4) (T := TX4) (N := 12) hx hb hts layX4 hown hK hP 0 rfl rfl 3 (by decide) (hts _ (inA q400)) (fun _ h9 => h9) rfl dX4_row_47 ?_
          refine lv_bipush (v := 124) hx hb dX4_row_50 (by decide) ?_
          refine lv_icmp_ne (tgt := 77) hx hb dX4_row_52 (by decide) (fun c1333 => ?_) (fun c1333 => ?_)
          · replace hM := if_f c1333 hM
            refine lv_aload_n hx hb dX4_row_77 rfl (lv_at hl 2 rfl) ?_
            refine lv_iload_n hx hb dX4_row_78 rfl (lv_at hl 1 rfl) ?_
            obtain ⟨r1334, hcr1334, hM⟩ := ob_use hM
            refine cl_V (As := [.int w2_L23]) (rest := []) (w_Parser_this_tokens_tree cI ad r1334.1 o_tokens_L23 r1334.2) [] ⟨hx, hb, hml, hown, hts⟩ (c_Parser_cell l D cI sd ad o_this_L23 o_tokens_L23 o_tree_L23 w2_L23 r1334 hcr1334) (cwV2 hts q681 mvX4_cell rfl rfl ⟨(Nat.le_of_ble_eq_true rfl), (Nat.le_of_ble_eq_true rfl)⟩) hK hE hA hP hD hS 0 (T := TX4) (N := 12) (ci := 4) rfl rfl [0, 1, 2, 3, 4, 5, 6, 7, 8, 9, 10, 11, 12] rfl (by decide) rfl rfl rfl rfl rfl rfl hl.1 (Nat.le_of_ble_eq_true rfl) dX4_row_79 ⟨Nat.zero_le _, Nat.zero_le _⟩ (fun H locs hP hD hS => ?_)
            obtain ⟨x1335, ex1335⟩ : ∃ y : Int32, y = v3_L23 + 1 := ⟨_, rfl⟩
            replace hM := nm_use ex1335 hM
            refine lv_iinc (v := x1335) (lv' := [(3, .int x1335), (2, .int w2_L23), (0, .ref (ad 22))]) hx hb dX4_row_82 hl (k := 0) rfl (by rw [ex1335]; rfl) (by decide) rfl (fun ls hl => ?_)
            refine lv_goto (tgt := 23) hx hb dX4_row_85 (by decide) ?_
            exact ih_L23 x1335 r1334.1 r1334.2 out_L23 _ _ _ hM hP hD hS (lv_sub hl [0, 1, 2] rfl) kx_L23
          · replace hM := if_t c1333 hM
            refine lv_aload_n hx hb dX4_row_55 rfl (lv_at hl 2 rfl) ?_
            refine va_get (D := D) (ci := 4) (v := .ref (ad 14)) (C := RX4) (T := TX4) (N := 12) hx hb hts layX4 hown hK hP 0 rfl rfl 1 (by decide) (hts _ (inA q398)) (fun _ h9 => h9) rfl dX4_row_56 ?_
            refine lv_iload_n hx hb dX4_row_59 rfl (lv_at hl 1 rfl) ?_
            refine lv_bipush (v := 29) hx hb dX4_row_60 (by decide) ?_
            refine lv_aload_n hx hb dX4_row_62 rfl (lv_at hl 2 rfl) ?_
            refine va_get (D := D) (ci := 4) (v := .int o_this_L23.2.2.1) (C := RX4) (T := TX4) (N := 12) hx hb hts layX4 hown hK hP 0 rfl rfl 4 (by decide) (hts _ (inA q401)) (fun _ h9 => h9) rfl dX4_row_63 ?_
            refine lv_iconst (v := 0) hx hb dX4_row_66 (by decide) ?_
            obtain ⟨r1336, hcr1336, hM⟩ := ob_use hM
            refine cl_V (As := [.int w2_L23, .int 29, .int o_this_L23.2.2.1, .int 0]) (rest := []) (w_Parser_this_tokens_tree cI ad o_this_L23 o_tokens_L23 r1336.2) (.int r1336.1 :: []) ⟨hx, hb, hml, hown, hts⟩ (c_Tree_add l D cI sd ad o_tree_L23 w2_L23 29 o_this_L23.2.2.1 0 r1336 hcr1336) (cwV2 hts q622 mvX3_add rfl rfl ⟨(Nat.le_of_ble_eq_true rfl), (Nat.le_of_ble_eq_true rfl)⟩) hK hE hA hP hD hS 5 (T := TX3) (N := 8) (ci := 3) rfl rfl [5, 6, 7, 8, 9, 10, 11, 12] rfl (by decide) rfl rfl rfl rfl rfl rfl hl.1 (Nat.le_of_ble_eq_true rfl) dX4_row_67 ⟨Nat.zero_le _, Nat.zero_le _⟩ (fun H locs hP hD hS => ?_)
            refine lv_pop hx hb dX4_row_70 rfl ?_
            refine lv_aload_n hx hb dX4_row_71 rfl (lv_at hl 2 rfl) ?_
            refine lv_bipush (v := 124) hx hb dX4_row_72 (by decide) ?_
            obtain ⟨r1337, hcr1337, hM⟩ := ob_use hM
            refine cl_V (As := [.int 124]) (rest := []) (w_Parser_this_tokens_tree cI ad r1337 o_tokens_L23 r1336.2) [] ⟨hx, hb, hml, hown, hts⟩ (c_Parser_take l D cI sd ad o_this_L23 o_tokens_L23 124 r1337 hcr1337) (cwV2 hts q614 mvX4_take rfl rfl ⟨(Nat.le_of_ble_eq_true rfl), (Nat.le_of_ble_eq_true rfl)⟩) hK hE hA hP hD hS 0 (T := TX4) (N := 12) (ci := 4) rfl rfl [0, 1, 2, 3, 4] rfl (by decide) rfl rfl rfl rfl rfl rfl hl.1 (Nat.le_of_ble_eq_true rfl) dX4_row_74 ⟨Nat.zero_le _, Nat.zero_le _⟩ (fun H locs hP hD hS => ?_)
            refine lv_aload_n hx hb dX4_row_77 rfl (lv_at hl 2 rfl) ?_
            refine lv_iload_n hx hb dX4_row_78 rfl (lv_at hl 1 rfl) ?_
            obtain ⟨r1338, hcr1338, hM⟩ := ob_use hM
            refine cl_V (As := [.int w2_L23]) (rest := []) (w_Parser_this_tokens_tree cI ad r1338.1 o_tokens_L23 r1338.2) [] ⟨hx, hb, hml, hown, hts⟩ (c_Parser_cell l D cI sd ad r1337 o_tokens_L23 r1336.2 w2_L23 r1338 hcr1338) (cwV2 hts q681 mvX4_cell rfl rfl ⟨(Nat.le_of_ble_eq_true rfl), (Nat.le_of_ble_eq_true rfl)⟩) hK hE hA hP hD hS 0 (T := TX4) (N := 12) (ci := 4) rfl rfl [0, 1, 2, 3, 4, 5, 6, 7, 8, 9, 10, 11, 12] rfl (by decide) rfl rfl rfl rfl rfl rfl hl.1 (Nat.le_of_ble_eq_true rfl) dX4_row_79 ⟨Nat.zero_le _, Nat.zero_le _⟩ (fun H locs hP hD hS => ?_)
            obtain ⟨x1339, ex1339⟩ : ∃ y : Int32, y = v3_L23 + 1 := ⟨_, rfl⟩
            replace hM := nm_use ex1339 hM
            refine lv_iinc (v := x1339) (lv' := [(3, .int x1339), (2, .int w2_L23), (0, .ref (ad 22))]) hx hb dX4_row_82 hl (k := 0) rfl (by rw [ex1339]; rfl) (by decide) rfl (fun ls hl => ?_)
            refine lv_goto (tgt := 23) hx hb dX4_row_85 (by decide) ?_
            exact ih_L23 x1339 r1338.1 r1338.2 out_L23 _ _ _ hM hP hD hS (lv_sub hl [0, 1, 2] rfl) kx_L23
        · replace hM := if_f c1332 hM
          refine lv_aload_n hx hb dX4_row_39 rfl (lv_at hl 2 rfl) ?_
          obtain ⟨r1340, hcr1340, hM⟩ := ob_use hM
          refine cl_V (As := []) (rest := []) (w_Parser_this_tokens_tree cI ad o_this_L23 o_tokens_L23 o_tree_L23) (.int r1340 :: []) ⟨hx, hb, hml, hown, hts⟩ (c_Parser_startsCell l D cI sd ad o_this_L23 r1340 hcr1340) (cwV2 hts q699 mvX4_startsCell rfl rfl ⟨(Nat.le_of_ble_eq_true rfl), (Nat.le_of_ble_eq_true rfl)⟩) hK hE hA hP hD hS 0 (T := TX4) (N := 12) (ci := 4) rfl rfl [0] rfl (by decide) rfl rfl rfl rfl rfl rfl hl.1 (Nat.le_of_ble_eq_true rfl) dX4_row_40 ⟨Nat.zero_le _, Nat.zero_le _⟩ (fun H locs hP hD hS => ?_)
          refine lv_if_eq (tgt := 88) hx hb dX4_row_43 (by decide) (fun c1341 => ?_) (fun c1341 => ?_)
          · replace hM := if_t c1341 hM
            cases hM
            exact kx_L23 _ _ _ hP hD hS (lv_sub hl [1, 2] rfl)
          · replace hM := if_f c1341 hM
            refine lv_aload_n hx hb dX4_row_46 rfl (lv_at hl 2 rfl) ?_
            refine va_get (D := D) (ci := 4) (v := .int o_this_L23.2.1) (C := RX4) (T := TX4) (N := 12) hx hb hts layX4 hown hK hP 0 rfl rfl 3 (by decide) (hts _ (inA q400)) (fun _ h9 => h9) rfl dX4_row_47 ?_
            refine lv_bipush (v := 124) hx hb dX4_row_50 (by decide) ?_
            refine lv_icmp_ne (tgt := 77) hx hb dX4_row_52 (by decide) (fun c1342 => ?_) (fun c1342 => ?_)
            · replace hM := if_f c1342 hM
              refine lv_aload_n hx hb dX4_row_77 rfl (lv_at hl 2 rfl) ?_
              refine lv_iload_n hx hb dX4_row_78 rfl (lv_at hl 1 rfl) ?_
              obtain ⟨r1343, hcr1343, hM⟩ := ob_use hM
              refine cl_V (As := [.int w2_L23]) (rest := []) (w_Parser_this_tokens_tree cI ad r1343.1 o_tokens_L23 r1343.2) [] ⟨hx, hb, hml, hown, hts⟩ (c_Parser_cell l D cI sd ad o_this_L23 o_tokens_L23 o_tree_L23 w2_L23 r1343 hcr1343) (cwV2 hts q681 mvX4_cell rfl rfl ⟨(Nat.le_of_ble_eq_true rfl), (Nat.le_of_ble_eq_true rfl)⟩) hK hE hA hP hD hS 0 (T := TX4) (N := 12) (ci := 4) rfl rfl [0, 1, 2, 3, 4, 5, 6, 7, 8, 9, 10, 11, 12] rfl (by decide) rfl rfl rfl rfl rfl rfl hl.1 (Nat.le_of_ble_eq_true rfl) dX4_row_79 ⟨Nat.zero_le _, Nat.zero_le _⟩ (fun H locs hP hD hS => ?_)
              obtain ⟨x1344, ex1344⟩ : ∃ y : Int32, y = v3_L23 + 1 := ⟨_, rfl⟩
              replace hM := nm_use ex1344 hM
              refine lv_iinc (v := x1344) (lv' := [(3, .int x1344), (2, .int w2_L23), (0, .ref (ad 22))]) hx hb dX4_row_82 hl (k := 0) rfl (by rw [ex1344]; rfl) (by decide) rfl (fun ls hl => ?_)
              refine lv_goto (tgt := 23) hx hb dX4_row_85 (by decide) ?_
              exact ih_L23 x1344 r1343.1 r1343.2 out_L23 _ _ _ hM hP hD hS (lv_sub hl [0, 1, 2] rfl) kx_L23
            · replace hM := if_t c1342 hM
              refine lv_aload_n hx hb dX4_row_55 rfl (lv_at hl 2 rfl) ?_
              refine va_get (D := D) (ci := 4) (v := .ref (ad 14)) (C := RX4) (T := TX4) (N := 12) hx hb hts layX4 hown hK hP 0 rfl rfl 1 (by decide) (hts _ (inA q398)) (fun _ h9 => h9) rfl dX4_row_56 ?_
              refine lv_iload_n hx hb dX4_row_59 rfl (lv_at hl 1 rfl) ?_
              refine lv_bipush (v := 29) hx hb dX4_row_60 (by decide) ?_
              refine lv_aload_n hx hb dX4_row_62 rfl (lv_at hl 2 rfl) ?_
              refine va_get (D := D) (ci := 4) (v := .int o_this_L23.2.2.1) (C := RX4) (T := TX4) (N := 12) hx hb hts layX4 hown hK hP 0 rfl rfl 4 (by decide) (hts _ (inA q401)) (fun _ h9 => h9) rfl dX4_row_63 ?_
              refine lv_iconst (v := 0) hx hb dX4_row_66 (by decide) ?_
              obtain ⟨r1345, hcr1345, hM⟩ := ob_use hM
              refine cl_V (As := [.int w2_L23, .int 29, .int o_this_L23.2.2.1, .int 0]) (rest := []) (w_Parser_this_tokens_tree cI ad o_this_L23 o_tokens_L23 r1345.2) (.int r1345.1 :: []) ⟨hx, hb, hml, hown, hts⟩ (c_Tree_add l D cI sd ad o_tree_L23 w2_L23 29 o_this_L23.2.2.1 0 r1345 hcr1345) (cwV2 hts q622 mvX3_add rfl rfl ⟨(Nat.le_of_ble_eq_true rfl), (Nat.le_of_ble_eq_true rfl)⟩) hK hE hA hP hD hS 5 (T := TX3) (N := 8) (ci := 3) rfl rfl [5, 6, 7, 8, 9, 10, 11, 12] rfl (by decide) rfl rfl rfl rfl rfl rfl hl.1 (Nat.le_of_ble_eq_true rfl) dX4_row_67 ⟨Nat.zero_le _, Nat.zero_le _⟩ (fun H locs hP hD hS => ?_)
              refine lv_pop hx hb dX4_row_70 rfl ?_
              refine lv_aload_n hx hb dX4_row_71 rfl (lv_at hl 2 rfl) ?_
              refine lv_bipush (v := 124) hx hb dX4_row_72 (by decide) ?_
              obtain ⟨r1346, hcr1346, hM⟩ := ob_use hM
              refine cl_V (As := [.int 124]) (rest := []) (w_Parser_this_tokens_tree cI ad r1346 o_tokens_L23 r1345.2) [] ⟨hx, hb, hml, hown, hts⟩ (c_Parser_take l D cI sd ad o_this_L23 o_tokens_L23 124 r1346 hcr1346) (cwV2 hts q614 mvX4_take rfl rfl ⟨(Nat.le_of_ble_eq_true rfl), (Nat.le_of_ble_eq_true rfl)⟩) hK hE hA hP hD hS 0 (T := TX4) (N := 12) (ci := 4) rfl rfl [0, 1, 2, 3, 4] rfl (by decide) rfl rfl rfl rfl rfl rfl hl.1 (Nat.le_of_ble_eq_true rfl) dX4_row_74 ⟨Nat.zero_le _, Nat.zero_le _⟩ (fun H locs hP hD hS => ?_)
              refine lv_aload_n hx hb dX4_row_77 rfl (lv_at hl 2 rfl) ?_
              refine lv_iload_n hx hb dX4_row_78 rfl (lv_at hl 1 rfl) ?_
              obtain ⟨r1347, hcr1347, hM⟩ := ob_use hM
              refine cl_V (As := [.int w2_L23]) (rest := []) (w_Parser_this_tokens_tree cI ad r1347.1 o_tokens_L23 r1347.2) [] ⟨hx, hb, hml, hown, hts⟩ (c_Parser_cell l D cI sd ad r1346 o_tokens_L23 r1345.2 w2_L23 r1347 hcr1347) (cwV2 hts q681 mvX4_cell rfl rfl ⟨(Nat.le_of_ble_eq_true rfl), (Nat.le_of_ble_eq_true rfl)⟩) hK hE hA hP hD hS 0 (T := TX4) (N := 12) (ci := 4) rfl rfl [0, 1, 2, 3, 4, 5, 6, 7, 8, 9, 10, 11, 12] rfl (by decide) rfl rfl rfl rfl rfl rfl hl.1 (Nat.le_of_ble_eq_true rfl) dX4_row_79 ⟨Nat.zero_le _, Nat.zero_le _⟩ (fun H locs hP hD hS => ?_)
              obtain ⟨x1348, ex1348⟩ : ∃ y : Int32, y = v3_L23 + 1 := ⟨_, rfl⟩
              replace hM := nm_use ex1348 hM
              refine lv_iinc (v := x1348) (lv' := [(3, .int x1348), (2, .int w2_L23), (0, .ref (ad 22))]) hx hb dX4_row_82 hl (k := 0) rfl (by rw [ex1348]; rfl) (by decide) rfl (fun ls hl => ?_)
              refine lv_goto (tgt := 23) hx hb dX4_row_85 (by decide) ?_
              exact ih_L23 x1348 r1347.1 r1347.2 out_L23 _ _ _ hM hP hD hS (lv_sub hl [0, 1, 2] rfl) kx_L23
  obtain ⟨r3, hcr3, hM⟩ := ob_use hM
  refine lp_L23 r1.1 o_tokens FU 0 r2.1 r2.2 r3 _ _ _ hcr3 hP hD hS (lv_sub hl [0, 1, 2] rfl) (fun H locs ls hP hD hS hl => ?_)
  refine lv_aload_n hx hb dX4_row_88 rfl (lv_at hl 1 rfl) ?_
  refine lv_bipush (v := 59) hx hb dX4_row_89 (by decide) ?_
  obtain ⟨r4, hcr4, hM⟩ := ob_use hM
  refine cl_V (As := [.int 59]) (rest := []) (w_Parser_this_tokens_tree cI ad r4 o_tokens r3.2) [] ⟨hx, hb, hml, hown, hts⟩ (c_Parser_take l D cI sd ad r3.1 o_tokens 59 r4 hcr4) (cwV2 hts q614 mvX4_take rfl rfl ⟨(Nat.le_of_ble_eq_true rfl), (Nat.le_of_ble_eq_true rfl)⟩) hK hE hA hP hD hS 0 (T := TX4) (N := 12) (ci := 4) rfl rfl [0, 1, 2, 3, 4] rfl (by decide) rfl rfl rfl rfl rfl rfl hl.1 (Nat.le_of_ble_eq_true rfl) dX4_row_91 ⟨Nat.zero_le _, Nat.zero_le _⟩ (fun H locs hP hD hS => ?_)
  cases hM
  exact rt_v hx hb hr hlk hP hD hS rfl dX4_row_94

set_option maxHeartbeats 4000000 in
set_option maxRecDepth 100000 in
theorem c_Parser_ladder (l : Launch) (D : va_G) (cI : ClassId) (sd : Nat → Nat) (ad : Nat → Nat) (o_this : S_Parser) (o_tokens : S_Tokens) (o_tree : S_Tree) (a1 : Int32) (res : S_Parser × S_Tree) (hM : f_Parser_ladder o_this o_tokens o_tree a1 = some res) : Ctr l D cI sd yX4_ladder (wsM yX4_ladder cX4_ladder 6 (Option.none : Option Jvm.ClassFile.FieldType)) { frames := 5, cells := 0, slots := 0, locals := 115 } [.ref (ad 22), .int a1] (w_Parser_this_tokens_tree cI ad o_this o_tokens o_tree) (w_Parser_this_tokens_tree cI ad res.1 o_tokens res.2) none := by
  refine Ctr.of (cc := cX4_ladder) (maxL := 6) (own := RX4) (by decide +kernel) rfl rfl (Nat.le_of_ble_eq_true rfl) ?_
  intro p e s m below meth c A ls hx hb hr hml hown hts hlk hK hE hA hP hD hS hl
  have hl : lv_has ls 6 [(0, .ref (ad 22)), (1, .int a1)] := hl
  unfold f_Parser_ladder at hM
  refine lv_aload_n hx hb dX4_ladder_0 rfl (lv_at hl 0 rfl) ?_
  refine va_get (D := D) (ci := 4) (v := .ref (ad 14)) (C := RX4) (T := TX4) (N := 12) hx hb hts layX4 hown hK hP 0 rfl rfl 1 (by decide) (hts _ (inA q398)) (fun _ h9 => h9) rfl dX4_ladder_1 ?_
  refine lv_iload_n hx hb dX4_ladder_4 rfl (lv_at hl 1 rfl) ?_
  refine lv_bipush (v := 22) hx hb dX4_ladder_5 (by decide) ?_
  refine lv_aload_n hx hb dX4_ladder_7 rfl (lv_at hl 0 rfl) ?_
  refine va_get (D := D) (ci := 4) (v := .int o_this.2.2.1) (C := RX4) (T := TX4) (N := 12) hx hb hts layX4 hown hK hP 0 rfl rfl 4 (by decide) (hts _ (inA q401)) (fun _ h9 => h9) rfl dX4_ladder_8 ?_
  refine lv_iconst (v := 0) hx hb dX4_ladder_11 (by decide) ?_
  obtain ⟨r1, hcr1, hM⟩ := ob_use hM
  refine cl_V (As := [.int a1, .int 22, .int o_this.2.2.1, .int 0]) (rest := []) (w_Parser_this_tokens_tree cI ad o_this o_tokens r1.2) (.int r1.1 :: []) ⟨hx, hb, hml, hown, hts⟩ (c_Tree_add l D cI sd ad o_tree a1 22 o_this.2.2.1 0 r1 hcr1) (cwV2 hts q622 mvX3_add rfl rfl ⟨(Nat.le_of_ble_eq_true rfl), (Nat.le_of_ble_eq_true rfl)⟩) hK hE hA hP hD hS 5 (T := TX3) (N := 8) (ci := 3) rfl rfl [5, 6, 7, 8, 9, 10, 11, 12] rfl (by decide) rfl rfl rfl rfl rfl rfl hl.1 (Nat.le_of_ble_eq_true rfl) dX4_ladder_12 ⟨Nat.zero_le _, Nat.zero_le _⟩ (fun H locs hP hD hS => ?_)
  refine lv_istore_n (lv' := [(2, .int r1.1), (0, .ref (ad 22)), (1, .int a1)]) hx hb dX4_ladder_15 rfl hl (by decide) rfl (fun ls hl => ?_)
  refine lv_aload_n hx hb dX4_ladder_16 rfl (lv_at hl 1 rfl) ?_
  refine lv_sipush (v := 293) hx hb dX4_ladder_17 (by decide) ?_
  obtain ⟨r2, hcr2, hM⟩ := ob_use hM
  refine cl_V (As := [.int 293]) (rest := []) (w_Parser_this_tokens_tree cI ad r2 o_tokens r1.2) [] ⟨hx, hb, hml, hown, hts⟩ (c_Parser_take l D cI sd ad o_this o_tokens 293 r2 hcr2) (cwV2 hts q614 mvX4_take rfl rfl ⟨(Nat.le_of_ble_eq_true rfl), (Nat.le_of_ble_eq_true rfl)⟩) hK hE hA hP hD hS 0 (T := TX4) (N := 12) (ci := 4) rfl rfl [0, 1, 2, 3, 4] rfl (by decide) rfl rfl rfl rfl rfl rfl hl.1 (Nat.le_of_ble_eq_true rfl) dX4_ladder_20 ⟨Nat.zero_le _, Nat.zero_le _⟩ (fun H locs hP hD hS => ?_)
  refine lv_iconst (v := 0) hx hb dX4_ladder_23 (by decide) ?_
  refine lv_istore_n (lv' := [(3, .int 0), (2, .int r1.1), (0, .ref (ad 22)), (1, .int a1)]) hx hb dX4_ladder_24 rfl hl (by decide) rfl (fun ls hl => ?_)
  have lp_L25 : ∀ (w2_L25 : Int32) (o_tokens_L25 : S_Tokens) (n : Nat) (v3_L25 : Int32) (o_this_L25 : S_Parser) (o_tree_L25 : S_Tree) (out_L25 : S_Parser × S_Tree) (H : Heap) (locs : List Loc) (ls : Array Slot), f_Parser_ladder_L25 w2_L25 o_tokens_L25 n v3_L25 o_this_L25 o_tree_L25 = some out_L25 → va_P D vwCl (w_Parser_this_tokens_tree cI ad o_this_L25 o_tokens_L25 o_tree_L25) H → va_D A (w_Parser_this_tokens_tree cI ad o_this_L25 o_tokens_L25 o_tree_L25) → va_S A s.heap H locs → lv_has ls 6 [(3, .int v3_L25), (2, .int w2_L25), (0, .ref (ad 22))] → (∀ (H : Heap) (locs : List Loc) (ls : Array Slot), va_P D vwCl (w_Parser_this_tokens_tree cI ad out_L25.1 o_tokens_L25 out_L25.2) H → va_D A (w_Parser_this_tokens_tree cI ad out_L25.1 o_tokens_L25 out_L25.2) → va_S A s.heap H locs → lv_has ls 6 [(2, .int w2_L25), (0, .ref (ad 22))] → W p l e { frames := 5, cells := 0, slots := 0, locals := 115 } s m [.ref (ad 22), .int a1].toArray below meth c H locs 0 0 (MQ below (CQ D A (w_Parser_this_tokens_tree cI ad res.1 o_tokens res.2) none) [.ref (ad 22), .int a1].toArray s 0 0 A) (F0 m 115 ls [])) → W p l e { frames := 5, cells := 0, slots := 0, locals := 115 } s m [.ref (ad 22), .int a1].toArray below meth c H locs 0 0 (MQ below (CQ D A (w_Parser_this_tokens_tree cI ad res.1 o_tokens res.2) none) [.ref (ad 22), .int a1].toArray s 0 0 A) (F0 m 25 ls []) := by
    intro w2_L25 o_tokens_L25 n
    induction n with
    | zero => intro v3_L25 o_this_L25 o_tree_L25 out_L25 H locs ls hM; exact absurd (show none = some _ from hM) (by simp)
    | succ n ih_L25 =>
      intro v3_L25 o_this_L25 o_tree_L25 out_L25 H locs ls hM hP hD hS hl kx_L25
      rw [f_Parser_ladder_L25] at hM
      refine lv_iload_n hx hb dX4_ladder_25 rfl (lv_at hl 0 rfl) ?_
      refine lv_sipush (v := 8192) hx hb dX4_ladder_26 (by decide) ?_
      refine lv_icmp_ge (tgt := 115) hx hb dX4_ladder_29 (by decide) (fun c1351 => ?_) (fun c1351 => ?_)
      · replace hM := if_t c1351 hM
        cases hM
        exact kx_L25 _ _ _ hP hD hS (lv_sub hl [1, 2] rfl)
      · replace hM := if_f c1351 hM
        refine lv_aload_n hx hb dX4_ladder_32 rfl (lv_at hl 2 rfl) ?_
        refine va_get (D := D) (ci := 4) (v := .int o_this_L25.2.1) (C := RX4) (T := TX4) (N := 12) hx hb hts layX4 hown hK hP 0 rfl rfl 3 (by decide) (hts _ (inA q400)) (fun _ h9 => h9) rfl dX4_ladder_33 ?_
        refine lv_sipush (v := 295) hx hb dX4_ladder_36 (by decide) ?_
        refine lv_icmp_ne (tgt := 115) hx hb dX4_ladder_39 (by decide) (fun c1352 => ?_) (fun c1352 => ?_)
        · replace hM := if_f c1352 hM
          cases hM
          exact kx_L25 _ _ _ hP hD hS (lv_sub hl [1, 2] rfl)
        · replace hM := if_t c1352 hM
          refine lv_aload_n hx hb dX4_ladder_42 rfl (lv_at hl 2 rfl) ?_
          refine va_get (D := D) (ci := 4) (v := .ref (ad 14)) (C := RX4) (T := TX4) (N := 12) hx hb hts layX4 hown hK hP 0 rfl rfl 1 (by decide) (hts _ (inA q398)) (fun _ h9 => h9) rfl dX4_ladder_43 ?_
          refine lv_iload_n hx hb dX4_ladder_46 rfl (lv_at hl 1 rfl) ?_
          refine lv_bipush (v := 23) hx hb dX4_ladder_47 (by decide) ?_
          refine lv_aload_n hx hb dX4_ladder_49 rfl (lv_at hl 2 rfl) ?_
          refine va_get (D := D) (ci := 4) (v := .int o_this_L25.2.2.1) (C := RX4) (T := TX4) (N := 12) hx hb hts layX4 hown hK hP 0 rfl rfl 4 (by decide) (hts _ (inA q401)) (fun _ h9 => h9) rfl dX4_ladder_50 ?_
          refine lv_iconst (v := 0) hx hb dX4_ladder_53 (by decide) ?_
          obtain ⟨r1353, hcr1353, hM⟩ := ob_use hM
          refine cl_V (As := [.int w2_L25, .int 23, .int o_this_L25.2.2.1, .int 0]) (rest := []) (w_Parser_this_tokens_tree cI ad o_this_L25 o_tokens_L25 r1353.2) (.int r1353.1 :: []) ⟨hx, hb, hml, hown, hts⟩ (c_Tree_add l D cI sd ad o_tree_L25 w2_L25 23 o_this_L25.2.2.1 0 r1353 hcr1353) (cwV2 hts q622 mvX3_add rfl rfl ⟨(Nat.le_of_ble_eq_true rfl), (Nat.le_of_ble_eq_true rfl)⟩) hK hE hA hP hD hS 5 (T := TX3) (N := 8) (ci := 3) rfl rfl [5, 6, 7, 8, 9, 10, 11, 12] rfl (by decide) rfl rfl rfl rfl rfl rfl hl.1 (Nat.le_of_ble_eq_true rfl) dX4_ladder_54 ⟨Nat.zero_le _, Nat.zero_le _⟩ (fun H locs hP hD hS => ?_)
          refine lv_istore (lv' := [(4, .int r1353.1), (3, .int v3_L25), (2, .int w2_L25), (0, .ref (ad 22))]) hx hb dX4_ladder_57 hl (by decide) rfl (fun ls hl => ?_)
          refine lv_aload_n hx hb dX4_ladder_59 rfl (lv_at hl 3 rfl) ?_
          refine lv_sipush (v := 295) hx hb dX4_ladder_60 (by decide) ?_
          obtain ⟨r1354, hcr1354, hM⟩ := ob_use hM
          refine cl_V (As := [.int 295]) (rest := []) (w_Parser_this_tokens_tree cI ad r1354 o_tokens_L25 r1353.2) [] ⟨hx, hb, hml, hown, hts⟩ (c_Parser_take l D cI sd ad o_this_L25 o_tokens_L25 295 r1354 hcr1354) (cwV2 hts q614 mvX4_take rfl rfl ⟨(Nat.le_of_ble_eq_true rfl), (Nat.le_of_ble_eq_true rfl)⟩) hK hE hA hP hD hS 0 (T := TX4) (N := 12) (ci := 4) rfl rfl [0, 1, 2, 3, 4] rfl (by decide) rfl rfl rfl rfl rfl rfl hl.1 (Nat.le_of_ble_eq_true rfl) dX4_ladder_63 ⟨Nat.zero_le _, Nat.zero_le _⟩ (fun H locs hP hD hS => ?_)
          refine lv_aload_n hx hb dX4_ladder_66 rfl (lv_at hl 3 rfl) ?_
          refine lv_iload hx hb dX4_ladder_67 (lv_at hl 0 rfl) ?_
          obtain ⟨r1355, hcr1355, hM⟩ := ob_use hM
          refine cl_V (As := [.int r1353.1]) (rest := []) (w_Parser_this_tokens_tree cI ad r1355.1 o_tokens_L25 r1355.2) [] ⟨hx, hb, hml, hown, hts⟩ (c_Parser_row l D cI sd ad r1354 o_tokens_L25 r1353.2 r1353.1 r1355 hcr1355) (cwV2 hts q677 mvX4_row rfl rfl ⟨(Nat.le_of_ble_eq_true rfl), (Nat.le_of_ble_eq_true rfl)⟩) hK hE hA hP hD hS 0 (T := TX4) (N := 12) (ci := 4) rfl rfl [0, 1, 2, 3, 4, 5, 6, 7, 8, 9, 10, 11, 12] rfl (by decide) rfl rfl rfl rfl rfl rfl hl.1 (Nat.le_of_ble_eq_true rfl) dX4_ladder_69 ⟨Nat.zero_le _, Nat.zero_le _⟩ (fun H locs hP hD hS => ?_)
          refine lv_iconst (v := 0) hx hb dX4_ladder_72 (by decide) ?_
          refine lv_istore (lv' := [(5, .int 0), (4, .int r1353.1), (3, .int v3_L25), (2, .int w2_L25), (0, .ref (ad 22))]) hx hb dX4_ladder_73 hl (by decide) rfl (fun ls hl => ?_)
          have lp_L75 : ∀ (w4_L75 : Int32) (w3_L75 : Int32) (w2_L75 : Int32) (o_tokens_L75 : S_Tokens) (n : Nat) (v5_L75 : Int32) (o_this_L75 : S_Parser) (o_tree_L75 : S_Tree) (out_L75 : S_Parser × S_Tree) (H : Heap) (locs : List Loc) (ls : Array Slot), f_Parser_ladder_L75 w4_L75 o_tokens_L75 n v5_L75 o_this_L75 o_tree_L75 = some out_L75 → va_P D vwCl (w_Parser_this_tokens_tree cI ad o_this_L75 o_tokens_L75 o_tree_L75) H → va_D A (w_Parser_this_tokens_tree cI ad o_this_L75 o_tokens_L75 o_tree_L75) → va_S A s.heap H locs → lv_has ls 6 [(5, .int v5_L75), (4, .int w4_L75), (3, .int w3_L75), (2, .int w2_L75), (0, .ref (ad 22))] → (∀ (H : Heap) (locs : List Loc) (ls : Array Slot), va_P D vwCl (w_Parser_this_tokens_tree cI ad out_L75.1 o_tokens_L75 out_L75.2) H → va_D A (w_Parser_this_tokens_tree cI ad out_L75.1 o_tokens_L75 out_L75.2) → va_S A s.heap H locs → lv_has ls 6 [(4, .int w4_L75), (3, .int w3_L75), (2, .int w2_L75), (0, .ref (ad 22))] → W p l e { frames := 5, cells := 0, slots := 0, locals := 115 } s m [.ref (ad 22), .int a1].toArray below meth c H locs 0 0 (MQ below (CQ D A (w_Parser_this_tokens_tree cI ad res.1 o_tokens res.2) none) [.ref (ad 22), .int a1].toArray s 0 0 A) (F0 m 102 ls [])) → W p l e { frames := 5, cells := 0, slots := 0, locals := 115 } s m [.ref (ad 22), .int a1].toArray below meth c H locs 0 0 (MQ below (CQ D A (w_Parser_this_tokens_tree cI ad res.1 o_tokens res.2) none) [.ref (ad 22), .int a1].toArray s 0 0 A) (F0 m 75 ls []) := by
            intro w4_L75 w3_L75 w2_L75 o_tokens_L75 n
            induction n with
            | zero => intro v5_L75 o_this_L75 o_tree_L75 out_L75 H locs ls hM; exact absurd (show none = some _ from hM) (by simp)
            | succ n ih_L75 =>
              intro v5_L75 o_this_L75 o_tree_L75 out_L75 H locs ls hM hP hD hS hl kx_L75
              rw [f_Parser_ladder_L75] at hM
              refine lv_iload hx hb dX4_ladder_75 (lv_at hl 0 rfl) ?_
              refine lv_sipush (v := 8192) hx hb dX4_ladder_77 (by decide) ?_
              refine lv_icmp_ge (tgt := 102) hx hb dX4_ladder_80 (by decide) (fun c1951 => ?_) (fun c1951 => ?_)
              · replace hM := if_t c1951 hM
                cases hM
                exact kx_L75 _ _ _ hP hD hS (lv_sub hl [1, 2, 3, 4] rfl)
              · replace hM := if_f c1951 hM
                refine lv_aload_n hx hb dX4_ladder_83 rfl (lv_at hl 4 rfl) ?_
                obtain ⟨r1952, hcr1952, hM⟩ := ob_use hM
                refine cl_V (As := []) (rest := []) (w_Parser_this_tokens_tree cI ad o_this_L75 o_tokens_L75 o_tree_L75) (.int r1952 :: []) ⟨hx, hb, hml, hown, hts⟩ (c_Parser_startsCell l D cI sd ad o_this_L75 r1952 hcr1952) (cwV2 hts q699 mvX4_startsCell rfl rfl ⟨(Nat.le_of_ble_eq_true rfl), (Nat.le_of_ble_eq_true rfl)⟩) hK hE hA hP hD hS 0 (T := TX4) (N := 12) (ci := 4) rfl rfl [0] rfl (by decide) rfl rfl rfl rfl rfl rfl hl.1 (Nat.le_of_ble_eq_true rfl) dX4_ladder_84 ⟨Nat.zero_le _, Nat.zero_le _⟩ (fun H locs hP hD hS => ?_)
                refine lv_if_eq (tgt := 102) hx hb dX4_ladder_87 (by decide) (fun c1953 => ?_) (fun c1953 => ?_)
                · replace hM := if_t c1953 hM
                  cases hM
                  exact kx_L75 _ _ _ hP hD hS (lv_sub hl [1, 2, 3, 4] rfl)
                · replace hM := if_f c1953 hM
                  refine lv_aload_n hx hb dX4_ladder_90 rfl (lv_at hl 4 rfl) ?_
                  refine lv_iload hx hb dX4_ladder_91 (lv_at hl 1 rfl) ?_
                  obtain ⟨r1954, hcr1954, hM⟩ := ob_use hM
                  refine cl_V (As := [.int w4_L75]) (rest := []) (w_Parser_this_tokens_tree cI ad r1954.1 o_tokens_L75 r1954.2) [] ⟨hx, hb, hml, hown, hts⟩ (c_Parser_row l D cI sd ad o_this_L75 o_tokens_L75 o_tree_L75 w4_L75 r1954 hcr1954) (cwV2 hts q677 mvX4_row rfl rfl ⟨(Nat.le_of_ble_eq_true rfl), (Nat.le_of_ble_eq_true rfl)⟩) hK hE hA hP hD hS 0 (T := TX4) (N := 12) (ci := 4) rfl rfl [0, 1, 2, 3, 4, 5, 6, 7, 8, 9, 10, 11, 12] rfl (by decide) rfl rfl rfl rfl rfl rfl hl.1 (Nat.le_of_ble_eq_true rfl) dX4_ladder_93 ⟨Nat.zero_le _, Nat.zero_le _⟩ (fun H locs hP hD hS => ?_)
                  obtain ⟨x1955, ex1955⟩ : ∃ y : Int32, y = v5_L75 + 1 := ⟨_, rfl⟩
                  replace hM := nm_use ex1955 hM
                  refine lv_iinc (v := x1955) (lv' := [(5, .int x1955), (4, .int w4_L75), (3, .int w3_L75), (2, .int w2_L75), (0, .ref (ad 22))]) hx hb dX4_ladder_96 hl (k := 0) rfl (by rw [ex1955]; rfl) (by decide) rfl (fun ls hl => ?_)
                  refine lv_goto (tgt := 75) hx hb dX4_ladder_99 (by decide) ?_
                  exact ih_L75 x1955 r1954.1 r1954.2 out_L75 _ _ _ hM hP hD hS (lv_sub hl [0, 1, 2, 3, 4] rfl) kx_L75
          obtain ⟨r1356, hcr1356, hM⟩ := ob_use hM
          refine lp_L75 r1353.1 v3_L25 w2_L25 o_tokens_L25 FU 0 r1355.1 r1355.2 r1356 _ _ _ hcr1356 hP hD hS (lv_sub hl [0, 1, 2, 3, 4] rfl) (fun H locs ls hP hD hS hl => ?_)
          refine lv_aload_n hx hb dX4_ladder_102 rfl (lv_at hl 3 rfl) ?_
          refine lv_sipush (v := 296) hx hb dX4_ladder_103 (by decide) ?_
          obtain ⟨r1357, hcr1357, hM⟩ := ob_use hM
          refine cl_V (As := [.int 296]) (rest := []) (w_Parser_this_tokens_tree cI ad r1357 o_tokens_L25 r1356.2) [] ⟨hx, hb, hml, hown, hts⟩ (c_Parser_take l D cI sd ad r1356.1 o_tokens_L25 296 r1357 hcr1357) (cwV2 hts q614 mvX4_take rfl rfl ⟨(Nat.le_of_ble_eq_true rfl), (Nat.le_of_ble_eq_true rfl)⟩) hK hE hA hP hD hS 0 (T := TX4) (N := 12) (ci := 4) rfl rfl [0, 1, 2, 3, 4] rfl (by decide) rfl rfl rfl rfl rfl rfl hl.1 (Nat.le_of_ble_eq_true rfl) dX4_ladder_106 ⟨Nat.zero_le _, Nat.zero_le _⟩ (fun H locs hP hD hS => ?_)
          obtain ⟨x1358, ex1358⟩ : ∃ y : Int32, y = v3_L25 + 1 := ⟨_, rfl⟩
          replace hM := nm_use ex1358 hM
          refine lv_iinc (v := x1358) (lv' := [(3, .int x1358), (4, .int r1353.1), (2, .int w2_L25), (0, .ref (ad 22))]) hx hb dX4_ladder_109 hl (k := 1) rfl (by rw [ex1358]; rfl) (by decide) rfl (fun ls hl => ?_)
          refine lv_goto (tgt := 25) hx hb dX4_ladder_112 (by decide) ?_
          exact ih_L25 x1358 r1357 r1356.2 out_L25 _ _ _ hM hP hD hS (lv_sub hl [0, 2, 3] rfl) kx_L25
  obtain ⟨r3, hcr3, hM⟩ := ob_use hM
  refine lp_L25 r1.1 o_tokens FU 0 r2 r1.2 r3 _ _ _ hcr3 hP hD hS (lv_sub hl [0, 1, 2] rfl) (fun H locs ls hP hD hS hl => ?_)
  refine lv_aload_n hx hb dX4_ladder_115 rfl (lv_at hl 1 rfl) ?_
  refine lv_sipush (v := 294) hx hb dX4_ladder_116 (by decide) ?_
  obtain ⟨r4, hcr4, hM⟩ := ob_use hM
  refine cl_V (As := [.int 294]) (rest := []) (w_Parser_this_tokens_tree cI ad r4 o_tokens r3.2) [] ⟨hx, hb, hml, hown, hts⟩ (c_Parser_take l D cI sd ad r3.1 o_tokens 294 r4 hcr4) (cwV2 hts q614 mvX4_take rfl rfl ⟨(Nat.le_of_ble_eq_true rfl), (Nat.le_of_ble_eq_true rfl)⟩) hK hE hA hP hD hS 0 (T := TX4) (N := 12) (ci := 4) rfl rfl [0, 1, 2, 3, 4] rfl (by decide) rfl rfl rfl rfl rfl rfl hl.1 (Nat.le_of_ble_eq_true rfl) dX4_ladder_119 ⟨Nat.zero_le _, Nat.zero_le _⟩ (fun H locs hP hD hS => ?_)
  cases hM
  exact rt_v hx hb hr hlk hP hD hS rfl dX4_ladder_122

set_option maxHeartbeats 4000000 in
set_option maxRecDepth 100000 in
theorem c_Parser_type (l : Launch) (D : va_G) (cI : ClassId) (sd : Nat → Nat) (ad : Nat → Nat) (o_this : S_Parser) (o_tokens : S_Tokens) (o_tree : S_Tree) (a1 : Int32) (res : S_Parser × S_Tree) (hM : f_Parser_type o_this o_tokens o_tree a1 = some res) : Ctr l D cI sd yX4_type (wsM yX4_type cX4_type 3 (Option.none : Option Jvm.ClassFile.FieldType)) { frames := 3, cells := 0, slots := 0, locals := 68 } [.ref (ad 22), .int a1] (w_Parser_this_tokens_tree cI ad o_this o_tokens o_tree) (w_Parser_this_tokens_tree cI ad res.1 o_tokens res.2) none := by
  refine Ctr.of (cc := cX4_type) (maxL := 3) (own := RX4) (by decide +kernel) rfl rfl (Nat.le_of_ble_eq_true rfl) ?_
  intro p e s m below meth c A ls hx hb hr hml hown hts hlk hK hE hA hP hD hS hl
  have hl : lv_has ls 3 [(0, .ref (ad 22)), (1, .int a1)] := hl
  unfold f_Parser_type at hM
  refine lv_aload_n hx hb dX4_type_0 rfl (lv_at hl 0 rfl) ?_
  refine va_get (D := D) (ci := 4) (v := .int o_this.2.1) (C := RX4) (T := TX4) (N := 12) hx hb hts layX4 hown hK hP 0 rfl rfl 3 (by decide) (hts _ (inA q400)) (fun _ h9 => h9) rfl dX4_type_1 ?_
  refine lv_iconst (v := 1) hx hb dX4_type_4 (by decide) ?_
  refine lv_icmp_ne (tgt := 35) hx hb dX4_type_5 (by decide) (fun c1 => ?_) (fun c1 => ?_)
  · replace hM := if_f c1 hM
    refine lv_aload_n hx hb dX4_type_35 rfl (lv_at hl 0 rfl) ?_
    refine va_get (D := D) (ci := 4) (v := .int o_this.2.1) (C := RX4) (T := TX4) (N := 12) hx hb hts layX4 hown hK hP 0 rfl rfl 3 (by decide) (hts _ (inA q400)) (fun _ h9 => h9) rfl dX4_type_36 ?_
    refine lv_sipush (v := 270) hx hb dX4_type_39 (by decide) ?_
    refine lv_icmp_ne (tgt := 112) hx hb dX4_type_42 (by decide) (fun c2 => ?_) (fun c2 => ?_)
    · replace hM := if_f c2 hM
      refine lv_aload_n hx hb dX4_type_112 rfl (lv_at hl 0 rfl) ?_
      refine lv_iload_n hx hb dX4_type_113 rfl (lv_at hl 1 rfl) ?_
      obtain ⟨r3, hcr3, hM⟩ := ob_use hM
      refine cl_V (As := [.int a1]) (rest := []) (w_Parser_this_tokens_tree cI ad r3.1 o_tokens r3.2) [] ⟨hx, hb, hml, hown, hts⟩ (c_Parser_simpleType l D cI sd ad o_this o_tokens o_tree a1 r3 hcr3) (cwV2 hts q641 mvX4_simpleType rfl rfl ⟨(Nat.le_of_ble_eq_true rfl), (Nat.le_of_ble_eq_true rfl)⟩) hK hE hA hP hD hS 0 (T := TX4) (N := 12) (ci := 4) rfl rfl [0, 1, 2, 3, 4, 5, 6, 7, 8, 9, 10, 11, 12] rfl (by decide) rfl rfl rfl rfl rfl rfl hl.1 (Nat.le_of_ble_eq_true rfl) dX4_type_114 ⟨Nat.zero_le _, Nat.zero_le _⟩ (fun H locs hP hD hS => ?_)
      cases hM
      exact rt_v hx hb hr hlk hP hD hS rfl dX4_type_117
    · replace hM := if_t c2 hM
      refine lv_aload_n hx hb dX4_type_45 rfl (lv_at hl 0 rfl) ?_
      refine va_get (D := D) (ci := 4) (v := .ref (ad 14)) (C := RX4) (T := TX4) (N := 12) hx hb hts layX4 hown hK hP 0 rfl rfl 1 (by decide) (hts _ (inA q398)) (fun _ h9 => h9) rfl dX4_type_46 ?_
      refine lv_iload_n hx hb dX4_type_49 rfl (lv_at hl 1 rfl) ?_
      refine lv_bipush (v := 9) hx hb dX4_type_50 (by decide) ?_
      refine lv_aload_n hx hb dX4_type_52 rfl (lv_at hl 0 rfl) ?_
      refine va_get (D := D) (ci := 4) (v := .int o_this.2.2.1) (C := RX4) (T := TX4) (N := 12) hx hb hts layX4 hown hK hP 0 rfl rfl 4 (by decide) (hts _ (inA q401)) (fun _ h9 => h9) rfl dX4_type_53 ?_
      refine lv_iconst (v := 0) hx hb dX4_type_56 (by decide) ?_
      obtain ⟨r4, hcr4, hM⟩ := ob_use hM
      refine cl_V (As := [.int a1, .int 9, .int o_this.2.2.1, .int 0]) (rest := []) (w_Parser_this_tokens_tree cI ad o_this o_tokens r4.2) (.int r4.1 :: []) ⟨hx, hb, hml, hown, hts⟩ (c_Tree_add l D cI sd ad o_tree a1 9 o_this.2.2.1 0 r4 hcr4) (cwV2 hts q622 mvX3_add rfl rfl ⟨(Nat.le_of_ble_eq_true rfl), (Nat.le_of_ble_eq_true rfl)⟩) hK hE hA hP hD hS 5 (T := TX3) (N := 8) (ci := 3) rfl rfl [5, 6, 7, 8, 9, 10, 11, 12] rfl (by decide) rfl rfl rfl rfl rfl rfl hl.1 (Nat.le_of_ble_eq_true rfl) dX4_type_57 ⟨Nat.zero_le _, Nat.zero_le _⟩ (fun H locs hP hD hS => ?_)
      refine lv_istore_n (lv' := [(2, .int r4.1), (0, .ref (ad 22)), (1, .int a1)]) hx hb dX4_type_60 rfl hl (by decide) rfl (fun ls hl => ?_)
      refine lv_aload_n hx hb dX4_type_61 rfl (lv_at hl 1 rfl) ?_
      refine lv_sipush (v := 270) hx hb dX4_type_62 (by decide) ?_
      obtain ⟨r5, hcr5, hM⟩ := ob_use hM
      refine cl_V (As := [.int 270]) (rest := []) (w_Parser_this_tokens_tree cI ad r5 o_tokens r4.2) [] ⟨hx, hb, hml, hown, hts⟩ (c_Parser_take l D cI sd ad o_this o_tokens 270 r5 hcr5) (cwV2 hts q614 mvX4_take rfl rfl ⟨(Nat.le_of_ble_eq_true rfl), (Nat.le_of_ble_eq_true rfl)⟩) hK hE hA hP hD hS 0 (T := TX4) (N := 12) (ci := 4) rfl rfl [0, 1, 2, 3, 4] rfl (by decide) rfl rfl rfl rfl rfl rfl hl.1 (Nat.le_of_ble_eq_true rfl) dX4_type_65 ⟨Nat.zero_le _, Nat.zero_le _⟩ (fun H locs hP hD hS => ?_)
      refine lv_aload_n hx hb dX4_type_68 rfl (lv_at hl 1 rfl) ?_
      refine lv_bipush (v := 91) hx hb dX4_type_69 (by decide) ?_
      obtain ⟨r6, hcr6, hM⟩ := ob_use hM
      refine cl_V (As := [.int 91]) (rest := []) (w_Parser_this_tokens_tree cI ad r6 o_tokens r4.2) [] ⟨hx, hb, hml, hown, hts⟩ (c_Parser_take l D cI sd ad r5 o_tokens 91 r6 hcr6) (cwV2 hts q614 mvX4_take rfl rfl ⟨(Nat.le_of_ble_eq_true rfl), (Nat.le_of_ble_eq_true rfl)⟩) hK hE hA hP hD hS 0 (T := TX4) (N := 12) (ci := 4) rfl rfl [0, 1, 2, 3, 4] rfl (by decide) rfl rfl rfl rfl rfl rfl hl.1 (Nat.le_of_ble_eq_true rfl) dX4_type_71 ⟨Nat.zero_le _, Nat.zero_le _⟩ (fun H locs hP hD hS => ?_)
      refine lv_aload_n hx hb dX4_type_74 rfl (lv_at hl 1 rfl) ?_
      refine lv_iload_n hx hb dX4_type_75 rfl (lv_at hl 0 rfl) ?_
      obtain ⟨r7, hcr7, hM⟩ := ob_use hM
      refine cl_V (As := [.int r4.1]) (rest := []) (w_Parser_this_tokens_tree cI ad r7.1 o_tokens r7.2) [] ⟨hx, hb, hml, hown, hts⟩ (c_Parser_constant l D cI sd ad r6 o_tokens r4.2 r4.1 r7 hcr7) (cwV2 hts q665 mvX4_constant rfl rfl ⟨(Nat.le_of_ble_eq_true rfl), (Nat.le_of_ble_eq_true rfl)⟩) hK hE hA hP hD hS 0 (T := TX4) (N := 12) (ci := 4) rfl rfl [0, 1, 2, 3, 4, 5, 6, 7, 8, 9, 10, 11, 12] rfl (by decide) rfl rfl rfl rfl rfl rfl hl.1 (Nat.le_of_ble_eq_true rfl) dX4_type_76 ⟨Nat.zero_le _, Nat.zero_le _⟩ (fun H locs hP hD hS => ?_)
      refine lv_aload_n hx hb dX4_type_79 rfl (lv_at hl 1 rfl) ?_
      refine lv_sipush (v := 11822) hx hb dX4_type_80 (by decide) ?_
      obtain ⟨r8, hcr8, hM⟩ := ob_use hM
      refine cl_V (As := [.int 11822]) (rest := []) (w_Parser_this_tokens_tree cI ad r8 o_tokens r7.2) [] ⟨hx, hb, hml, hown, hts⟩ (c_Parser_take l D cI sd ad r7.1 o_tokens 11822 r8 hcr8) (cwV2 hts q614 mvX4_take rfl rfl ⟨(Nat.le_of_ble_eq_true rfl), (Nat.le_of_ble_eq_true rfl)⟩) hK hE hA hP hD hS 0 (T := TX4) (N := 12) (ci := 4) rfl rfl [0, 1, 2, 3, 4] rfl (by decide) rfl rfl rfl rfl rfl rfl hl.1 (Nat.le_of_ble_eq_true rfl) dX4_type_83 ⟨Nat.zero_le _, Nat.zero_le _⟩ (fun H locs hP hD hS => ?_)
      refine lv_aload_n hx hb dX4_type_86 rfl (lv_at hl 1 rfl) ?_
      refine lv_iload_n hx hb dX4_type_87 rfl (lv_at hl 0 rfl) ?_
      obtain ⟨r9, hcr9, hM⟩ := ob_use hM
      refine cl_V (As := [.int r4.1]) (rest := []) (w_Parser_this_tokens_tree cI ad r9.1 o_tokens r9.2) [] ⟨hx, hb, hml, hown, hts⟩ (c_Parser_constant l D cI sd ad r8 o_tokens r7.2 r4.1 r9 hcr9) (cwV2 hts q665 mvX4_constant rfl rfl ⟨(Nat.le_of_ble_eq_true rfl), (Nat.le_of_ble_eq_true rfl)⟩) hK hE hA hP hD hS 0 (T := TX4) (N := 12) (ci := 4) rfl rfl [0, 1, 2, 3, 4, 5, 6, 7, 8, 9, 10, 11, 12] rfl (by decide) rfl rfl rfl rfl rfl rfl hl.1 (Nat.le_of_ble_eq_true rfl) dX4_type_88 ⟨Nat.zero_le _, Nat.zero_le _⟩ (fun H locs hP hD hS => ?_)
      refine lv_aload_n hx hb dX4_type_91 rfl (lv_at hl 1 rfl) ?_
      refine lv_bipush (v := 93) hx hb dX4_type_92 (by decide) ?_
      obtain ⟨r10, hcr10, hM⟩ := ob_use hM
      refine cl_V (As := [.int 93]) (rest := []) (w_Parser_this_tokens_tree cI ad r10 o_tokens r9.2) [] ⟨hx, hb, hml, hown, hts⟩ (c_Parser_take l D cI sd ad r9.1 o_tokens 93 r10 hcr10) (cwV2 hts q614 mvX4_take rfl rfl ⟨(Nat.le_of_ble_eq_true rfl), (Nat.le_of_ble_eq_true rfl)⟩) hK hE hA hP hD hS 0 (T := TX4) (N := 12) (ci := 4) rfl rfl [0, 1, 2, 3, 4] rfl (by decide) rfl rfl rfl rfl rfl rfl hl.1 (Nat.le_of_ble_eq_true rfl) dX4_type_94 ⟨Nat.zero_le _, Nat.zero_le _⟩ (fun H locs hP hD hS => ?_)
      refine lv_aload_n hx hb dX4_type_97 rfl (lv_at hl 1 rfl) ?_
      refine lv_sipush (v := 271) hx hb dX4_type_98 (by decide) ?_
      obtain ⟨r11, hcr11, hM⟩ := ob_use hM
      refine cl_V (As := [.int 271]) (rest := []) (w_Parser_this_tokens_tree cI ad r11 o_tokens r9.2) [] ⟨hx, hb, hml, hown, hts⟩ (c_Parser_take l D cI sd ad r10 o_tokens 271 r11 hcr11) (cwV2 hts q614 mvX4_take rfl rfl ⟨(Nat.le_of_ble_eq_true rfl), (Nat.le_of_ble_eq_true rfl)⟩) hK hE hA hP hD hS 0 (T := TX4) (N := 12) (ci := 4) rfl rfl [0, 1, 2, 3, 4] rfl (by decide) rfl rfl rfl rfl rfl rfl hl.1 (Nat.le_of_ble_eq_true rfl) dX4_type_101 ⟨Nat.zero_le _, Nat.zero_le _⟩ (fun H locs hP hD hS => ?_)
      refine lv_aload_n hx hb dX4_type_104 rfl (lv_at hl 1 rfl) ?_
      refine lv_iload_n hx hb dX4_type_105 rfl (lv_at hl 0 rfl) ?_
      obtain ⟨r12, hcr12, hM⟩ := ob_use hM
      refine cl_V (As := [.int r4.1]) (rest := []) (w_Parser_this_tokens_tree cI ad r12.1 o_tokens r12.2) [] ⟨hx, hb, hml, hown, hts⟩ (c_Parser_simpleType l D cI sd ad r11 o_tokens r9.2 r4.1 r12 hcr12) (cwV2 hts q641 mvX4_simpleType rfl rfl ⟨(Nat.le_of_ble_eq_true rfl), (Nat.le_of_ble_eq_true rfl)⟩) hK hE hA hP hD hS 0 (T := TX4) (N := 12) (ci := 4) rfl rfl [0, 1, 2, 3, 4, 5, 6, 7, 8, 9, 10, 11, 12] rfl (by decide) rfl rfl rfl rfl rfl rfl hl.1 (Nat.le_of_ble_eq_true rfl) dX4_type_106 ⟨Nat.zero_le _, Nat.zero_le _⟩ (fun H locs hP hD hS => ?_)
      refine lv_goto (tgt := 117) hx hb dX4_type_109 (by decide) ?_
      cases hM
      exact rt_v hx hb hr hlk hP hD hS rfl dX4_type_117
  · replace hM := if_t c1 hM
    refine lv_aload_n hx hb dX4_type_8 rfl (lv_at hl 0 rfl) ?_
    refine va_get (D := D) (ci := 4) (v := .ref (ad 14)) (C := RX4) (T := TX4) (N := 12) hx hb hts layX4 hown hK hP 0 rfl rfl 1 (by decide) (hts _ (inA q398)) (fun _ h9 => h9) rfl dX4_type_9 ?_
    refine lv_iload_n hx hb dX4_type_12 rfl (lv_at hl 1 rfl) ?_
    refine lv_bipush (v := 10) hx hb dX4_type_13 (by decide) ?_
    refine lv_aload_n hx hb dX4_type_15 rfl (lv_at hl 0 rfl) ?_
    refine va_get (D := D) (ci := 4) (v := .int o_this.2.2.1) (C := RX4) (T := TX4) (N := 12) hx hb hts layX4 hown hK hP 0 rfl rfl 4 (by decide) (hts _ (inA q401)) (fun _ h9 => h9) rfl dX4_type_16 ?_
    refine lv_aload_n hx hb dX4_type_19 rfl (lv_at hl 0 rfl) ?_
    refine va_get (D := D) (ci := 4) (v := .int o_this.2.2.2.1) (C := RX4) (T := TX4) (N := 12) hx hb hts layX4 hown hK hP 0 rfl rfl 5 (by decide) (hts _ (inA q402)) (fun _ h9 => h9) rfl dX4_type_20 ?_
    obtain ⟨r13, hcr13, hM⟩ := ob_use hM
    refine cl_V (As := [.int a1, .int 10, .int o_this.2.2.1, .int o_this.2.2.2.1]) (rest := []) (w_Parser_this_tokens_tree cI ad o_this o_tokens r13.2) (.int r13.1 :: []) ⟨hx, hb, hml, hown, hts⟩ (c_Tree_add l D cI sd ad o_tree a1 10 o_this.2.2.1 o_this.2.2.2.1 r13 hcr13) (cwV2 hts q622 mvX3_add rfl rfl ⟨(Nat.le_of_ble_eq_true rfl), (Nat.le_of_ble_eq_true rfl)⟩) hK hE hA hP hD hS 5 (T := TX3) (N := 8) (ci := 3) rfl rfl [5, 6, 7, 8, 9, 10, 11, 12] rfl (by decide) rfl rfl rfl rfl rfl rfl hl.1 (Nat.le_of_ble_eq_true rfl) dX4_type_23 ⟨Nat.zero_le _, Nat.zero_le _⟩ (fun H locs hP hD hS => ?_)
    refine lv_pop hx hb dX4_type_26 rfl ?_
    refine lv_aload_n hx hb dX4_type_27 rfl (lv_at hl 0 rfl) ?_
    refine lv_iconst (v := 1) hx hb dX4_type_28 (by decide) ?_
    obtain ⟨r14, hcr14, hM⟩ := ob_use hM
    refine cl_V (As := [.int 1]) (rest := []) (w_Parser_this_tokens_tree cI ad r14 o_tokens r13.2) [] ⟨hx, hb, hml, hown, hts⟩ (c_Parser_take l D cI sd ad o_this o_tokens 1 r14 hcr14) (cwV2 hts q614 mvX4_take rfl rfl ⟨(Nat.le_of_ble_eq_true rfl), (Nat.le_of_ble_eq_true rfl)⟩) hK hE hA hP hD hS 0 (T := TX4) (N := 12) (ci := 4) rfl rfl [0, 1, 2, 3, 4] rfl (by decide) rfl rfl rfl rfl rfl rfl hl.1 (Nat.le_of_ble_eq_true rfl) dX4_type_29 ⟨Nat.zero_le _, Nat.zero_le _⟩ (fun H locs hP hD hS => ?_)
    refine lv_goto (tgt := 117) hx hb dX4_type_32 (by decide) ?_
    cases hM
    exact rt_v hx hb hr hlk hP hD hS rfl dX4_type_117

set_option maxHeartbeats 4000000 in
set_option maxRecDepth 100000 in
theorem c_Parser_declaration (l : Launch) (D : va_G) (cI : ClassId) (sd : Nat → Nat) (ad : Nat → Nat) (o_this : S_Parser) (o_tokens : S_Tokens) (o_tree : S_Tree) (a1 : Int32) (res : S_Parser × S_Tree) (hM : f_Parser_declaration o_this o_tokens o_tree a1 = some res) : Ctr l D cI sd yX4_declaration (wsM yX4_declaration cX4_declaration 4 (Option.none : Option Jvm.ClassFile.FieldType)) { frames := 4, cells := 0, slots := 0, locals := 90 } [.ref (ad 22), .int a1] (w_Parser_this_tokens_tree cI ad o_this o_tokens o_tree) (w_Parser_this_tokens_tree cI ad res.1 o_tokens res.2) none := by
  refine Ctr.of (cc := cX4_declaration) (maxL := 4) (own := RX4) (by decide +kernel) rfl rfl (Nat.le_of_ble_eq_true rfl) ?_
  intro p e s m below meth c A ls hx hb hr hml hown hts hlk hK hE hA hP hD hS hl
  have hl : lv_has ls 4 [(0, .ref (ad 22)), (1, .int a1)] := hl
  unfold f_Parser_declaration at hM
  refine lv_aload_n hx hb dX4_declaration_0 rfl (lv_at hl 0 rfl) ?_
  refine va_get (D := D) (ci := 4) (v := .ref (ad 14)) (C := RX4) (T := TX4) (N := 12) hx hb hts layX4 hown hK hP 0 rfl rfl 1 (by decide) (hts _ (inA q398)) (fun _ h9 => h9) rfl dX4_declaration_1 ?_
  refine lv_iload_n hx hb dX4_declaration_4 rfl (lv_at hl 1 rfl) ?_
  refine lv_iconst (v := 5) hx hb dX4_declaration_5 (by decide) ?_
  refine lv_aload_n hx hb dX4_declaration_6 rfl (lv_at hl 0 rfl) ?_
  refine va_get (D := D) (ci := 4) (v := .int o_this.2.2.1) (C := RX4) (T := TX4) (N := 12) hx hb hts layX4 hown hK hP 0 rfl rfl 4 (by decide) (hts _ (inA q401)) (fun _ h9 => h9) rfl dX4_declaration_7 ?_
  refine lv_iconst (v := 0) hx hb dX4_declaration_10 (by decide) ?_
  obtain ⟨r1, hcr1, hM⟩ := ob_use hM
  refine cl_V (As := [.int a1, .int 5, .int o_this.2.2.1, .int 0]) (rest := []) (w_Parser_this_tokens_tree cI ad o_this o_tokens r1.2) (.int r1.1 :: []) ⟨hx, hb, hml, hown, hts⟩ (c_Tree_add l D cI sd ad o_tree a1 5 o_this.2.2.1 0 r1 hcr1) (cwV2 hts q622 mvX3_add rfl rfl ⟨(Nat.le_of_ble_eq_true rfl), (Nat.le_of_ble_eq_true rfl)⟩) hK hE hA hP hD hS 5 (T := TX3) (N := 8) (ci := 3) rfl rfl [5, 6, 7, 8, 9, 10, 11, 12] rfl (by decide) rfl rfl rfl rfl rfl rfl hl.1 (Nat.le_of_ble_eq_true rfl) dX4_declaration_11 ⟨Nat.zero_le _, Nat.zero_le _⟩ (fun H locs hP hD hS => ?_)
  refine lv_istore_n (lv' := [(2, .int r1.1), (0, .ref (ad 22)), (1, .int a1)]) hx hb dX4_declaration_14 rfl hl (by decide) rfl (fun ls hl => ?_)
  refine lv_aload_n hx hb dX4_declaration_15 rfl (lv_at hl 1 rfl) ?_
  refine lv_iload_n hx hb dX4_declaration_16 rfl (lv_at hl 0 rfl) ?_
  obtain ⟨r2, hcr2, hM⟩ := ob_use hM
  refine cl_V (As := [.int r1.1]) (rest := []) (w_Parser_this_tokens_tree cI ad r2.1 o_tokens r2.2) [] ⟨hx, hb, hml, hown, hts⟩ (c_Parser_nameNode l D cI sd ad o_this o_tokens r1.2 r1.1 r2 hcr2) (cwV2 hts q657 mvX4_nameNode rfl rfl ⟨(Nat.le_of_ble_eq_true rfl), (Nat.le_of_ble_eq_true rfl)⟩) hK hE hA hP hD hS 0 (T := TX4) (N := 12) (ci := 4) rfl rfl [0, 1, 2, 3, 4, 5, 6, 7, 8, 9, 10, 11, 12] rfl (by decide) rfl rfl rfl rfl rfl rfl hl.1 (Nat.le_of_ble_eq_true rfl) dX4_declaration_17 ⟨Nat.zero_le _, Nat.zero_le _⟩ (fun H locs hP hD hS => ?_)
  refine lv_iconst (v := 0) hx hb dX4_declaration_20 (by decide) ?_
  refine lv_istore_n (lv' := [(3, .int 0), (2, .int r1.1), (0, .ref (ad 22)), (1, .int a1)]) hx hb dX4_declaration_21 rfl hl (by decide) rfl (fun ls hl => ?_)
  have lp_L22 : ∀ (w2_L22 : Int32) (o_tokens_L22 : S_Tokens) (n : Nat) (v3_L22 : Int32) (o_this_L22 : S_Parser) (o_tree_L22 : S_Tree) (out_L22 : S_Parser × S_Tree) (H : Heap) (locs : List Loc) (ls : Array Slot), f_Parser_declaration_L22 w2_L22 o_tokens_L22 n v3_L22 o_this_L22 o_tree_L22 = some out_L22 → va_P D vwCl (w_Parser_this_tokens_tree cI ad o_this_L22 o_tokens_L22 o_tree_L22) H → va_D A (w_Parser_this_tokens_tree cI ad o_this_L22 o_tokens_L22 o_tree_L22) → va_S A s.heap H locs → lv_has ls 4 [(3, .int v3_L22), (2, .int w2_L22), (0, .ref (ad 22))] → (∀ (H : Heap) (locs : List Loc) (ls : Array Slot), va_P D vwCl (w_Parser_this_tokens_tree cI ad out_L22.1 o_tokens_L22 out_L22.2) H → va_D A (w_Parser_this_tokens_tree cI ad out_L22.1 o_tokens_L22 out_L22.2) → va_S A s.heap H locs → lv_has ls 4 [(2, .int w2_L22), (0, .ref (ad 22))] → W p l e { frames := 4, cells := 0, slots := 0, locals := 90 } s m [.ref (ad 22), .int a1].toArray below meth c H locs 0 0 (MQ below (CQ D A (w_Parser_this_tokens_tree cI ad res.1 o_tokens res.2) none) [.ref (ad 22), .int a1].toArray s 0 0 A) (F0 m 55 ls [])) → W p l e { frames := 4, cells := 0, slots := 0, locals := 90 } s m [.ref (ad 22), .int a1].toArray below meth c H locs 0 0 (MQ below (CQ D A (w_Parser_this_tokens_tree cI ad res.1 o_tokens res.2) none) [.ref (ad 22), .int a1].toArray s 0 0 A) (F0 m 22 ls []) := by
    intro w2_L22 o_tokens_L22 n
    induction n with
    | zero => intro v3_L22 o_this_L22 o_tree_L22 out_L22 H locs ls hM; exact absurd (show none = some _ from hM) (by simp)
    | succ n ih_L22 =>
      intro v3_L22 o_this_L22 o_tree_L22 out_L22 H locs ls hM hP hD hS hl kx_L22
      rw [f_Parser_declaration_L22] at hM
      refine lv_iload_n hx hb dX4_declaration_22 rfl (lv_at hl 0 rfl) ?_
      refine lv_sipush (v := 8192) hx hb dX4_declaration_23 (by decide) ?_
      refine lv_icmp_ge (tgt := 55) hx hb dX4_declaration_26 (by decide) (fun c1321 => ?_) (fun c1321 => ?_)
      · replace hM := if_t c1321 hM
        cases hM
        exact kx_L22 _ _ _ hP hD hS (lv_sub hl [1, 2] rfl)
      · replace hM := if_f c1321 hM
        refine lv_aload_n hx hb dX4_declaration_29 rfl (lv_at hl 2 rfl) ?_
        refine va_get (D := D) (ci := 4) (v := .int o_this_L22.2.1) (C := RX4) (T := TX4) (N := 12) hx hb hts layX4 hown hK hP 0 rfl rfl 3 (by decide) (hts _ (inA q400)) (fun _ h9 => h9) rfl dX4_declaration_30 ?_
        refine lv_bipush (v := 44) hx hb dX4_declaration_33 (by decide) ?_
        refine lv_icmp_ne (tgt := 55) hx hb dX4_declaration_35 (by decide) (fun c1322 => ?_) (fun c1322 => ?_)
        · replace hM := if_f c1322 hM
          cases hM
          exact kx_L22 _ _ _ hP hD hS (lv_sub hl [1, 2] rfl)
        · replace hM := if_t c1322 hM
          refine lv_aload_n hx hb dX4_declaration_38 rfl (lv_at hl 2 rfl) ?_
          refine lv_bipush (v := 44) hx hb dX4_declaration_39 (by decide) ?_
          obtain ⟨r1323, hcr1323, hM⟩ := ob_use hM
          refine cl_V (As := [.int 44]) (rest := []) (w_Parser_this_tokens_tree cI ad r1323 o_tokens_L22 o_tree_L22) [] ⟨hx, hb, hml, hown, hts⟩ (c_Parser_take l D cI sd ad o_this_L22 o_tokens_L22 44 r1323 hcr1323) (cwV2 hts q614 mvX4_take rfl rfl ⟨(Nat.le_of_ble_eq_true rfl), (Nat.le_of_ble_eq_true rfl)⟩) hK hE hA hP hD hS 0 (T := TX4) (N := 12) (ci := 4) rfl rfl [0, 1, 2, 3, 4] rfl (by decide) rfl rfl rfl rfl rfl rfl hl.1 (Nat.le_of_ble_eq_true rfl) dX4_declaration_41 ⟨Nat.zero_le _, Nat.zero_le _⟩ (fun H locs hP hD hS => ?_)
          refine lv_aload_n hx hb dX4_declaration_44 rfl (lv_at hl 2 rfl) ?_
          refine lv_iload_n hx hb dX4_declaration_45 rfl (lv_at hl 1 rfl) ?_
          obtain ⟨r1324, hcr1324, hM⟩ := ob_use hM
          refine cl_V (As := [.int w2_L22]) (rest := []) (w_Parser_this_tokens_tree cI ad r1324.1 o_tokens_L22 r1324.2) [] ⟨hx, hb, hml, hown, hts⟩ (c_Parser_nameNode l D cI sd ad r1323 o_tokens_L22 o_tree_L22 w2_L22 r1324 hcr1324) (cwV2 hts q657 mvX4_nameNode rfl rfl ⟨(Nat.le_of_ble_eq_true rfl), (Nat.le_of_ble_eq_true rfl)⟩) hK hE hA hP hD hS 0 (T := TX4) (N := 12) (ci := 4) rfl rfl [0, 1, 2, 3, 4, 5, 6, 7, 8, 9, 10, 11, 12] rfl (by decide) rfl rfl rfl rfl rfl rfl hl.1 (Nat.le_of_ble_eq_true rfl) dX4_declaration_46 ⟨Nat.zero_le _, Nat.zero_le _⟩ (fun H locs hP hD hS => ?_)
          obtain ⟨x1325, ex1325⟩ : ∃ y : Int32, y = v3_L22 + 1 := ⟨_, rfl⟩
          replace hM := nm_use ex1325 hM
          refine lv_iinc (v := x1325) (lv' := [(3, .int x1325), (2, .int w2_L22), (0, .ref (ad 22))]) hx hb dX4_declaration_49 hl (k := 0) rfl (by rw [ex1325]; rfl) (by decide) rfl (fun ls hl => ?_)
          refine lv_goto (tgt := 22) hx hb dX4_declaration_52 (by decide) ?_
          exact ih_L22 x1325 r1324.1 r1324.2 out_L22 _ _ _ hM hP hD hS (lv_sub hl [0, 1, 2] rfl) kx_L22
  obtain ⟨r3, hcr3, hM⟩ := ob_use hM
  refine lp_L22 r1.1 o_tokens FU 0 r2.1 r2.2 r3 _ _ _ hcr3 hP hD hS (lv_sub hl [0, 1, 2] rfl) (fun H locs ls hP hD hS hl => ?_)
  refine lv_aload_n hx hb dX4_declaration_55 rfl (lv_at hl 1 rfl) ?_
  refine va_get (D := D) (ci := 4) (v := .int r3.1.2.1) (C := RX4) (T := TX4) (N := 12) hx hb hts layX4 hown hK hP 0 rfl rfl 3 (by decide) (hts _ (inA q400)) (fun _ h9 => h9) rfl dX4_declaration_56 ?_
  refine lv_sipush (v := 266) hx hb dX4_declaration_59 (by decide) ?_
  refine lv_icmp_ne (tgt := 96) hx hb dX4_declaration_62 (by decide) (fun c4 => ?_) (fun c4 => ?_)
  · replace hM := if_f c4 hM
    refine lv_aload_n hx hb dX4_declaration_96 rfl (lv_at hl 1 rfl) ?_
    refine lv_bipush (v := 58) hx hb dX4_declaration_97 (by decide) ?_
    obtain ⟨r5, hcr5, hM⟩ := ob_use hM
    refine cl_V (As := [.int 58]) (rest := []) (w_Parser_this_tokens_tree cI ad r5 o_tokens r3.2) [] ⟨hx, hb, hml, hown, hts⟩ (c_Parser_take l D cI sd ad r3.1 o_tokens 58 r5 hcr5) (cwV2 hts q614 mvX4_take rfl rfl ⟨(Nat.le_of_ble_eq_true rfl), (Nat.le_of_ble_eq_true rfl)⟩) hK hE hA hP hD hS 0 (T := TX4) (N := 12) (ci := 4) rfl rfl [0, 1, 2, 3, 4] rfl (by decide) rfl rfl rfl rfl rfl rfl hl.1 (Nat.le_of_ble_eq_true rfl) dX4_declaration_99 ⟨Nat.zero_le _, Nat.zero_le _⟩ (fun H locs hP hD hS => ?_)
    refine lv_aload_n hx hb dX4_declaration_102 rfl (lv_at hl 1 rfl) ?_
    refine lv_iload_n hx hb dX4_declaration_103 rfl (lv_at hl 0 rfl) ?_
    obtain ⟨r6, hcr6, hM⟩ := ob_use hM
    refine cl_V (As := [.int r1.1]) (rest := []) (w_Parser_this_tokens_tree cI ad r6.1 o_tokens r6.2) [] ⟨hx, hb, hml, hown, hts⟩ (c_Parser_type l D cI sd ad r5 o_tokens r3.2 r1.1 r6 hcr6) (cwV2 hts q661 mvX4_type rfl rfl ⟨(Nat.le_of_ble_eq_true rfl), (Nat.le_of_ble_eq_true rfl)⟩) hK hE hA hP hD hS 0 (T := TX4) (N := 12) (ci := 4) rfl rfl [0, 1, 2, 3, 4, 5, 6, 7, 8, 9, 10, 11, 12] rfl (by decide) rfl rfl rfl rfl rfl rfl hl.1 (Nat.le_of_ble_eq_true rfl) dX4_declaration_104 ⟨Nat.zero_le _, Nat.zero_le _⟩ (fun H locs hP hD hS => ?_)
    refine lv_aload_n hx hb dX4_declaration_107 rfl (lv_at hl 1 rfl) ?_
    refine va_get (D := D) (ci := 4) (v := .int r6.1.2.1) (C := RX4) (T := TX4) (N := 12) hx hb hts layX4 hown hK hP 0 rfl rfl 3 (by decide) (hts _ (inA q400)) (fun _ h9 => h9) rfl dX4_declaration_108 ?_
    refine lv_sipush (v := 14909) hx hb dX4_declaration_111 (by decide) ?_
    refine lv_icmp_ne (tgt := 129) hx hb dX4_declaration_114 (by decide) (fun c7 => ?_) (fun c7 => ?_)
    · replace hM := if_f c7 hM
      refine lv_aload_n hx hb dX4_declaration_129 rfl (lv_at hl 1 rfl) ?_
      refine lv_bipush (v := 59) hx hb dX4_declaration_130 (by decide) ?_
      obtain ⟨r8, hcr8, hM⟩ := ob_use hM
      refine cl_V (As := [.int 59]) (rest := []) (w_Parser_this_tokens_tree cI ad r8 o_tokens r6.2) [] ⟨hx, hb, hml, hown, hts⟩ (c_Parser_take l D cI sd ad r6.1 o_tokens 59 r8 hcr8) (cwV2 hts q614 mvX4_take rfl rfl ⟨(Nat.le_of_ble_eq_true rfl), (Nat.le_of_ble_eq_true rfl)⟩) hK hE hA hP hD hS 0 (T := TX4) (N := 12) (ci := 4) rfl rfl [0, 1, 2, 3, 4] rfl (by decide) rfl rfl rfl rfl rfl rfl hl.1 (Nat.le_of_ble_eq_true rfl) dX4_declaration_132 ⟨Nat.zero_le _, Nat.zero_le _⟩ (fun H locs hP hD hS => ?_)
      cases hM
      exact rt_v hx hb hr hlk hP hD hS rfl dX4_declaration_135
    · replace hM := if_t c7 hM
      refine lv_aload_n hx hb dX4_declaration_117 rfl (lv_at hl 1 rfl) ?_
      refine lv_sipush (v := 14909) hx hb dX4_declaration_118 (by decide) ?_
      obtain ⟨r9, hcr9, hM⟩ := ob_use hM
      refine cl_V (As := [.int 14909]) (rest := []) (w_Parser_this_tokens_tree cI ad r9 o_tokens r6.2) [] ⟨hx, hb, hml, hown, hts⟩ (c_Parser_take l D cI sd ad r6.1 o_tokens 14909 r9 hcr9) (cwV2 hts q614 mvX4_take rfl rfl ⟨(Nat.le_of_ble_eq_true rfl), (Nat.le_of_ble_eq_true rfl)⟩) hK hE hA hP hD hS 0 (T := TX4) (N := 12) (ci := 4) rfl rfl [0, 1, 2, 3, 4] rfl (by decide) rfl rfl rfl rfl rfl rfl hl.1 (Nat.le_of_ble_eq_true rfl) dX4_declaration_121 ⟨Nat.zero_le _, Nat.zero_le _⟩ (fun H locs hP hD hS => ?_)
      refine lv_aload_n hx hb dX4_declaration_124 rfl (lv_at hl 1 rfl) ?_
      refine lv_iload_n hx hb dX4_declaration_125 rfl (lv_at hl 0 rfl) ?_
      obtain ⟨r10, hcr10, hM⟩ := ob_use hM
      refine cl_V (As := [.int r1.1]) (rest := []) (w_Parser_this_tokens_tree cI ad r10.1 o_tokens r10.2) [] ⟨hx, hb, hml, hown, hts⟩ (c_Parser_constant l D cI sd ad r9 o_tokens r6.2 r1.1 r10 hcr10) (cwV2 hts q665 mvX4_constant rfl rfl ⟨(Nat.le_of_ble_eq_true rfl), (Nat.le_of_ble_eq_true rfl)⟩) hK hE hA hP hD hS 0 (T := TX4) (N := 12) (ci := 4) rfl rfl [0, 1, 2, 3, 4, 5, 6, 7, 8, 9, 10, 11, 12] rfl (by decide) rfl rfl rfl rfl rfl rfl hl.1 (Nat.le_of_ble_eq_true rfl) dX4_declaration_126 ⟨Nat.zero_le _, Nat.zero_le _⟩ (fun H locs hP hD hS => ?_)
      refine lv_aload_n hx hb dX4_declaration_129 rfl (lv_at hl 1 rfl) ?_
      refine lv_bipush (v := 59) hx hb dX4_declaration_130 (by decide) ?_
      obtain ⟨r11, hcr11, hM⟩ := ob_use hM
      refine cl_V (As := [.int 59]) (rest := []) (w_Parser_this_tokens_tree cI ad r11 o_tokens r10.2) [] ⟨hx, hb, hml, hown, hts⟩ (c_Parser_take l D cI sd ad r10.1 o_tokens 59 r11 hcr11) (cwV2 hts q614 mvX4_take rfl rfl ⟨(Nat.le_of_ble_eq_true rfl), (Nat.le_of_ble_eq_true rfl)⟩) hK hE hA hP hD hS 0 (T := TX4) (N := 12) (ci := 4) rfl rfl [0, 1, 2, 3, 4] rfl (by decide) rfl rfl rfl rfl rfl rfl hl.1 (Nat.le_of_ble_eq_true rfl) dX4_declaration_132 ⟨Nat.zero_le _, Nat.zero_le _⟩ (fun H locs hP hD hS => ?_)
      cases hM
      exact rt_v hx hb hr hlk hP hD hS rfl dX4_declaration_135
  · replace hM := if_t c4 hM
    refine lv_aload_n hx hb dX4_declaration_65 rfl (lv_at hl 1 rfl) ?_
    refine lv_sipush (v := 266) hx hb dX4_declaration_66 (by decide) ?_
    obtain ⟨r12, hcr12, hM⟩ := ob_use hM
    refine cl_V (As := [.int 266]) (rest := []) (w_Parser_this_tokens_tree cI ad r12 o_tokens r3.2) [] ⟨hx, hb, hml, hown, hts⟩ (c_Parser_take l D cI sd ad r3.1 o_tokens 266 r12 hcr12) (cwV2 hts q614 mvX4_take rfl rfl ⟨(Nat.le_of_ble_eq_true rfl), (Nat.le_of_ble_eq_true rfl)⟩) hK hE hA hP hD hS 0 (T := TX4) (N := 12) (ci := 4) rfl rfl [0, 1, 2, 3, 4] rfl (by decide) rfl rfl rfl rfl rfl rfl hl.1 (Nat.le_of_ble_eq_true rfl) dX4_declaration_69 ⟨Nat.zero_le _, Nat.zero_le _⟩ (fun H locs hP hD hS => ?_)
    refine lv_aload_n hx hb dX4_declaration_72 rfl (lv_at hl 1 rfl) ?_
    refine va_get (D := D) (ci := 4) (v := .ref (ad 14)) (C := RX4) (T := TX4) (N := 12) hx hb hts layX4 hown hK hP 0 rfl rfl 1 (by decide) (hts _ (inA q398)) (fun _ h9 => h9) rfl dX4_declaration_73 ?_
    refine lv_iload_n hx hb dX4_declaration_76 rfl (lv_at hl 0 rfl) ?_
    refine lv_bipush (v := 7) hx hb dX4_declaration_77 (by decide) ?_
    refine lv_aload_n hx hb dX4_declaration_79 rfl (lv_at hl 1 rfl) ?_
    refine va_get (D := D) (ci := 4) (v := .int r12.2.2.1) (C := RX4) (T := TX4) (N := 12) hx hb hts layX4 hown hK hP 0 rfl rfl 4 (by decide) (hts _ (inA q401)) (fun _ h9 => h9) rfl dX4_declaration_80 ?_
    refine lv_aload_n hx hb dX4_declaration_83 rfl (lv_at hl 1 rfl) ?_
    refine va_get (D := D) (ci := 4) (v := .int r12.2.2.2.1) (C := RX4) (T := TX4) (N := 12) hx hb hts layX4 hown hK hP 0 rfl rfl 5 (by decide) (hts _ (inA q402)) (fun _ h9 => h9) rfl dX4_declaration_84 ?_
    obtain ⟨r13, hcr13, hM⟩ := ob_use hM
    refine cl_V (As := [.int r1.1, .int 7, .int r12.2.2.1, .int r12.2.2.2.1]) (rest := []) (w_Parser_this_tokens_tree cI ad r12 o_tokens r13.2) (.int r13.1 :: []) ⟨hx, hb, hml, hown, hts⟩ (c_Tree_add l D cI sd ad r3.2 r1.1 7 r12.2.2.1 r12.2.2.2.1 r13 hcr13) (cwV2 hts q622 mvX3_add rfl rfl ⟨(Nat.le_of_ble_eq_true rfl), (Nat.le_of_ble_eq_true rfl)⟩) hK hE hA hP hD hS 5 (T := TX3) (N := 8) (ci := 3) rfl rfl [5, 6, 7, 8, 9, 10, 11, 12] rfl (by decide) rfl rfl rfl rfl rfl rfl hl.1 (Nat.le_of_ble_eq_true rfl) dX4_declaration_87 ⟨Nat.zero_le _, Nat.zero_le _⟩ (fun H locs hP hD hS => ?_)
    refine lv_pop hx hb dX4_declaration_90 rfl ?_
    refine lv_aload_n hx hb dX4_declaration_91 rfl (lv_at hl 1 rfl) ?_
    refine lv_iconst (v := 3) hx hb dX4_declaration_92 (by decide) ?_
    obtain ⟨r14, hcr14, hM⟩ := ob_use hM
    refine cl_V (As := [.int 3]) (rest := []) (w_Parser_this_tokens_tree cI ad r14 o_tokens r13.2) [] ⟨hx, hb, hml, hown, hts⟩ (c_Parser_take l D cI sd ad r12 o_tokens 3 r14 hcr14) (cwV2 hts q614 mvX4_take rfl rfl ⟨(Nat.le_of_ble_eq_true rfl), (Nat.le_of_ble_eq_true rfl)⟩) hK hE hA hP hD hS 0 (T := TX4) (N := 12) (ci := 4) rfl rfl [0, 1, 2, 3, 4] rfl (by decide) rfl rfl rfl rfl rfl rfl hl.1 (Nat.le_of_ble_eq_true rfl) dX4_declaration_93 ⟨Nat.zero_le _, Nat.zero_le _⟩ (fun H locs hP hD hS => ?_)
    refine lv_aload_n hx hb dX4_declaration_96 rfl (lv_at hl 1 rfl) ?_
    refine lv_bipush (v := 58) hx hb dX4_declaration_97 (by decide) ?_
    obtain ⟨r15, hcr15, hM⟩ := ob_use hM
    refine cl_V (As := [.int 58]) (rest := []) (w_Parser_this_tokens_tree cI ad r15 o_tokens r13.2) [] ⟨hx, hb, hml, hown, hts⟩ (c_Parser_take l D cI sd ad r14 o_tokens 58 r15 hcr15) (cwV2 hts q614 mvX4_take rfl rfl ⟨(Nat.le_of_ble_eq_true rfl), (Nat.le_of_ble_eq_true rfl)⟩) hK hE hA hP hD hS 0 (T := TX4) (N := 12) (ci := 4) rfl rfl [0, 1, 2, 3, 4] rfl (by decide) rfl rfl rfl rfl rfl rfl hl.1 (Nat.le_of_ble_eq_true rfl) dX4_declaration_99 ⟨Nat.zero_le _, Nat.zero_le _⟩ (fun H locs hP hD hS => ?_)
    refine lv_aload_n hx hb dX4_declaration_102 rfl (lv_at hl 1 rfl) ?_
    refine lv_iload_n hx hb dX4_declaration_103 rfl (lv_at hl 0 rfl) ?_
    obtain ⟨r16, hcr16, hM⟩ := ob_use hM
    refine cl_V (As := [.int r1.1]) (rest := []) (w_Parser_this_tokens_tree cI ad r16.1 o_tokens r16.2) [] ⟨hx, hb, hml, hown, hts⟩ (c_Parser_type l D cI sd ad r15 o_tokens r13.2 r1.1 r16 hcr16) (cwV2 hts q661 mvX4_type rfl rfl ⟨(Nat.le_of_ble_eq_true rfl), (Nat.le_of_ble_eq_true rfl)⟩) hK hE hA hP hD hS 0 (T := TX4) (N := 12) (ci := 4) rfl rfl [0, 1, 2, 3, 4, 5, 6, 7, 8, 9, 10, 11, 12] rfl (by decide) rfl rfl rfl rfl rfl rfl hl.1 (Nat.le_of_ble_eq_true rfl) dX4_declaration_104 ⟨Nat.zero_le _, Nat.zero_le _⟩ (fun H locs hP hD hS => ?_)
    refine lv_aload_n hx hb dX4_declaration_107 rfl (lv_at hl 1 rfl) ?_
    refine va_get (D := D) (ci := 4) (v := .int r16.1.2.1) (C := RX4) (T := TX4) (N := 12) hx hb hts layX4 hown hK hP 0 rfl rfl 3 (by decide) (hts _ (inA q400)) (fun _ h9 => h9) rfl dX4_declaration_108 ?_
    refine lv_sipush (v := 14909) hx hb dX4_declaration_111 (by decide) ?_
    refine lv_icmp_ne (tgt := 129) hx hb dX4_declaration_114 (by decide) (fun c17 => ?_) (fun c17 => ?_)
    · replace hM := if_f c17 hM
      refine lv_aload_n hx hb dX4_declaration_129 rfl (lv_at hl 1 rfl) ?_
      refine lv_bipush (v := 59) hx hb dX4_declaration_130 (by decide) ?_
      obtain ⟨r18, hcr18, hM⟩ := ob_use hM
      refine cl_V (As := [.int 59]) (rest := []) (w_Parser_this_tokens_tree cI ad r18 o_tokens r16.2) [] ⟨hx, hb, hml, hown, hts⟩ (c_Parser_take l D cI sd ad r16.1 o_tokens 59 r18 hcr18) (cwV2 hts q614 mvX4_take rfl rfl ⟨(Nat.le_of_ble_eq_true rfl), (Nat.le_of_ble_eq_true rfl)⟩) hK hE hA hP hD hS 0 (T := TX4) (N := 12) (ci := 4) rfl rfl [0, 1, 2, 3, 4] rfl (by decide) rfl rfl rfl rfl rfl rfl hl.1 (Nat.le_of_ble_eq_true rfl) dX4_declaration_132 ⟨Nat.zero_le _, Nat.zero_le _⟩ (fun H locs hP hD hS => ?_)
      cases hM
      exact rt_v hx hb hr hlk hP hD hS rfl dX4_declaration_135
    · replace hM := if_t c17 hM
      refine lv_aload_n hx hb dX4_declaration_117 rfl (lv_at hl 1 rfl) ?_
      refine lv_sipush (v := 14909) hx hb dX4_declaration_118 (by decide) ?_
      obtain ⟨r19, hcr19, hM⟩ := ob_use hM
      refine cl_V (As := [.int 14909]) (rest := []) (w_Parser_this_tokens_tree cI ad r19 o_tokens r16.2) [] ⟨hx, hb, hml, hown, hts⟩ (c_Parser_take l D cI sd ad r16.1 o_tokens 14909 r19 hcr19) (cwV2 hts q614 mvX4_take rfl rfl ⟨(Nat.le_of_ble_eq_true rfl), (Nat.le_of_ble_eq_true rfl)⟩) hK hE hA hP hD hS 0 (T := TX4) (N := 12) (ci := 4) rfl rfl [0, 1, 2, 3, 4] rfl (by decide) rfl rfl rfl rfl rfl rfl hl.1 (Nat.le_of_ble_eq_true rfl) dX4_declaration_121 ⟨Nat.zero_le _, Nat.zero_le _⟩ (fun H locs hP hD hS => ?_)
      refine lv_aload_n hx hb dX4_declaration_124 rfl (lv_at hl 1 rfl) ?_
      refine lv_iload_n hx hb dX4_declaration_125 rfl (lv_at hl 0 rfl) ?_
      obtain ⟨r20, hcr20, hM⟩ := ob_use hM
      refine cl_V (As := [.int r1.1]) (rest := []) (w_Parser_this_tokens_tree cI ad r20.1 o_tokens r20.2) [] ⟨hx, hb, hml, hown, hts⟩ (c_Parser_constant l D cI sd ad r19 o_tokens r16.2 r1.1 r20 hcr20) (cwV2 hts q665 mvX4_constant rfl rfl ⟨(Nat.le_of_ble_eq_true rfl), (Nat.le_of_ble_eq_true rfl)⟩) hK hE hA hP hD hS 0 (T := TX4) (N := 12) (ci := 4) rfl rfl [0, 1, 2, 3, 4, 5, 6, 7, 8, 9, 10, 11, 12] rfl (by decide) rfl rfl rfl rfl rfl rfl hl.1 (Nat.le_of_ble_eq_true rfl) dX4_declaration_126 ⟨Nat.zero_le _, Nat.zero_le _⟩ (fun H locs hP hD hS => ?_)
      refine lv_aload_n hx hb dX4_declaration_129 rfl (lv_at hl 1 rfl) ?_
      refine lv_bipush (v := 59) hx hb dX4_declaration_130 (by decide) ?_
      obtain ⟨r21, hcr21, hM⟩ := ob_use hM
      refine cl_V (As := [.int 59]) (rest := []) (w_Parser_this_tokens_tree cI ad r21 o_tokens r20.2) [] ⟨hx, hb, hml, hown, hts⟩ (c_Parser_take l D cI sd ad r20.1 o_tokens 59 r21 hcr21) (cwV2 hts q614 mvX4_take rfl rfl ⟨(Nat.le_of_ble_eq_true rfl), (Nat.le_of_ble_eq_true rfl)⟩) hK hE hA hP hD hS 0 (T := TX4) (N := 12) (ci := 4) rfl rfl [0, 1, 2, 3, 4] rfl (by decide) rfl rfl rfl rfl rfl rfl hl.1 (Nat.le_of_ble_eq_true rfl) dX4_declaration_132 ⟨Nat.zero_le _, Nat.zero_le _⟩ (fun H locs hP hD hS => ?_)
      cases hM
      exact rt_v hx hb hr hlk hP hD hS rfl dX4_declaration_135
