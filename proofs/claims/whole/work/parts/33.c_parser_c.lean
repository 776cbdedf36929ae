set_option maxHeartbeats 4000000 in
set_option maxRecDepth 100000 in
theorem c_Parser_operandByName (l : Launch) (D : va_G) (cI : ClassId) (sd : Nat → Nat) (ad : Nat → Nat) (fr lo : Nat) (f_expression : S_Parser → S_Tokens → S_Tree → Int32 → Int32 → Option (S_Parser × S_Tree)) (H_expression : ∀ (o_this : S_Parser) (o_tokens : S_Tokens) (o_tree : S_Tree) (a1 : Int32) (a2 : Int32) (res : S_Parser × S_Tree), f_expression o_this o_tokens o_tree a1 a2 = some res → Ctr l D cI sd yX4_expression (wsM yX4_expression cX4_expression 7 (Option.none : Option Jvm.ClassFile.FieldType)) { frames := fr, cells := 0, slots := 0, locals := lo } [.ref (ad 22), .int a1, .int a2] (w_Parser_this_tokens_tree cI ad o_this o_tokens o_tree) (w_Parser_this_tokens_tree cI ad res.1 o_tokens res.2) none) (o_this : S_Parser) (o_tokens : S_Tokens) (o_tree : S_Tree) (a1 : Int32) (res : S_Parser × S_Tree) (hM : f_Parser_operandByName f_expression o_this o_tokens o_tree a1 = some res) : Ctr l D cI sd yX4_operandByName (wsM yX4_operandByName cX4_operandByName 8 (Option.none : Option Jvm.ClassFile.FieldType)) { frames := max (fr + 1) 2, cells := 0, slots := 0, locals := max (lo + 26) 46 } [.ref (ad 22), .int a1] (w_Parser_this_tokens_tree cI ad o_this o_tokens o_tree) (w_Parser_this_tokens_tree cI ad res.1 o_tokens res.2) none := by
  refine Ctr.of (cc := cX4_operandByName) (maxL := 8) (own := RX4) (by decide +kernel) rfl rfl (Nat.le_of_ble_eq_true rfl) ?_
  intro p e s m below meth c A ls hx hb hr hml hown hts hlk hK hE hA hP hD hS hl
  have hl : lv_has ls 8 [(0, .ref (ad 22)), (1, .int a1)] := hl
  unfold f_Parser_operandByName at hM
  refine lv_aload_n hx hb dX4_operandByName_0 rfl (lv_at hl 0 rfl) ?_
  refine va_get (D := D) (ci := 4) (v := .int o_this.2.2.1) (C := RX4) (T := TX4) (N := 12) hx hb hts layX4 hown hK hP 0 rfl rfl 4 (by decide) (hts _ (inA q401)) (fun _ h9 => h9) rfl dX4_operandByName_1 ?_
  refine lv_istore_n (lv' := [(2, .int o_this.2.2.1), (0, .ref (ad 22)), (1, .int a1)]) hx hb dX4_operandByName_4 rfl hl (by decide) rfl (fun ls hl => ?_)
  refine lv_aload_n hx hb dX4_operandByName_5 rfl (lv_at hl 1 rfl) ?_
  obtain ⟨r1, hcr1, hM⟩ := ob_use hM
  refine cl_V (As := []) (rest := []) (w_Parser_this_tokens_tree cI ad r1.2 o_tokens o_tree) (.int r1.1 :: []) ⟨hx, hb, hml, hown, hts⟩ (c_Parser_takeName l D cI sd ad o_this o_tokens r1 hcr1) (cwV2 hts q637 mvX4_takeName rfl rfl ⟨(mxN (Nat.le_of_ble_eq_true rfl)), (mxN (Nat.le_of_ble_eq_true rfl))⟩) hK hE hA hP hD hS 0 (T := TX4) (N := 12) (ci := 4) rfl rfl [0, 1, 2, 3, 4] rfl (by decide) rfl rfl rfl rfl rfl rfl hl.1 (Nat.le_of_ble_eq_true rfl) dX4_operandByName_6 ⟨Nat.zero_le _, Nat.zero_le _⟩ (fun H locs hP hD hS => ?_)
  refine lv_istore_n (lv' := [(3, .int r1.1), (2, .int o_this.2.2.1), (0, .ref (ad 22)), (1, .int a1)]) hx hb dX4_operandByName_9 rfl hl (by decide) rfl (fun ls hl => ?_)
  refine lv_aload_n hx hb dX4_operandByName_10 rfl (lv_at hl 2 rfl) ?_
  refine va_get (D := D) (ci := 4) (v := .int r1.2.2.1) (C := RX4) (T := TX4) (N := 12) hx hb hts layX4 hown hK hP 0 rfl rfl 3 (by decide) (hts _ (inA q400)) (fun _ h9 => h9) rfl dX4_operandByName_11 ?_
  by_cases c2 : r1.2.2.1 = 40
  · replace hM := if_t c2 hM
    refine lv_lookup (off := 93) (tgt := 107) hx hb dX4_operandByName_14 (by decide) (by exact sw_hit c2 (by decide)) (by decide) ?_
    refine lv_aload_n hx hb dX4_operandByName_107 rfl (lv_at hl 2 rfl) ?_
    refine va_get (D := D) (ci := 4) (v := .ref (ad 14)) (C := RX4) (T := TX4) (N := 12) hx hb hts layX4 hown hK hP 0 rfl rfl 1 (by decide) (hts _ (inA q398)) (fun _ h9 => h9) rfl dX4_operandByName_108 ?_
    refine lv_iload_n hx hb dX4_operandByName_111 rfl (lv_at hl 3 rfl) ?_
    refine lv_bipush (v := 34) hx hb dX4_operandByName_112 (by decide) ?_
    refine lv_iload_n hx hb dX4_operandByName_114 rfl (lv_at hl 1 rfl) ?_
    refine lv_iload_n hx hb dX4_operandByName_115 rfl (lv_at hl 0 rfl) ?_
    obtain ⟨r3, hcr3, hM⟩ := ob_use hM
    refine cl_V (As := [.int a1, .int 34, .int o_this.2.2.1, .int r1.1]) (rest := []) (w_Parser_this_tokens_tree cI ad r1.2 o_tokens r3.2) (.int r3.1 :: []) ⟨hx, hb, hml, hown, hts⟩ (c_Tree_add l D cI sd ad o_tree a1 34 o_this.2.2.1 r1.1 r3 hcr3) (cwV2 hts q622 mvX3_add rfl rfl ⟨(mxN (Nat.le_of_ble_eq_true rfl)), (mxN (Nat.le_of_ble_eq_true rfl))⟩) hK hE hA hP hD hS 5 (T := TX3) (N := 8) (ci := 3) rfl rfl [5, 6, 7, 8, 9, 10, 11, 12] rfl (by decide) rfl rfl rfl rfl rfl rfl hl.1 (Nat.le_of_ble_eq_true rfl) dX4_operandByName_116 ⟨Nat.zero_le _, Nat.zero_le _⟩ (fun H locs hP hD hS => ?_)
    refine lv_istore (lv' := [(5, .int r3.1), (3, .int r1.1), (2, .int o_this.2.2.1), (0, .ref (ad 22)), (1, .int a1)]) hx hb dX4_operandByName_119 hl (by decide) rfl (fun ls hl => ?_)
    refine lv_aload_n hx hb dX4_operandByName_121 rfl (lv_at hl 3 rfl) ?_
    obtain ⟨r4, hcr4, hM⟩ := ob_use hM
    refine cl_V (As := []) (rest := []) (w_Parser_this_tokens_tree cI ad r4 o_tokens r3.2) [] ⟨hx, hb, hml, hown, hts⟩ (c_Parser_takeOpening l D cI sd ad r1.2 o_tokens r4 hcr4) (cwV2 hts q715 mvX4_takeOpening rfl rfl ⟨(mxN (Nat.le_of_ble_eq_true rfl)), (mxN (Nat.le_of_ble_eq_true rfl))⟩) hK hE hA hP hD hS 0 (T := TX4) (N := 12) (ci := 4) rfl rfl [0, 1, 2, 3, 4] rfl (by decide) rfl rfl rfl rfl rfl rfl hl.1 (Nat.le_of_ble_eq_true rfl) dX4_operandByName_122 ⟨Nat.zero_le _, Nat.zero_le _⟩ (fun H locs hP hD hS => ?_)
    refine lv_aload_n hx hb dX4_operandByName_125 rfl (lv_at hl 3 rfl) ?_
    refine va_get (D := D) (ci := 4) (v := .int r4.2.1) (C := RX4) (T := TX4) (N := 12) hx hb hts layX4 hown hK hP 0 rfl rfl 3 (by decide) (hts _ (inA q400)) (fun _ h9 => h9) rfl dX4_operandByName_126 ?_
    refine lv_bipush (v := 41) hx hb dX4_operandByName_129 (by decide) ?_
    refine lv_icmp_eq (tgt := 138) hx hb dX4_operandByName_131 (by decide) (fun c5 => ?_) (fun c5 => ?_)
    · replace hM := if_t c5 hM
      refine lv_iconst (v := 0) hx hb dX4_operandByName_138 (by decide) ?_
      refine lv_istore (lv' := [(6, .int 0), (5, .int r3.1), (3, .int r1.1), (2, .int o_this.2.2.1), (0, .ref (ad 22)), (1, .int a1)]) hx hb dX4_operandByName_139 hl (by decide) rfl (fun ls hl => ?_)
      refine lv_iconst (v := 0) hx hb dX4_operandByName_141 (by decide) ?_
      refine lv_istore (lv' := [(7, .int 0), (6, .int 0), (5, .int r3.1), (3, .int r1.1), (2, .int o_this.2.2.1), (0, .ref (ad 22)), (1, .int a1)]) hx hb dX4_operandByName_142 hl (by decide) rfl (fun ls hl => ?_)
      have lp_L144 : ∀ (w5_L144 : Int32) (o_tokens_L144 : S_Tokens) (n : Nat) (v7_L144 : Int32) (v6_L144 : Int32) (o_this_L144 : S_Parser) (o_tree_L144 : S_Tree) (out_L144 : S_Parser × S_Tree) (H : Heap) (locs : List Loc) (ls : Array Slot), f_Parser_operandByName_L144 f_expression w5_L144 o_tokens_L144 n v7_L144 v6_L144 o_this_L144 o_tree_L144 = some out_L144 → va_P D vwCl (w_Parser_this_tokens_tree cI ad o_this_L144 o_tokens_L144 o_tree_L144) H → va_D A (w_Parser_this_tokens_tree cI ad o_this_L144 o_tokens_L144 o_tree_L144) → va_S A s.heap H locs → lv_has ls 8 [(7, .int v7_L144), (6, .int v6_L144), (5, .int w5_L144), (0, .ref (ad 22))] → (∀ (H : Heap) (locs : List Loc) (ls : Array Slot), va_P D vwCl (w_Parser_this_tokens_tree cI ad out_L144.1 o_tokens_L144 out_L144.2) H → va_D A (w_Parser_this_tokens_tree cI ad out_L144.1 o_tokens_L144 out_L144.2) → va_S A s.heap H locs → lv_has ls 8 [(5, .int w5_L144), (0, .ref (ad 22))] → W p l e { frames := max (fr + 1) 2, cells := 0, slots := 0, locals := max (lo + 26) 46 } s m [.ref (ad 22), .int a1].toArray below meth c H locs 0 0 (MQ below (CQ D A (w_Parser_this_tokens_tree cI ad res.1 o_tokens res.2) none) [.ref (ad 22), .int a1].toArray s 0 0 A) (F0 m 176 ls [])) → W p l e { frames := max (fr + 1) 2, cells := 0, slots := 0, locals := max (lo + 26) 46 } s m [.ref (ad 22), .int a1].toArray below meth c H locs 0 0 (MQ below (CQ D A (w_Parser_this_tokens_tree cI ad res.1 o_tokens res.2) none) [.ref (ad 22), .int a1].toArray s 0 0 A) (F0 m 144 ls []) := by
        intro w5_L144 o_tokens_L144 n
        induction n with
        | zero => intro v7_L144 v6_L144 o_this_L144 o_tree_L144 out_L144 H locs ls hM; exact absurd (show none = some _ from hM) (by simp)
        | succ n ih_L144 =>
          intro v7_L144 v6_L144 o_this_L144 o_tree_L144 out_L144 H locs ls hM hP hD hS hl kx_L144
          rw [f_Parser_operandByName_L144] at hM
          refine lv_iload hx hb dX4_operandByName_144 (lv_at hl 1 rfl) ?_
          refine lv_if_eq (tgt := 176) hx hb dX4_operandByName_146 (by decide) (fun c2541 => ?_) (fun c2541 => ?_)
          · replace hM := if_t c2541 hM
            cases hM
            exact kx_L144 _ _ _ hP hD hS (lv_sub hl [2, 3] rfl)
          · replace hM := if_f c2541 hM
            refine lv_iload hx hb dX4_operandByName_149 (lv_at hl 0 rfl) ?_
            refine lv_sipush (v := 8192) hx hb dX4_operandByName_151 (by decide) ?_
            refine lv_icmp_ge (tgt := 176) hx hb dX4_operandByName_154 (by decide) (fun c2542 => ?_) (fun c2542 => ?_)
            · replace hM := if_t c2542 hM
              cases hM
              exact kx_L144 _ _ _ hP hD hS (lv_sub hl [2, 3] rfl)
            · replace hM := if_f c2542 hM
              refine lv_aload_n hx hb dX4_operandByName_157 rfl (lv_at hl 3 rfl) ?_
              refine lv_iload hx hb dX4_operandByName_158 (lv_at hl 2 rfl) ?_
              refine lv_iconst (v := 0) hx hb dX4_operandByName_160 (by decide) ?_
              obtain ⟨r2543, hcr2543, hM⟩ := ob_use hM
              refine cl_V (As := [.int w5_L144, .int 0]) (rest := []) (w_Parser_this_tokens_tree cI ad r2543.1 o_tokens_L144 r2543.2) [] ⟨hx, hb, hml, hown, hts⟩ (H_expression o_this_L144 o_tokens_L144 o_tree_L144 w5_L144 0 r2543 hcr2543) (cwV2 hts q727 mvX4_expression rfl rfl ⟨mxF0 (by decide), mxL0 (by decide)⟩) hK hE hA hP hD hS 0 (T := TX4) (N := 12) (ci := 4) rfl rfl [0, 1, 2, 3, 4, 5, 6, 7, 8, 9, 10, 11, 12] rfl (by decide) rfl rfl rfl rfl rfl rfl hl.1 (Nat.le_of_ble_eq_true rfl) dX4_operandByName_161 ⟨Nat.zero_le _, Nat.zero_le _⟩ (fun H locs hP hD hS => ?_)
              refine lv_aload_n hx hb dX4_operandByName_164 rfl (lv_at hl 3 rfl) ?_
              obtain ⟨r2544, hcr2544, hM⟩ := ob_use hM
              refine cl_V (As := []) (rest := []) (w_Parser_this_tokens_tree cI ad r2544.2 o_tokens_L144 r2543.2) (.int r2544.1 :: []) ⟨hx, hb, hml, hown, hts⟩ (c_Parser_takeComma l D cI sd ad r2543.1 o_tokens_L144 r2544 hcr2544) (cwV2 hts q743 mvX4_takeComma rfl rfl ⟨(mxN (Nat.le_of_ble_eq_true rfl)), (mxN (Nat.le_of_ble_eq_true rfl))⟩) hK hE hA hP hD hS 0 (T := TX4) (N := 12) (ci := 4) rfl rfl [0, 1, 2, 3, 4] rfl (by decide) rfl rfl rfl rfl rfl rfl hl.1 (Nat.le_of_ble_eq_true rfl) dX4_operandByName_165 ⟨Nat.zero_le _, Nat.zero_le _⟩ (fun H locs hP hD hS => ?_)
              refine lv_istore (lv' := [(6, .int r2544.1), (7, .int v7_L144), (5, .int w5_L144), (0, .ref (ad 22))]) hx hb dX4_operandByName_168 hl (by decide) rfl (fun ls hl => ?_)
              obtain ⟨x2545, ex2545⟩ : ∃ y : Int32, y = v7_L144 + 1 := ⟨_, rfl⟩
              replace hM := nm_use ex2545 hM
              refine lv_iinc (v := x2545) (lv' := [(7, .int x2545), (6, .int r2544.1), (5, .int w5_L144), (0, .ref (ad 22))]) hx hb dX4_operandByName_170 hl (k := 1) rfl (by rw [ex2545]; rfl) (by decide) rfl (fun ls hl => ?_)
              refine lv_goto (tgt := 144) hx hb dX4_operandByName_173 (by decide) ?_
              exact ih_L144 x2545 r2544.1 r2544.2 r2543.2 out_L144 _ _ _ hM hP hD hS (lv_sub hl [0, 1, 2, 3] rfl) kx_L144
      obtain ⟨r6, hcr6, hM⟩ := ob_use hM
      refine lp_L144 r3.1 o_tokens FU 0 0 r4 r3.2 r6 _ _ _ hcr6 hP hD hS (lv_sub hl [0, 1, 2, 5] rfl) (fun H locs ls hP hD hS hl => ?_)
      refine lv_aload_n hx hb dX4_operandByName_176 rfl (lv_at hl 1 rfl) ?_
      refine lv_bipush (v := 41) hx hb dX4_operandByName_177 (by decide) ?_
      obtain ⟨r7, hcr7, hM⟩ := ob_use hM
      refine cl_V (As := [.int 41]) (rest := []) (w_Parser_this_tokens_tree cI ad r7 o_tokens r6.2) [] ⟨hx, hb, hml, hown, hts⟩ (c_Parser_takeClosing l D cI sd ad r6.1 o_tokens 41 r7 hcr7) (cwV2 hts q735 mvX4_takeClosing rfl rfl ⟨(mxN (Nat.le_of_ble_eq_true rfl)), (mxN (Nat.le_of_ble_eq_true rfl))⟩) hK hE hA hP hD hS 0 (T := TX4) (N := 12) (ci := 4) rfl rfl [0, 1, 2, 3, 4] rfl (by decide) rfl rfl rfl rfl rfl rfl hl.1 (Nat.le_of_ble_eq_true rfl) dX4_operandByName_179 ⟨Nat.zero_le _, Nat.zero_le _⟩ (fun H locs hP hD hS => ?_)
      refine lv_goto (tgt := 198) hx hb dX4_operandByName_182 (by decide) ?_
      cases hM
      exact rt_v hx hb hr hlk hP hD hS rfl dX4_operandByName_198
    · replace hM := if_f c5 hM
      refine lv_iconst (v := 1) hx hb dX4_operandByName_134 (by decide) ?_
      refine lv_goto (tgt := 139) hx hb dX4_operandByName_135 (by decide) ?_
      refine lv_istore (lv' := [(6, .int 1), (5, .int r3.1), (3, .int r1.1), (2, .int o_this.2.2.1), (0, .ref (ad 22)), (1, .int a1)]) hx hb dX4_operandByName_139 hl (by decide) rfl (fun ls hl => ?_)
      refine lv_iconst (v := 0) hx hb dX4_operandByName_141 (by decide) ?_
      refine lv_istore (lv' := [(7, .int 0), (6, .int 1), (5, .int r3.1), (3, .int r1.1), (2, .int o_this.2.2.1), (0, .ref (ad 22)), (1, .int a1)]) hx hb dX4_operandByName_142 hl (by decide) rfl (fun ls hl => ?_)
      have lp_L144 : ∀ (w5_L144 : Int32) (o_tokens_L144 : S_Tokens) (n : Nat) (v7_L144 : Int32) (v6_L144 : Int32) (o_this_L144 : S_Parser) (o_tree_L144 : S_Tree) (out_L144 : S_Parser × S_Tree) (H : Heap) (locs : List Loc) (ls : Array Slot), f_Parser_operandByName_L144 f_expression w5_L144 o_tokens_L144 n v7_L144 v6_L144 o_this_L144 o_tree_L144 = some out_L144 → va_P D vwCl (w_Parser_this_tokens_tree cI ad o_this_L144 o_tokens_L144 o_tree_L144) H → va_D A (w_Parser_this_tokens_tree cI ad o_this_L144 o_tokens_L144 o_tree_L144) → va_S A s.heap H locs → lv_has ls 8 [(7, .int v7_L144), (6, .int v6_L144), (5, .int w5_L144), (0, .ref (ad 22))] → (∀ (H : Heap) (locs : List Loc) (ls : Array Slot), va_P D vwCl (w_Parser_this_tokens_tree cI ad out_L144.1 o_tokens_L144 out_L144.2) H → va_D A (w_Parser_this_tokens_tree cI ad out_L144.1 o_tokens_L144 out_L144.2) → va_S A s.heap H locs → lv_has ls 8 [(5, .int w5_L144), (0, .ref (ad 22))] → W p l e { frames := max (fr + 1) 2, cells := 0, slots := 0, locals := max (lo + 26) 46 } s m [.ref (ad 22), .int a1].toArray below meth c H locs 0 0 (MQ below (CQ D A (w_Parser_this_tokens_tree cI ad res.1 o_tokens res.2) none) [.ref (ad 22), .int a1].toArray s 0 0 A) (F0 m 176 ls [])) → W p l e { frames := max (fr + 1) 2, cells := 0, slots := 0, locals := max (lo + 26) 46 } s m [.ref (ad 22), .int a1].toArray below meth c H locs 0 0 (MQ below (CQ D A (w_Parser_this_tokens_tree cI ad res.1 o_tokens res.2) none) [.ref (ad 22), .int a1].toArray s 0 0 A) (F0 m 144 ls []) := by
        intro w5_L144 o_tokens_L144 n
        induction n with
        | zero => intro v7_L144 v6_L144 o_this_L144 o_tree_L144 out_L144 H locs ls hM; exact absurd (show none = some _ from hM) (by simp)
        | succ n ih_L144 =>
          intro v7_L144 v6_L144 o_this_L144 o_tree_L144 out_L144 H locs ls hM hP hD hS hl kx_L144
          rw [f_Parser_operandByName_L144] at hM
          refine lv_iload hx hb dX4_operandByName_144 (lv_at hl 1 rfl) ?_
          refine lv_if_eq (tgt := 176) hx hb dX4_operandByName_146 (by decide) (fun c2541 => ?_) (fun c2541 => ?_)
          · replace hM := if_t c2541 hM
            cases hM
            exact kx_L144 _ _ _ hP hD hS (lv_sub hl [2, 3] rfl)
          · replace hM := if_f c2541 hM
            refine lv_iload hx hb dX4_operandByName_149 (lv_at hl 0 rfl) ?_
            refine lv_sipush (v := 8192) hx hb dX4_operandByName_151 (by decide) ?_
            refine lv_icmp_ge (tgt := 176) hx hb dX4_operandByName_154 (by decide) (fun c2542 => ?_) (fun c2542 => ?_)
            · replace hM := if_t c2542 hM
              cases hM
              exact kx_L144 _ _ _ hP hD hS (lv_sub hl [2, 3] rfl)
            · replace hM := if_f c2542 hM
              refine lv_aload_n hx hb dX4_operandByName_157 rfl (lv_at hl 3 rfl) ?_
              refine lv_iload hx hb dX4_operandByName_158 (lv_at hl 2 rfl) ?_
              refine lv_iconst (v := 0) hx hb dX4_operandByName_160 (by decide) ?_
              obtain ⟨r2543, hcr2543, hM⟩ := ob_use hM
              refine cl_V (As := [.int w5_L144, .int 0]) (rest := []) (w_Parser_this_tokens_tree cI ad r2543.1 o_tokens_L144 r2543.2) [] ⟨hx, hb, hml, hown, hts⟩ (H_expression o_this_L144 o_tokens_L144 o_tree_L144 w5_L144 0 r2543 hcr2543) (cwV2 hts q727 mvX4_expression rfl rfl ⟨mxF0 (by decide), mxL0 (by decide)⟩) hK hE hA hP hD hS 0 (T := TX4) (N := 12) (ci := 4) rfl rfl [0, 1, 2, 3, 4, 5, 6, 7, 8, 9, 10, 11, 12] rfl (by decide) rfl rfl rfl rfl rfl rfl hl.1 (Nat.le_of_ble_eq_true rfl) dX4_operandByName_161 ⟨Nat.zero_le _, Nat.zero_le _⟩ (fun H locs hP hD hS => ?_)
              refine lv_aload_n hx hb dX4_operandByName_164 rfl (lv_at hl 3 rfl) ?_
              obtain ⟨r2544, hcr2544, hM⟩ := ob_use hM
              refine cl_V (As := []) (rest := []) (w_Parser_this_tokens_tree cI ad r2544.2 o_tokens_L144 r2543.2) (.int r2544.1 :: []) ⟨hx, hb, hml, hown, hts⟩ (c_Parser_takeComma l D cI sd ad r2543.1 o_tokens_L144 r2544 hcr2544) (cwV2 hts q743 mvX4_takeComma rfl rfl ⟨(mxN (Nat.le_of_ble_eq_true rfl)), (mxN (Nat.le_of_ble_eq_true rfl))⟩) hK hE hA hP hD hS 0 (T := TX4) (N := 12) (ci := 4) rfl rfl [0, 1, 2, 3, 4] rfl (by decide) rfl rfl rfl rfl rfl rfl hl.1 (Nat.le_of_ble_eq_true rfl) dX4_operandByName_165 ⟨Nat.zero_le _, Nat.zero_le _⟩ (fun H locs hP hD hS => ?_)
              refine lv_istore (lv' := [(6, .int r2544.1), (7, .int v7_L144), (5, .int w5_L144), (0, .ref (ad 22))]) hx hb dX4_operandByName_168 hl (by decide) rfl (fun ls hl => ?_)
              obtain ⟨x2545, ex2545⟩ : ∃ y : Int32, y = v7_L144 + 1 := ⟨_, rfl⟩
              replace hM := nm_use ex2545 hM
              refine lv_iinc (v := x2545) (lv' := [(7, .int x2545), (6, .int r2544.1), (5, .int w5_L144), (0, .ref (ad 22))]) hx hb dX4_operandByName_170 hl (k := 1) rfl (by rw [ex2545]; rfl) (by decide) rfl (fun ls hl => ?_)
              refine lv_goto (tgt := 144) hx hb dX4_operandByName_173 (by decide) ?_
              exact ih_L144 x2545 r2544.1 r2544.2 r2543.2 out_L144 _ _ _ hM hP hD hS (lv_sub hl [0, 1, 2, 3] rfl) kx_L144
      obtain ⟨r8, hcr8, hM⟩ := ob_use hM
      refine lp_L144 r3.1 o_tokens FU 0 1 r4 r3.2 r8 _ _ _ hcr8 hP hD hS (lv_sub hl [0, 1, 2, 5] rfl) (fun H locs ls hP hD hS hl => ?_)
      refine lv_aload_n hx hb dX4_operandByName_176 rfl (lv_at hl 1 rfl) ?_
      refine lv_bipush (v := 41) hx hb dX4_operandByName_177 (by decide) ?_
      obtain ⟨r9, hcr9, hM⟩ := ob_use hM
      refine cl_V (As := [.int 41]) (rest := []) (w_Parser_this_tokens_tree cI ad r9 o_tokens r8.2) [] ⟨hx, hb, hml, hown, hts⟩ (c_Parser_takeClosing l D cI sd ad r8.1 o_tokens 41 r9 hcr9) (cwV2 hts q735 mvX4_takeClosing rfl rfl ⟨(mxN (Nat.le_of_ble_eq_true rfl)), (mxN (Nat.le_of_ble_eq_true rfl))⟩) hK hE hA hP hD hS 0 (T := TX4) (N := 12) (ci := 4) rfl rfl [0, 1, 2, 3, 4] rfl (by decide) rfl rfl rfl rfl rfl rfl hl.1 (Nat.le_of_ble_eq_true rfl) dX4_operandByName_179 ⟨Nat.zero_le _, Nat.zero_le _⟩ (fun H locs hP hD hS => ?_)
      refine lv_goto (tgt := 198) hx hb dX4_operandByName_182 (by decide) ?_
      cases hM
      exact rt_v hx hb hr hlk hP hD hS rfl dX4_operandByName_198
  replace hM := if_f c2 hM
  by_cases c10 : r1.2.2.1 = 46
  · replace hM := if_t c10 hM
    refine lv_lookup (off := 68) (tgt := 82) hx hb dX4_operandByName_14 (by decide) (by rw [lv_osw c2 (by decide)]; exact sw_hit c10 (by decide)) (by decide) ?_
    refine lv_aload_n hx hb dX4_operandByName_82 rfl (lv_at hl 2 rfl) ?_
    refine lv_bipush (v := 46) hx hb dX4_operandByName_83 (by decide) ?_
    obtain ⟨r11, hcr11, hM⟩ := ob_use hM
    refine cl_V (As := [.int 46]) (rest := []) (w_Parser_this_tokens_tree cI ad r11 o_tokens o_tree) [] ⟨hx, hb, hml, hown, hts⟩ (c_Parser_take l D cI sd ad r1.2 o_tokens 46 r11 hcr11) (cwV2 hts q614 mvX4_take rfl rfl ⟨(mxN (Nat.le_of_ble_eq_true rfl)), (mxN (Nat.le_of_ble_eq_true rfl))⟩) hK hE hA hP hD hS 0 (T := TX4) (N := 12) (ci := 4) rfl rfl [0, 1, 2, 3, 4] rfl (by decide) rfl rfl rfl rfl rfl rfl hl.1 (Nat.le_of_ble_eq_true rfl) dX4_operandByName_85 ⟨Nat.zero_le _, Nat.zero_le _⟩ (fun H locs hP hD hS => ?_)
    refine lv_aload_n hx hb dX4_operandByName_88 rfl (lv_at hl 2 rfl) ?_
    refine lv_aload_n hx hb dX4_operandByName_89 rfl (lv_at hl 2 rfl) ?_
    refine va_get (D := D) (ci := 4) (v := .ref (ad 14)) (C := RX4) (T := TX4) (N := 12) hx hb hts layX4 hown hK hP 0 rfl rfl 1 (by decide) (hts _ (inA q398)) (fun _ h9 => h9) rfl dX4_operandByName_90 ?_
    refine lv_iload_n hx hb dX4_operandByName_93 rfl (lv_at hl 3 rfl) ?_
    refine lv_bipush (v := 33) hx hb dX4_operandByName_94 (by decide) ?_
    refine lv_iload_n hx hb dX4_operandByName_96 rfl (lv_at hl 1 rfl) ?_
    refine lv_iload_n hx hb dX4_operandByName_97 rfl (lv_at hl 0 rfl) ?_
    obtain ⟨r12, hcr12, hM⟩ := ob_use hM
    refine cl_V (As := [.int a1, .int 33, .int o_this.2.2.1, .int r1.1]) (rest := [.ref (ad 22)]) (w_Parser_this_tokens_tree cI ad r11 o_tokens r12.2) (.int r12.1 :: [.ref (ad 22)]) ⟨hx, hb, hml, hown, hts⟩ (c_Tree_add l D cI sd ad o_tree a1 33 o_this.2.2.1 r1.1 r12 hcr12) (cwV2 hts q622 mvX3_add rfl rfl ⟨(mxN (Nat.le_of_ble_eq_true rfl)), (mxN (Nat.le_of_ble_eq_true rfl))⟩) hK hE hA hP hD hS 5 (T := TX3) (N := 8) (ci := 3) rfl rfl [5, 6, 7, 8, 9, 10, 11, 12] rfl (by decide) rfl rfl rfl rfl rfl rfl hl.1 (Nat.le_of_ble_eq_true rfl) dX4_operandByName_98 ⟨Nat.zero_le _, Nat.zero_le _⟩ (fun H locs hP hD hS => ?_)
    obtain ⟨r13, hcr13, hM⟩ := ob_use hM
    refine cl_V (As := [.int r12.1]) (rest := []) (w_Parser_this_tokens_tree cI ad r13.1 o_tokens r13.2) [] ⟨hx, hb, hml, hown, hts⟩ (c_Parser_nameNode l D cI sd ad r11 o_tokens r12.2 r12.1 r13 hcr13) (cwV2 hts q657 mvX4_nameNode rfl rfl ⟨(mxN (Nat.le_of_ble_eq_true rfl)), (mxN (Nat.le_of_ble_eq_true rfl))⟩) hK hE hA hP hD hS 0 (T := TX4) (N := 12) (ci := 4) rfl rfl [0, 1, 2, 3, 4, 5, 6, 7, 8, 9, 10, 11, 12] rfl (by decide) rfl rfl rfl rfl rfl rfl hl.1 (Nat.le_of_ble_eq_true rfl) dX4_operandByName_101 ⟨Nat.zero_le _, Nat.zero_le _⟩ (fun H locs hP hD hS => ?_)
    refine lv_goto (tgt := 198) hx hb dX4_operandByName_104 (by decide) ?_
    cases hM
    exact rt_v hx hb hr hlk hP hD hS rfl dX4_operandByName_198
  replace hM := if_f c10 hM
  by_cases c14 : r1.2.2.1 = 91
  · replace hM := if_t c14 hM
    refine lv_lookup (off := 34) (tgt := 48) hx hb dX4_operandByName_14 (by decide) (by rw [lv_osw c2 (by decide)]; rw [lv_osw c10 (by decide)]; exact sw_hit c14 (by decide)) (by decide) ?_
    refine lv_aload_n hx hb dX4_operandByName_48 rfl (lv_at hl 2 rfl) ?_
    refine va_get (D := D) (ci := 4) (v := .ref (ad 14)) (C := RX4) (T := TX4) (N := 12) hx hb hts layX4 hown hK hP 0 rfl rfl 1 (by decide) (hts _ (inA q398)) (fun _ h9 => h9) rfl dX4_operandByName_49 ?_
    refine lv_iload_n hx hb dX4_operandByName_52 rfl (lv_at hl 3 rfl) ?_
    refine lv_bipush (v := 32) hx hb dX4_operandByName_53 (by decide) ?_
    refine lv_iload_n hx hb dX4_operandByName_55 rfl (lv_at hl 1 rfl) ?_
    refine lv_iload_n hx hb dX4_operandByName_56 rfl (lv_at hl 0 rfl) ?_
    obtain ⟨r15, hcr15, hM⟩ := ob_use hM
    refine cl_V (As := [.int a1, .int 32, .int o_this.2.2.1, .int r1.1]) (rest := []) (w_Parser_this_tokens_tree cI ad r1.2 o_tokens r15.2) (.int r15.1 :: []) ⟨hx, hb, hml, hown, hts⟩ (c_Tree_add l D cI sd ad o_tree a1 32 o_this.2.2.1 r1.1 r15 hcr15) (cwV2 hts q622 mvX3_add rfl rfl ⟨(mxN (Nat.le_of_ble_eq_true rfl)), (mxN (Nat.le_of_ble_eq_true rfl))⟩) hK hE hA hP hD hS 5 (T := TX3) (N := 8) (ci := 3) rfl rfl [5, 6, 7, 8, 9, 10, 11, 12] rfl (by decide) rfl rfl rfl rfl rfl rfl hl.1 (Nat.le_of_ble_eq_true rfl) dX4_operandByName_57 ⟨Nat.zero_le _, Nat.zero_le _⟩ (fun H locs hP hD hS => ?_)
    refine lv_istore (lv' := [(4, .int r15.1), (3, .int r1.1), (2, .int o_this.2.2.1), (0, .ref (ad 22)), (1, .int a1)]) hx hb dX4_operandByName_60 hl (by decide) rfl (fun ls hl => ?_)
    refine lv_aload_n hx hb dX4_operandByName_62 rfl (lv_at hl 3 rfl) ?_
    obtain ⟨r16, hcr16, hM⟩ := ob_use hM
    refine cl_V (As := []) (rest := []) (w_Parser_this_tokens_tree cI ad r16 o_tokens r15.2) [] ⟨hx, hb, hml, hown, hts⟩ (c_Parser_takeOpening l D cI sd ad r1.2 o_tokens r16 hcr16) (cwV2 hts q715 mvX4_takeOpening rfl rfl ⟨(mxN (Nat.le_of_ble_eq_true rfl)), (mxN (Nat.le_of_ble_eq_true rfl))⟩) hK hE hA hP hD hS 0 (T := TX4) (N := 12) (ci := 4) rfl rfl [0, 1, 2, 3, 4] rfl (by decide) rfl rfl rfl rfl rfl rfl hl.1 (Nat.le_of_ble_eq_true rfl) dX4_operandByName_63 ⟨Nat.zero_le _, Nat.zero_le _⟩ (fun H locs hP hD hS => ?_)
    refine lv_aload_n hx hb dX4_operandByName_66 rfl (lv_at hl 3 rfl) ?_
    refine lv_iload hx hb dX4_operandByName_67 (lv_at hl 0 rfl) ?_
    refine lv_iconst (v := 0) hx hb dX4_operandByName_69 (by decide) ?_
    obtain ⟨r17, hcr17, hM⟩ := ob_use hM
    refine cl_V (As := [.int r15.1, .int 0]) (rest := []) (w_Parser_this_tokens_tree cI ad r17.1 o_tokens r17.2) [] ⟨hx, hb, hml, hown, hts⟩ (H_expression r16 o_tokens r15.2 r15.1 0 r17 hcr17) (cwV2 hts q727 mvX4_expression rfl rfl ⟨mxF0 (by decide), mxL0 (by decide)⟩) hK hE hA hP hD hS 0 (T := TX4) (N := 12) (ci := 4) rfl rfl [0, 1, 2, 3, 4, 5, 6, 7, 8, 9, 10, 11, 12] rfl (by decide) rfl rfl rfl rfl rfl rfl hl.1 (Nat.le_of_ble_eq_true rfl) dX4_operandByName_70 ⟨Nat.zero_le _, Nat.zero_le _⟩ (fun H locs hP hD hS => ?_)
    refine lv_aload_n hx hb dX4_operandByName_73 rfl (lv_at hl 3 rfl) ?_
    refine lv_bipush (v := 93) hx hb dX4_operandByName_74 (by decide) ?_
    obtain ⟨r18, hcr18, hM⟩ := ob_use hM
    refine cl_V (As := [.int 93]) (rest := []) (w_Parser_this_tokens_tree cI ad r18 o_tokens r17.2) [] ⟨hx, hb, hml, hown, hts⟩ (c_Parser_takeClosing l D cI sd ad r17.1 o_tokens 93 r18 hcr18) (cwV2 hts q735 mvX4_takeClosing rfl rfl ⟨(mxN (Nat.le_of_ble_eq_true rfl)), (mxN (Nat.le_of_ble_eq_true rfl))⟩) hK hE hA hP hD hS 0 (T := TX4) (N := 12) (ci := 4) rfl rfl [0, 1, 2, 3, 4] rfl (by decide) rfl rfl rfl rfl rfl rfl hl.1 (Nat.le_of_ble_eq_true rfl) dX4_operandByName_76 ⟨Nat.zero_le _, Nat.zero_le _⟩ (fun H locs hP hD hS => ?_)
    refine lv_goto (tgt := 198) hx hb dX4_operandByName_79 (by decide) ?_
    cases hM
    exact rt_v hx hb hr hlk hP hD hS rfl dX4_operandByName_198
  replace hM := if_f c14 hM
  refine lv_lookup (off := 171) (tgt := 185) hx hb dX4_operandByName_14 (by decide) (by rw [lv_osw c2 (by decide)]; rw [lv_osw c10 (by decide)]; rw [lv_osw c14 (by decide)]; rfl) (by decide) ?_
  refine lv_aload_n hx hb dX4_operandByName_185 rfl (lv_at hl 2 rfl) ?_
  refine va_get (D := D) (ci := 4) (v := .ref (ad 14)) (C := RX4) (T := TX4) (N := 12) hx hb hts layX4 hown hK hP 0 rfl rfl 1 (by decide) (hts _ (inA q398)) (fun _ h9 => h9) rfl dX4_operandByName_186 ?_
  refine lv_iload_n hx hb dX4_operandByName_189 rfl (lv_at hl 3 rfl) ?_
  refine lv_bipush (v := 6) hx hb dX4_operandByName_190 (by decide) ?_
  refine lv_iload_n hx hb dX4_operandByName_192 rfl (lv_at hl 1 rfl) ?_
  refine lv_iload_n hx hb dX4_operandByName_193 rfl (lv_at hl 0 rfl) ?_
  obtain ⟨r19, hcr19, hM⟩ := ob_use hM
  refine cl_V (As := [.int a1, .int 6, .int o_this.2.2.1, .int r1.1]) (rest := []) (w_Parser_this_tokens_tree cI ad r1.2 o_tokens r19.2) (.int r19.1 :: []) ⟨hx, hb, hml, hown, hts⟩ (c_Tree_add l D cI sd ad o_tree a1 6 o_this.2.2.1 r1.1 r19 hcr19) (cwV2 hts q622 mvX3_add rfl rfl ⟨(mxN (Nat.le_of_ble_eq_true rfl)), (mxN (Nat.le_of_ble_eq_true rfl))⟩) hK hE hA hP hD hS 5 (T := TX3) (N := 8) (ci := 3) rfl rfl [5, 6, 7, 8, 9, 10, 11, 12] rfl (by decide) rfl rfl rfl rfl rfl rfl hl.1 (Nat.le_of_ble_eq_true rfl) dX4_operandByName_194 ⟨Nat.zero_le _, Nat.zero_le _⟩ (fun H locs hP hD hS => ?_)
  refine lv_pop hx hb dX4_operandByName_197 rfl ?_
  cases hM
  exact rt_v hx hb hr hlk hP hD hS rfl dX4_operandByName_198

set_option maxHeartbeats 4000000 in
set_option maxRecDepth 100000 in
theorem c_Parser_operand_o (l : Launch) (D : va_G) (cI : ClassId) (sd : Nat → Nat) (ad : Nat → Nat) (fr lo : Nat) (f_operand : S_Parser → S_Tokens → S_Tree → Int32 → Option (S_Parser × S_Tree)) (f_expression : S_Parser → S_Tokens → S_Tree → Int32 → Int32 → Option (S_Parser × S_Tree)) (H_operand : ∀ (o_this : S_Parser) (o_tokens : S_Tokens) (o_tree : S_Tree) (a1 : Int32) (res : S_Parser × S_Tree), f_operand o_this o_tokens o_tree a1 = some res → Ctr l D cI sd yX4_operand (wsM yX4_operand cX4_operand 3 (Option.none : Option Jvm.ClassFile.FieldType)) { frames := fr, cells := 0, slots := 0, locals := lo } [.ref (ad 22), .int a1] (w_Parser_this_tokens_tree cI ad o_this o_tokens o_tree) (w_Parser_this_tokens_tree cI ad res.1 o_tokens res.2) none) (H_expression : ∀ (o_this : S_Parser) (o_tokens : S_Tokens) (o_tree : S_Tree) (a1 : Int32) (a2 : Int32) (res : S_Parser × S_Tree), f_expression o_this o_tokens o_tree a1 a2 = some res → Ctr l D cI sd yX4_expression (wsM yX4_expression cX4_expression 7 (Option.none : Option Jvm.ClassFile.FieldType)) { frames := fr, cells := 0, slots := 0, locals := lo } [.ref (ad 22), .int a1, .int a2] (w_Parser_this_tokens_tree cI ad o_this o_tokens o_tree) (w_Parser_this_tokens_tree cI ad res.1 o_tokens res.2) none) (o_this : S_Parser) (o_tokens : S_Tokens) (o_tree : S_Tree) (a1 : Int32) (res : S_Parser × S_Tree) (hM : f_Parser_operand_o f_operand f_expression o_this o_tokens o_tree a1 = some res) : Ctr l D cI sd yX4_operand (wsM yX4_operand cX4_operand 3 (Option.none : Option Jvm.ClassFile.FieldType)) { frames := max (fr + 2) 3, cells := 0, slots := 0, locals := max (lo + 53) 89 } [.ref (ad 22), .int a1] (w_Parser_this_tokens_tree cI ad o_this o_tokens o_tree) (w_Parser_this_tokens_tree cI ad res.1 o_tokens res.2) none := by
  refine Ctr.of (cc := cX4_operand) (maxL := 3) (own := RX4) (by decide +kernel) rfl rfl (Nat.le_of_ble_eq_true rfl) ?_
  intro p e s m below meth c A ls hx hb hr hml hown hts hlk hK hE hA hP hD hS hl
  have hl : lv_has ls 3 [(0, .ref (ad 22)), (1, .int a1)] := hl
  unfold f_Parser_operand_o at hM
  refine lv_aload_n hx hb dX4_operand_0 rfl (lv_at hl 0 rfl) ?_
  refine va_get (D := D) (ci := 4) (v := .int o_this.2.1) (C := RX4) (T := TX4) (N := 12) hx hb hts layX4 hown hK hP 0 rfl rfl 3 (by decide) (hts _ (inA q400)) (fun _ h9 => h9) rfl dX4_operand_1 ?_
  by_cases c1 : o_this.2.1 = 1
  · replace hM := if_t c1 hM
    refine lv_lookup (off := 115) (tgt := 119) hx hb dX4_operand_4 (by decide) (by exact sw_hit c1 (by decide)) (by decide) ?_
    refine lv_aload_n hx hb dX4_operand_119 rfl (lv_at hl 0 rfl) ?_
    refine lv_iload_n hx hb dX4_operand_120 rfl (lv_at hl 1 rfl) ?_
    obtain ⟨r2, hcr2, hM⟩ := ob_use hM
    refine cl_V (As := [.int a1]) (rest := []) (w_Parser_this_tokens_tree cI ad r2.1 o_tokens r2.2) [] ⟨hx, hb, hml, hown, hts⟩ (c_Parser_operandByName l D cI sd ad fr lo f_expression H_expression o_this o_tokens o_tree a1 r2 hcr2) (cwV2 hts q739 mvX4_operandByName rfl rfl ⟨mxF (by decide) (by decide), mxL (by decide) (by decide)⟩) hK hE hA hP hD hS 0 (T := TX4) (N := 12) (ci := 4) rfl rfl [0, 1, 2, 3, 4, 5, 6, 7, 8, 9, 10, 11, 12] rfl (by decide) rfl rfl rfl rfl rfl rfl hl.1 (Nat.le_of_ble_eq_true rfl) dX4_operand_121 ⟨Nat.zero_le _, Nat.zero_le _⟩ (fun H locs hP hD hS => ?_)
    refine lv_goto (tgt := 132) hx hb dX4_operand_124 (by decide) ?_
    cases hM
    exact rt_v hx hb hr hlk hP hD hS rfl dX4_operand_132
  replace hM := if_f c1 hM
  by_cases c3 : o_this.2.1 = 40
  · replace hM := if_t c3 hM
    refine lv_lookup (off := 96) (tgt := 100) hx hb dX4_operand_4 (by decide) (by rw [lv_osw c1 (by decide)]; exact sw_hit c3 (by decide)) (by decide) ?_
    refine lv_aload_n hx hb dX4_operand_100 rfl (lv_at hl 0 rfl) ?_
    obtain ⟨r4, hcr4, hM⟩ := ob_use hM
    refine cl_V (As := []) (rest := []) (w_Parser_this_tokens_tree cI ad r4 o_tokens o_tree) [] ⟨hx, hb, hml, hown, hts⟩ (c_Parser_takeOpening l D cI sd ad o_this o_tokens r4 hcr4) (cwV2 hts q715 mvX4_takeOpening rfl rfl ⟨(mxN (Nat.le_of_ble_eq_true rfl)), (mxN (Nat.le_of_ble_eq_true rfl))⟩) hK hE hA hP hD hS 0 (T := TX4) (N := 12) (ci := 4) rfl rfl [0, 1, 2, 3, 4] rfl (by decide) rfl rfl rfl rfl rfl rfl hl.1 (Nat.le_of_ble_eq_true rfl) dX4_operand_101 ⟨Nat.zero_le _, Nat.zero_le _⟩ (fun H locs hP hD hS => ?_)
    refine lv_aload_n hx hb dX4_operand_104 rfl (lv_at hl 0 rfl) ?_
    refine lv_iload_n hx hb dX4_operand_105 rfl (lv_at hl 1 rfl) ?_
    refine lv_iconst (v := 0) hx hb dX4_operand_106 (by decide) ?_
    obtain ⟨r5, hcr5, hM⟩ := ob_use hM
    refine cl_V (As := [.int a1, .int 0]) (rest := []) (w_Parser_this_tokens_tree cI ad r5.1 o_tokens r5.2) [] ⟨hx, hb, hml, hown, hts⟩ (H_expression r4 o_tokens o_tree a1 0 r5 hcr5) (cwV2 hts q727 mvX4_expression rfl rfl ⟨mxF0 (by decide), mxL0 (by decide)⟩) hK hE hA hP hD hS 0 (T := TX4) (N := 12) (ci := 4) rfl rfl [0, 1, 2, 3, 4, 5, 6, 7, 8, 9, 10, 11, 12] rfl (by decide) rfl rfl rfl rfl rfl rfl hl.1 (Nat.le_of_ble_eq_true rfl) dX4_operand_107 ⟨Nat.zero_le _, Nat.zero_le _⟩ (fun H locs hP hD hS => ?_)
    refine lv_aload_n hx hb dX4_operand_110 rfl (lv_at hl 0 rfl) ?_
    refine lv_bipush (v := 41) hx hb dX4_operand_111 (by decide) ?_
    obtain ⟨r6, hcr6, hM⟩ := ob_use hM
    refine cl_V (As := [.int 41]) (rest := []) (w_Parser_this_tokens_tree cI ad r6 o_tokens r5.2) [] ⟨hx, hb, hml, hown, hts⟩ (c_Parser_takeClosing l D cI sd ad r5.1 o_tokens 41 r6 hcr6) (cwV2 hts q735 mvX4_takeClosing rfl rfl ⟨(mxN (Nat.le_of_ble_eq_true rfl)), (mxN (Nat.le_of_ble_eq_true rfl))⟩) hK hE hA hP hD hS 0 (T := TX4) (N := 12) (ci := 4) rfl rfl [0, 1, 2, 3, 4] rfl (by decide) rfl rfl rfl rfl rfl rfl hl.1 (Nat.le_of_ble_eq_true rfl) dX4_operand_113 ⟨Nat.zero_le _, Nat.zero_le _⟩ (fun H locs hP hD hS => ?_)
    refine lv_goto (tgt := 132) hx hb dX4_operand_116 (by decide) ?_
    cases hM
    exact rt_v hx hb hr hlk hP hD hS rfl dX4_operand_132
  replace hM := if_f c3 hM
  by_cases c7 : o_this.2.1 = 45
  · replace hM := if_t c7 hM
    refine lv_lookup (off := 44) (tgt := 48) hx hb dX4_operand_4 (by decide) (by rw [lv_osw c1 (by decide)]; rw [lv_osw c3 (by decide)]; exact sw_hit c7 (by decide)) (by decide) ?_
    refine lv_aload_n hx hb dX4_operand_48 rfl (lv_at hl 0 rfl) ?_
    refine va_get (D := D) (ci := 4) (v := .ref (ad 14)) (C := RX4) (T := TX4) (N := 12) hx hb hts layX4 hown hK hP 0 rfl rfl 1 (by decide) (hts _ (inA q398)) (fun _ h9 => h9) rfl dX4_operand_49 ?_
    refine lv_iload_n hx hb dX4_operand_52 rfl (lv_at hl 1 rfl) ?_
    refine lv_bipush (v := 36) hx hb dX4_operand_53 (by decide) ?_
    refine lv_aload_n hx hb dX4_operand_55 rfl (lv_at hl 0 rfl) ?_
    refine va_get (D := D) (ci := 4) (v := .int o_this.2.2.1) (C := RX4) (T := TX4) (N := 12) hx hb hts layX4 hown hK hP 0 rfl rfl 4 (by decide) (hts _ (inA q401)) (fun _ h9 => h9) rfl dX4_operand_56 ?_
    refine lv_aload_n hx hb dX4_operand_59 rfl (lv_at hl 0 rfl) ?_
    refine va_get (D := D) (ci := 4) (v := .int o_this.2.1) (C := RX4) (T := TX4) (N := 12) hx hb hts layX4 hown hK hP 0 rfl rfl 3 (by decide) (hts _ (inA q400)) (fun _ h9 => h9) rfl dX4_operand_60 ?_
    refine lv_sipush (v := 290) hx hb dX4_operand_63 (by decide) ?_
    refine lv_icmp_ne (tgt := 73) hx hb dX4_operand_66 (by decide) (fun c8 => ?_) (fun c8 => ?_)
    · replace hM := if_f c8 hM
      refine lv_iconst (v := 0) hx hb dX4_operand_73 (by decide) ?_
      obtain ⟨r9, hcr9, hM⟩ := ob_use hM
      refine cl_V (As := [.int a1, .int 36, .int o_this.2.2.1, .int 0]) (rest := []) (w_Parser_this_tokens_tree cI ad o_this o_tokens r9.2) (.int r9.1 :: []) ⟨hx, hb, hml, hown, hts⟩ (c_Tree_add l D cI sd ad o_tree a1 36 o_this.2.2.1 0 r9 hcr9) (cwV2 hts q622 mvX3_add rfl rfl ⟨(mxN (Nat.le_of_ble_eq_true rfl)), (mxN (Nat.le_of_ble_eq_true rfl))⟩) hK hE hA hP hD hS 5 (T := TX3) (N := 8) (ci := 3) rfl rfl [5, 6, 7, 8, 9, 10, 11, 12] rfl (by decide) rfl rfl rfl rfl rfl rfl hl.1 (Nat.le_of_ble_eq_true rfl) dX4_operand_74 ⟨Nat.zero_le _, Nat.zero_le _⟩ (fun H locs hP hD hS => ?_)
      refine lv_istore_n (lv' := [(2, .int r9.1), (0, .ref (ad 22)), (1, .int a1)]) hx hb dX4_operand_77 rfl hl (by decide) rfl (fun ls hl => ?_)
      refine lv_aload_n hx hb dX4_operand_78 rfl (lv_at hl 1 rfl) ?_
      obtain ⟨r10, hcr10, hM⟩ := ob_use hM
      refine cl_V (As := []) (rest := []) (w_Parser_this_tokens_tree cI ad r10 o_tokens r9.2) [] ⟨hx, hb, hml, hown, hts⟩ (c_Parser_takeOpening l D cI sd ad o_this o_tokens r10 hcr10) (cwV2 hts q715 mvX4_takeOpening rfl rfl ⟨(mxN (Nat.le_of_ble_eq_true rfl)), (mxN (Nat.le_of_ble_eq_true rfl))⟩) hK hE hA hP hD hS 0 (T := TX4) (N := 12) (ci := 4) rfl rfl [0, 1, 2, 3, 4] rfl (by decide) rfl rfl rfl rfl rfl rfl hl.1 (Nat.le_of_ble_eq_true rfl) dX4_operand_79 ⟨Nat.zero_le _, Nat.zero_le _⟩ (fun H locs hP hD hS => ?_)
      refine lv_aload_n hx hb dX4_operand_82 rfl (lv_at hl 1 rfl) ?_
      refine lv_iload_n hx hb dX4_operand_83 rfl (lv_at hl 0 rfl) ?_
      obtain ⟨r11, hcr11, hM⟩ := ob_use hM
      refine cl_V (As := [.int r9.1]) (rest := []) (w_Parser_this_tokens_tree cI ad r11.1 o_tokens r11.2) [] ⟨hx, hb, hml, hown, hts⟩ (H_operand r10 o_tokens r9.2 r9.1 r11 hcr11) (cwV2 hts q731 mvX4_operand rfl rfl ⟨mxF0 (by decide), mxL0 (by decide)⟩) hK hE hA hP hD hS 0 (T := TX4) (N := 12) (ci := 4) rfl rfl [0, 1, 2, 3, 4, 5, 6, 7, 8, 9, 10, 11, 12] rfl (by decide) rfl rfl rfl rfl rfl rfl hl.1 (Nat.le_of_ble_eq_true rfl) dX4_operand_84 ⟨Nat.zero_le _, Nat.zero_le _⟩ (fun H locs hP hD hS => ?_)
      refine lv_aload_n hx hb dX4_operand_87 rfl (lv_at hl 1 rfl) ?_
      refine lv_dup hx hb dX4_operand_88 rfl ?_
      refine va_get (D := D) (ci := 4) (v := .int r11.1.2.2.2.2.2.2.1) (C := RX4) (T := TX4) (N := 12) hx hb hts layX4 hown hK hP 0 rfl rfl 8 (by decide) (hts _ (inA q405)) (fun _ h9 => h9) rfl dX4_operand_89 ?_
      refine lv_iconst (v := 1) hx hb dX4_operand_92 (by decide) ?_
      refine lv_isub hx hb dX4_operand_93 ?_
      refine va_put (D := D) (ci := 4) (v := .int (r11.1.2.2.2.2.2.2.1 - 1)) (ty := .int) (C := RX4) (T := TX4) (N := 12) hx hb hts layX4 tyX4 tyX4_ok nmX4 hown hK hP hD hS 0 rfl rfl 8 (by decide) (hts _ (inA q405)) (fun _ h9 => h9) rfl (by decide +kernel) rfl rfl (Nat.le_of_ble_eq_true rfl) dX4_operand_94 (fun H locs hP hD hS => ?_)
      have hP : va_P D vwCl (w_Parser_this_tokens_tree cI ad (r11.1.1, r11.1.2.1, r11.1.2.2.1, r11.1.2.2.2.1, r11.1.2.2.2.2.1, r11.1.2.2.2.2.2.1, r11.1.2.2.2.2.2.2.1 - 1, r11.1.2.2.2.2.2.2.2) o_tokens r11.2) H := hP
      have hD : va_D A (w_Parser_this_tokens_tree cI ad (r11.1.1, r11.1.2.1, r11.1.2.2.1, r11.1.2.2.2.1, r11.1.2.2.2.2.1, r11.1.2.2.2.2.2.1, r11.1.2.2.2.2.2.2.1 - 1, r11.1.2.2.2.2.2.2.2) o_tokens r11.2) := hD
      refine lv_goto (tgt := 132) hx hb dX4_operand_97 (by decide) ?_
      cases hM
      exact rt_v hx hb hr hlk hP hD hS rfl dX4_operand_132
    · replace hM := if_t c8 hM
      refine lv_iconst (v := 1) hx hb dX4_operand_69 (by decide) ?_
      refine lv_goto (tgt := 74) hx hb dX4_operand_70 (by decide) ?_
      obtain ⟨r12, hcr12, hM⟩ := ob_use hM
      refine cl_V (As := [.int a1, .int 36, .int o_this.2.2.1, .int 1]) (rest := []) (w_Parser_this_tokens_tree cI ad o_this o_tokens r12.2) (.int r12.1 :: []) ⟨hx, hb, hml, hown, hts⟩ (c_Tree_add l D cI sd ad o_tree a1 36 o_this.2.2.1 1 r12 hcr12) (cwV2 hts q622 mvX3_add rfl rfl ⟨(mxN (Nat.le_of_ble_eq_true rfl)), (mxN (Nat.le_of_ble_eq_true rfl))⟩) hK hE hA hP hD hS 5 (T := TX3) (N := 8) (ci := 3) rfl rfl [5, 6, 7, 8, 9, 10, 11, 12] rfl (by decide) rfl rfl rfl rfl rfl rfl hl.1 (Nat.le_of_ble_eq_true rfl) dX4_operand_74 ⟨Nat.zero_le _, Nat.zero_le _⟩ (fun H locs hP hD hS => ?_)
      refine lv_istore_n (lv' := [(2, .int r12.1), (0, .ref (ad 22)), (1, .int a1)]) hx hb dX4_operand_77 rfl hl (by decide) rfl (fun ls hl => ?_)
      refine lv_aload_n hx hb dX4_operand_78 rfl (lv_at hl 1 rfl) ?_
      obtain ⟨r13, hcr13, hM⟩ := ob_use hM
      refine cl_V (As := []) (rest := []) (w_Parser_this_tokens_tree cI ad r13 o_tokens r12.2) [] ⟨hx, hb, hml, hown, hts⟩ (c_Parser_takeOpening l D cI sd ad o_this o_tokens r13 hcr13) (cwV2 hts q715 mvX4_takeOpening rfl rfl ⟨(mxN (Nat.le_of_ble_eq_true rfl)), (mxN (Nat.le_of_ble_eq_true rfl))⟩) hK hE hA hP hD hS 0 (T := TX4) (N := 12) (ci := 4) rfl rfl [0, 1, 2, 3, 4] rfl (by decide) rfl rfl rfl rfl rfl rfl hl.1 (Nat.le_of_ble_eq_true rfl) dX4_operand_79 ⟨Nat.zero_le _, Nat.zero_le _⟩ (fun H locs hP hD hS => ?_)
      refine lv_aload_n hx hb dX4_operand_82 rfl (lv_at hl 1 rfl) ?_
      refine lv_iload_n hx hb dX4_operand_83 rfl (lv_at hl 0 rfl) ?_
      obtain ⟨r14, hcr14, hM⟩ := ob_use hM
      refine cl_V (As := [.int r12.1]) (rest := []) (w_Parser_this_tokens_tree cI ad r14.1 o_tokens r14.2) [] ⟨hx, hb, hml, hown, hts⟩ (H_operand r13 o_tokens r12.2 r12.1 r14 hcr14) (cwV2 hts q731 mvX4_operand rfl rfl ⟨mxF0 (by decide), mxL0 (by decide)⟩) hK hE hA hP hD hS 0 (T := TX4) (N := 12) (ci := 4) rfl rfl [0, 1, 2, 3, 4, 5, 6, 7, 8, 9, 10, 11, 12] rfl (by decide) rfl rfl rfl rfl rfl rfl hl.1 (Nat.le_of_ble_eq_true rfl) dX4_operand_84 ⟨Nat.zero_le _, Nat.zero_le _⟩ (fun H locs hP hD hS => ?_)
      refine lv_aload_n hx hb dX4_operand_87 rfl (lv_at hl 1 rfl) ?_
      refine lv_dup hx hb dX4_operand_88 rfl ?_
      refine va_get (D := D) (ci := 4) (v := .int r14.1.2.2.2.2.2.2.1) (C := RX4) (T := TX4) (N := 12) hx hb hts layX4 hown hK hP 0 rfl rfl 8 (by decide) (hts _ (inA q405)) (fun _ h9 => h9) rfl dX4_operand_89 ?_
      refine lv_iconst (v := 1) hx hb dX4_operand_92 (by decide) ?_
      refine lv_isub hx hb dX4_operand_93 ?_
      refine va_put (D := D) (ci := 4) (v := .int (r14.1.2.2.2.2.2.2.1 - 1)) (ty := .int) (C := RX4) (T := TX4) (N := 12) hx hb hts layX4 tyX4 tyX4_ok nmX4 hown hK hP hD hS 0 rfl rfl 8 (by decide) (hts _ (inA q405)) (fun _ h9 => h9) rfl (by decide +kernel) rfl rfl (Nat.le_of_ble_eq_true rfl) dX4_operand_94 (fun H locs hP hD hS => ?_)
      have hP : va_P D vwCl (w_Parser_this_tokens_tree cI ad (r14.1.1, r14.1.2.1, r14.1.2.2.1, r14.1.2.2.2.1, r14.1.2.2.2.2.1, r14.1.2.2.2.2.2.1, r14.1.2.2.2.2.2.2.1 - 1, r14.1.2.2.2.2.2.2.2) o_tokens r14.2) H := hP
      have hD : va_D A (w_Parser_this_tokens_tree cI ad (r14.1.1, r14.1.2.1, r14.1.2.2.1, r14.1.2.2.2.1, r14.1.2.2.2.2.1, r14.1.2.2.2.2.2.1, r14.1.2.2.2.2.2.2.1 - 1, r14.1.2.2.2.2.2.2.2) o_tokens r14.2) := hD
      refine lv_goto (tgt := 132) hx hb dX4_operand_97 (by decide) ?_
      cases hM
      exact rt_v hx hb hr hlk hP hD hS rfl dX4_operand_132
  replace hM := if_f c7 hM
  by_cases c15 : o_this.2.1 = 290
  · replace hM := if_t c15 hM
    refine lv_lookup (off := 44) (tgt := 48) hx hb dX4_operand_4 (by decide) (by rw [lv_osw c1 (by decide)]; rw [lv_osw c3 (by decide)]; rw [lv_osw c7 (by decide)]; exact sw_hit c15 (by decide)) (by decide) ?_
    refine lv_aload_n hx hb dX4_operand_48 rfl (lv_at hl 0 rfl) ?_
    refine va_get (D := D) (ci := 4) (v := .ref (ad 14)) (C := RX4) (T := TX4) (N := 12) hx hb hts layX4 hown hK hP 0 rfl rfl 1 (by decide) (hts _ (inA q398)) (fun _ h9 => h9) rfl dX4_operand_49 ?_
    refine lv_iload_n hx hb dX4_operand_52 rfl (lv_at hl 1 rfl) ?_
    refine lv_bipush (v := 36) hx hb dX4_operand_53 (by decide) ?_
    refine lv_aload_n hx hb dX4_operand_55 rfl (lv_at hl 0 rfl) ?_
    refine va_get (D := D) (ci := 4) (v := .int o_this.2.2.1) (C := RX4) (T := TX4) (N := 12) hx hb hts layX4 hown hK hP 0 rfl rfl 4 (by decide) (hts _ (inA q401)) (fun _ h9 => h9) rfl dX4_operand_56 ?_
    refine lv_aload_n hx hb dX4_operand_59 rfl (lv_at hl 0 rfl) ?_
    refine va_get (D := D) (ci := 4) (v := .int o_this.2.1) (C := RX4) (T := TX4) (N := 12) hx hb hts layX4 hown hK hP 0 rfl rfl 3 (by decide) (hts _ (inA q400)) (fun _ h9 => h9) rfl dX4_operand_60 ?_
    refine lv_sipush (v := 290) hx hb dX4_operand_63 (by decide) ?_
    refine lv_icmp_ne (tgt := 73) hx hb dX4_operand_66 (by decide) (fun c16 => ?_) (fun c16 => ?_)
    · replace hM := if_f c16 hM
      refine lv_iconst (v := 0) hx hb dX4_operand_73 (by decide) ?_
      obtain ⟨r17, hcr17, hM⟩ := ob_use hM
      refine cl_V (As := [.int a1, .int 36, .int o_this.2.2.1, .int 0]) (rest := []) (w_Parser_this_tokens_tree cI ad o_this o_tokens r17.2) (.int r17.1 :: []) ⟨hx, hb, hml, hown, hts⟩ (c_Tree_add l D cI sd ad o_tree a1 36 o_this.2.2.1 0 r17 hcr17) (cwV2 hts q622 mvX3_add rfl rfl ⟨(mxN (Nat.le_of_ble_eq_true rfl)), (mxN (Nat.le_of_ble_eq_true rfl))⟩) hK hE hA hP hD hS 5 (T := TX3) (N := 8) (ci := 3) rfl rfl [5, 6, 7, 8, 9, 10, 11, 12] rfl (by decide) rfl rfl rfl rfl rfl rfl hl.1 (Nat.le_of_ble_eq_true rfl) dX4_operand_74 ⟨Nat.zero_le _, Nat.zero_le _⟩ (fun H locs hP hD hS => ?_)
      refine lv_istore_n (lv' := [(2, .int r17.1), (0, .ref (ad 22)), (1, .int a1)]) hx hb dX4_operand_77 rfl hl (by decide) rfl (fun ls hl => ?_)
      refine lv_aload_n hx hb dX4_operand_78 rfl (lv_at hl 1 rfl) ?_
      obtain ⟨r18, hcr18, hM⟩ := ob_use hM
      refine cl_V (As := []) (rest := []) (w_Parser_this_tokens_tree cI ad r18 o_tokens r17.2) [] ⟨hx, hb, hml, hown, hts⟩ (c_Parser_takeOpening l D cI sd ad o_this o_tokens r18 hcr18) (cwV2 hts q715 mvX4_takeOpening rfl rfl ⟨(mxN (Nat.le_of_ble_eq_true rfl)), (mxN (Nat.le_of_ble_eq_true rfl))⟩) hK hE hA hP hD hS 0 (T := TX4) (N := 12) (ci := 4) rfl rfl [0, 1, 2, 3, 4] rfl (by decide) rfl rfl rfl rfl rfl rfl hl.1 (Nat.le_of_ble_eq_true rfl) dX4_operand_79 ⟨Nat.zero_le _, Nat.zero_le _⟩ (fun H locs hP hD hS => ?_)
      refine lv_aload_n hx hb dX4_operand_82 rfl (lv_at hl 1 rfl) ?_
      refine lv_iload_n hx hb dX4_operand_83 rfl (lv_at hl 0 rfl) ?_
      obtain ⟨r19, hcr19, hM⟩ := ob_use hM
      refine cl_V (As := [.int r17.1]) (rest := []) (w_Parser_this_tokens_tree cI ad r19.1 o_tokens r19.2) [] ⟨hx, hb, hml, hown, hts⟩ (H_operand r18 o_tokens r17.2 r17.1 r19 hcr19) (cwV2 hts q731 mvX4_operand rfl rfl ⟨mxF0 (by decide), mxL0 (by decide)⟩) hK hE hA hP hD hS 0 (T := TX4) (N := 12) (ci := 4) rfl rfl [0, 1, 2, 3, 4, 5, 6, 7, 8, 9, 10, 11, 12] rfl (by decide) rfl rfl rfl rfl rfl rfl hl.1 (Nat.le_of_ble_eq_true rfl) dX4_operand_84 ⟨Nat.zero_le _, Nat.zero_le _⟩ (fun H locs hP hD hS => ?_)
      refine lv_aload_n hx hb dX4_operand_87 rfl (lv_at hl 1 rfl) ?_
      refine lv_dup hx hb dX4_operand_88 rfl ?_
      refine va_get (D := D) (ci := 4) (v := .int r19.1.2.2.2.2.2.2.1) (C := RX4) (T := TX4) (N := 12) hx hb hts layX4 hown hK hP 0 rfl rfl 8 (by decide) (hts _ (inA q405)) (fun _ h9 => h9) rfl dX4_operand_89 ?_
      refine lv_iconst (v := 1) hx hb dX4_operand_92 (by decide) ?_
      refine lv_isub hx hb dX4_operand_93 ?_
      refine va_put (D := D) (ci := 4) (v := .int (r19.1.2.2.2.2.2.2.1 - 1)) (ty := .int) (C := RX4) (T := TX4) (N := 12) hx hb hts layX4 tyX4 tyX4_ok nmX4 hown hK hP hD hS 0 rfl rfl 8 (by decide) (hts _ (inA q405)) (fun _ h9 => h9) rfl (by decide +kernel) rfl rfl (Nat.le_of_ble_eq_true rfl) dX4_operand_94 (fun H locs hP hD hS => ?_)
      have hP : va_P D vwCl (w_Parser_this_tokens_tree cI ad (r19.1.1, r19.1.2.1, r19.1.2.2.1, r19.1.2.2.2.1, r19.1.2.2.2.2.1, r19.1.2.2.2.2.2.1, r19.1.2.2.2.2.2.2.1 - 1, r19.1.2.2.2.2.2.2.2) o_tokens r19.2) H := hP
      have hD : va_D A (w_Parser_this_tokens_tree cI ad (r19.1.1, r19.1.2.1, r19.1.2.2.1, r19.1.2.2.2.1, r19.1.2.2.2.2.1, r19.1.2.2.2.2.2.1, r19.1.2.2.2.2.2.2.1 - 1, r19.1.2.2.2.2.2.2.2) o_tokens r19.2) := hD
      refine lv_goto (tgt := 132) hx hb dX4_operand_97 (by decide) ?_
      cases hM
      exact rt_v hx hb hr hlk hP hD hS rfl dX4_operand_132
    · replace hM := if_t c16 hM
      refine lv_iconst (v := 1) hx hb dX4_operand_69 (by decide) ?_
      refine lv_goto (tgt := 74) hx hb dX4_operand_70 (by decide) ?_
      obtain ⟨r20, hcr20, hM⟩ := ob_use hM
      refine cl_V (As := [.int a1, .int 36, .int o_this.2.2.1, .int 1]) (rest := []) (w_Parser_this_tokens_tree cI ad o_this o_tokens r20.2) (.int r20.1 :: []) ⟨hx, hb, hml, hown, hts⟩ (c_Tree_add l D cI sd ad o_tree a1 36 o_this.2.2.1 1 r20 hcr20) (cwV2 hts q622 mvX3_add rfl rfl ⟨(mxN (Nat.le_of_ble_eq_true rfl)), (mxN (Nat.le_of_ble_eq_true rfl))⟩) hK hE hA hP hD hS 5 (T := TX3) (N := 8) (ci := 3) rfl rfl [5, 6, 7, 8, 9, 10, 11, 12] rfl (by decide) rfl rfl rfl rfl rfl rfl hl.1 (Nat.le_of_ble_eq_true rfl) dX4_operand_74 ⟨Nat.zero_le _, Nat.zero_le _⟩ (fun H locs hP hD hS => ?_)
      refine lv_istore_n (lv' := [(2, .int r20.1), (0, .ref (ad 22)), (1, .int a1)]) hx hb dX4_operand_77 rfl hl (by decide) rfl (fun ls hl => ?_)
      refine lv_aload_n hx hb dX4_operand_78 rfl (lv_at hl 1 rfl) ?_
      obtain ⟨r21, hcr21, hM⟩ := ob_use hM
      refine cl_V (As := []) (rest := []) (w_Parser_this_tokens_tree cI ad r21 o_tokens r20.2) [] ⟨hx, hb, hml, hown, hts⟩ (c_Parser_takeOpening l D cI sd ad o_this o_tokens r21 hcr21) (cwV2 hts q715 mvX4_takeOpening rfl rfl ⟨(mxN (Nat.le_of_ble_eq_true rfl)), (mxN (Nat.le_of_ble_eq_true rfl))⟩) hK hE hA hP hD hS 0 (T := TX4) (N := 12) (ci := 4) rfl rfl [0, 1, 2, 3, 4] rfl (by decide) rfl rfl rfl rfl rfl rfl hl.1 (Nat.le_of_ble_eq_true rfl) dX4_operand_79 ⟨Nat.zero_le _, Nat.zero_le _⟩ (fun H locs hP hD hS => ?_)
      refine lv_aload_n hx hb dX4_operand_82 rfl (lv_at hl 1 rfl) ?_
      refine lv_iload_n hx hb dX4_operand_83 rfl (lv_at hl 0 rfl) ?_
      obtain ⟨r22, hcr22, hM⟩ := ob_use hM
      refine cl_V (As := [.int r20.1]) (rest := []) (w_Parser_this_tokens_tree cI ad r22.1 o_tokens r22.2) [] ⟨hx, hb, hml, hown, hts⟩ (H_operand r21 o_tokens r20.2 r20.1 r22 hcr22) (cwV2 hts q731 mvX4_operand rfl rfl ⟨mxF0 (by decide), mxL0 (by decide)⟩) hK hE hA hP hD hS 0 (T := TX4) (N := 12) (ci := 4) rfl rfl [0, 1, 2, 3, 4, 5, 6, 7, 8, 9, 10, 11, 12] rfl (by decide) rfl rfl rfl rfl rfl rfl hl.1 (Nat.le_of_ble_eq_true rfl) dX4_operand_84 ⟨Nat.zero_le _, Nat.zero_le _⟩ (fun H locs hP hD hS => ?_)
      refine lv_aload_n hx hb dX4_operand_87 rfl (lv_at hl 1 rfl) ?_
      refine lv_dup hx hb dX4_operand_88 rfl ?_
      refine va_get (D := D) (ci := 4) (v := .int r22.1.2.2.2.2.2.2.1) (C := RX4) (T := TX4) (N := 12) hx hb hts layX4 hown hK hP 0 rfl rfl 8 (by decide) (hts _ (inA q405)) (fun _ h9 => h9) rfl dX4_operand_89 ?_
      refine lv_iconst (v := 1) hx hb dX4_operand_92 (by decide) ?_
      refine lv_isub hx hb dX4_operand_93 ?_
      refine va_put (D := D) (ci := 4) (v := .int (r22.1.2.2.2.2.2.2.1 - 1)) (ty := .int) (C := RX4) (T := TX4) (N := 12) hx hb hts layX4 tyX4 tyX4_ok nmX4 hown hK hP hD hS 0 rfl rfl 8 (by decide) (hts _ (inA q405)) (fun _ h9 => h9) rfl (by decide +kernel) rfl rfl (Nat.le_of_ble_eq_true rfl) dX4_operand_94 (fun H locs hP hD hS => ?_)
      have hP : va_P D vwCl (w_Parser_this_tokens_tree cI ad (r22.1.1, r22.1.2.1, r22.1.2.2.1, r22.1.2.2.2.1, r22.1.2.2.2.2.1, r22.1.2.2.2.2.2.1, r22.1.2.2.2.2.2.2.1 - 1, r22.1.2.2.2.2.2.2.2) o_tokens r22.2) H := hP
      have hD : va_D A (w_Parser_this_tokens_tree cI ad (r22.1.1, r22.1.2.1, r22.1.2.2.1, r22.1.2.2.2.1, r22.1.2.2.2.2.1, r22.1.2.2.2.2.2.1, r22.1.2.2.2.2.2.2.1 - 1, r22.1.2.2.2.2.2.2.2) o_tokens r22.2) := hD
      refine lv_goto (tgt := 132) hx hb dX4_operand_97 (by decide) ?_
      cases hM
      exact rt_v hx hb hr hlk hP hD hS rfl dX4_operand_132
  replace hM := if_f c15 hM
  refine lv_lookup (off := 123) (tgt := 127) hx hb dX4_operand_4 (by decide) (by rw [lv_osw c1 (by decide)]; rw [lv_osw c3 (by decide)]; rw [lv_osw c7 (by decide)]; rw [lv_osw c15 (by decide)]; rfl) (by decide) ?_
  refine lv_aload_n hx hb dX4_operand_127 rfl (lv_at hl 0 rfl) ?_
  refine lv_iload_n hx hb dX4_operand_128 rfl (lv_at hl 1 rfl) ?_
  obtain ⟨r23, hcr23, hM⟩ := ob_use hM
  refine cl_V (As := [.int a1]) (rest := []) (w_Parser_this_tokens_tree cI ad r23.1 o_tokens r23.2) [] ⟨hx, hb, hml, hown, hts⟩ (c_Parser_literal l D cI sd ad o_this o_tokens o_tree a1 r23 hcr23) (cwV2 hts q669 mvX4_literal rfl rfl ⟨(mxN (Nat.le_of_ble_eq_true rfl)), (mxN (Nat.le_of_ble_eq_true rfl))⟩) hK hE hA hP hD hS 0 (T := TX4) (N := 12) (ci := 4) rfl rfl [0, 1, 2, 3, 4, 5, 6, 7, 8, 9, 10, 11, 12] rfl (by decide) rfl rfl rfl rfl rfl rfl hl.1 (Nat.le_of_ble_eq_true rfl) dX4_operand_129 ⟨Nat.zero_le _, Nat.zero_le _⟩ (fun H locs hP hD hS => ?_)
  cases hM
  exact rt_v hx hb hr hlk hP hD hS rfl dX4_operand_132

def frE : Nat → Nat
  | 0 => 0
  | d + 1 => max (frE d + 2) 3
def loE : Nat → Nat
  | 0 => 0
  | d + 1 => max (loE d + 53) 89
set_option maxHeartbeats 4000000 in
set_option maxRecDepth 100000 in
theorem c_GE (l : Launch) (D : va_G) (cI : ClassId) (sd ad : Nat → Nat) : ∀ d : Nat, (∀ (o_this : S_Parser) (o_tokens : S_Tokens) (o_tree : S_Tree) (a1 : Int32) (a2 : Int32) (res : S_Parser × S_Tree), (GE d).1 o_this o_tokens o_tree a1 a2 = some res → Ctr l D cI sd yX4_expression (wsM yX4_expression cX4_expression 7 (Option.none : Option Jvm.ClassFile.FieldType)) { frames := frE d, cells := 0, slots := 0, locals := loE d } [.ref (ad 22), .int a1, .int a2] (w_Parser_this_tokens_tree cI ad o_this o_tokens o_tree) (w_Parser_this_tokens_tree cI ad res.1 o_tokens res.2) none) ∧ (∀ (o_this : S_Parser) (o_tokens : S_Tokens) (o_tree : S_Tree) (a1 : Int32) (res : S_Parser × S_Tree), (GE d).2 o_this o_tokens o_tree a1 = some res → Ctr l D cI sd yX4_operand (wsM yX4_operand cX4_operand 3 (Option.none : Option Jvm.ClassFile.FieldType)) { frames := frE d, cells := 0, slots := 0, locals := loE d } [.ref (ad 22), .int a1] (w_Parser_this_tokens_tree cI ad o_this o_tokens o_tree) (w_Parser_this_tokens_tree cI ad res.1 o_tokens res.2) none) := by
  intro d
  induction d with
  | zero => exact ⟨fun x1 x2 x3 a0 a1 res h => absurd (show none = some res from h) (by simp), fun x1 x2 x3 a0 res h => absurd (show none = some res from h) (by simp)⟩
  | succ d ih => exact ⟨fun x1 x2 x3 a0 a1 res h => c_Parser_expression_o l D cI sd ad (frE d) (loE d) (GE d).2 (GE d).1 ih.2 ih.1 x1 x2 x3 a0 a1 res h, fun x1 x2 x3 a0 res h => c_Parser_operand_o l D cI sd ad (frE d) (loE d) (GE d).2 (GE d).1 ih.2 ih.1 x1 x2 x3 a0 res h⟩
theorem frE_e : frE DE = 261 := by decide +kernel
theorem loE_e : loE DE = 6926 := by decide +kernel
set_option maxHeartbeats 4000000 in
theorem c_Parser_expression (l : Launch) (D : va_G) (cI : ClassId) (sd ad : Nat → Nat) : ∀ (o_this : S_Parser) (o_tokens : S_Tokens) (o_tree : S_Tree) (a1 : Int32) (a2 : Int32) (res : S_Parser × S_Tree), f_Parser_expression o_this o_tokens o_tree a1 a2 = some res → Ctr l D cI sd yX4_expression (wsM yX4_expression cX4_expression 7 (Option.none : Option Jvm.ClassFile.FieldType)) { frames := 261, cells := 0, slots := 0, locals := 6926 } [.ref (ad 22), .int a1, .int a2] (w_Parser_this_tokens_tree cI ad o_this o_tokens o_tree) (w_Parser_this_tokens_tree cI ad res.1 o_tokens res.2) none := by
  have h := c_GE l D cI sd ad DE
  rw [frE_e, loE_e] at h
  exact h.1
set_option maxHeartbeats 4000000 in
theorem c_Parser_operand (l : Launch) (D : va_G) (cI : ClassId) (sd ad : Nat → Nat) : ∀ (o_this : S_Parser) (o_tokens : S_Tokens) (o_tree : S_Tree) (a1 : Int32) (res : S_Parser × S_Tree), f_Parser_operand o_this o_tokens o_tree a1 = some res → Ctr l D cI sd yX4_operand (wsM yX4_operand cX4_operand 3 (Option.none : Option Jvm.ClassFile.FieldType)) { frames := 261, cells := 0, slots := 0, locals := 6926 } [.ref (ad 22), .int a1] (w_Parser_this_tokens_tree cI ad o_this o_tokens o_tree) (w_Parser_this_tokens_tree cI ad res.1 o_tokens res.2) none := by
  have h := c_GE l D cI sd ad DE
  rw [frE_e, loE_e] at h
  exact h.2

set_option maxHeartbeats 4000000 in
set_option maxRecDepth 100000 in
theorem c_Parser_outermostExpression (l : Launch) (D : va_G) (cI : ClassId) (sd : Nat → Nat) (ad : Nat → Nat) (o_this : S_Parser) (o_tokens : S_Tokens) (o_tree : S_Tree) (a1 : Int32) (res : S_Parser × S_Tree) (hM : f_Parser_outermostExpression o_this o_tokens o_tree a1 = some res) : Ctr l D cI sd yX4_outermostExpression (wsM yX4_outermostExpression cX4_outermostExpression 2 (Option.none : Option Jvm.ClassFile.FieldType)) { frames := 262, cells := 0, slots := 0, locals := 6952 } [.ref (ad 22), .int a1] (w_Parser_this_tokens_tree cI ad o_this o_tokens o_tree) (w_Parser_this_tokens_tree cI ad res.1 o_tokens res.2) none := by
  refine Ctr.of (cc := cX4_outermostExpression) (maxL := 2) (own := RX4) (by decide +kernel) rfl rfl (Nat.le_of_ble_eq_true rfl) ?_
  intro p e s m below meth c A ls hx hb hr hml hown hts hlk hK hE hA hP hD hS hl
  have hl : lv_has ls 2 [(0, .ref (ad 22)), (1, .int a1)] := hl
  unfold f_Parser_outermostExpression at hM
  refine lv_aload_n hx hb dX4_outermostExpression_0 rfl (lv_at hl 0 rfl) ?_
  refine lv_iload_n hx hb dX4_outermostExpression_1 rfl (lv_at hl 1 rfl) ?_
  refine lv_iconst (v := 0) hx hb dX4_outermostExpression_2 (by decide) ?_
  obtain ⟨r1, hcr1, hM⟩ := ob_use hM
  refine cl_V (As := [.int a1, .int 0]) (rest := []) (w_Parser_this_tokens_tree cI ad r1.1 o_tokens r1.2) [] ⟨hx, hb, hml, hown, hts⟩ (c_Parser_expression l D cI sd ad o_this o_tokens o_tree a1 0 r1 hcr1) (cwV2 hts q727 mvX4_expression rfl rfl ⟨(Nat.le_of_ble_eq_true rfl), (Nat.le_of_ble_eq_true rfl)⟩) hK hE hA hP hD hS 0 (T := TX4) (N := 12) (ci := 4) rfl rfl [0, 1, 2, 3, 4, 5, 6, 7, 8, 9, 10, 11, 12] rfl (by decide) rfl rfl rfl rfl rfl rfl hl.1 (Nat.le_of_ble_eq_true rfl) dX4_outermostExpression_3 ⟨Nat.zero_le _, Nat.zero_le _⟩ (fun H locs hP hD hS => ?_)
  refine lv_aload_n hx hb dX4_outermostExpression_6 rfl (lv_at hl 0 rfl) ?_
  refine lv_iconst (v := 0) hx hb dX4_outermostExpression_7 (by decide) ?_
  refine va_put (D := D) (ci := 4) (v := .int 0) (ty := .int) (C := RX4) (T := TX4) (N := 12) hx hb hts layX4 tyX4 tyX4_ok nmX4 hown hK hP hD hS 0 rfl rfl 7 (by decide) (hts _ (inA q404)) (fun _ h9 => h9) rfl (by decide +kernel) rfl rfl (Nat.le_of_ble_eq_true rfl) dX4_outermostExpression_8 (fun H locs hP hD hS => ?_)
  have hP : va_P D vwCl (w_Parser_this_tokens_tree cI ad (r1.1.1, r1.1.2.1, r1.1.2.2.1, r1.1.2.2.2.1, r1.1.2.2.2.2.1, 0, r1.1.2.2.2.2.2.2) o_tokens r1.2) H := hP
  have hD : va_D A (w_Parser_this_tokens_tree cI ad (r1.1.1, r1.1.2.1, r1.1.2.2.1, r1.1.2.2.2.1, r1.1.2.2.2.2.1, 0, r1.1.2.2.2.2.2.2) o_tokens r1.2) := hD
  cases hM
  exact rt_v hx hb hr hlk hP hD hS rfl dX4_outermostExpression_11

set_option maxHeartbeats 4000000 in
set_option maxRecDepth 100000 in
theorem c_Parser_assignment (l : Launch) (D : va_G) (cI : ClassId) (sd : Nat → Nat) (ad : Nat → Nat) (o_this : S_Parser) (o_tokens : S_Tokens) (o_tree : S_Tree) (a1 : Int32) (a2 : Int32) (a3 : Int32) (res : S_Parser × S_Tree) (hM : f_Parser_assignment o_this o_tokens o_tree a1 a2 a3 = some res) : Ctr l D cI sd yX4_assignment (wsM yX4_assignment cX4_assignment 6 (Option.none : Option Jvm.ClassFile.FieldType)) { frames := 263, cells := 0, slots := 0, locals := 6973 } [.ref (ad 22), .int a1, .int a2, .int a3] (w_Parser_this_tokens_tree cI ad o_this o_tokens o_tree) (w_Parser_this_tokens_tree cI ad res.1 o_tokens res.2) none := by
  refine Ctr.of (cc := cX4_assignment) (maxL := 6) (own := RX4) (by decide +kernel) rfl rfl (Nat.le_of_ble_eq_true rfl) ?_
  intro p e s m below meth c A ls hx hb hr hml hown hts hlk hK hE hA hP hD hS hl
  have hl : lv_has ls 6 [(0, .ref (ad 22)), (1, .int a1), (2, .int a2), (3, .int a3)] := hl
  unfold f_Parser_assignment at hM
  refine lv_aload_n hx hb dX4_assignment_0 rfl (lv_at hl 0 rfl) ?_
  refine va_get (D := D) (ci := 4) (v := .ref (ad 14)) (C := RX4) (T := TX4) (N := 12) hx hb hts layX4 hown hK hP 0 rfl rfl 1 (by decide) (hts _ (inA q398)) (fun _ h9 => h9) rfl dX4_assignment_1 ?_
  refine va_getN (D := D) (ci := 3) (v := .int o_tree.1) (C := RX3) (T := TX3) (N := 8) hx hb hts layX3 hown hK hP 5 rfl rfl 7 (by decide) (nfE10 hE) (fun _ h9 => h9) rfl dX4_assignment_4 ?_
  refine lv_istore (lv' := [(4, .int o_tree.1), (0, .ref (ad 22)), (1, .int a1), (2, .int a2), (3, .int a3)]) hx hb dX4_assignment_7 hl (by decide) rfl (fun ls hl => ?_)
  refine lv_aload_n hx hb dX4_assignment_9 rfl (lv_at hl 1 rfl) ?_
  refine va_get (D := D) (ci := 4) (v := .int o_this.2.1) (C := RX4) (T := TX4) (N := 12) hx hb hts layX4 hown hK hP 0 rfl rfl 3 (by decide) (hts _ (inA q400)) (fun _ h9 => h9) rfl dX4_assignment_10 ?_
  refine lv_bipush (v := 91) hx hb dX4_assignment_13 (by decide) ?_
  refine lv_icmp_ne (tgt := 51) hx hb dX4_assignment_15 (by decide) (fun c1 => ?_) (fun c1 => ?_)
  · replace hM := if_f c1 hM
    refine lv_aload_n hx hb dX4_assignment_51 rfl (lv_at hl 1 rfl) ?_
    refine va_get (D := D) (ci := 4) (v := .ref (ad 14)) (C := RX4) (T := TX4) (N := 12) hx hb hts layX4 hown hK hP 0 rfl rfl 1 (by decide) (hts _ (inA q398)) (fun _ h9 => h9) rfl dX4_assignment_52 ?_
    refine lv_iload_n hx hb dX4_assignment_55 rfl (lv_at hl 2 rfl) ?_
    refine lv_bipush (v := 6) hx hb dX4_assignment_56 (by decide) ?_
    refine lv_iload_n hx hb dX4_assignment_58 rfl (lv_at hl 3 rfl) ?_
    refine lv_iload_n hx hb dX4_assignment_59 rfl (lv_at hl 4 rfl) ?_
    obtain ⟨r2, hcr2, hM⟩ := ob_use hM
    refine cl_V (As := [.int a1, .int 6, .int a2, .int a3]) (rest := []) (w_Parser_this_tokens_tree cI ad o_this o_tokens r2.2) (.int r2.1 :: []) ⟨hx, hb, hml, hown, hts⟩ (c_Tree_add l D cI sd ad o_tree a1 6 a2 a3 r2 hcr2) (cwV2 hts q622 mvX3_add rfl rfl ⟨(Nat.le_of_ble_eq_true rfl), (Nat.le_of_ble_eq_true rfl)⟩) hK hE hA hP hD hS 5 (T := TX3) (N := 8) (ci := 3) rfl rfl [5, 6, 7, 8, 9, 10, 11, 12] rfl (by decide) rfl rfl rfl rfl rfl rfl hl.1 (Nat.le_of_ble_eq_true rfl) dX4_assignment_60 ⟨Nat.zero_le _, Nat.zero_le _⟩ (fun H locs hP hD hS => ?_)
    refine lv_pop hx hb dX4_assignment_63 rfl ?_
    refine lv_aload_n hx hb dX4_assignment_64 rfl (lv_at hl 1 rfl) ?_
    refine va_get (D := D) (ci := 4) (v := .ref (ad 14)) (C := RX4) (T := TX4) (N := 12) hx hb hts layX4 hown hK hP 0 rfl rfl 1 (by decide) (hts _ (inA q398)) (fun _ h9 => h9) rfl dX4_assignment_65 ?_
    refine lv_iload hx hb dX4_assignment_68 (lv_at hl 0 rfl) ?_
    refine lv_bipush (v := 12) hx hb dX4_assignment_70 (by decide) ?_
    refine lv_aload_n hx hb dX4_assignment_72 rfl (lv_at hl 1 rfl) ?_
    refine va_get (D := D) (ci := 4) (v := .int o_this.2.2.1) (C := RX4) (T := TX4) (N := 12) hx hb hts layX4 hown hK hP 0 rfl rfl 4 (by decide) (hts _ (inA q401)) (fun _ h9 => h9) rfl dX4_assignment_73 ?_
    refine lv_iconst (v := 0) hx hb dX4_assignment_76 (by decide) ?_
    obtain ⟨r3, hcr3, hM⟩ := ob_use hM
    refine cl_V (As := [.int o_tree.1, .int 12, .int o_this.2.2.1, .int 0]) (rest := []) (w_Parser_this_tokens_tree cI ad o_this o_tokens r3) [] ⟨hx, hb, hml, hown, hts⟩ (c_Tree_wrap l D cI sd ad r2.2 o_tree.1 12 o_this.2.2.1 0 r3 hcr3) (cwV2 hts q755 mvX3_wrap rfl rfl ⟨(Nat.le_of_ble_eq_true rfl), (Nat.le_of_ble_eq_true rfl)⟩) hK hE hA hP hD hS 5 (T := TX3) (N := 8) (ci := 3) rfl rfl [5, 6, 7, 8, 9, 10, 11, 12] rfl (by decide) rfl rfl rfl rfl rfl rfl hl.1 (Nat.le_of_ble_eq_true rfl) dX4_assignment_77 ⟨Nat.zero_le _, Nat.zero_le _⟩ (fun H locs hP hD hS => ?_)
    refine lv_aload_n hx hb dX4_assignment_80 rfl (lv_at hl 1 rfl) ?_
    refine lv_sipush (v := 14909) hx hb dX4_assignment_81 (by decide) ?_
    obtain ⟨r4, hcr4, hM⟩ := ob_use hM
    refine cl_V (As := [.int 14909]) (rest := []) (w_Parser_this_tokens_tree cI ad r4 o_tokens r3) [] ⟨hx, hb, hml, hown, hts⟩ (c_Parser_take l D cI sd ad o_this o_tokens 14909 r4 hcr4) (cwV2 hts q614 mvX4_take rfl rfl ⟨(Nat.le_of_ble_eq_true rfl), (Nat.le_of_ble_eq_true rfl)⟩) hK hE hA hP hD hS 0 (T := TX4) (N := 12) (ci := 4) rfl rfl [0, 1, 2, 3, 4] rfl (by decide) rfl rfl rfl rfl rfl rfl hl.1 (Nat.le_of_ble_eq_true rfl) dX4_assignment_84 ⟨Nat.zero_le _, Nat.zero_le _⟩ (fun H locs hP hD hS => ?_)
    refine lv_aload_n hx hb dX4_assignment_87 rfl (lv_at hl 1 rfl) ?_
    refine lv_iload hx hb dX4_assignment_88 (lv_at hl 0 rfl) ?_
    obtain ⟨r5, hcr5, hM⟩ := ob_use hM
    refine cl_V (As := [.int o_tree.1]) (rest := []) (w_Parser_this_tokens_tree cI ad r5.1 o_tokens r5.2) [] ⟨hx, hb, hml, hown, hts⟩ (c_Parser_outermostExpression l D cI sd ad r4 o_tokens r3 o_tree.1 r5 hcr5) (cwV2 hts q723 mvX4_outermostExpression rfl rfl ⟨(Nat.le_of_ble_eq_true rfl), (Nat.le_of_ble_eq_true rfl)⟩) hK hE hA hP hD hS 0 (T := TX4) (N := 12) (ci := 4) rfl rfl [0, 1, 2, 3, 4, 5, 6, 7, 8, 9, 10, 11, 12] rfl (by decide) rfl rfl rfl rfl rfl rfl hl.1 (Nat.le_of_ble_eq_true rfl) dX4_assignment_90 ⟨Nat.zero_le _, Nat.zero_le _⟩ (fun H locs hP hD hS => ?_)
    cases hM
    exact rt_v hx hb hr hlk hP hD hS rfl dX4_assignment_93
  · replace hM := if_t c1 hM
    refine lv_aload_n hx hb dX4_assignment_18 rfl (lv_at hl 1 rfl) ?_
    refine va_get (D := D) (ci := 4) (v := .ref (ad 14)) (C := RX4) (T := TX4) (N := 12) hx hb hts layX4 hown hK hP 0 rfl rfl 1 (by decide) (hts _ (inA q398)) (fun _ h9 => h9) rfl dX4_assignment_19 ?_
    refine lv_iload_n hx hb dX4_assignment_22 rfl (lv_at hl 2 rfl) ?_
    refine lv_bipush (v := 32) hx hb dX4_assignment_23 (by decide) ?_
    refine lv_iload_n hx hb dX4_assignment_25 rfl (lv_at hl 3 rfl) ?_
    refine lv_iload_n hx hb dX4_assignment_26 rfl (lv_at hl 4 rfl) ?_
    obtain ⟨r6, hcr6, hM⟩ := ob_use hM
    refine cl_V (As := [.int a1, .int 32, .int a2, .int a3]) (rest := []) (w_Parser_this_tokens_tree cI ad o_this o_tokens r6.2) (.int r6.1 :: []) ⟨hx, hb, hml, hown, hts⟩ (c_Tree_add l D cI sd ad o_tree a1 32 a2 a3 r6 hcr6) (cwV2 hts q622 mvX3_add rfl rfl ⟨(Nat.le_of_ble_eq_true rfl), (Nat.le_of_ble_eq_true rfl)⟩) hK hE hA hP hD hS 5 (T := TX3) (N := 8) (ci := 3) rfl rfl [5, 6, 7, 8, 9, 10, 11, 12] rfl (by decide) rfl rfl rfl rfl rfl rfl hl.1 (Nat.le_of_ble_eq_true rfl) dX4_assignment_27 ⟨Nat.zero_le _, Nat.zero_le _⟩ (fun H locs hP hD hS => ?_)
    refine lv_istore (lv' := [(5, .int r6.1), (4, .int o_tree.1), (0, .ref (ad 22)), (1, .int a1), (2, .int a2), (3, .int a3)]) hx hb dX4_assignment_30 hl (by decide) rfl (fun ls hl => ?_)
    refine lv_aload_n hx hb dX4_assignment_32 rfl (lv_at hl 2 rfl) ?_
    obtain ⟨r7, hcr7, hM⟩ := ob_use hM
    refine cl_V (As := []) (rest := []) (w_Parser_this_tokens_tree cI ad r7 o_tokens r6.2) [] ⟨hx, hb, hml, hown, hts⟩ (c_Parser_takeOpening l D cI sd ad o_this o_tokens r7 hcr7) (cwV2 hts q715 mvX4_takeOpening rfl rfl ⟨(Nat.le_of_ble_eq_true rfl), (Nat.le_of_ble_eq_true rfl)⟩) hK hE hA hP hD hS 0 (T := TX4) (N := 12) (ci := 4) rfl rfl [0, 1, 2, 3, 4] rfl (by decide) rfl rfl rfl rfl rfl rfl hl.1 (Nat.le_of_ble_eq_true rfl) dX4_assignment_33 ⟨Nat.zero_le _, Nat.zero_le _⟩ (fun H locs hP hD hS => ?_)
    refine lv_aload_n hx hb dX4_assignment_36 rfl (lv_at hl 2 rfl) ?_
    refine lv_iload hx hb dX4_assignment_37 (lv_at hl 0 rfl) ?_
    obtain ⟨r8, hcr8, hM⟩ := ob_use hM
    refine cl_V (As := [.int r6.1]) (rest := []) (w_Parser_this_tokens_tree cI ad r8.1 o_tokens r8.2) [] ⟨hx, hb, hml, hown, hts⟩ (c_Parser_outermostExpression l D cI sd ad r7 o_tokens r6.2 r6.1 r8 hcr8) (cwV2 hts q723 mvX4_outermostExpression rfl rfl ⟨(Nat.le_of_ble_eq_true rfl), (Nat.le_of_ble_eq_true rfl)⟩) hK hE hA hP hD hS 0 (T := TX4) (N := 12) (ci := 4) rfl rfl [0, 1, 2, 3, 4, 5, 6, 7, 8, 9, 10, 11, 12] rfl (by decide) rfl rfl rfl rfl rfl rfl hl.1 (Nat.le_of_ble_eq_true rfl) dX4_assignment_39 ⟨Nat.zero_le _, Nat.zero_le _⟩ (fun H locs hP hD hS => ?_)
    refine lv_aload_n hx hb dX4_assignment_42 rfl (lv_at hl 2 rfl) ?_
    refine lv_bipush (v := 93) hx hb dX4_assignment_43 (by decide) ?_
    obtain ⟨r9, hcr9, hM⟩ := ob_use hM
    refine cl_V (As := [.int 93]) (rest := []) (w_Parser_this_tokens_tree cI ad r9 o_tokens r8.2) [] ⟨hx, hb, hml, hown, hts⟩ (c_Parser_takeClosing l D cI sd ad r8.1 o_tokens 93 r9 hcr9) (cwV2 hts q735 mvX4_takeClosing rfl rfl ⟨(Nat.le_of_ble_eq_true rfl), (Nat.le_of_ble_eq_true rfl)⟩) hK hE hA hP hD hS 0 (T := TX4) (N := 12) (ci := 4) rfl rfl [0, 1, 2, 3, 4] rfl (by decide) rfl rfl rfl rfl rfl rfl hl.1 (Nat.le_of_ble_eq_true rfl) dX4_assignment_45 ⟨Nat.zero_le _, Nat.zero_le _⟩ (fun H locs hP hD hS => ?_)
    refine lv_goto (tgt := 64) hx hb dX4_assignment_48 (by decide) ?_
    refine lv_aload_n hx hb dX4_assignment_64 rfl (lv_at hl 2 rfl) ?_
    refine va_get (D := D) (ci := 4) (v := .ref (ad 14)) (C := RX4) (T := TX4) (N := 12) hx hb hts layX4 hown hK hP 0 rfl rfl 1 (by decide) (hts _ (inA q398)) (fun _ h9 => h9) rfl dX4_assignment_65 ?_
    refine lv_iload hx hb dX4_assignment_68 (lv_at hl 1 rfl) ?_
    refine lv_bipush (v := 12) hx hb dX4_assignment_70 (by decide) ?_
    refine lv_aload_n hx hb dX4_assignment_72 rfl (lv_at hl 2 rfl) ?_
    refine va_get (D := D) (ci := 4) (v := .int r9.2.2.1) (C := RX4) (T := TX4) (N := 12) hx hb hts layX4 hown hK hP 0 rfl rfl 4 (by decide) (hts _ (inA q401)) (fun _ h9 => h9) rfl dX4_assignment_73 ?_
    refine lv_iconst (v := 0) hx hb dX4_assignment_76 (by decide) ?_
    obtain ⟨r10, hcr10, hM⟩ := ob_use hM
    refine cl_V (As := [.int o_tree.1, .int 12, .int r9.2.2.1, .int 0]) (rest := []) (w_Parser_this_tokens_tree cI ad r9 o_tokens r10) [] ⟨hx, hb, hml, hown, hts⟩ (c_Tree_wrap l D cI sd ad r8.2 o_tree.1 12 r9.2.2.1 0 r10 hcr10) (cwV2 hts q755 mvX3_wrap rfl rfl ⟨(Nat.le_of_ble_eq_true rfl), (Nat.le_of_ble_eq_true rfl)⟩) hK hE hA hP hD hS 5 (T := TX3) (N := 8) (ci := 3) rfl rfl [5, 6, 7, 8, 9, 10, 11, 12] rfl (by decide) rfl rfl rfl rfl rfl rfl hl.1 (Nat.le_of_ble_eq_true rfl) dX4_assignment_77 ⟨Nat.zero_le _, Nat.zero_le _⟩ (fun H locs hP hD hS => ?_)
    refine lv_aload_n hx hb dX4_assignment_80 rfl (lv_at hl 2 rfl) ?_
    refine lv_sipush (v := 14909) hx hb dX4_assignment_81 (by decide) ?_
    obtain ⟨r11, hcr11, hM⟩ := ob_use hM
    refine cl_V (As := [.int 14909]) (rest := []) (w_Parser_this_tokens_tree cI ad r11 o_tokens r10) [] ⟨hx, hb, hml, hown, hts⟩ (c_Parser_take l D cI sd ad r9 o_tokens 14909 r11 hcr11) (cwV2 hts q614 mvX4_take rfl rfl ⟨(Nat.le_of_ble_eq_true rfl), (Nat.le_of_ble_eq_true rfl)⟩) hK hE hA hP hD hS 0 (T := TX4) (N := 12) (ci := 4) rfl rfl [0, 1, 2, 3, 4] rfl (by decide) rfl rfl rfl rfl rfl rfl hl.1 (Nat.le_of_ble_eq_true rfl) dX4_assignment_84 ⟨Nat.zero_le _, Nat.zero_le _⟩ (fun H locs hP hD hS => ?_)
    refine lv_aload_n hx hb dX4_assignment_87 rfl (lv_at hl 2 rfl) ?_
    refine lv_iload hx hb dX4_assignment_88 (lv_at hl 1 rfl) ?_
    obtain ⟨r12, hcr12, hM⟩ := ob_use hM
    refine cl_V (As := [.int o_tree.1]) (rest := []) (w_Parser_this_tokens_tree cI ad r12.1 o_tokens r12.2) [] ⟨hx, hb, hml, hown, hts⟩ (c_Parser_outermostExpression l D cI sd ad r11 o_tokens r10 o_tree.1 r12 hcr12) (cwV2 hts q723 mvX4_outermostExpression rfl rfl ⟨(Nat.le_of_ble_eq_true rfl), (Nat.le_of_ble_eq_true rfl)⟩) hK hE hA hP hD hS 0 (T := TX4) (N := 12) (ci := 4) rfl rfl [0, 1, 2, 3, 4, 5, 6, 7, 8, 9, 10, 11, 12] rfl (by decide) rfl rfl rfl rfl rfl rfl hl.1 (Nat.le_of_ble_eq_true rfl) dX4_assignment_90 ⟨Nat.zero_le _, Nat.zero_le _⟩ (fun H locs hP hD hS => ?_)
    cases hM
    exact rt_v hx hb hr hlk hP hD hS rfl dX4_assignment_93
