set_option maxHeartbeats 4000000 in
set_option maxRecDepth 100000 in
theorem c_Parser_startsSection (l : Launch) (D : va_G) (cI : ClassId) (sd : Nat → Nat) (ad : Nat → Nat) (o_this : S_Parser) (res : Int32) (hM : f_Parser_startsSection o_this = some res) : Ctr l D cI sd yX4_startsSection (wsM yX4_startsSection cX4_startsSection 1 (Option.some Jvm.ClassFile.FieldType.boolean)) { frames := 0, cells := 0, slots := 0, locals := 0 } [.ref (ad 22)] (wP cI ad o_this) (wP cI ad o_this) (some (.int res)) := by
  refine Ctr.of (cc := cX4_startsSection) (maxL := 1) (own := RX4) (by decide +kernel) rfl rfl (Nat.le_of_ble_eq_true rfl) ?_
  intro p e s m below meth c A ls hx hb hr hml hown hts hlk hK hE hA hP hD hS hl
  have hl : lv_has ls 1 [(0, .ref (ad 22))] := hl
  unfold f_Parser_startsSection at hM
  refine lv_aload_n hx hb dX4_startsSection_0 rfl (lv_at hl 0 rfl) ?_
  refine va_get (D := D) (ci := 4) (v := .int o_this.2.1) (C := RX4) (T := TX4) (N := 12) hx hb hts layX4 hown hK hP 0 rfl rfl 3 (by decide) (hts _ (inA q400)) (fun _ h9 => h9) rfl dX4_startsSection_1 ?_
  refine lv_sipush (v := 262) hx hb dX4_startsSection_4 (by decide) ?_
  refine lv_icmp_eq (tgt := 30) hx hb dX4_startsSection_7 (by decide) (fun c1 => ?_) (fun c1 => ?_)
  · replace hM := if_t c1 hM
    refine lv_iconst (v := 1) hx hb dX4_startsSection_30 (by decide) ?_
    refine lv_goto (tgt := 35) hx hb dX4_startsSection_31 (by decide) ?_
    cases hM
    exact rt_z hx hb hr hlk (by decide) hP hD hS rfl dX4_startsSection_35
  · replace hM := if_f c1 hM
    refine lv_aload_n hx hb dX4_startsSection_10 rfl (lv_at hl 0 rfl) ?_
    refine va_get (D := D) (ci := 4) (v := .int o_this.2.1) (C := RX4) (T := TX4) (N := 12) hx hb hts layX4 hown hK hP 0 rfl rfl 3 (by decide) (hts _ (inA q400)) (fun _ h9 => h9) rfl dX4_startsSection_11 ?_
    refine lv_sipush (v := 263) hx hb dX4_startsSection_14 (by decide) ?_
    refine lv_icmp_eq (tgt := 30) hx hb dX4_startsSection_17 (by decide) (fun c2 => ?_) (fun c2 => ?_)
    · replace hM := if_t c2 hM
      refine lv_iconst (v := 1) hx hb dX4_startsSection_30 (by decide) ?_
      refine lv_goto (tgt := 35) hx hb dX4_startsSection_31 (by decide) ?_
      cases hM
      exact rt_z hx hb hr hlk (by decide) hP hD hS rfl dX4_startsSection_35
    · replace hM := if_f c2 hM
      refine lv_aload_n hx hb dX4_startsSection_20 rfl (lv_at hl 0 rfl) ?_
      refine va_get (D := D) (ci := 4) (v := .int o_this.2.1) (C := RX4) (T := TX4) (N := 12) hx hb hts layX4 hown hK hP 0 rfl rfl 3 (by decide) (hts _ (inA q400)) (fun _ h9 => h9) rfl dX4_startsSection_21 ?_
      refine lv_sipush (v := 264) hx hb dX4_startsSection_24 (by decide) ?_
      refine lv_icmp_ne (tgt := 34) hx hb dX4_startsSection_27 (by decide) (fun c3 => ?_) (fun c3 => ?_)
      · replace hM := if_f c3 hM
        refine lv_iconst (v := 0) hx hb dX4_startsSection_34 (by decide) ?_
        cases hM
        exact rt_z hx hb hr hlk (by decide) hP hD hS rfl dX4_startsSection_35
      · replace hM := if_t c3 hM
        refine lv_iconst (v := 1) hx hb dX4_startsSection_30 (by decide) ?_
        refine lv_goto (tgt := 35) hx hb dX4_startsSection_31 (by decide) ?_
        cases hM
        exact rt_z hx hb hr hlk (by decide) hP hD hS rfl dX4_startsSection_35

set_option maxHeartbeats 4000000 in
set_option maxRecDepth 100000 in
theorem c_Parser_sections (l : Launch) (D : va_G) (cI : ClassId) (sd : Nat → Nat) (ad : Nat → Nat) (o_this : S_Parser) (o_tokens : S_Tokens) (o_tree : S_Tree) (a1 : Int32) (res : S_Parser × S_Tree) (hM : f_Parser_sections o_this o_tokens o_tree a1 = some res) : Ctr l D cI sd yX4_sections (wsM yX4_sections cX4_sections 5 (Option.none : Option Jvm.ClassFile.FieldType)) { frames := 5, cells := 0, slots := 0, locals := 113 } [.ref (ad 22), .int a1] (w_Parser_this_tokens_tree cI ad o_this o_tokens o_tree) (w_Parser_this_tokens_tree cI ad res.1 o_tokens res.2) none := by
  refine Ctr.of (cc := cX4_sections) (maxL := 5) (own := RX4) (by decide +kernel) rfl rfl (Nat.le_of_ble_eq_true rfl) ?_
  intro p e s m below meth c A ls hx hb hr hml hown hts hlk hK hE hA hP hD hS hl
  have hl : lv_has ls 5 [(0, .ref (ad 22)), (1, .int a1)] := hl
  unfold f_Parser_sections at hM
  refine lv_iconst (v := 0) hx hb dX4_sections_0 (by decide) ?_
  refine lv_istore_n (lv' := [(2, .int 0), (0, .ref (ad 22)), (1, .int a1)]) hx hb dX4_sections_1 rfl hl (by decide) rfl (fun ls hl => ?_)
  have lp_L2 : ∀ (w1_L2 : Int32) (o_tokens_L2 : S_Tokens) (n : Nat) (v2_L2 : Int32) (o_this_L2 : S_Parser) (o_tree_L2 : S_Tree) (out_L2 : S_Parser × S_Tree) (H : Heap) (locs : List Loc) (ls : Array Slot), f_Parser_sections_L2 w1_L2 o_tokens_L2 n v2_L2 o_this_L2 o_tree_L2 = some out_L2 → va_P D vwCl (w_Parser_this_tokens_tree cI ad o_this_L2 o_tokens_L2 o_tree_L2) H → va_D A (w_Parser_this_tokens_tree cI ad o_this_L2 o_tokens_L2 o_tree_L2) → va_S A s.heap H locs → lv_has ls 5 [(2, .int v2_L2), (0, .ref (ad 22)), (1, .int w1_L2)] → (∀ (H : Heap) (locs : List Loc) (ls : Array Slot), va_P D vwCl (w_Parser_this_tokens_tree cI ad out_L2.1 o_tokens_L2 out_L2.2) H → va_D A (w_Parser_this_tokens_tree cI ad out_L2.1 o_tokens_L2 out_L2.2) → va_S A s.heap H locs → lv_has ls 5 [(0, .ref (ad 22)), (1, .int w1_L2)] → W p l e { frames := 5, cells := 0, slots := 0, locals := 113 } s m [.ref (ad 22), .int a1].toArray below meth c H locs 0 0 (MQ below (CQ D A (w_Parser_this_tokens_tree cI ad res.1 o_tokens res.2) none) [.ref (ad 22), .int a1].toArray s 0 0 A) (F0 m 89 ls [])) → W p l e { frames := 5, cells := 0, slots := 0, locals := 113 } s m [.ref (ad 22), .int a1].toArray below meth c H locs 0 0 (MQ below (CQ D A (w_Parser_this_tokens_tree cI ad res.1 o_tokens res.2) none) [.ref (ad 22), .int a1].toArray s 0 0 A) (F0 m 2 ls []) := by
    intro w1_L2 o_tokens_L2 n
    induction n with
    | zero => intro v2_L2 o_this_L2 o_tree_L2 out_L2 H locs ls hM; exact absurd (show none = some _ from hM) (by simp)
    | succ n ih_L2 =>
      intro v2_L2 o_this_L2 o_tree_L2 out_L2 H locs ls hM hP hD hS hl kx_L2
      rw [f_Parser_sections_L2] at hM
      refine lv_iload_n hx hb dX4_sections_2 rfl (lv_at hl 0 rfl) ?_
      refine lv_sipush (v := 8192) hx hb dX4_sections_3 (by decide) ?_
      refine lv_icmp_ge (tgt := 89) hx hb dX4_sections_6 (by decide) (fun c1121 => ?_) (fun c1121 => ?_)
      · replace hM := if_t c1121 hM
        cases hM
        exact kx_L2 _ _ _ hP hD hS (lv_sub hl [1, 2] rfl)
      · replace hM := if_f c1121 hM
        refine lv_aload_n hx hb dX4_sections_9 rfl (lv_at hl 1 rfl) ?_
        obtain ⟨r1122, hcr1122, hM⟩ := ob_use hM
        refine cl_V (As := []) (rest := []) (w_Parser_this_tokens_tree cI ad o_this_L2 o_tokens_L2 o_tree_L2) (.int r1122 :: []) ⟨hx, hb, hml, hown, hts⟩ (c_Parser_startsSection l D cI sd ad o_this_L2 r1122 hcr1122) (cwV2 hts q649 mvX4_startsSection rfl rfl ⟨(Nat.le_of_ble_eq_true rfl), (Nat.le_of_ble_eq_true rfl)⟩) hK hE hA hP hD hS 0 (T := TX4) (N := 12) (ci := 4) rfl rfl [0] rfl (by decide) rfl rfl rfl rfl rfl rfl hl.1 (Nat.le_of_ble_eq_true rfl) dX4_sections_10 ⟨Nat.zero_le _, Nat.zero_le _⟩ (fun H locs hP hD hS => ?_)
        refine lv_if_eq (tgt := 89) hx hb dX4_sections_13 (by decide) (fun c1123 => ?_) (fun c1123 => ?_)
        · replace hM := if_t c1123 hM
          cases hM
          exact kx_L2 _ _ _ hP hD hS (lv_sub hl [1, 2] rfl)
        · replace hM := if_f c1123 hM
          refine lv_aload_n hx hb dX4_sections_16 rfl (lv_at hl 1 rfl) ?_
          refine va_get (D := D) (ci := 4) (v := .ref (ad 14)) (C := RX4) (T := TX4) (N := 12) hx hb hts layX4 hown hK hP 0 rfl rfl 1 (by decide) (hts _ (inA q398)) (fun _ h9 => h9) rfl dX4_sections_17 ?_
          refine lv_iload_n hx hb dX4_sections_20 rfl (lv_at hl 2 rfl) ?_
          refine lv_iconst (v := 4) hx hb dX4_sections_21 (by decide) ?_
          refine lv_aload_n hx hb dX4_sections_22 rfl (lv_at hl 1 rfl) ?_
          refine va_get (D := D) (ci := 4) (v := .int o_this_L2.2.2.1) (C := RX4) (T := TX4) (N := 12) hx hb hts layX4 hown hK hP 0 rfl rfl 4 (by decide) (hts _ (inA q401)) (fun _ h9 => h9) rfl dX4_sections_23 ?_
          refine lv_aload_n hx hb dX4_sections_26 rfl (lv_at hl 1 rfl) ?_
          refine va_get (D := D) (ci := 4) (v := .int o_this_L2.2.1) (C := RX4) (T := TX4) (N := 12) hx hb hts layX4 hown hK hP 0 rfl rfl 3 (by decide) (hts _ (inA q400)) (fun _ h9 => h9) rfl dX4_sections_27 ?_
          refine lv_sipush (v := 262) hx hb dX4_sections_30 (by decide) ?_
          refine lv_isub hx hb dX4_sections_33 ?_
          obtain ⟨r1124, hcr1124, hM⟩ := ob_use hM
          refine cl_V (As := [.int w1_L2, .int 4, .int o_this_L2.2.2.1, .int (o_this_L2.2.1 - 262)]) (rest := []) (w_Parser_this_tokens_tree cI ad o_this_L2 o_tokens_L2 r1124.2) (.int r1124.1 :: []) ⟨hx, hb, hml, hown, hts⟩ (c_Tree_add l D cI sd ad o_tree_L2 w1_L2 4 o_this_L2.2.2.1 (o_this_L2.2.1 - 262) r1124 hcr1124) (cwV2 hts q622 mvX3_add rfl rfl ⟨(Nat.le_of_ble_eq_true rfl), (Nat.le_of_ble_eq_true rfl)⟩) hK hE hA hP hD hS 5 (T := TX3) (N := 8) (ci := 3) rfl rfl [5, 6, 7, 8, 9, 10, 11, 12] rfl (by decide) rfl rfl rfl rfl rfl rfl hl.1 (Nat.le_of_ble_eq_true rfl) dX4_sections_34 ⟨Nat.zero_le _, Nat.zero_le _⟩ (fun H locs hP hD hS => ?_)
          refine lv_istore_n (lv' := [(3, .int r1124.1), (2, .int v2_L2), (0, .ref (ad 22)), (1, .int w1_L2)]) hx hb dX4_sections_37 rfl hl (by decide) rfl (fun ls hl => ?_)
          refine lv_aload_n hx hb dX4_sections_38 rfl (lv_at hl 2 rfl) ?_
          refine lv_aload_n hx hb dX4_sections_39 rfl (lv_at hl 2 rfl) ?_
          refine va_get (D := D) (ci := 4) (v := .int o_this_L2.2.1) (C := RX4) (T := TX4) (N := 12) hx hb hts layX4 hown hK hP 0 rfl rfl 3 (by decide) (hts _ (inA q400)) (fun _ h9 => h9) rfl dX4_sections_40 ?_
          obtain ⟨r1125, hcr1125, hM⟩ := ob_use hM
          refine cl_V (As := [.int o_this_L2.2.1]) (rest := []) (w_Parser_this_tokens_tree cI ad r1125 o_tokens_L2 r1124.2) [] ⟨hx, hb, hml, hown, hts⟩ (c_Parser_take l D cI sd ad o_this_L2 o_tokens_L2 o_this_L2.2.1 r1125 hcr1125) (cwV2 hts q614 mvX4_take rfl rfl ⟨(Nat.le_of_ble_eq_true rfl), (Nat.le_of_ble_eq_true rfl)⟩) hK hE hA hP hD hS 0 (T := TX4) (N := 12) (ci := 4) rfl rfl [0, 1, 2, 3, 4] rfl (by decide) rfl rfl rfl rfl rfl rfl hl.1 (Nat.le_of_ble_eq_true rfl) dX4_sections_43 ⟨Nat.zero_le _, Nat.zero_le _⟩ (fun H locs hP hD hS => ?_)
          refine lv_iconst (v := 0) hx hb dX4_sections_46 (by decide) ?_
          refine lv_istore (lv' := [(4, .int 0), (3, .int r1124.1), (2, .int v2_L2), (0, .ref (ad 22)), (1, .int w1_L2)]) hx hb dX4_sections_47 hl (by decide) rfl (fun ls hl => ?_)
          have lp_L49 : ∀ (w3_L49 : Int32) (w2_L49 : Int32) (w1_L49 : Int32) (o_tokens_L49 : S_Tokens) (n : Nat) (v4_L49 : Int32) (o_this_L49 : S_Parser) (o_tree_L49 : S_Tree) (out_L49 : S_Parser × S_Tree) (H : Heap) (locs : List Loc) (ls : Array Slot), f_Parser_sections_L49 w3_L49 o_tokens_L49 n v4_L49 o_this_L49 o_tree_L49 = some out_L49 → va_P D vwCl (w_Parser_this_tokens_tree cI ad o_this_L49 o_tokens_L49 o_tree_L49) H → va_D A (w_Parser_this_tokens_tree cI ad o_this_L49 o_tokens_L49 o_tree_L49) → va_S A s.heap H locs → lv_has ls 5 [(4, .int v4_L49), (3, .int w3_L49), (2, .int w2_L49), (0, .ref (ad 22)), (1, .int w1_L49)] → (∀ (H : Heap) (locs : List Loc) (ls : Array Slot), va_P D vwCl (w_Parser_this_tokens_tree cI ad out_L49.1 o_tokens_L49 out_L49.2) H → va_D A (w_Parser_this_tokens_tree cI ad out_L49.1 o_tokens_L49 out_L49.2) → va_S A s.heap H locs → lv_has ls 5 [(3, .int w3_L49), (2, .int w2_L49), (0, .ref (ad 22)), (1, .int w1_L49)] → W p l e { frames := 5, cells := 0, slots := 0, locals := 113 } s m [.ref (ad 22), .int a1].toArray below meth c H locs 0 0 (MQ below (CQ D A (w_Parser_this_tokens_tree cI ad res.1 o_tokens res.2) none) [.ref (ad 22), .int a1].toArray s 0 0 A) (F0 m 76 ls [])) → W p l e { frames := 5, cells := 0, slots := 0, locals := 113 } s m [.ref (ad 22), .int a1].toArray below meth c H locs 0 0 (MQ below (CQ D A (w_Parser_this_tokens_tree cI ad res.1 o_tokens res.2) none) [.ref (ad 22), .int a1].toArray s 0 0 A) (F0 m 49 ls []) := by
            intro w3_L49 w2_L49 w1_L49 o_tokens_L49 n
            induction n with
            | zero => intro v4_L49 o_this_L49 o_tree_L49 out_L49 H locs ls hM; exact absurd (show none = some _ from hM) (by simp)
            | succ n ih_L49 =>
              intro v4_L49 o_this_L49 o_tree_L49 out_L49 H locs ls hM hP hD hS hl kx_L49
              rw [f_Parser_sections_L49] at hM
              refine lv_iload hx hb dX4_sections_49 (lv_at hl 0 rfl) ?_
              refine lv_sipush (v := 8192) hx hb dX4_sections_51 (by decide) ?_
              refine lv_icmp_ge (tgt := 76) hx hb dX4_sections_54 (by decide) (fun c1691 => ?_) (fun c1691 => ?_)
              · replace hM := if_t c1691 hM
                cases hM
                exact kx_L49 _ _ _ hP hD hS (lv_sub hl [1, 2, 3, 4] rfl)
              · replace hM := if_f c1691 hM
                refine lv_aload_n hx hb dX4_sections_57 rfl (lv_at hl 3 rfl) ?_
                refine va_get (D := D) (ci := 4) (v := .int o_this_L49.2.1) (C := RX4) (T := TX4) (N := 12) hx hb hts layX4 hown hK hP 0 rfl rfl 3 (by decide) (hts _ (inA q400)) (fun _ h9 => h9) rfl dX4_sections_58 ?_
                refine lv_iconst (v := 1) hx hb dX4_sections_61 (by decide) ?_
                refine lv_icmp_ne (tgt := 76) hx hb dX4_sections_62 (by decide) (fun c1692 => ?_) (fun c1692 => ?_)
                · replace hM := if_f c1692 hM
                  cases hM
                  exact kx_L49 _ _ _ hP hD hS (lv_sub hl [1, 2, 3, 4] rfl)
                · replace hM := if_t c1692 hM
                  refine lv_aload_n hx hb dX4_sections_65 rfl (lv_at hl 3 rfl) ?_
                  refine lv_iload_n hx hb dX4_sections_66 rfl (lv_at hl 1 rfl) ?_
                  obtain ⟨r1693, hcr1693, hM⟩ := ob_use hM
                  refine cl_V (As := [.int w3_L49]) (rest := []) (w_Parser_this_tokens_tree cI ad r1693.1 o_tokens_L49 r1693.2) [] ⟨hx, hb, hml, hown, hts⟩ (c_Parser_declaration l D cI sd ad o_this_L49 o_tokens_L49 o_tree_L49 w3_L49 r1693 hcr1693) (cwV2 hts q653 mvX4_declaration rfl rfl ⟨(Nat.le_of_ble_eq_true rfl), (Nat.le_of_ble_eq_true rfl)⟩) hK hE hA hP hD hS 0 (T := TX4) (N := 12) (ci := 4) rfl rfl [0, 1, 2, 3, 4, 5, 6, 7, 8, 9, 10, 11, 12] rfl (by decide) rfl rfl rfl rfl rfl rfl hl.1 (Nat.le_of_ble_eq_true rfl) dX4_sections_67 ⟨Nat.zero_le _, Nat.zero_le _⟩ (fun H locs hP hD hS => ?_)
                  obtain ⟨x1694, ex1694⟩ : ∃ y : Int32, y = v4_L49 + 1 := ⟨_, rfl⟩
                  replace hM := nm_use ex1694 hM
                  refine lv_iinc (v := x1694) (lv' := [(4, .int x1694), (3, .int w3_L49), (2, .int w2_L49), (0, .ref (ad 22)), (1, .int w1_L49)]) hx hb dX4_sections_70 hl (k := 0) rfl (by rw [ex1694]; rfl) (by decide) rfl (fun ls hl => ?_)
                  refine lv_goto (tgt := 49) hx hb dX4_sections_73 (by decide) ?_
                  exact ih_L49 x1694 r1693.1 r1693.2 out_L49 _ _ _ hM hP hD hS (lv_sub hl [0, 1, 2, 3, 4] rfl) kx_L49
          obtain ⟨r1126, hcr1126, hM⟩ := ob_use hM
          refine lp_L49 r1124.1 v2_L2 w1_L2 o_tokens_L2 FU 0 r1125 r1124.2 r1126 _ _ _ hcr1126 hP hD hS (lv_sub hl [0, 1, 2, 3, 4] rfl) (fun H locs ls hP hD hS hl => ?_)
          refine lv_aload_n hx hb dX4_sections_76 rfl (lv_at hl 2 rfl) ?_
          refine lv_sipush (v := 265) hx hb dX4_sections_77 (by decide) ?_
          obtain ⟨r1127, hcr1127, hM⟩ := ob_use hM
          refine cl_V (As := [.int 265]) (rest := []) (w_Parser_this_tokens_tree cI ad r1127 o_tokens_L2 r1126.2) [] ⟨hx, hb, hml, hown, hts⟩ (c_Parser_take l D cI sd ad r1126.1 o_tokens_L2 265 r1127 hcr1127) (cwV2 hts q614 mvX4_take rfl rfl ⟨(Nat.le_of_ble_eq_true rfl), (Nat.le_of_ble_eq_true rfl)⟩) hK hE hA hP hD hS 0 (T := TX4) (N := 12) (ci := 4) rfl rfl [0, 1, 2, 3, 4] rfl (by decide) rfl rfl rfl rfl rfl rfl hl.1 (Nat.le_of_ble_eq_true rfl) dX4_sections_80 ⟨Nat.zero_le _, Nat.zero_le _⟩ (fun H locs hP hD hS => ?_)
          obtain ⟨x1128, ex1128⟩ : ∃ y : Int32, y = v2_L2 + 1 := ⟨_, rfl⟩
          replace hM := nm_use ex1128 hM
          refine lv_iinc (v := x1128) (lv' := [(2, .int x1128), (3, .int r1124.1), (0, .ref (ad 22)), (1, .int w1_L2)]) hx hb dX4_sections_83 hl (k := 1) rfl (by rw [ex1128]; rfl) (by decide) rfl (fun ls hl => ?_)
          refine lv_goto (tgt := 2) hx hb dX4_sections_86 (by decide) ?_
          exact ih_L2 x1128 r1127 r1126.2 out_L2 _ _ _ hM hP hD hS (lv_sub hl [0, 2, 3] rfl) kx_L2
  obtain ⟨r1, hcr1, hM⟩ := ob_use hM
  refine lp_L2 a1 o_tokens FU 0 o_this o_tree r1 _ _ _ hcr1 hP hD hS (lv_sub hl [0, 1, 2] rfl) (fun H locs ls hP hD hS hl => ?_)
  cases hM
  exact rt_v hx hb hr hlk hP hD hS rfl dX4_sections_89

set_option maxHeartbeats 4000000 in
set_option maxRecDepth 100000 in
theorem c_Parser_startsBlock (l : Launch) (D : va_G) (cI : ClassId) (sd : Nat → Nat) (ad : Nat → Nat) (o_this : S_Parser) (res : Int32) (hM : f_Parser_startsBlock o_this = some res) : Ctr l D cI sd yX4_startsBlock (wsM yX4_startsBlock cX4_startsBlock 1 (Option.some Jvm.ClassFile.FieldType.boolean)) { frames := 0, cells := 0, slots := 0, locals := 0 } [.ref (ad 22)] (wP cI ad o_this) (wP cI ad o_this) (some (.int res)) := by
  refine Ctr.of (cc := cX4_startsBlock) (maxL := 1) (own := RX4) (by decide +kernel) rfl rfl (Nat.le_of_ble_eq_true rfl) ?_
  intro p e s m below meth c A ls hx hb hr hml hown hts hlk hK hE hA hP hD hS hl
  have hl : lv_has ls 1 [(0, .ref (ad 22))] := hl
  unfold f_Parser_startsBlock at hM
  refine lv_aload_n hx hb dX4_startsBlock_0 rfl (lv_at hl 0 rfl) ?_
  refine va_get (D := D) (ci := 4) (v := .int o_this.2.1) (C := RX4) (T := TX4) (N := 12) hx hb hts layX4 hown hK hP 0 rfl rfl 3 (by decide) (hts _ (inA q400)) (fun _ h9 => h9) rfl dX4_startsBlock_1 ?_
  refine lv_sipush (v := 256) hx hb dX4_startsBlock_4 (by decide) ?_
  refine lv_icmp_eq (tgt := 30) hx hb dX4_startsBlock_7 (by decide) (fun c1 => ?_) (fun c1 => ?_)
  · replace hM := if_t c1 hM
    refine lv_iconst (v := 1) hx hb dX4_startsBlock_30 (by decide) ?_
    refine lv_goto (tgt := 35) hx hb dX4_startsBlock_31 (by decide) ?_
    cases hM
    exact rt_z hx hb hr hlk (by decide) hP hD hS rfl dX4_startsBlock_35
  · replace hM := if_f c1 hM
    refine lv_aload_n hx hb dX4_startsBlock_10 rfl (lv_at hl 0 rfl) ?_
    refine va_get (D := D) (ci := 4) (v := .int o_this.2.1) (C := RX4) (T := TX4) (N := 12) hx hb hts layX4 hown hK hP 0 rfl rfl 3 (by decide) (hts _ (inA q400)) (fun _ h9 => h9) rfl dX4_startsBlock_11 ?_
    refine lv_sipush (v := 258) hx hb dX4_startsBlock_14 (by decide) ?_
    refine lv_icmp_eq (tgt := 30) hx hb dX4_startsBlock_17 (by decide) (fun c2 => ?_) (fun c2 => ?_)
    · replace hM := if_t c2 hM
      refine lv_iconst (v := 1) hx hb dX4_startsBlock_30 (by decide) ?_
      refine lv_goto (tgt := 35) hx hb dX4_startsBlock_31 (by decide) ?_
      cases hM
      exact rt_z hx hb hr hlk (by decide) hP hD hS rfl dX4_startsBlock_35
    · replace hM := if_f c2 hM
      refine lv_aload_n hx hb dX4_startsBlock_20 rfl (lv_at hl 0 rfl) ?_
      refine va_get (D := D) (ci := 4) (v := .int o_this.2.1) (C := RX4) (T := TX4) (N := 12) hx hb hts layX4 hown hK hP 0 rfl rfl 3 (by decide) (hts _ (inA q400)) (fun _ h9 => h9) rfl dX4_startsBlock_21 ?_
      refine lv_sipush (v := 260) hx hb dX4_startsBlock_24 (by decide) ?_
      refine lv_icmp_ne (tgt := 34) hx hb dX4_startsBlock_27 (by decide) (fun c3 => ?_) (fun c3 => ?_)
      · replace hM := if_f c3 hM
        refine lv_iconst (v := 0) hx hb dX4_startsBlock_34 (by decide) ?_
        cases hM
        exact rt_z hx hb hr hlk (by decide) hP hD hS rfl dX4_startsBlock_35
      · replace hM := if_t c3 hM
        refine lv_iconst (v := 1) hx hb dX4_startsBlock_30 (by decide) ?_
        refine lv_goto (tgt := 35) hx hb dX4_startsBlock_31 (by decide) ?_
        cases hM
        exact rt_z hx hb hr hlk (by decide) hP hD hS rfl dX4_startsBlock_35

set_option maxHeartbeats 4000000 in
set_option maxRecDepth 100000 in
theorem c_Parser_tellFault (l : Launch) (D : va_G) (cI : ClassId) (sd : Nat → Nat) (ad : Nat → Nat) (o_this : S_Parser) (o_tokens : S_Tokens) (res : S_Parser) (hM : f_Parser_tellFault o_this o_tokens = some res) : Ctr l D cI sd yX4_tellFault (wsM yX4_tellFault cX4_tellFault 2 (Option.none : Option Jvm.ClassFile.FieldType)) { frames := 1, cells := 0, slots := 0, locals := 21 } [.ref (ad 22)] (w_Parser_this_tokens cI ad o_this o_tokens) (w_Parser_this_tokens cI ad res o_tokens) none := by
  refine Ctr.of (cc := cX4_tellFault) (maxL := 2) (own := RX4) (by decide +kernel) rfl rfl (Nat.le_of_ble_eq_true rfl) ?_
  intro p e s m below meth c A ls hx hb hr hml hown hts hlk hK hE hA hP hD hS hl
  have hl : lv_has ls 2 [(0, .ref (ad 22))] := hl
  unfold f_Parser_tellFault at hM
  refine lv_aload_n hx hb dX4_tellFault_0 rfl (lv_at hl 0 rfl) ?_
  refine va_get (D := D) (ci := 4) (v := .ref (ad 10)) (C := RX4) (T := TX4) (N := 12) hx hb hts layX4 hown hK hP 0 rfl rfl 0 (by decide) (hts _ (inA q397)) (fun _ h9 => h9) rfl dX4_tellFault_1 ?_
  refine lv_aload_n hx hb dX4_tellFault_4 rfl (lv_at hl 0 rfl) ?_
  refine va_get (D := D) (ci := 4) (v := .int o_this.1) (C := RX4) (T := TX4) (N := 12) hx hb hts layX4 hown hK hP 0 rfl rfl 2 (by decide) (hts _ (inA q399)) (fun _ h9 => h9) rfl dX4_tellFault_5 ?_
  obtain ⟨r1, hcr1, hM⟩ := ob_use hM
  refine cl_V (As := [.int o_this.1]) (rest := []) (w_Parser_this_tokens cI ad o_this o_tokens) (.int r1 :: []) ⟨hx, hb, hml, hown, hts⟩ (c_Tokens_kind l D cI sd ad o_tokens o_this.1 r1 hcr1) (cwV2 hts q797 mvX2_kind rfl rfl ⟨(Nat.le_of_ble_eq_true rfl), (Nat.le_of_ble_eq_true rfl)⟩) hK hE hA hP hD hS 1 (T := TX2) (N := 7) (ci := 2) rfl rfl [1, 2, 3, 4] rfl (by decide) rfl rfl rfl rfl rfl rfl hl.1 (Nat.le_of_ble_eq_true rfl) dX4_tellFault_8 ⟨Nat.zero_le _, Nat.zero_le _⟩ (fun H locs hP hD hS => ?_)
  refine lv_istore_n (lv' := [(1, .int r1), (0, .ref (ad 22))]) hx hb dX4_tellFault_11 rfl hl (by decide) rfl (fun ls hl => ?_)
  refine lv_iload_n hx hb dX4_tellFault_12 rfl (lv_at hl 0 rfl) ?_
  refine lv_bipush (v := 6) hx hb dX4_tellFault_13 (by decide) ?_
  refine lv_icmp_ne (tgt := 26) hx hb dX4_tellFault_15 (by decide) (fun c2 => ?_) (fun c2 => ?_)
  · replace hM := if_f c2 hM
    refine lv_iload_n hx hb dX4_tellFault_26 rfl (lv_at hl 0 rfl) ?_
    refine lv_iconst (v := 5) hx hb dX4_tellFault_27 (by decide) ?_
    refine lv_icmp_ne (tgt := 49) hx hb dX4_tellFault_28 (by decide) (fun c3 => ?_) (fun c3 => ?_)
    · replace hM := if_f c3 hM
      refine lv_aload_n hx hb dX4_tellFault_49 rfl (lv_at hl 1 rfl) ?_
      refine lv_aload_n hx hb dX4_tellFault_50 rfl (lv_at hl 1 rfl) ?_
      refine va_get (D := D) (ci := 4) (v := .int o_this.2.2.2.2.2.2.2.1) (C := RX4) (T := TX4) (N := 12) hx hb hts layX4 hown hK hP 0 rfl rfl 9 (by decide) (hts _ (inA q406)) (fun _ h9 => h9) rfl dX4_tellFault_51 ?_
      refine lv_if_eq (tgt := 62) hx hb dX4_tellFault_54 (by decide) (fun c4 => ?_) (fun c4 => ?_)
      · replace hM := if_t c4 hM
        refine lv_bipush (v := 6) hx hb dX4_tellFault_62 (by decide) ?_
        refine va_put (D := D) (ci := 4) (v := .int 6) (ty := .int) (C := RX4) (T := TX4) (N := 12) hx hb hts layX4 tyX4 tyX4_ok nmX4 hown hK hP hD hS 0 rfl rfl 10 (by decide) (hts _ (inA q407)) (fun _ h9 => h9) rfl (by decide +kernel) rfl rfl (Nat.le_of_ble_eq_true rfl) dX4_tellFault_64 (fun H locs hP hD hS => ?_)
        have hP : va_P D vwCl (w_Parser_this_tokens cI ad (o_this.1, o_this.2.1, o_this.2.2.1, o_this.2.2.2.1, o_this.2.2.2.2.1, o_this.2.2.2.2.2.1, o_this.2.2.2.2.2.2.1, o_this.2.2.2.2.2.2.2.1, 6, o_this.2.2.2.2.2.2.2.2.2) o_tokens) H := hP
        have hD : va_D A (w_Parser_this_tokens cI ad (o_this.1, o_this.2.1, o_this.2.2.1, o_this.2.2.2.1, o_this.2.2.2.2.1, o_this.2.2.2.2.2.1, o_this.2.2.2.2.2.2.1, o_this.2.2.2.2.2.2.2.1, 6, o_this.2.2.2.2.2.2.2.2.2) o_tokens) := hD
        refine lv_aload_n hx hb dX4_tellFault_67 rfl (lv_at hl 1 rfl) ?_
        refine lv_aload_n hx hb dX4_tellFault_68 rfl (lv_at hl 1 rfl) ?_
        refine va_get (D := D) (ci := 4) (v := .ref (ad 10)) (C := RX4) (T := TX4) (N := 12) hx hb hts layX4 hown hK hP 0 rfl rfl 0 (by decide) (hts _ (inA q397)) (fun _ h9 => h9) rfl dX4_tellFault_69 ?_
        refine lv_aload_n hx hb dX4_tellFault_72 rfl (lv_at hl 1 rfl) ?_
        refine va_get (D := D) (ci := 4) (v := .int o_this.1) (C := RX4) (T := TX4) (N := 12) hx hb hts layX4 hown hK hP 0 rfl rfl 2 (by decide) (hts _ (inA q399)) (fun _ h9 => h9) rfl dX4_tellFault_73 ?_
        obtain ⟨r5, hcr5, hM⟩ := ob_use hM
        refine cl_V (As := [.int o_this.1]) (rest := [.ref (ad 22)]) (w_Parser_this_tokens cI ad (o_this.1, o_this.2.1, o_this.2.2.1, o_this.2.2.2.1, o_this.2.2.2.2.1, o_this.2.2.2.2.2.1, o_this.2.2.2.2.2.2.1, o_this.2.2.2.2.2.2.2.1, 6, o_this.2.2.2.2.2.2.2.2.2) o_tokens) (.int r5 :: [.ref (ad 22)]) ⟨hx, hb, hml, hown, hts⟩ (c_Tokens_place l D cI sd ad o_tokens o_this.1 r5 hcr5) (cwV2 hts q802 mvX2_place rfl rfl ⟨(Nat.le_of_ble_eq_true rfl), (Nat.le_of_ble_eq_true rfl)⟩) hK hE hA hP hD hS 1 (T := TX2) (N := 7) (ci := 2) rfl rfl [1, 2, 3, 4] rfl (by decide) rfl rfl rfl rfl rfl rfl hl.1 (Nat.le_of_ble_eq_true rfl) dX4_tellFault_76 ⟨Nat.zero_le _, Nat.zero_le _⟩ (fun H locs hP hD hS => ?_)
        refine va_put (D := D) (ci := 4) (v := .int r5) (ty := .int) (C := RX4) (T := TX4) (N := 12) hx hb hts layX4 tyX4 tyX4_ok nmX4 hown hK hP hD hS 0 rfl rfl 11 (by decide) (hts _ (inA q409)) (fun _ h9 => h9) rfl (by decide +kernel) rfl rfl (Nat.le_of_ble_eq_true rfl) dX4_tellFault_79 (fun H locs hP hD hS => ?_)
        have hP : va_P D vwCl (w_Parser_this_tokens cI ad (o_this.1, o_this.2.1, o_this.2.2.1, o_this.2.2.2.1, o_this.2.2.2.2.1, o_this.2.2.2.2.2.1, o_this.2.2.2.2.2.2.1, o_this.2.2.2.2.2.2.2.1, 6, r5) o_tokens) H := hP
        have hD : va_D A (w_Parser_this_tokens cI ad (o_this.1, o_this.2.1, o_this.2.2.1, o_this.2.2.2.1, o_this.2.2.2.2.1, o_this.2.2.2.2.2.1, o_this.2.2.2.2.2.2.1, o_this.2.2.2.2.2.2.2.1, 6, r5) o_tokens) := hD
        cases hM
        exact rt_v hx hb hr hlk hP hD hS rfl dX4_tellFault_82
      · replace hM := if_f c4 hM
        refine lv_bipush (v := 7) hx hb dX4_tellFault_57 (by decide) ?_
        refine lv_goto (tgt := 64) hx hb dX4_tellFault_59 (by decide) ?_
        refine va_put (D := D) (ci := 4) (v := .int 7) (ty := .int) (C := RX4) (T := TX4) (N := 12) hx hb hts layX4 tyX4 tyX4_ok nmX4 hown hK hP hD hS 0 rfl rfl 10 (by decide) (hts _ (inA q407)) (fun _ h9 => h9) rfl (by decide +kernel) rfl rfl (Nat.le_of_ble_eq_true rfl) dX4_tellFault_64 (fun H locs hP hD hS => ?_)
        have hP : va_P D vwCl (w_Parser_this_tokens cI ad (o_this.1, o_this.2.1, o_this.2.2.1, o_this.2.2.2.1, o_this.2.2.2.2.1, o_this.2.2.2.2.2.1, o_this.2.2.2.2.2.2.1, o_this.2.2.2.2.2.2.2.1, 7, o_this.2.2.2.2.2.2.2.2.2) o_tokens) H := hP
        have hD : va_D A (w_Parser_this_tokens cI ad (o_this.1, o_this.2.1, o_this.2.2.1, o_this.2.2.2.1, o_this.2.2.2.2.1, o_this.2.2.2.2.2.1, o_this.2.2.2.2.2.2.1, o_this.2.2.2.2.2.2.2.1, 7, o_this.2.2.2.2.2.2.2.2.2) o_tokens) := hD
        refine lv_aload_n hx hb dX4_tellFault_67 rfl (lv_at hl 1 rfl) ?_
        refine lv_aload_n hx hb dX4_tellFault_68 rfl (lv_at hl 1 rfl) ?_
        refine va_get (D := D) (ci := 4) (v := .ref (ad 10)) (C := RX4) (T := TX4) (N := 12) hx hb hts layX4 hown hK hP 0 rfl rfl 0 (by decide) (hts _ (inA q397)) (fun _ h9 => h9) rfl dX4_tellFault_69 ?_
        refine lv_aload_n hx hb dX4_tellFault_72 rfl (lv_at hl 1 rfl) ?_
        refine va_get (D := D) (ci := 4) (v := .int o_this.1) (C := RX4) (T := TX4) (N := 12) hx hb hts layX4 hown hK hP 0 rfl rfl 2 (by decide) (hts _ (inA q399)) (fun _ h9 => h9) rfl dX4_tellFault_73 ?_
        obtain ⟨r6, hcr6, hM⟩ := ob_use hM
        refine cl_V (As := [.int o_this.1]) (rest := [.ref (ad 22)]) (w_Parser_this_tokens cI ad (o_this.1, o_this.2.1, o_this.2.2.1, o_this.2.2.2.1, o_this.2.2.2.2.1, o_this.2.2.2.2.2.1, o_this.2.2.2.2.2.2.1, o_this.2.2.2.2.2.2.2.1, 7, o_this.2.2.2.2.2.2.2.2.2) o_tokens) (.int r6 :: [.ref (ad 22)]) ⟨hx, hb, hml, hown, hts⟩ (c_Tokens_place l D cI sd ad o_tokens o_this.1 r6 hcr6) (cwV2 hts q802 mvX2_place rfl rfl ⟨(Nat.le_of_ble_eq_true rfl), (Nat.le_of_ble_eq_true rfl)⟩) hK hE hA hP hD hS 1 (T := TX2) (N := 7) (ci := 2) rfl rfl [1, 2, 3, 4] rfl (by decide) rfl rfl rfl rfl rfl rfl hl.1 (Nat.le_of_ble_eq_true rfl) dX4_tellFault_76 ⟨Nat.zero_le _, Nat.zero_le _⟩ (fun H locs hP hD hS => ?_)
        refine va_put (D := D) (ci := 4) (v := .int r6) (ty := .int) (C := RX4) (T := TX4) (N := 12) hx hb hts layX4 tyX4 tyX4_ok nmX4 hown hK hP hD hS 0 rfl rfl 11 (by decide) (hts _ (inA q409)) (fun _ h9 => h9) rfl (by decide +kernel) rfl rfl (Nat.le_of_ble_eq_true rfl) dX4_tellFault_79 (fun H locs hP hD hS => ?_)
        have hP : va_P D vwCl (w_Parser_this_tokens cI ad (o_this.1, o_this.2.1, o_this.2.2.1, o_this.2.2.2.1, o_this.2.2.2.2.1, o_this.2.2.2.2.2.1, o_this.2.2.2.2.2.2.1, o_this.2.2.2.2.2.2.2.1, 7, r6) o_tokens) H := hP
        have hD : va_D A (w_Parser_this_tokens cI ad (o_this.1, o_this.2.1, o_this.2.2.1, o_this.2.2.2.1, o_this.2.2.2.2.1, o_this.2.2.2.2.2.1, o_this.2.2.2.2.2.2.1, o_this.2.2.2.2.2.2.2.1, 7, r6) o_tokens) := hD
        cases hM
        exact rt_v hx hb hr hlk hP hD hS rfl dX4_tellFault_82
    · replace hM := if_t c3 hM
      refine lv_aload_n hx hb dX4_tellFault_31 rfl (lv_at hl 1 rfl) ?_
      refine lv_aload_n hx hb dX4_tellFault_32 rfl (lv_at hl 1 rfl) ?_
      refine va_get (D := D) (ci := 4) (v := .ref (ad 10)) (C := RX4) (T := TX4) (N := 12) hx hb hts layX4 hown hK hP 0 rfl rfl 0 (by decide) (hts _ (inA q397)) (fun _ h9 => h9) rfl dX4_tellFault_33 ?_
      refine lv_aload_n hx hb dX4_tellFault_36 rfl (lv_at hl 1 rfl) ?_
      refine va_get (D := D) (ci := 4) (v := .int o_this.1) (C := RX4) (T := TX4) (N := 12) hx hb hts layX4 hown hK hP 0 rfl rfl 2 (by decide) (hts _ (inA q399)) (fun _ h9 => h9) rfl dX4_tellFault_37 ?_
      obtain ⟨r7, hcr7, hM⟩ := ob_use hM
      refine cl_V (As := [.int o_this.1]) (rest := [.ref (ad 22)]) (w_Parser_this_tokens cI ad o_this o_tokens) (.int r7 :: [.ref (ad 22)]) ⟨hx, hb, hml, hown, hts⟩ (c_Tokens_value l D cI sd ad o_tokens o_this.1 r7 hcr7) (cwV2 hts q798 mvX2_value rfl rfl ⟨(Nat.le_of_ble_eq_true rfl), (Nat.le_of_ble_eq_true rfl)⟩) hK hE hA hP hD hS 1 (T := TX2) (N := 7) (ci := 2) rfl rfl [1, 2, 3, 4] rfl (by decide) rfl rfl rfl rfl rfl rfl hl.1 (Nat.le_of_ble_eq_true rfl) dX4_tellFault_40 ⟨Nat.zero_le _, Nat.zero_le _⟩ (fun H locs hP hD hS => ?_)
      refine va_put (D := D) (ci := 4) (v := .int r7) (ty := .int) (C := RX4) (T := TX4) (N := 12) hx hb hts layX4 tyX4 tyX4_ok nmX4 hown hK hP hD hS 0 rfl rfl 10 (by decide) (hts _ (inA q407)) (fun _ h9 => h9) rfl (by decide +kernel) rfl rfl (Nat.le_of_ble_eq_true rfl) dX4_tellFault_43 (fun H locs hP hD hS => ?_)
      have hP : va_P D vwCl (w_Parser_this_tokens cI ad (o_this.1, o_this.2.1, o_this.2.2.1, o_this.2.2.2.1, o_this.2.2.2.2.1, o_this.2.2.2.2.2.1, o_this.2.2.2.2.2.2.1, o_this.2.2.2.2.2.2.2.1, r7, o_this.2.2.2.2.2.2.2.2.2) o_tokens) H := hP
      have hD : va_D A (w_Parser_this_tokens cI ad (o_this.1, o_this.2.1, o_this.2.2.1, o_this.2.2.2.1, o_this.2.2.2.2.1, o_this.2.2.2.2.2.1, o_this.2.2.2.2.2.2.1, o_this.2.2.2.2.2.2.2.1, r7, o_this.2.2.2.2.2.2.2.2.2) o_tokens) := hD
      refine lv_goto (tgt := 67) hx hb dX4_tellFault_46 (by decide) ?_
      refine lv_aload_n hx hb dX4_tellFault_67 rfl (lv_at hl 1 rfl) ?_
      refine lv_aload_n hx hb dX4_tellFault_68 rfl (lv_at hl 1 rfl) ?_
      refine va_get (D := D) (ci := 4) (v := .ref (ad 10)) (C := RX4) (T := TX4) (N := 12) hx hb hts layX4 hown hK hP 0 rfl rfl 0 (by decide) (hts _ (inA q397)) (fun _ h9 => h9) rfl dX4_tellFault_69 ?_
      refine lv_aload_n hx hb dX4_tellFault_72 rfl (lv_at hl 1 rfl) ?_
      refine va_get (D := D) (ci := 4) (v := .int o_this.1) (C := RX4) (T := TX4) (N := 12) hx hb hts layX4 hown hK hP 0 rfl rfl 2 (by decide) (hts _ (inA q399)) (fun _ h9 => h9) rfl dX4_tellFault_73 ?_
      obtain ⟨r8, hcr8, hM⟩ := ob_use hM
      refine cl_V (As := [.int o_this.1]) (rest := [.ref (ad 22)]) (w_Parser_this_tokens cI ad (o_this.1, o_this.2.1, o_this.2.2.1, o_this.2.2.2.1, o_this.2.2.2.2.1, o_this.2.2.2.2.2.1, o_this.2.2.2.2.2.2.1, o_this.2.2.2.2.2.2.2.1, r7, o_this.2.2.2.2.2.2.2.2.2) o_tokens) (.int r8 :: [.ref (ad 22)]) ⟨hx, hb, hml, hown, hts⟩ (c_Tokens_place l D cI sd ad o_tokens o_this.1 r8 hcr8) (cwV2 hts q802 mvX2_place rfl rfl ⟨(Nat.le_of_ble_eq_true rfl), (Nat.le_of_ble_eq_true rfl)⟩) hK hE hA hP hD hS 1 (T := TX2) (N := 7) (ci := 2) rfl rfl [1, 2, 3, 4] rfl (by decide) rfl rfl rfl rfl rfl rfl hl.1 (Nat.le_of_ble_eq_true rfl) dX4_tellFault_76 ⟨Nat.zero_le _, Nat.zero_le _⟩ (fun H locs hP hD hS => ?_)
      refine va_put (D := D) (ci := 4) (v := .int r8) (ty := .int) (C := RX4) (T := TX4) (N := 12) hx hb hts layX4 tyX4 tyX4_ok nmX4 hown hK hP hD hS 0 rfl rfl 11 (by decide) (hts _ (inA q409)) (fun _ h9 => h9) rfl (by decide +kernel) rfl rfl (Nat.le_of_ble_eq_true rfl) dX4_tellFault_79 (fun H locs hP hD hS => ?_)
      have hP : va_P D vwCl (w_Parser_this_tokens cI ad (o_this.1, o_this.2.1, o_this.2.2.1, o_this.2.2.2.1, o_this.2.2.2.2.1, o_this.2.2.2.2.2.1, o_this.2.2.2.2.2.2.1, o_this.2.2.2.2.2.2.2.1, r7, r8) o_tokens) H := hP
      have hD : va_D A (w_Parser_this_tokens cI ad (o_this.1, o_this.2.1, o_this.2.2.1, o_this.2.2.2.1, o_this.2.2.2.2.1, o_this.2.2.2.2.2.1, o_this.2.2.2.2.2.2.1, o_this.2.2.2.2.2.2.2.1, r7, r8) o_tokens) := hD
      cases hM
      exact rt_v hx hb hr hlk hP hD hS rfl dX4_tellFault_82
  · replace hM := if_t c2 hM
    refine lv_aload_n hx hb dX4_tellFault_18 rfl (lv_at hl 1 rfl) ?_
    refine lv_iconst (v := 0) hx hb dX4_tellFault_19 (by decide) ?_
    refine va_put (D := D) (ci := 4) (v := .int 0) (ty := .int) (C := RX4) (T := TX4) (N := 12) hx hb hts layX4 tyX4 tyX4_ok nmX4 hown hK hP hD hS 0 rfl rfl 10 (by decide) (hts _ (inA q407)) (fun _ h9 => h9) rfl (by decide +kernel) rfl rfl (Nat.le_of_ble_eq_true rfl) dX4_tellFault_20 (fun H locs hP hD hS => ?_)
    have hP : va_P D vwCl (w_Parser_this_tokens cI ad (o_this.1, o_this.2.1, o_this.2.2.1, o_this.2.2.2.1, o_this.2.2.2.2.1, o_this.2.2.2.2.2.1, o_this.2.2.2.2.2.2.1, o_this.2.2.2.2.2.2.2.1, 0, o_this.2.2.2.2.2.2.2.2.2) o_tokens) H := hP
    have hD : va_D A (w_Parser_this_tokens cI ad (o_this.1, o_this.2.1, o_this.2.2.1, o_this.2.2.2.1, o_this.2.2.2.2.1, o_this.2.2.2.2.2.1, o_this.2.2.2.2.2.2.1, o_this.2.2.2.2.2.2.2.1, 0, o_this.2.2.2.2.2.2.2.2.2) o_tokens) := hD
    refine lv_goto (tgt := 67) hx hb dX4_tellFault_23 (by decide) ?_
    refine lv_aload_n hx hb dX4_tellFault_67 rfl (lv_at hl 1 rfl) ?_
    refine lv_aload_n hx hb dX4_tellFault_68 rfl (lv_at hl 1 rfl) ?_
    refine va_get (D := D) (ci := 4) (v := .ref (ad 10)) (C := RX4) (T := TX4) (N := 12) hx hb hts layX4 hown hK hP 0 rfl rfl 0 (by decide) (hts _ (inA q397)) (fun _ h9 => h9) rfl dX4_tellFault_69 ?_
    refine lv_aload_n hx hb dX4_tellFault_72 rfl (lv_at hl 1 rfl) ?_
    refine va_get (D := D) (ci := 4) (v := .int o_this.1) (C := RX4) (T := TX4) (N := 12) hx hb hts layX4 hown hK hP 0 rfl rfl 2 (by decide) (hts _ (inA q399)) (fun _ h9 => h9) rfl dX4_tellFault_73 ?_
    obtain ⟨r9, hcr9, hM⟩ := ob_use hM
    refine cl_V (As := [.int o_this.1]) (rest := [.ref (ad 22)]) (w_Parser_this_tokens cI ad (o_this.1, o_this.2.1, o_this.2.2.1, o_this.2.2.2.1, o_this.2.2.2.2.1, o_this.2.2.2.2.2.1, o_this.2.2.2.2.2.2.1, o_this.2.2.2.2.2.2.2.1, 0, o_this.2.2.2.2.2.2.2.2.2) o_tokens) (.int r9 :: [.ref (ad 22)]) ⟨hx, hb, hml, hown, hts⟩ (c_Tokens_place l D cI sd ad o_tokens o_this.1 r9 hcr9) (cwV2 hts q802 mvX2_place rfl rfl ⟨(Nat.le_of_ble_eq_true rfl), (Nat.le_of_ble_eq_true rfl)⟩) hK hE hA hP hD hS 1 (T := TX2) (N := 7) (ci := 2) rfl rfl [1, 2, 3, 4] rfl (by decide) rfl rfl rfl rfl rfl rfl hl.1 (Nat.le_of_ble_eq_true rfl) dX4_tellFault_76 ⟨Nat.zero_le _, Nat.zero_le _⟩ (fun H locs hP hD hS => ?_)
    refine va_put (D := D) (ci := 4) (v := .int r9) (ty := .int) (C := RX4) (T := TX4) (N := 12) hx hb hts layX4 tyX4 tyX4_ok nmX4 hown hK hP hD hS 0 rfl rfl 11 (by decide) (hts _ (inA q409)) (fun _ h9 => h9) rfl (by decide +kernel) rfl rfl (Nat.le_of_ble_eq_true rfl) dX4_tellFault_79 (fun H locs hP hD hS => ?_)
    have hP : va_P D vwCl (w_Parser_this_tokens cI ad (o_this.1, o_this.2.1, o_this.2.2.1, o_this.2.2.2.1, o_this.2.2.2.2.1, o_this.2.2.2.2.2.1, o_this.2.2.2.2.2.2.1, o_this.2.2.2.2.2.2.2.1, 0, r9) o_tokens) H := hP
    have hD : va_D A (w_Parser_this_tokens cI ad (o_this.1, o_this.2.1, o_this.2.2.1, o_this.2.2.2.1, o_this.2.2.2.2.1, o_this.2.2.2.2.2.1, o_this.2.2.2.2.2.2.1, o_this.2.2.2.2.2.2.2.1, 0, r9) o_tokens) := hD
    cases hM
    exact rt_v hx hb hr hlk hP hD hS rfl dX4_tellFault_82

set_option maxHeartbeats 4000000 in
set_option maxRecDepth 100000 in
theorem c_Parser_parse (l : Launch) (D : va_G) (cI : ClassId) (sd : Nat → Nat) (ad : Nat → Nat) (o_this : S_Parser) (o_tokens : S_Tokens) (o_tree : S_Tree) (res : S_Parser × S_Tree) (hM : f_Parser_parse o_this o_tokens o_tree = some res) : Ctr l D cI sd yX4_parse (wsM yX4_parse cX4_parse 5 (Option.none : Option Jvm.ClassFile.FieldType)) { frames := 461, cells := 0, slots := 0, locals := 11663 } [.ref (ad 22)] (w_Parser_this_tokens_tree cI ad o_this o_tokens o_tree) (w_Parser_this_tokens_tree cI ad res.1 o_tokens res.2) none := by
  refine Ctr.of (cc := cX4_parse) (maxL := 5) (own := RX4) (by decide +kernel) rfl rfl (Nat.le_of_ble_eq_true rfl) ?_
  intro p e s m below meth c A ls hx hb hr hml hown hts hlk hK hE hA hP hD hS hl
  have hl : lv_has ls 5 [(0, .ref (ad 22))] := hl
  unfold f_Parser_parse at hM
  refine lv_aload_n hx hb dX4_parse_0 rfl (lv_at hl 0 rfl) ?_
  refine lv_iconst (v := (-1)) hx hb dX4_parse_1 (by decide) ?_
  refine va_put (D := D) (ci := 4) (v := .int (-1)) (ty := .int) (C := RX4) (T := TX4) (N := 12) hx hb hts layX4 tyX4 tyX4_ok nmX4 hown hK hP hD hS 0 rfl rfl 2 (by decide) (hts _ (inA q399)) (fun _ h9 => h9) rfl (by decide +kernel) rfl rfl (Nat.le_of_ble_eq_true rfl) dX4_parse_2 (fun H locs hP hD hS => ?_)
  have hP : va_P D vwCl (w_Parser_this_tokens_tree cI ad ((-1), o_this.2) o_tokens o_tree) H := hP
  have hD : va_D A (w_Parser_this_tokens_tree cI ad ((-1), o_this.2) o_tokens o_tree) := hD
  refine lv_aload_n hx hb dX4_parse_5 rfl (lv_at hl 0 rfl) ?_
  refine lv_iconst (v := (-1)) hx hb dX4_parse_6 (by decide) ?_
  refine va_put (D := D) (ci := 4) (v := .int (-1)) (ty := .int) (C := RX4) (T := TX4) (N := 12) hx hb hts layX4 tyX4 tyX4_ok nmX4 hown hK hP hD hS 0 rfl rfl 3 (by decide) (hts _ (inA q400)) (fun _ h9 => h9) rfl (by decide +kernel) rfl rfl (Nat.le_of_ble_eq_true rfl) dX4_parse_7 (fun H locs hP hD hS => ?_)
  have hP : va_P D vwCl (w_Parser_this_tokens_tree cI ad ((-1), (-1), o_this.2.2) o_tokens o_tree) H := hP
  have hD : va_D A (w_Parser_this_tokens_tree cI ad ((-1), (-1), o_this.2.2) o_tokens o_tree) := hD
  refine lv_aload_n hx hb dX4_parse_10 rfl (lv_at hl 0 rfl) ?_
  refine lv_iconst (v := 0) hx hb dX4_parse_11 (by decide) ?_
  refine va_put (D := D) (ci := 4) (v := .int 0) (ty := .int) (C := RX4) (T := TX4) (N := 12) hx hb hts layX4 tyX4 tyX4_ok nmX4 hown hK hP hD hS 0 rfl rfl 7 (by decide) (hts _ (inA q404)) (fun _ h9 => h9) rfl (by decide +kernel) rfl rfl (Nat.le_of_ble_eq_true rfl) dX4_parse_12 (fun H locs hP hD hS => ?_)
  have hP : va_P D vwCl (w_Parser_this_tokens_tree cI ad ((-1), (-1), o_this.2.2.1, o_this.2.2.2.1, o_this.2.2.2.2.1, 0, o_this.2.2.2.2.2.2) o_tokens o_tree) H := hP
  have hD : va_D A (w_Parser_this_tokens_tree cI ad ((-1), (-1), o_this.2.2.1, o_this.2.2.2.1, o_this.2.2.2.2.1, 0, o_this.2.2.2.2.2.2) o_tokens o_tree) := hD
  refine lv_aload_n hx hb dX4_parse_15 rfl (lv_at hl 0 rfl) ?_
  refine lv_iconst (v := 0) hx hb dX4_parse_16 (by decide) ?_
  refine va_put (D := D) (ci := 4) (v := .int 0) (ty := .int) (C := RX4) (T := TX4) (N := 12) hx hb hts layX4 tyX4 tyX4_ok nmX4 hown hK hP hD hS 0 rfl rfl 8 (by decide) (hts _ (inA q405)) (fun _ h9 => h9) rfl (by decide +kernel) rfl rfl (Nat.le_of_ble_eq_true rfl) dX4_parse_17 (fun H locs hP hD hS => ?_)
  have hP : va_P D vwCl (w_Parser_this_tokens_tree cI ad ((-1), (-1), o_this.2.2.1, o_this.2.2.2.1, o_this.2.2.2.2.1, 0, 0, o_this.2.2.2.2.2.2.2) o_tokens o_tree) H := hP
  have hD : va_D A (w_Parser_this_tokens_tree cI ad ((-1), (-1), o_this.2.2.1, o_this.2.2.2.1, o_this.2.2.2.2.1, 0, 0, o_this.2.2.2.2.2.2.2) o_tokens o_tree) := hD
  refine lv_aload_n hx hb dX4_parse_20 rfl (lv_at hl 0 rfl) ?_
  refine lv_iconst (v := 0) hx hb dX4_parse_21 (by decide) ?_
  refine va_put (D := D) (ci := 4) (v := .int 0) (ty := .boolean) (C := RX4) (T := TX4) (N := 12) hx hb hts layX4 tyX4 tyX4_ok nmX4 hown hK hP hD hS 0 rfl rfl 9 (by decide) (hts _ (inA q406)) (fun _ h9 => h9) rfl (by decide +kernel) (by decide) (by decide) (Nat.le_of_ble_eq_true rfl) dX4_parse_22 (fun H locs hP hD hS => ?_)
  have hP : va_P D vwCl (w_Parser_this_tokens_tree cI ad ((-1), (-1), o_this.2.2.1, o_this.2.2.2.1, o_this.2.2.2.2.1, 0, 0, 0, o_this.2.2.2.2.2.2.2.2) o_tokens o_tree) H := hP
  have hD : va_D A (w_Parser_this_tokens_tree cI ad ((-1), (-1), o_this.2.2.1, o_this.2.2.2.1, o_this.2.2.2.2.1, 0, 0, 0, o_this.2.2.2.2.2.2.2.2) o_tokens o_tree) := hD
  refine lv_aload_n hx hb dX4_parse_25 rfl (lv_at hl 0 rfl) ?_
  refine lv_iconst (v := (-1)) hx hb dX4_parse_26 (by decide) ?_
  obtain ⟨r1, hcr1, hM⟩ := ob_use hM
  refine cl_V (As := [.int (-1)]) (rest := []) (w_Parser_this_tokens_tree cI ad r1 o_tokens o_tree) [] ⟨hx, hb, hml, hown, hts⟩ (c_Parser_take l D cI sd ad ((-1), (-1), o_this.2.2.1, o_this.2.2.2.1, o_this.2.2.2.2.1, 0, 0, 0, o_this.2.2.2.2.2.2.2.2) o_tokens (-1) r1 hcr1) (cwV2 hts q614 mvX4_take rfl rfl ⟨(Nat.le_of_ble_eq_true rfl), (Nat.le_of_ble_eq_true rfl)⟩) hK hE hA hP hD hS 0 (T := TX4) (N := 12) (ci := 4) rfl rfl [0, 1, 2, 3, 4] rfl (by decide) rfl rfl rfl rfl rfl rfl hl.1 (Nat.le_of_ble_eq_true rfl) dX4_parse_27 ⟨Nat.zero_le _, Nat.zero_le _⟩ (fun H locs hP hD hS => ?_)
  refine lv_aload_n hx hb dX4_parse_30 rfl (lv_at hl 0 rfl) ?_
  refine va_get (D := D) (ci := 4) (v := .ref (ad 14)) (C := RX4) (T := TX4) (N := 12) hx hb hts layX4 hown hK hP 0 rfl rfl 1 (by decide) (hts _ (inA q398)) (fun _ h9 => h9) rfl dX4_parse_31 ?_
  obtain ⟨r2, hcr2, hM⟩ := ob_use hM
  refine cl_V (As := []) (rest := []) (w_Parser_this_tokens_tree cI ad r1 o_tokens r2) [] ⟨hx, hb, hml, hown, hts⟩ (c_Tree_forget l D cI sd ad o_tree r2 hcr2) (cwV2 hts q618 mvX3_forget rfl rfl ⟨(Nat.le_of_ble_eq_true rfl), (Nat.le_of_ble_eq_true rfl)⟩) hK hE hA hP hD hS 5 (T := TX3) (N := 8) (ci := 3) rfl rfl [5, 6, 7, 8, 9, 10, 11, 12] rfl (by decide) rfl rfl rfl rfl rfl rfl hl.1 (Nat.le_of_ble_eq_true rfl) dX4_parse_34 ⟨Nat.zero_le _, Nat.zero_le _⟩ (fun H locs hP hD hS => ?_)
  refine lv_aload_n hx hb dX4_parse_37 rfl (lv_at hl 0 rfl) ?_
  refine va_get (D := D) (ci := 4) (v := .ref (ad 14)) (C := RX4) (T := TX4) (N := 12) hx hb hts layX4 hown hK hP 0 rfl rfl 1 (by decide) (hts _ (inA q398)) (fun _ h9 => h9) rfl dX4_parse_38 ?_
  refine lv_iconst (v := (-1)) hx hb dX4_parse_41 (by decide) ?_
  refine lv_iconst (v := 0) hx hb dX4_parse_42 (by decide) ?_
  refine lv_iconst (v := 0) hx hb dX4_parse_43 (by decide) ?_
  refine lv_iconst (v := 0) hx hb dX4_parse_44 (by decide) ?_
  obtain ⟨r3, hcr3, hM⟩ := ob_use hM
  refine cl_V (As := [.int (-1), .int 0, .int 0, .int 0]) (rest := []) (w_Parser_this_tokens_tree cI ad r1 o_tokens r3.2) (.int r3.1 :: []) ⟨hx, hb, hml, hown, hts⟩ (c_Tree_add l D cI sd ad r2 (-1) 0 0 0 r3 hcr3) (cwV2 hts q622 mvX3_add rfl rfl ⟨(Nat.le_of_ble_eq_true rfl), (Nat.le_of_ble_eq_true rfl)⟩) hK hE hA hP hD hS 5 (T := TX3) (N := 8) (ci := 3) rfl rfl [5, 6, 7, 8, 9, 10, 11, 12] rfl (by decide) rfl rfl rfl rfl rfl rfl hl.1 (Nat.le_of_ble_eq_true rfl) dX4_parse_45 ⟨Nat.zero_le _, Nat.zero_le _⟩ (fun H locs hP hD hS => ?_)
  refine lv_istore_n (lv' := [(1, .int r3.1), (0, .ref (ad 22))]) hx hb dX4_parse_48 rfl hl (by decide) rfl (fun ls hl => ?_)
  refine lv_iconst (v := 0) hx hb dX4_parse_49 (by decide) ?_
  refine lv_istore_n (lv' := [(2, .int 0), (1, .int r3.1), (0, .ref (ad 22))]) hx hb dX4_parse_50 rfl hl (by decide) rfl (fun ls hl => ?_)
  have lp_L51 : ∀ (w1_L51 : Int32) (o_tokens_L51 : S_Tokens) (n : Nat) (v2_L51 : Int32) (o_this_L51 : S_Parser) (o_tree_L51 : S_Tree) (out_L51 : S_Parser × S_Tree) (H : Heap) (locs : List Loc) (ls : Array Slot), f_Parser_parse_L51 w1_L51 o_tokens_L51 n v2_L51 o_this_L51 o_tree_L51 = some out_L51 → va_P D vwCl (w_Parser_this_tokens_tree cI ad o_this_L51 o_tokens_L51 o_tree_L51) H → va_D A (w_Parser_this_tokens_tree cI ad o_this_L51 o_tokens_L51 o_tree_L51) → va_S A s.heap H locs → lv_has ls 5 [(2, .int v2_L51), (1, .int w1_L51), (0, .ref (ad 22))] → (∀ (H : Heap) (locs : List Loc) (ls : Array Slot), va_P D vwCl (w_Parser_this_tokens_tree cI ad out_L51.1 o_tokens_L51 out_L51.2) H → va_D A (w_Parser_this_tokens_tree cI ad out_L51.1 o_tokens_L51 out_L51.2) → va_S A s.heap H locs → lv_has ls 5 [(1, .int w1_L51), (0, .ref (ad 22))] → W p l e { frames := 461, cells := 0, slots := 0, locals := 11663 } s m [.ref (ad 22)].toArray below meth c H locs 0 0 (MQ below (CQ D A (w_Parser_this_tokens_tree cI ad res.1 o_tokens res.2) none) [.ref (ad 22)].toArray s 0 0 A) (F0 m 122 ls [])) → W p l e { frames := 461, cells := 0, slots := 0, locals := 11663 } s m [.ref (ad 22)].toArray below meth c H locs 0 0 (MQ below (CQ D A (w_Parser_this_tokens_tree cI ad res.1 o_tokens res.2) none) [.ref (ad 22)].toArray s 0 0 A) (F0 m 51 ls []) := by
    intro w1_L51 o_tokens_L51 n
    induction n with
    | zero => intro v2_L51 o_this_L51 o_tree_L51 out_L51 H locs ls hM; exact absurd (show none = some _ from hM) (by simp)
    | succ n ih_L51 =>
      intro v2_L51 o_this_L51 o_tree_L51 out_L51 H locs ls hM hP hD hS hl kx_L51
      rw [f_Parser_parse_L51] at hM
      refine lv_iload_n hx hb dX4_parse_51 rfl (lv_at hl 0 rfl) ?_
      refine lv_sipush (v := 8192) hx hb dX4_parse_52 (by decide) ?_
      refine lv_icmp_ge (tgt := 122) hx hb dX4_parse_55 (by decide) (fun c1611 => ?_) (fun c1611 => ?_)
      · replace hM := if_t c1611 hM
        cases hM
        exact kx_L51 _ _ _ hP hD hS (lv_sub hl [1, 2] rfl)
      · replace hM := if_f c1611 hM
        refine lv_aload_n hx hb dX4_parse_58 rfl (lv_at hl 2 rfl) ?_
        obtain ⟨r1612, hcr1612, hM⟩ := ob_use hM
        refine cl_V (As := []) (rest := []) (w_Parser_this_tokens_tree cI ad o_this_L51 o_tokens_L51 o_tree_L51) (.int r1612 :: []) ⟨hx, hb, hml, hown, hts⟩ (c_Parser_startsBlock l D cI sd ad o_this_L51 r1612 hcr1612) (cwV2 hts q626 mvX4_startsBlock rfl rfl ⟨(Nat.le_of_ble_eq_true rfl), (Nat.le_of_ble_eq_true rfl)⟩) hK hE hA hP hD hS 0 (T := TX4) (N := 12) (ci := 4) rfl rfl [0] rfl (by decide) rfl rfl rfl rfl rfl rfl hl.1 (Nat.le_of_ble_eq_true rfl) dX4_parse_59 ⟨Nat.zero_le _, Nat.zero_le _⟩ (fun H locs hP hD hS => ?_)
        refine lv_if_eq (tgt := 122) hx hb dX4_parse_62 (by decide) (fun c1613 => ?_) (fun c1613 => ?_)
        · replace hM := if_t c1613 hM
          cases hM
          exact kx_L51 _ _ _ hP hD hS (lv_sub hl [1, 2] rfl)
        · replace hM := if_f c1613 hM
          refine lv_aload_n hx hb dX4_parse_65 rfl (lv_at hl 2 rfl) ?_
          refine va_get (D := D) (ci := 4) (v := .int o_this_L51.2.1) (C := RX4) (T := TX4) (N := 12) hx hb hts layX4 hown hK hP 0 rfl rfl 3 (by decide) (hts _ (inA q400)) (fun _ h9 => h9) rfl dX4_parse_66 ?_
          refine lv_istore_n (lv' := [(3, .int o_this_L51.2.1), (2, .int v2_L51), (1, .int w1_L51), (0, .ref (ad 22))]) hx hb dX4_parse_69 rfl hl (by decide) rfl (fun ls hl => ?_)
          refine lv_aload_n hx hb dX4_parse_70 rfl (lv_at hl 3 rfl) ?_
          refine lv_iload_n hx hb dX4_parse_71 rfl (lv_at hl 2 rfl) ?_
          obtain ⟨r1614, hcr1614, hM⟩ := ob_use hM
          refine cl_V (As := [.int w1_L51]) (rest := []) (w_Parser_this_tokens_tree cI ad r1614.2.1 o_tokens_L51 r1614.2.2) (.int r1614.1 :: []) ⟨hx, hb, hml, hown, hts⟩ (c_Parser_blockHead l D cI sd ad o_this_L51 o_tokens_L51 o_tree_L51 w1_L51 r1614 hcr1614) (cwV2 hts q630 mvX4_blockHead rfl rfl ⟨(Nat.le_of_ble_eq_true rfl), (Nat.le_of_ble_eq_true rfl)⟩) hK hE hA hP hD hS 0 (T := TX4) (N := 12) (ci := 4) rfl rfl [0, 1, 2, 3, 4, 5, 6, 7, 8, 9, 10, 11, 12] rfl (by decide) rfl rfl rfl rfl rfl rfl hl.1 (Nat.le_of_ble_eq_true rfl) dX4_parse_72 ⟨Nat.zero_le _, Nat.zero_le _⟩ (fun H locs hP hD hS => ?_)
          refine lv_istore (lv' := [(4, .int r1614.1), (3, .int o_this_L51.2.1), (2, .int v2_L51), (1, .int w1_L51), (0, .ref (ad 22))]) hx hb dX4_parse_75 hl (by decide) rfl (fun ls hl => ?_)
          refine lv_aload_n hx hb dX4_parse_77 rfl (lv_at hl 4 rfl) ?_
          refine lv_iload hx hb dX4_parse_78 (lv_at hl 0 rfl) ?_
          obtain ⟨r1615, hcr1615, hM⟩ := ob_use hM
          refine cl_V (As := [.int r1614.1]) (rest := []) (w_Parser_this_tokens_tree cI ad r1615.1 o_tokens_L51 r1615.2) [] ⟨hx, hb, hml, hown, hts⟩ (c_Parser_sections l D cI sd ad r1614.2.1 o_tokens_L51 r1614.2.2 r1614.1 r1615 hcr1615) (cwV2 hts q645 mvX4_sections rfl rfl ⟨(Nat.le_of_ble_eq_true rfl), (Nat.le_of_ble_eq_true rfl)⟩) hK hE hA hP hD hS 0 (T := TX4) (N := 12) (ci := 4) rfl rfl [0, 1, 2, 3, 4, 5, 6, 7, 8, 9, 10, 11, 12] rfl (by decide) rfl rfl rfl rfl rfl rfl hl.1 (Nat.le_of_ble_eq_true rfl) dX4_parse_80 ⟨Nat.zero_le _, Nat.zero_le _⟩ (fun H locs hP hD hS => ?_)
          refine lv_aload_n hx hb dX4_parse_83 rfl (lv_at hl 4 rfl) ?_
          refine va_get (D := D) (ci := 4) (v := .int r1615.1.2.1) (C := RX4) (T := TX4) (N := 12) hx hb hts layX4 hown hK hP 0 rfl rfl 3 (by decide) (hts _ (inA q400)) (fun _ h9 => h9) rfl dX4_parse_84 ?_
          refine lv_sipush (v := 293) hx hb dX4_parse_87 (by decide) ?_
          refine lv_icmp_ne (tgt := 102) hx hb dX4_parse_90 (by decide) (fun c1616 => ?_) (fun c1616 => ?_)
          · replace hM := if_f c1616 hM
            refine lv_aload_n hx hb dX4_parse_102 rfl (lv_at hl 4 rfl) ?_
            refine lv_iload hx hb dX4_parse_103 (lv_at hl 0 rfl) ?_
            obtain ⟨r1617, hcr1617, hM⟩ := ob_use hM
            refine cl_V (As := [.int r1614.1]) (rest := []) (w_Parser_this_tokens_tree cI ad r1617.1 o_tokens_L51 r1617.2) [] ⟨hx, hb, hml, hown, hts⟩ (c_Parser_body l D cI sd ad r1615.1 o_tokens_L51 r1615.2 r1614.1 r1617 hcr1617) (cwV2 hts q703 mvX4_body rfl rfl ⟨(Nat.le_of_ble_eq_true rfl), (Nat.le_of_ble_eq_true rfl)⟩) hK hE hA hP hD hS 0 (T := TX4) (N := 12) (ci := 4) rfl rfl [0, 1, 2, 3, 4, 5, 6, 7, 8, 9, 10, 11, 12] rfl (by decide) rfl rfl rfl rfl rfl rfl hl.1 (Nat.le_of_ble_eq_true rfl) dX4_parse_105 ⟨Nat.zero_le _, Nat.zero_le _⟩ (fun H locs hP hD hS => ?_)
            refine lv_aload_n hx hb dX4_parse_108 rfl (lv_at hl 4 rfl) ?_
            refine lv_iload_n hx hb dX4_parse_109 rfl (lv_at hl 1 rfl) ?_
            obtain ⟨r1618, hcr1618, hM⟩ := ob_use hM
            refine cl_S (As := [.int o_this_L51.2.1]) (rest := [.ref (ad 22)]) (w_Parser_this_tokens_tree cI ad r1617.1 o_tokens_L51 r1617.2) (.int r1618 :: [.ref (ad 22)]) ⟨hx, hb, hml, hown, hts⟩ (c_Parser_endOfBlock l D cI sd ad o_this_L51.2.1 r1618 hcr1618) (cwS2 hts q790 mvX4_endOfBlock rfl rfl ⟨(Nat.le_of_ble_eq_true rfl), (Nat.le_of_ble_eq_true rfl)⟩) hK hE hA hP hD hS [] rfl (by decide) rfl rfl rfl rfl rfl rfl hl.1 (Nat.le_of_ble_eq_true rfl) dX4_parse_110 ⟨Nat.zero_le _, Nat.zero_le _⟩ (fun H locs hP hD hS => ?_)
            obtain ⟨r1619, hcr1619, hM⟩ := ob_use hM
            refine cl_V (As := [.int r1618]) (rest := []) (w_Parser_this_tokens_tree cI ad r1619 o_tokens_L51 r1617.2) [] ⟨hx, hb, hml, hown, hts⟩ (c_Parser_take l D cI sd ad r1617.1 o_tokens_L51 r1618 r1619 hcr1619) (cwV2 hts q614 mvX4_take rfl rfl ⟨(Nat.le_of_ble_eq_true rfl), (Nat.le_of_ble_eq_true rfl)⟩) hK hE hA hP hD hS 0 (T := TX4) (N := 12) (ci := 4) rfl rfl [0, 1, 2, 3, 4] rfl (by decide) rfl rfl rfl rfl rfl rfl hl.1 (Nat.le_of_ble_eq_true rfl) dX4_parse_113 ⟨Nat.zero_le _, Nat.zero_le _⟩ (fun H locs hP hD hS => ?_)
            obtain ⟨x1620, ex1620⟩ : ∃ y : Int32, y = v2_L51 + 1 := ⟨_, rfl⟩
            replace hM := nm_use ex1620 hM
            refine lv_iinc (v := x1620) (lv' := [(2, .int x1620), (4, .int r1614.1), (3, .int o_this_L51.2.1), (1, .int w1_L51), (0, .ref (ad 22))]) hx hb dX4_parse_116 hl (k := 2) rfl (by rw [ex1620]; rfl) (by decide) rfl (fun ls hl => ?_)
            refine lv_goto (tgt := 51) hx hb dX4_parse_119 (by decide) ?_
            exact ih_L51 x1620 r1619 r1617.2 out_L51 _ _ _ hM hP hD hS (lv_sub hl [0, 3, 4] rfl) kx_L51
          · replace hM := if_t c1616 hM
            refine lv_aload_n hx hb dX4_parse_93 rfl (lv_at hl 4 rfl) ?_
            refine lv_iload hx hb dX4_parse_94 (lv_at hl 0 rfl) ?_
            obtain ⟨r1621, hcr1621, hM⟩ := ob_use hM
            refine cl_V (As := [.int r1614.1]) (rest := []) (w_Parser_this_tokens_tree cI ad r1621.1 o_tokens_L51 r1621.2) [] ⟨hx, hb, hml, hown, hts⟩ (c_Parser_ladder l D cI sd ad r1615.1 o_tokens_L51 r1615.2 r1614.1 r1621 hcr1621) (cwV2 hts q673 mvX4_ladder rfl rfl ⟨(Nat.le_of_ble_eq_true rfl), (Nat.le_of_ble_eq_true rfl)⟩) hK hE hA hP hD hS 0 (T := TX4) (N := 12) (ci := 4) rfl rfl [0, 1, 2, 3, 4, 5, 6, 7, 8, 9, 10, 11, 12] rfl (by decide) rfl rfl rfl rfl rfl rfl hl.1 (Nat.le_of_ble_eq_true rfl) dX4_parse_96 ⟨Nat.zero_le _, Nat.zero_le _⟩ (fun H locs hP hD hS => ?_)
            refine lv_goto (tgt := 108) hx hb dX4_parse_99 (by decide) ?_
            refine lv_aload_n hx hb dX4_parse_108 rfl (lv_at hl 4 rfl) ?_
            refine lv_iload_n hx hb dX4_parse_109 rfl (lv_at hl 1 rfl) ?_
            obtain ⟨r1622, hcr1622, hM⟩ := ob_use hM
            refine cl_S (As := [.int o_this_L51.2.1]) (rest := [.ref (ad 22)]) (w_Parser_this_tokens_tree cI ad r1621.1 o_tokens_L51 r1621.2) (.int r1622 :: [.ref (ad 22)]) ⟨hx, hb, hml, hown, hts⟩ (c_Parser_endOfBlock l D cI sd ad o_this_L51.2.1 r1622 hcr1622) (cwS2 hts q790 mvX4_endOfBlock rfl rfl ⟨(Nat.le_of_ble_eq_true rfl), (Nat.le_of_ble_eq_true rfl)⟩) hK hE hA hP hD hS [] rfl (by decide) rfl rfl rfl rfl rfl rfl hl.1 (Nat.le_of_ble_eq_true rfl) dX4_parse_110 ⟨Nat.zero_le _, Nat.zero_le _⟩ (fun H locs hP hD hS => ?_)
            obtain ⟨r1623, hcr1623, hM⟩ := ob_use hM
            refine cl_V (As := [.int r1622]) (rest := []) (w_Parser_this_tokens_tree cI ad r1623 o_tokens_L51 r1621.2) [] ⟨hx, hb, hml, hown, hts⟩ (c_Parser_take l D cI sd ad r1621.1 o_tokens_L51 r1622 r1623 hcr1623) (cwV2 hts q614 mvX4_take rfl rfl ⟨(Nat.le_of_ble_eq_true rfl), (Nat.le_of_ble_eq_true rfl)⟩) hK hE hA hP hD hS 0 (T := TX4) (N := 12) (ci := 4) rfl rfl [0, 1, 2, 3, 4] rfl (by decide) rfl rfl rfl rfl rfl rfl hl.1 (Nat.le_of_ble_eq_true rfl) dX4_parse_113 ⟨Nat.zero_le _, Nat.zero_le _⟩ (fun H locs hP hD hS => ?_)
            obtain ⟨x1624, ex1624⟩ : ∃ y : Int32, y = v2_L51 + 1 := ⟨_, rfl⟩
            replace hM := nm_use ex1624 hM
            refine lv_iinc (v := x1624) (lv' := [(2, .int x1624), (4, .int r1614.1), (3, .int o_this_L51.2.1), (1, .int w1_L51), (0, .ref (ad 22))]) hx hb dX4_parse_116 hl (k := 2) rfl (by rw [ex1624]; rfl) (by decide) rfl (fun ls hl => ?_)
            refine lv_goto (tgt := 51) hx hb dX4_parse_119 (by decide) ?_
            exact ih_L51 x1624 r1623 r1621.2 out_L51 _ _ _ hM hP hD hS (lv_sub hl [0, 3, 4] rfl) kx_L51
  obtain ⟨r4, hcr4, hM⟩ := ob_use hM
  refine lp_L51 r3.1 o_tokens FU 0 r1 r3.2 r4 _ _ _ hcr4 hP hD hS (lv_sub hl [0, 1, 2] rfl) (fun H locs ls hP hD hS hl => ?_)
  refine lv_aload_n hx hb dX4_parse_122 rfl (lv_at hl 1 rfl) ?_
  refine lv_iconst (v := 4) hx hb dX4_parse_123 (by decide) ?_
  obtain ⟨r5, hcr5, hM⟩ := ob_use hM
  refine cl_V (As := [.int 4]) (rest := []) (w_Parser_this_tokens_tree cI ad r5 o_tokens r4.2) [] ⟨hx, hb, hml, hown, hts⟩ (c_Parser_take l D cI sd ad r4.1 o_tokens 4 r5 hcr5) (cwV2 hts q614 mvX4_take rfl rfl ⟨(Nat.le_of_ble_eq_true rfl), (Nat.le_of_ble_eq_true rfl)⟩) hK hE hA hP hD hS 0 (T := TX4) (N := 12) (ci := 4) rfl rfl [0, 1, 2, 3, 4] rfl (by decide) rfl rfl rfl rfl rfl rfl hl.1 (Nat.le_of_ble_eq_true rfl) dX4_parse_124 ⟨Nat.zero_le _, Nat.zero_le _⟩ (fun H locs hP hD hS => ?_)
  refine lv_aload_n hx hb dX4_parse_127 rfl (lv_at hl 1 rfl) ?_
  obtain ⟨r6, hcr6, hM⟩ := ob_use hM
  refine cl_V (As := []) (rest := []) (w_Parser_this_tokens_tree cI ad r6 o_tokens r4.2) [] ⟨hx, hb, hml, hown, hts⟩ (c_Parser_tellFault l D cI sd ad r5 o_tokens r6 hcr6) (cwV2 hts q793 mvX4_tellFault rfl rfl ⟨(Nat.le_of_ble_eq_true rfl), (Nat.le_of_ble_eq_true rfl)⟩) hK hE hA hP hD hS 0 (T := TX4) (N := 12) (ci := 4) rfl rfl [0, 1, 2, 3, 4] rfl (by decide) rfl rfl rfl rfl rfl rfl hl.1 (Nat.le_of_ble_eq_true rfl) dX4_parse_128 ⟨Nat.zero_le _, Nat.zero_le _⟩ (fun H locs hP hD hS => ?_)
  cases hM
  exact rt_v hx hb hr hlk hP hD hS rfl dX4_parse_131
