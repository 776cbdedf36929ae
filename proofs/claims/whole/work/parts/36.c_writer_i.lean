set_option maxHeartbeats 4000000 in
set_option maxRecDepth 100000 in
theorem c_Writer_separate (l : Launch) (D : va_G) (cI : ClassId) (sd : Nat → Nat) (ad : Nat → Nat) (o_tree : S_Tree) (o_names : S_Names) (o_out : S_Bytes) (a1 : Int32) (res : S_Bytes) (hM : f_Writer_separate o_tree o_names o_out a1 = some res) : Ctr l D cI sd yX5_separate (wsM yX5_separate cX5_separate 5 (Option.none : Option Jvm.ClassFile.FieldType)) { frames := 4, cells := 0, slots := 0, locals := 85 } [.ref (ad 23), .int a1] (w_Writer_this_tree_names_out cI ad o_tree o_names o_out) (w_Writer_this_tree_names_out cI ad o_tree o_names res) none := by
  refine Ctr.of (cc := cX5_separate) (maxL := 5) (own := RX5) (by decide +kernel) rfl rfl (Nat.le_of_ble_eq_true rfl) ?_
  intro p e s m below meth c A ls hx hb hr hml hown hts hlk hK hE hA hP hD hS hl
  have hl : lv_has ls 5 [(0, .ref (ad 23)), (1, .int a1)] := hl
  unfold f_Writer_separate at hM
  refine lv_aload_n hx hb dX5_separate_0 rfl (lv_at hl 0 rfl) ?_
  refine va_get (D := D) (ci := 5) (v := .ref (ad 14)) (C := RX5) (T := TX5) (N := 3) hx hb hts layX5 hown hK hP 0 rfl rfl 0 (by decide) (hts _ (inA q442)) (fun _ h9 => h9) rfl dX5_separate_1 ?_
  refine lv_iload_n hx hb dX5_separate_4 rfl (lv_at hl 1 rfl) ?_
  obtain ⟨r1, hcr1, hM⟩ := ob_use hM
  refine cl_V (As := [.int a1]) (rest := []) (w_Writer_this_tree_names_out cI ad o_tree o_names o_out) (.int r1 :: []) ⟨hx, hb, hml, hown, hts⟩ (c_Tree_rank l D cI sd ad o_tree a1 r1 hcr1) (cwV2 hts q894 mvX3_rank rfl rfl ⟨(Nat.le_of_ble_eq_true rfl), (Nat.le_of_ble_eq_true rfl)⟩) hK hE hA hP hD hS 1 (T := TX3) (N := 8) (ci := 3) rfl rfl [1, 2, 3, 4, 5, 6, 7, 8] rfl (by decide) rfl rfl rfl rfl rfl rfl hl.1 (Nat.le_of_ble_eq_true rfl) dX5_separate_5 ⟨Nat.zero_le _, Nat.zero_le _⟩ (fun H locs hP hD hS => ?_)
  refine lv_istore_n (lv' := [(2, .int r1), (0, .ref (ad 23)), (1, .int a1)]) hx hb dX5_separate_8 rfl hl (by decide) rfl (fun ls hl => ?_)
  refine lv_aload_n hx hb dX5_separate_9 rfl (lv_at hl 1 rfl) ?_
  refine va_get (D := D) (ci := 5) (v := .ref (ad 14)) (C := RX5) (T := TX5) (N := 3) hx hb hts layX5 hown hK hP 0 rfl rfl 0 (by decide) (hts _ (inA q442)) (fun _ h9 => h9) rfl dX5_separate_10 ?_
  refine lv_iload_n hx hb dX5_separate_13 rfl (lv_at hl 2 rfl) ?_
  obtain ⟨r2, hcr2, hM⟩ := ob_use hM
  refine cl_V (As := [.int a1]) (rest := []) (w_Writer_this_tree_names_out cI ad o_tree o_names o_out) (.int r2 :: []) ⟨hx, hb, hml, hown, hts⟩ (c_Tree_parent l D cI sd ad o_tree a1 r2 hcr2) (cwV2 hts q861 mvX3_parent rfl rfl ⟨(Nat.le_of_ble_eq_true rfl), (Nat.le_of_ble_eq_true rfl)⟩) hK hE hA hP hD hS 1 (T := TX3) (N := 8) (ci := 3) rfl rfl [1, 2, 3, 4, 5, 6, 7, 8] rfl (by decide) rfl rfl rfl rfl rfl rfl hl.1 (Nat.le_of_ble_eq_true rfl) dX5_separate_14 ⟨Nat.zero_le _, Nat.zero_le _⟩ (fun H locs hP hD hS => ?_)
  refine lv_istore_n (lv' := [(3, .int r2), (2, .int r1), (0, .ref (ad 23)), (1, .int a1)]) hx hb dX5_separate_17 rfl hl (by decide) rfl (fun ls hl => ?_)
  refine lv_aload_n hx hb dX5_separate_18 rfl (lv_at hl 2 rfl) ?_
  refine va_get (D := D) (ci := 5) (v := .ref (ad 14)) (C := RX5) (T := TX5) (N := 3) hx hb hts layX5 hown hK hP 0 rfl rfl 0 (by decide) (hts _ (inA q442)) (fun _ h9 => h9) rfl dX5_separate_19 ?_
  refine lv_iload_n hx hb dX5_separate_22 rfl (lv_at hl 0 rfl) ?_
  obtain ⟨r3, hcr3, hM⟩ := ob_use hM
  refine cl_V (As := [.int r2]) (rest := []) (w_Writer_this_tree_names_out cI ad o_tree o_names o_out) (.int r3 :: []) ⟨hx, hb, hml, hown, hts⟩ (c_Tree_kind l D cI sd ad o_tree r2 r3 hcr3) (cwV2 hts q870 mvX3_kind rfl rfl ⟨(Nat.le_of_ble_eq_true rfl), (Nat.le_of_ble_eq_true rfl)⟩) hK hE hA hP hD hS 1 (T := TX3) (N := 8) (ci := 3) rfl rfl [1, 2, 3, 4, 5, 6, 7, 8] rfl (by decide) rfl rfl rfl rfl rfl rfl hl.1 (Nat.le_of_ble_eq_true rfl) dX5_separate_23 ⟨Nat.zero_le _, Nat.zero_le _⟩ (fun H locs hP hD hS => ?_)
  refine lv_istore (lv' := [(4, .int r3), (3, .int r2), (2, .int r1), (0, .ref (ad 23)), (1, .int a1)]) hx hb dX5_separate_26 hl (by decide) rfl (fun ls hl => ?_)
  refine lv_iload hx hb dX5_separate_28 (lv_at hl 0 rfl) ?_
  refine lv_bipush (v := 9) hx hb dX5_separate_30 (by decide) ?_
  refine lv_icmp_ne (tgt := 46) hx hb dX5_separate_32 (by decide) (fun c4 => ?_) (fun c4 => ?_)
  · replace hM := if_f c4 hM
    refine lv_iload hx hb dX5_separate_46 (lv_at hl 0 rfl) ?_
    refine lv_bipush (v := 16) hx hb dX5_separate_48 (by decide) ?_
    refine lv_icmp_ne (tgt := 65) hx hb dX5_separate_50 (by decide) (fun c5 => ?_) (fun c5 => ?_)
    · replace hM := if_f c5 hM
      refine lv_iload hx hb dX5_separate_65 (lv_at hl 0 rfl) ?_
      refine lv_bipush (v := 35) hx hb dX5_separate_67 (by decide) ?_
      refine lv_icmp_ne (tgt := 92) hx hb dX5_separate_69 (by decide) (fun c6 => ?_) (fun c6 => ?_)
      · replace hM := if_f c6 hM
        refine lv_aload_n hx hb dX5_separate_92 rfl (lv_at hl 3 rfl) ?_
        refine lv_iload hx hb dX5_separate_93 (lv_at hl 0 rfl) ?_
        refine lv_aload_n hx hb dX5_separate_95 rfl (lv_at hl 3 rfl) ?_
        refine va_get (D := D) (ci := 5) (v := .ref (ad 14)) (C := RX5) (T := TX5) (N := 3) hx hb hts layX5 hown hK hP 0 rfl rfl 0 (by decide) (hts _ (inA q442)) (fun _ h9 => h9) rfl dX5_separate_96 ?_
        refine lv_iload_n hx hb dX5_separate_99 rfl (lv_at hl 4 rfl) ?_
        obtain ⟨r7, hcr7, hM⟩ := ob_use hM
        refine cl_V (As := [.int a1]) (rest := [.int r3, .ref (ad 23)]) (w_Writer_this_tree_names_out cI ad o_tree o_names o_out) (.int r7 :: [.int r3, .ref (ad 23)]) ⟨hx, hb, hml, hown, hts⟩ (c_Tree_kind l D cI sd ad o_tree a1 r7 hcr7) (cwV2 hts q870 mvX3_kind rfl rfl ⟨(Nat.le_of_ble_eq_true rfl), (Nat.le_of_ble_eq_true rfl)⟩) hK hE hA hP hD hS 1 (T := TX3) (N := 8) (ci := 3) rfl rfl [1, 2, 3, 4, 5, 6, 7, 8] rfl (by decide) rfl rfl rfl rfl rfl rfl hl.1 (Nat.le_of_ble_eq_true rfl) dX5_separate_100 ⟨Nat.zero_le _, Nat.zero_le _⟩ (fun H locs hP hD hS => ?_)
        refine lv_iload_n hx hb dX5_separate_103 rfl (lv_at hl 2 rfl) ?_
        obtain ⟨r8, hcr8, hM⟩ := ob_use hM
        refine cl_S (As := [.int r3, .int r7, .int r1]) (rest := [.ref (ad 23)]) (w_Writer_this_tree_names_out cI ad o_tree o_names o_out) (.int r8 :: [.ref (ad 23)]) ⟨hx, hb, hml, hown, hts⟩ (c_Writer_separator l D cI sd ad r3 r7 r1 r8 hcr8) (cwS2 hts q913 mvX5_separator rfl rfl ⟨(Nat.le_of_ble_eq_true rfl), (Nat.le_of_ble_eq_true rfl)⟩) hK hE hA hP hD hS [] rfl (by decide) rfl rfl rfl rfl rfl rfl hl.1 (Nat.le_of_ble_eq_true rfl) dX5_separate_104 ⟨Nat.zero_le _, Nat.zero_le _⟩ (fun H locs hP hD hS => ?_)
        obtain ⟨r9, hcr9, hM⟩ := ob_use hM
        refine cl_V (As := [.int r8]) (rest := []) (w_Writer_this_tree_names_out cI ad o_tree o_names r9) [] ⟨hx, hb, hml, hown, hts⟩ (c_Writer_token l D cI sd ad o_names o_out r8 r9 hcr9) (cwV2 hts q872 mvX5_token rfl rfl ⟨(Nat.le_of_ble_eq_true rfl), (Nat.le_of_ble_eq_true rfl)⟩) hK hE hA hP hD hS 0 (T := TX5) (N := 3) (ci := 5) rfl rfl [0, 9, 10, 11, 12, 13, 14, 15] rfl (by decide) rfl rfl rfl rfl rfl rfl hl.1 (Nat.le_of_ble_eq_true rfl) dX5_separate_107 ⟨Nat.zero_le _, Nat.zero_le _⟩ (fun H locs hP hD hS => ?_)
        cases hM
        exact rt_v hx hb hr hlk hP hD hS rfl dX5_separate_110
      · replace hM := if_t c6 hM
        refine lv_iload_n hx hb dX5_separate_72 rfl (lv_at hl 2 rfl) ?_
        refine lv_iconst (v := 1) hx hb dX5_separate_73 (by decide) ?_
        refine lv_icmp_ne (tgt := 92) hx hb dX5_separate_74 (by decide) (fun c10 => ?_) (fun c10 => ?_)
        · replace hM := if_f c10 hM
          refine lv_aload_n hx hb dX5_separate_92 rfl (lv_at hl 3 rfl) ?_
          refine lv_iload hx hb dX5_separate_93 (lv_at hl 0 rfl) ?_
          refine lv_aload_n hx hb dX5_separate_95 rfl (lv_at hl 3 rfl) ?_
          refine va_get (D := D) (ci := 5) (v := .ref (ad 14)) (C := RX5) (T := TX5) (N := 3) hx hb hts layX5 hown hK hP 0 rfl rfl 0 (by decide) (hts _ (inA q442)) (fun _ h9 => h9) rfl dX5_separate_96 ?_
          refine lv_iload_n hx hb dX5_separate_99 rfl (lv_at hl 4 rfl) ?_
          obtain ⟨r11, hcr11, hM⟩ := ob_use hM
          refine cl_V (As := [.int a1]) (rest := [.int r3, .ref (ad 23)]) (w_Writer_this_tree_names_out cI ad o_tree o_names o_out) (.int r11 :: [.int r3, .ref (ad 23)]) ⟨hx, hb, hml, hown, hts⟩ (c_Tree_kind l D cI sd ad o_tree a1 r11 hcr11) (cwV2 hts q870 mvX3_kind rfl rfl ⟨(Nat.le_of_ble_eq_true rfl), (Nat.le_of_ble_eq_true rfl)⟩) hK hE hA hP hD hS 1 (T := TX3) (N := 8) (ci := 3) rfl rfl [1, 2, 3, 4, 5, 6, 7, 8] rfl (by decide) rfl rfl rfl rfl rfl rfl hl.1 (Nat.le_of_ble_eq_true rfl) dX5_separate_100 ⟨Nat.zero_le _, Nat.zero_le _⟩ (fun H locs hP hD hS => ?_)
          refine lv_iload_n hx hb dX5_separate_103 rfl (lv_at hl 2 rfl) ?_
          obtain ⟨r12, hcr12, hM⟩ := ob_use hM
          refine cl_S (As := [.int r3, .int r11, .int r1]) (rest := [.ref (ad 23)]) (w_Writer_this_tree_names_out cI ad o_tree o_names o_out) (.int r12 :: [.ref (ad 23)]) ⟨hx, hb, hml, hown, hts⟩ (c_Writer_separator l D cI sd ad r3 r11 r1 r12 hcr12) (cwS2 hts q913 mvX5_separator rfl rfl ⟨(Nat.le_of_ble_eq_true rfl), (Nat.le_of_ble_eq_true rfl)⟩) hK hE hA hP hD hS [] rfl (by decide) rfl rfl rfl rfl rfl rfl hl.1 (Nat.le_of_ble_eq_true rfl) dX5_separate_104 ⟨Nat.zero_le _, Nat.zero_le _⟩ (fun H locs hP hD hS => ?_)
          obtain ⟨r13, hcr13, hM⟩ := ob_use hM
          refine cl_V (As := [.int r12]) (rest := []) (w_Writer_this_tree_names_out cI ad o_tree o_names r13) [] ⟨hx, hb, hml, hown, hts⟩ (c_Writer_token l D cI sd ad o_names o_out r12 r13 hcr13) (cwV2 hts q872 mvX5_token rfl rfl ⟨(Nat.le_of_ble_eq_true rfl), (Nat.le_of_ble_eq_true rfl)⟩) hK hE hA hP hD hS 0 (T := TX5) (N := 3) (ci := 5) rfl rfl [0, 9, 10, 11, 12, 13, 14, 15] rfl (by decide) rfl rfl rfl rfl rfl rfl hl.1 (Nat.le_of_ble_eq_true rfl) dX5_separate_107 ⟨Nat.zero_le _, Nat.zero_le _⟩ (fun H locs hP hD hS => ?_)
          cases hM
          exact rt_v hx hb hr hlk hP hD hS rfl dX5_separate_110
        · replace hM := if_t c10 hM
          refine lv_aload_n hx hb dX5_separate_77 rfl (lv_at hl 3 rfl) ?_
          refine lv_aload_n hx hb dX5_separate_78 rfl (lv_at hl 3 rfl) ?_
          refine va_get (D := D) (ci := 5) (v := .ref (ad 14)) (C := RX5) (T := TX5) (N := 3) hx hb hts layX5 hown hK hP 0 rfl rfl 0 (by decide) (hts _ (inA q442)) (fun _ h9 => h9) rfl dX5_separate_79 ?_
          refine lv_iload_n hx hb dX5_separate_82 rfl (lv_at hl 1 rfl) ?_
          obtain ⟨r14, hcr14, hM⟩ := ob_use hM
          refine cl_V (As := [.int r2]) (rest := [.ref (ad 23)]) (w_Writer_this_tree_names_out cI ad o_tree o_names o_out) (.int r14 :: [.ref (ad 23)]) ⟨hx, hb, hml, hown, hts⟩ (c_Tree_value l D cI sd ad o_tree r2 r14 hcr14) (cwV2 hts q892 mvX3_value rfl rfl ⟨(Nat.le_of_ble_eq_true rfl), (Nat.le_of_ble_eq_true rfl)⟩) hK hE hA hP hD hS 1 (T := TX3) (N := 8) (ci := 3) rfl rfl [1, 2, 3, 4, 5, 6, 7, 8] rfl (by decide) rfl rfl rfl rfl rfl rfl hl.1 (Nat.le_of_ble_eq_true rfl) dX5_separate_83 ⟨Nat.zero_le _, Nat.zero_le _⟩ (fun H locs hP hD hS => ?_)
          obtain ⟨r15, hcr15, hM⟩ := ob_use hM
          refine cl_S (As := [.int r14]) (rest := [.ref (ad 23)]) (w_Writer_this_tree_names_out cI ad o_tree o_names o_out) (.int r15 :: [.ref (ad 23)]) ⟨hx, hb, hml, hown, hts⟩ (c_Sign_between l D cI sd ad r14 r15 hcr15) (cwS2 hts q908 mvX7_between rfl rfl ⟨(Nat.le_of_ble_eq_true rfl), (Nat.le_of_ble_eq_true rfl)⟩) hK hE hA hP hD hS [] rfl (by decide) rfl rfl rfl rfl rfl rfl hl.1 (Nat.le_of_ble_eq_true rfl) dX5_separate_86 ⟨Nat.zero_le _, Nat.zero_le _⟩ (fun H locs hP hD hS => ?_)
          obtain ⟨r16, hcr16, hM⟩ := ob_use hM
          refine cl_V (As := [.int r15]) (rest := []) (w_Writer_this_tree_names_out cI ad o_tree o_names r16) [] ⟨hx, hb, hml, hown, hts⟩ (c_Writer_token l D cI sd ad o_names o_out r15 r16 hcr16) (cwV2 hts q872 mvX5_token rfl rfl ⟨(Nat.le_of_ble_eq_true rfl), (Nat.le_of_ble_eq_true rfl)⟩) hK hE hA hP hD hS 0 (T := TX5) (N := 3) (ci := 5) rfl rfl [0, 9, 10, 11, 12, 13, 14, 15] rfl (by decide) rfl rfl rfl rfl rfl rfl hl.1 (Nat.le_of_ble_eq_true rfl) dX5_separate_89 ⟨Nat.zero_le _, Nat.zero_le _⟩ (fun H locs hP hD hS => ?_)
          refine lv_aload_n hx hb dX5_separate_92 rfl (lv_at hl 3 rfl) ?_
          refine lv_iload hx hb dX5_separate_93 (lv_at hl 0 rfl) ?_
          refine lv_aload_n hx hb dX5_separate_95 rfl (lv_at hl 3 rfl) ?_
          refine va_get (D := D) (ci := 5) (v := .ref (ad 14)) (C := RX5) (T := TX5) (N := 3) hx hb hts layX5 hown hK hP 0 rfl rfl 0 (by decide) (hts _ (inA q442)) (fun _ h9 => h9) rfl dX5_separate_96 ?_
          refine lv_iload_n hx hb dX5_separate_99 rfl (lv_at hl 4 rfl) ?_
          obtain ⟨r17, hcr17, hM⟩ := ob_use hM
          refine cl_V (As := [.int a1]) (rest := [.int r3, .ref (ad 23)]) (w_Writer_this_tree_names_out cI ad o_tree o_names r16) (.int r17 :: [.int r3, .ref (ad 23)]) ⟨hx, hb, hml, hown, hts⟩ (c_Tree_kind l D cI sd ad o_tree a1 r17 hcr17) (cwV2 hts q870 mvX3_kind rfl rfl ⟨(Nat.le_of_ble_eq_true rfl), (Nat.le_of_ble_eq_true rfl)⟩) hK hE hA hP hD hS 1 (T := TX3) (N := 8) (ci := 3) rfl rfl [1, 2, 3, 4, 5, 6, 7, 8] rfl (by decide) rfl rfl rfl rfl rfl rfl hl.1 (Nat.le_of_ble_eq_true rfl) dX5_separate_100 ⟨Nat.zero_le _, Nat.zero_le _⟩ (fun H locs hP hD hS => ?_)
          refine lv_iload_n hx hb dX5_separate_103 rfl (lv_at hl 2 rfl) ?_
          obtain ⟨r18, hcr18, hM⟩ := ob_use hM
          refine cl_S (As := [.int r3, .int r17, .int r1]) (rest := [.ref (ad 23)]) (w_Writer_this_tree_names_out cI ad o_tree o_names r16) (.int r18 :: [.ref (ad 23)]) ⟨hx, hb, hml, hown, hts⟩ (c_Writer_separator l D cI sd ad r3 r17 r1 r18 hcr18) (cwS2 hts q913 mvX5_separator rfl rfl ⟨(Nat.le_of_ble_eq_true rfl), (Nat.le_of_ble_eq_true rfl)⟩) hK hE hA hP hD hS [] rfl (by decide) rfl rfl rfl rfl rfl rfl hl.1 (Nat.le_of_ble_eq_true rfl) dX5_separate_104 ⟨Nat.zero_le _, Nat.zero_le _⟩ (fun H locs hP hD hS => ?_)
          obtain ⟨r19, hcr19, hM⟩ := ob_use hM
          refine cl_V (As := [.int r18]) (rest := []) (w_Writer_this_tree_names_out cI ad o_tree o_names r19) [] ⟨hx, hb, hml, hown, hts⟩ (c_Writer_token l D cI sd ad o_names r16 r18 r19 hcr19) (cwV2 hts q872 mvX5_token rfl rfl ⟨(Nat.le_of_ble_eq_true rfl), (Nat.le_of_ble_eq_true rfl)⟩) hK hE hA hP hD hS 0 (T := TX5) (N := 3) (ci := 5) rfl rfl [0, 9, 10, 11, 12, 13, 14, 15] rfl (by decide) rfl rfl rfl rfl rfl rfl hl.1 (Nat.le_of_ble_eq_true rfl) dX5_separate_107 ⟨Nat.zero_le _, Nat.zero_le _⟩ (fun H locs hP hD hS => ?_)
          cases hM
          exact rt_v hx hb hr hlk hP hD hS rfl dX5_separate_110
    · replace hM := if_t c5 hM
      refine lv_iload_n hx hb dX5_separate_53 rfl (lv_at hl 2 rfl) ?_
      refine lv_iconst (v := 1) hx hb dX5_separate_54 (by decide) ?_
      refine lv_icmp_ne (tgt := 65) hx hb dX5_separate_55 (by decide) (fun c20 => ?_) (fun c20 => ?_)
      · replace hM := if_f c20 hM
        refine lv_iload hx hb dX5_separate_65 (lv_at hl 0 rfl) ?_
        refine lv_bipush (v := 35) hx hb dX5_separate_67 (by decide) ?_
        refine lv_icmp_ne (tgt := 92) hx hb dX5_separate_69 (by decide) (fun c21 => ?_) (fun c21 => ?_)
        · replace hM := if_f c21 hM
          refine lv_aload_n hx hb dX5_separate_92 rfl (lv_at hl 3 rfl) ?_
          refine lv_iload hx hb dX5_separate_93 (lv_at hl 0 rfl) ?_
          refine lv_aload_n hx hb dX5_separate_95 rfl (lv_at hl 3 rfl) ?_
          refine va_get (D := D) (ci := 5) (v := .ref (ad 14)) (C := RX5) (T := TX5) (N := 3) hx hb hts layX5 hown hK hP 0 rfl rfl 0 (by decide) (hts _ (inA q442)) (fun _ h9 => h9) rfl dX5_separate_96 ?_
          refine lv_iload_n hx hb dX5_separate_99 rfl (lv_at hl 4 rfl) ?_
          obtain ⟨r22, hcr22, hM⟩ := ob_use hM
          refine cl_V (As := [.int a1]) (rest := [.int r3, .ref (ad 23)]) (w_Writer_this_tree_names_out cI ad o_tree o_names o_out) (.int r22 :: [.int r3, .ref (ad 23)]) ⟨hx, hb, hml, hown, hts⟩ (c_Tree_kind l D cI sd ad o_tree a1 r22 hcr22) (cwV2 hts q870 mvX3_kind rfl rfl ⟨(Nat.le_of_ble_eq_true rfl), (Nat.le_of_ble_eq_true rfl)⟩) hK hE hA hP hD hS 1 (T := TX3) (N := 8) (ci := 3) rfl rfl [1, 2, 3, 4, 5, 6, 7, 8] rfl (by decide) rfl rfl rfl rfl rfl rfl hl.1 (Nat.le_of_ble_eq_true rfl) dX5_separate_100 ⟨Nat.zero_le _, Nat.zero_le _⟩ (fun H locs hP hD hS => ?_)
          refine lv_iload_n hx hb dX5_separate_103 rfl (lv_at hl 2 rfl) ?_
          obtain ⟨r23, hcr23, hM⟩ := ob_use hM
          refine cl_S (As := [.int r3, .int r22, .int r1]) (rest := [.ref (ad 23)]) (w_Writer_this_tree_names_out cI ad o_tree o_names o_out) (.int r23 :: [.ref (ad 23)]) ⟨hx, hb, hml, hown, hts⟩ (c_Writer_separator l D cI sd ad r3 r22 r1 r23 hcr23) (cwS2 hts q913 mvX5_separator rfl rfl ⟨(Nat.le_of_ble_eq_true rfl), (Nat.le_of_ble_eq_true rfl)⟩) hK hE hA hP hD hS [] rfl (by decide) rfl rfl rfl rfl rfl rfl hl.1 (Nat.le_of_ble_eq_true rfl) dX5_separate_104 ⟨Nat.zero_le _, Nat.zero_le _⟩ (fun H locs hP hD hS => ?_)
          obtain ⟨r24, hcr24, hM⟩ := ob_use hM
          refine cl_V (As := [.int r23]) (rest := []) (w_Writer_this_tree_names_out cI ad o_tree o_names r24) [] ⟨hx, hb, hml, hown, hts⟩ (c_Writer_token l D cI sd ad o_names o_out r23 r24 hcr24) (cwV2 hts q872 mvX5_token rfl rfl ⟨(Nat.le_of_ble_eq_true rfl), (Nat.le_of_ble_eq_true rfl)⟩) hK hE hA hP hD hS 0 (T := TX5) (N := 3) (ci := 5) rfl rfl [0, 9, 10, 11, 12, 13, 14, 15] rfl (by decide) rfl rfl rfl rfl rfl rfl hl.1 (Nat.le_of_ble_eq_true rfl) dX5_separate_107 ⟨Nat.zero_le _, Nat.zero_le _⟩ (fun H locs hP hD hS => ?_)
          cases hM
          exact rt_v hx hb hr hlk hP hD hS rfl dX5_separate_110
        · replace hM := if_t c21 hM
          refine lv_iload_n hx hb dX5_separate_72 rfl (lv_at hl 2 rfl) ?_
          refine lv_iconst (v := 1) hx hb dX5_separate_73 (by decide) ?_
          refine lv_icmp_ne (tgt := 92) hx hb dX5_separate_74 (by decide) (fun c25 => ?_) (fun c25 => ?_)
          · replace hM := if_f c25 hM
            refine lv_aload_n hx hb dX5_separate_92 rfl (lv_at hl 3 rfl) ?_
            refine lv_iload hx hb dX5_separate_93 (lv_at hl 0 rfl) ?_
            refine lv_aload_n hx hb dX5_separate_95 rfl (lv_at hl 3 rfl) ?_
            refine va_get (D := D) (ci := 5) (v := .ref (ad 14)) (C := RX5) (T := TX5) (N := 3) hx hb hts layX5 hown hK hP 0 rfl rfl 0 (by decide) (hts _ (inA q442)) (fun _ h9 => h9) rfl dX5_separate_96 ?_
            refine lv_iload_n hx hb dX5_separate_99 rfl (lv_at hl 4 rfl) ?_
            obtain ⟨r26, hcr26, hM⟩ := ob_use hM
            refine cl_V (As := [.int a1]) (rest := [.int r3, .ref (ad 23)]) (w_Writer_this_tree_names_out cI ad o_tree o_names o_out) (.int r26 :: [.int r3, .ref (ad 23)]) ⟨hx, hb, hml, hown, hts⟩ (c_Tree_kind l D cI sd ad o_tree a1 r26 hcr26) (cwV2 hts q870 mvX3_kind rfl rfl ⟨(Nat.le_of_ble_eq_true rfl), (Nat.le_of_ble_eq_true rfl)⟩) hK hE hA hP hD hS 1 (T := TX3) (N := 8) (ci := 3) rfl rfl [1, 2, 3, 4, 5, 6, 7, 8] rfl (by decide) rfl rfl rfl rfl rfl rfl hl.1 (Nat.le_of_ble_eq_true rfl) dX5_separate_100 ⟨Nat.zero_le _, Nat.zero_le _⟩ (fun H locs hP hD hS => ?_)
            refine lv_iload_n hx hb dX5_separate_103 rfl (lv_at hl 2 rfl) ?_
            obtain ⟨r27, hcr27, hM⟩ := ob_use hM
            refine cl_S (As := [.int r3, .int r26, .int r1]) (rest := [.ref (ad 23)]) (w_Writer_this_tree_names_out cI ad o_tree o_names o_out) (.int r27 :: [.ref (ad 23)]) ⟨hx, hb, hml, hown, hts⟩ (c_Writer_separator l D cI sd ad r3 r26 r1 r27 hcr27) (cwS2 hts q913 mvX5_separator rfl rfl ⟨(Nat.le_of_ble_eq_true rfl), (Nat.le_of_ble_eq_true rfl)⟩) hK hE hA hP hD hS [] rfl (by decide) rfl rfl rfl rfl rfl rfl hl.1 (Nat.le_of_ble_eq_true rfl) dX5_separate_104 ⟨Nat.zero_le _, Nat.zero_le _⟩ (fun H locs hP hD hS => ?_)
            obtain ⟨r28, hcr28, hM⟩ := ob_use hM
            refine cl_V (As := [.int r27]) (rest := []) (w_Writer_this_tree_names_out cI ad o_tree o_names r28) [] ⟨hx, hb, hml, hown, hts⟩ (c_Writer_token l D cI sd ad o_names o_out r27 r28 hcr28) (cwV2 hts q872 mvX5_token rfl rfl ⟨(Nat.le_of_ble_eq_true rfl), (Nat.le_of_ble_eq_true rfl)⟩) hK hE hA hP hD hS 0 (T := TX5) (N := 3) (ci := 5) rfl rfl [0, 9, 10, 11, 12, 13, 14, 15] rfl (by decide) rfl rfl rfl rfl rfl rfl hl.1 (Nat.le_of_ble_eq_true rfl) dX5_separate_107 ⟨Nat.zero_le _, Nat.zero_le _⟩ (fun H locs hP hD hS => ?_)
            cases hM
            exact rt_v hx hb hr hlk hP hD hS rfl dX5_separate_110
          · replace hM := if_t c25 hM
            refine lv_aload_n hx hb dX5_separate_77 rfl (lv_at hl 3 rfl) ?_
            refine lv_aload_n hx hb dX5_separate_78 rfl (lv_at hl 3 rfl) ?_
            refine va_get (D := D) (ci := 5) (v := .ref (ad 14)) (C := RX5) (T := TX5) (N := 3) hx hb hts layX5 hown hK hP 0 rfl rfl 0 (by decide) (hts _ (inA q442)) (fun _ h9 => h9) rfl dX5_separate_79 ?_
            refine lv_iload_n hx hb dX5_separate_82 rfl (lv_at hl 1 rfl) ?_
            obtain ⟨r29, hcr29, hM⟩ := ob_use hM
            refine cl_V (As := [.int r2]) (rest := [.ref (ad 23)]) (w_Writer_this_tree_names_out cI ad o_tree o_names o_out) (.int r29 :: [.ref (ad 23)]) ⟨hx, hb, hml, hown, hts⟩ (c_Tree_value l D cI sd ad o_tree r2 r29 hcr29) (cwV2 hts q892 mvX3_value rfl rfl ⟨(Nat.le_of_ble_eq_true rfl), (Nat.le_of_ble_eq_true rfl)⟩) hK hE hA hP hD hS 1 (T := TX3) (N := 8) (ci := 3) rfl rfl [1, 2, 3, 4, 5, 6, 7, 8] rfl (by decide) rfl rfl rfl rfl rfl rfl hl.1 (Nat.le_of_ble_eq_true rfl) dX5_separate_83 ⟨Nat.zero_le _, Nat.zero_le _⟩ (fun H locs hP hD hS => ?_)
            obtain ⟨r30, hcr30, hM⟩ := ob_use hM
            refine cl_S (As := [.int r29]) (rest := [.ref (ad 23)]) (w_Writer_this_tree_names_out cI ad o_tree o_names o_out) (.int r30 :: [.ref (ad 23)]) ⟨hx, hb, hml, hown, hts⟩ (c_Sign_between l D cI sd ad r29 r30 hcr30) (cwS2 hts q908 mvX7_between rfl rfl ⟨(Nat.le_of_ble_eq_true rfl), (Nat.le_of_ble_eq_true rfl)⟩) hK hE hA hP hD hS [] rfl (by decide) rfl rfl rfl rfl rfl rfl hl.1 (Nat.le_of_ble_eq_true rfl) dX5_separate_86 ⟨Nat.zero_le _, Nat.zero_le _⟩ (fun H locs hP hD hS => ?_)
            obtain ⟨r31, hcr31, hM⟩ := ob_use hM
            refine cl_V (As := [.int r30]) (rest := []) (w_Writer_this_tree_names_out cI ad o_tree o_names r31) [] ⟨hx, hb, hml, hown, hts⟩ (c_Writer_token l D cI sd ad o_names o_out r30 r31 hcr31) (cwV2 hts q872 mvX5_token rfl rfl ⟨(Nat.le_of_ble_eq_true rfl), (Nat.le_of_ble_eq_true rfl)⟩) hK hE hA hP hD hS 0 (T := TX5) (N := 3) (ci := 5) rfl rfl [0, 9, 10, 11, 12, 13, 14, 15] rfl (by decide) rfl rfl rfl rfl rfl rfl hl.1 (Nat.le_of_ble_eq_true rfl) dX5_separate_89 ⟨Nat.zero_le _, Nat.zero_le _⟩ (fun H locs hP hD hS => ?_)
            refine lv_aload_n hx hb dX5_separate_92 rfl (lv_at hl 3 rfl) ?_
            refine lv_iload hx hb dX5_separate_93 (lv_at hl 0 rfl) ?_
            refine lv_aload_n hx hb dX5_separate_95 rfl (lv_at hl 3 rfl) ?_
            refine va_get (D := D) (ci := 5) (v := .ref (ad 14)) (C := RX5) (T := TX5) (N := 3) hx hb hts layX5 hown hK hP 0 rfl rfl 0 (by decide) (hts _ (inA q442)) (fun _ h9 => h9) rfl dX5_separate_96 ?_
            refine lv_iload_n hx hb dX5_separate_99 rfl (lv_at hl 4 rfl) ?_
            obtain ⟨r32, hcr32, hM⟩ := ob_use hM
            refine cl_V (As := [.int a1]) (rest := [.int r3, .ref (ad 23)]) (w_Writer_this_tree_names_out cI ad o_tree o_names r31) (.int r32 :: [.int r3, .ref (ad 23)]) ⟨hx, hb, hml, hown, hts⟩ (c_Tree_kind l D cI sd ad o_tree a1 r32 hcr32) (cwV2 hts q870 mvX3_kind rfl rfl ⟨(Nat.le_of_ble_eq_true rfl), (Nat.le_of_ble_eq_true rfl)⟩) hK hE hA hP hD hS 1 (T := TX3) (N := 8) (ci := 3) rfl rfl [1, 2, 3, 4, 5, 6, 7, 8] rfl (by decide) rfl rfl rfl rfl rfl rfl hl.1 (Nat.le_of_ble_eq_true rfl) dX5_separate_100 ⟨Nat.zero_le _, Nat.zero_le _⟩ (fun H locs hP hD hS => ?_)
            refine lv_iload_n hx hb dX5_separate_103 rfl (lv_at hl 2 rfl) ?_
            obtain ⟨r33, hcr33, hM⟩ := ob_use hM
            refine cl_S (As := [.int r3, .int r32, .int r1]) (rest := [.ref (ad 23)]) (w_Writer_this_tree_names_out cI ad o_tree o_names r31) (.int r33 :: [.ref (ad 23)]) ⟨hx, hb, hml, hown, hts⟩ (c_Writer_separator l D cI sd ad r3 r32 r1 r33 hcr33) (cwS2 hts q913 mvX5_separator rfl rfl ⟨(Nat.le_of_ble_eq_true rfl), (Nat.le_of_ble_eq_true rfl)⟩) hK hE hA hP hD hS [] rfl (by decide) rfl rfl rfl rfl rfl rfl hl.1 (Nat.le_of_ble_eq_true rfl) dX5_separate_104 ⟨Nat.zero_le _, Nat.zero_le _⟩ (fun H locs hP hD hS => ?_)
            obtain ⟨r34, hcr34, hM⟩ := ob_use hM
            refine cl_V (As := [.int r33]) (rest := []) (w_Writer_this_tree_names_out cI ad o_tree o_names r34) [] ⟨hx, hb, hml, hown, hts⟩ (c_Writer_token l D cI sd ad o_names r31 r33 r34 hcr34) (cwV2 hts q872 mvX5_token rfl rfl ⟨(Nat.le_of_ble_eq_true rfl), (Nat.le_of_ble_eq_true rfl)⟩) hK hE hA hP hD hS 0 (T := TX5) (N := 3) (ci := 5) rfl rfl [0, 9, 10, 11, 12, 13, 14, 15] rfl (by decide) rfl rfl rfl rfl rfl rfl hl.1 (Nat.le_of_ble_eq_true rfl) dX5_separate_107 ⟨Nat.zero_le _, Nat.zero_le _⟩ (fun H locs hP hD hS => ?_)
            cases hM
            exact rt_v hx hb hr hlk hP hD hS rfl dX5_separate_110
      · replace hM := if_t c20 hM
        refine lv_aload_n hx hb dX5_separate_58 rfl (lv_at hl 3 rfl) ?_
        refine lv_sipush (v := 271) hx hb dX5_separate_59 (by decide) ?_
        obtain ⟨r35, hcr35, hM⟩ := ob_use hM
        refine cl_V (As := [.int 271]) (rest := []) (w_Writer_this_tree_names_out cI ad o_tree o_names r35) [] ⟨hx, hb, hml, hown, hts⟩ (c_Writer_token l D cI sd ad o_names o_out 271 r35 hcr35) (cwV2 hts q872 mvX5_token rfl rfl ⟨(Nat.le_of_ble_eq_true rfl), (Nat.le_of_ble_eq_true rfl)⟩) hK hE hA hP hD hS 0 (T := TX5) (N := 3) (ci := 5) rfl rfl [0, 9, 10, 11, 12, 13, 14, 15] rfl (by decide) rfl rfl rfl rfl rfl rfl hl.1 (Nat.le_of_ble_eq_true rfl) dX5_separate_62 ⟨Nat.zero_le _, Nat.zero_le _⟩ (fun H locs hP hD hS => ?_)
        refine lv_iload hx hb dX5_separate_65 (lv_at hl 0 rfl) ?_
        refine lv_bipush (v := 35) hx hb dX5_separate_67 (by decide) ?_
        refine lv_icmp_ne (tgt := 92) hx hb dX5_separate_69 (by decide) (fun c36 => ?_) (fun c36 => ?_)
        · replace hM := if_f c36 hM
          refine lv_aload_n hx hb dX5_separate_92 rfl (lv_at hl 3 rfl) ?_
          refine lv_iload hx hb dX5_separate_93 (lv_at hl 0 rfl) ?_
          refine lv_aload_n hx hb dX5_separate_95 rfl (lv_at hl 3 rfl) ?_
          refine va_get (D := D) (ci := 5) (v := .ref (ad 14)) (C := RX5) (T := TX5) (N := 3) hx hb hts layX5 hown hK hP 0 rfl rfl 0 (by decide) (hts _ (inA q442)) (fun _ h9 => h9) rfl dX5_separate_96 ?_
          refine lv_iload_n hx hb dX5_separate_99 rfl (lv_at hl 4 rfl) ?_
          obtain ⟨r37, hcr37, hM⟩ := ob_use hM
          refine cl_V (As := [.int a1]) (rest := [.int r3, .ref (ad 23)]) (w_Writer_this_tree_names_out cI ad o_tree o_names r35) (.int r37 :: [.int r3, .ref (ad 23)]) ⟨hx, hb, hml, hown, hts⟩ (c_Tree_kind l D cI sd ad o_tree a1 r37 hcr37) (cwV2 hts q870 mvX3_kind rfl rfl ⟨(Nat.le_of_ble_eq_true rfl), (Nat.le_of_ble_eq_true rfl)⟩) hK hE hA hP hD hS 1 (T := TX3) (N := 8) (ci := 3) rfl rfl [1, 2, 3, 4, 5, 6, 7, 8] rfl (by decide) rfl rfl rfl rfl rfl rfl hl.1 (Nat.le_of_ble_eq_true rfl) dX5_separate_100 ⟨Nat.zero_le _, Nat.zero_le _⟩ (fun H locs hP hD hS => ?_)
          refine lv_iload_n hx hb dX5_separate_103 rfl (lv_at hl 2 rfl) ?_
          obtain ⟨r38, hcr38, hM⟩ := ob_use hM
          refine cl_S (As := [.int r3, .int r37, .int r1]) (rest := [.ref (ad 23)]) (w_Writer_this_tree_names_out cI ad o_tree o_names r35) (.int r38 :: [.ref (ad 23)]) ⟨hx, hb, hml, hown, hts⟩ (c_Writer_separator l D cI sd ad r3 r37 r1 r38 hcr38) (cwS2 hts q913 mvX5_separator rfl rfl ⟨(Nat.le_of_ble_eq_true rfl), (Nat.le_of_ble_eq_true rfl)⟩) hK hE hA hP hD hS [] rfl (by decide) rfl rfl rfl rfl rfl rfl hl.1 (Nat.le_of_ble_eq_true rfl) dX5_separate_104 ⟨Nat.zero_le _, Nat.zero_le _⟩ (fun H locs hP hD hS => ?_)
          obtain ⟨r39, hcr39, hM⟩ := ob_use hM
          refine cl_V (As := [.int r38]) (rest := []) (w_Writer_this_tree_names_out cI ad o_tree o_names r39) [] ⟨hx, hb, hml, hown, hts⟩ (c_Writer_token l D cI sd ad o_names r35 r38 r39 hcr39) (cwV2 hts q872 mvX5_token rfl rfl ⟨(Nat.le_of_ble_eq_true rfl), (Nat.le_of_ble_eq_true rfl)⟩) hK hE hA hP hD hS 0 (T := TX5) (N := 3) (ci := 5) rfl rfl [0, 9, 10, 11, 12, 13, 14, 15] rfl (by decide) rfl rfl rfl rfl rfl rfl hl.1 (Nat.le_of_ble_eq_true rfl) dX5_separate_107 ⟨Nat.zero_le _, Nat.zero_le _⟩ (fun H locs hP hD hS => ?_)
          cases hM
          exact rt_v hx hb hr hlk hP hD hS rfl dX5_separate_110
        · replace hM := if_t c36 hM
          refine lv_iload_n hx hb dX5_separate_72 rfl (lv_at hl 2 rfl) ?_
          refine lv_iconst (v := 1) hx hb dX5_separate_73 (by decide) ?_
          refine lv_icmp_ne (tgt := 92) hx hb dX5_separate_74 (by decide) (fun c40 => ?_) (fun c40 => ?_)
          · replace hM := if_f c40 hM
            refine lv_aload_n hx hb dX5_separate_92 rfl (lv_at hl 3 rfl) ?_
            refine lv_iload hx hb dX5_separate_93 (lv_at hl 0 rfl) ?_
            refine lv_aload_n hx hb dX5_separate_95 rfl (lv_at hl 3 rfl) ?_
            refine va_get (D := D) (ci := 5) (v := .ref (ad 14)) (C := RX5) (T := TX5) (N := 3) hx hb hts layX5 hown hK hP 0 rfl rfl 0 (by decide) (hts _ (inA q442)) (fun _ h9 => h9) rfl dX5_separate_96 ?_
            refine lv_iload_n hx hb dX5_separate_99 rfl (lv_at hl 4 rfl) ?_
            obtain ⟨r41, hcr41, hM⟩ := ob_use hM
            refine cl_V (As := [.int a1]) (rest := [.int r3, .ref (ad 23)]) (w_Writer_this_tree_names_out cI ad o_tree o_names r35) (.int r41 :: [.int r3, .ref (ad 23)]) ⟨hx, hb, hml, hown, hts⟩ (c_Tree_kind l D cI sd ad o_tree a1 r41 hcr41) (cwV2 hts q870 mvX3_kind rfl rfl ⟨(Nat.le_of_ble_eq_true rfl), (Nat.le_of_ble_eq_true rfl)⟩) hK hE hA hP hD hS 1 (T := TX3) (N := 8) (ci := 3) rfl rfl [1, 2, 3, 4, 5, 6, 7, 8] rfl (by decide) rfl rfl rfl rfl rfl rfl hl.1 (Nat.le_of_ble_eq_true rfl) dX5_separate_100 ⟨Nat.zero_le _, Nat.zero_le _⟩ (fun H locs hP hD hS => ?_)
            refine lv_iload_n hx hb dX5_separate_103 rfl (lv_at hl 2 rfl) ?_
            obtain ⟨r42, hcr42, hM⟩ := ob_use hM
            refine cl_S (As := [.int r3, .int r41, .int r1]) (rest := [.ref (ad 23)]) (w_Writer_this_tree_names_out cI ad o_tree o_names r35) (.int r42 :: [.ref (ad 23)]) ⟨hx, hb, hml, hown, hts⟩ (c_Writer_separator l D cI sd ad r3 r41 r1 r42 hcr42) (cwS2 hts q913 mvX5_separator rfl rfl ⟨(Nat.le_of_ble_eq_true rfl), (Nat.le_of_ble_eq_true rfl)⟩) hK hE hA hP hD hS [] rfl (by decide) rfl rfl rfl rfl rfl rfl hl.1 (Nat.le_of_ble_eq_true rfl) dX5_separate_104 ⟨Nat.zero_le _, Nat.zero_le _⟩ (fun H locs hP hD hS => ?_)
            obtain ⟨r43, hcr43, hM⟩ := ob_use hM
            refine cl_V (As := [.int r42]) (rest := []) (w_Writer_this_tree_names_out cI ad o_tree o_names r43) [] ⟨hx, hb, hml, hown, hts⟩ (c_Writer_token l D cI sd ad o_names r35 r42 r43 hcr43) (cwV2 hts q872 mvX5_token rfl rfl ⟨(Nat.le_of_ble_eq_true rfl), (Nat.le_of_ble_eq_true rfl)⟩) hK hE hA hP hD hS 0 (T := TX5) (N := 3) (ci := 5) rfl rfl [0, 9, 10, 11, 12, 13, 14, 15] rfl (by decide) rfl rfl rfl rfl rfl rfl hl.1 (Nat.le_of_ble_eq_true rfl) dX5_separate_107 ⟨Nat.zero_le _, Nat.zero_le _⟩ (fun H locs hP hD hS => ?_)
            cases hM
            exact rt_v hx hb hr hlk hP hD hS rfl dX5_separate_110
          · replace hM := if_t c40 hM
            refine lv_aload_n hx hb dX5_separate_77 rfl (lv_at hl 3 rfl) ?_
            refine lv_aload_n hx hb dX5_separate_78 rfl (lv_at hl 3 rfl) ?_
            refine va_get (D := D) (ci := 5) (v := .ref (ad 14)) (C := RX5) (T := TX5) (N := 3) hx hb hts layX5 hown hK hP 0 rfl rfl 0 (by decide) (hts _ (inA q442)) (fun _ h9 => h9) rfl dX5_separate_79 ?_
            refine lv_iload_n hx hb dX5_separate_82 rfl (lv_at hl 1 rfl) ?_
            obtain ⟨r44, hcr44, hM⟩ := ob_use hM
            refine cl_V (As := [.int r2]) (rest := [.ref (ad 23)]) (w_Writer_this_tree_names_out cI ad o_tree o_names r35) (.int r44 :: [.ref (ad 23)]) ⟨hx, hb, hml, hown, hts⟩ (c_Tree_value l D cI sd ad o_tree r2 r44 hcr44) (cwV2 hts q892 mvX3_value rfl rfl ⟨(Nat.le_of_ble_eq_true rfl), (Nat.le_of_ble_eq_true rfl)⟩) hK hE hA hP hD hS 1 (T := TX3) (N := 8) (ci := 3) rfl rfl [1, 2, 3, 4, 5, 6, 7, 8] rfl (by decide) rfl rfl rfl rfl rfl rfl hl.1 (Nat.le_of_ble_eq_true rfl) dX5_separate_83 ⟨Nat.zero_le _, Nat.zero_le _⟩ (fun H locs hP hD hS => ?_)
            obtain ⟨r45, hcr45, hM⟩ := ob_use hM
            refine cl_S (As := [.int r44]) (rest := [.ref (ad 23)]) (w_Writer_this_tree_names_out cI ad o_tree o_names r35) (.int r45 :: [.ref (ad 23)]) ⟨hx, hb, hml, hown, hts⟩ (c_Sign_between l D cI sd ad r44 r45 hcr45) (cwS2 hts q908 mvX7_between rfl rfl ⟨(Nat.le_of_ble_eq_true rfl), (Nat.le_of_ble_eq_true rfl)⟩) hK hE hA hP hD hS [] rfl (by decide) rfl rfl rfl rfl rfl rfl hl.1 (Nat.le_of_ble_eq_true rfl) dX5_separate_86 ⟨Nat.zero_le _, Nat.zero_le _⟩ (fun H locs hP hD hS => ?_)
            obtain ⟨r46, hcr46, hM⟩ := ob_use hM
            refine cl_V (As := [.int r45]) (rest := []) (w_Writer_this_tree_names_out cI ad o_tree o_names r46) [] ⟨hx, hb, hml, hown, hts⟩ (c_Writer_token l D cI sd ad o_names r35 r45 r46 hcr46) (cwV2 hts q872 mvX5_token rfl rfl ⟨(Nat.le_of_ble_eq_true rfl), (Nat.le_of_ble_eq_true rfl)⟩) hK hE hA hP hD hS 0 (T := TX5) (N := 3) (ci := 5) rfl rfl [0, 9, 10, 11, 12, 13, 14, 15] rfl (by decide) rfl rfl rfl rfl rfl rfl hl.1 (Nat.le_of_ble_eq_true rfl) dX5_separate_89 ⟨Nat.zero_le _, Nat.zero_le _⟩ (fun H locs hP hD hS => ?_)
            refine lv_aload_n hx hb dX5_separate_92 rfl (lv_at hl 3 rfl) ?_
            refine lv_iload hx hb dX5_separate_93 (lv_at hl 0 rfl) ?_
            refine lv_aload_n hx hb dX5_separate_95 rfl (lv_at hl 3 rfl) ?_
            refine va_get (D := D) (ci := 5) (v := .ref (ad 14)) (C := RX5) (T := TX5) (N := 3) hx hb hts layX5 hown hK hP 0 rfl rfl 0 (by decide) (hts _ (inA q442)) (fun _ h9 => h9) rfl dX5_separate_96 ?_
            refine lv_iload_n hx hb dX5_separate_99 rfl (lv_at hl 4 rfl) ?_
            obtain ⟨r47, hcr47, hM⟩ := ob_use hM
            refine cl_V (As := [.int a1]) (rest := [.int r3, .ref (ad 23)]) (w_Writer_this_tree_names_out cI ad o_tree o_names r46) (.int r47 :: [.int r3, .ref (ad 23)]) ⟨hx, hb, hml, hown, hts⟩ (c_Tree_kind l D cI sd ad o_tree a1 r47 hcr47) (cwV2 hts q870 mvX3_kind rfl rfl ⟨(Nat.le_of_ble_eq_true rfl), (Nat.le_of_ble_eq_true rfl)⟩) hK hE hA hP hD hS 1 (T := TX3) (N := 8) (ci := 3) rfl rfl [1, 2, 3, 4, 5, 6, 7, 8] rfl (by decide) rfl rfl rfl rfl rfl rfl hl.1 (Nat.le_of_ble_eq_true rfl) dX5_separate_100 ⟨Nat.zero_le _, Nat.zero_le _⟩ (fun H locs hP hD hS => ?_)
            refine lv_iload_n hx hb dX5_separate_103 rfl (lv_at hl 2 rfl) ?_
            obtain ⟨r48, hcr48, hM⟩ := ob_use hM
            refine cl_S (As := [.int r3, .int r47, .int r1]) (rest := [.ref (ad 23)]) (w_Writer_this_tree_names_out cI ad o_tree o_names r46) (.int r48 :: [.ref (ad 23)]) ⟨hx, hb, hml, hown, hts⟩ (c_Writer_separator l D cI sd ad r3 r47 r1 r48 hcr48) (cwS2 hts q913 mvX5_separator rfl rfl ⟨(Nat.le_of_ble_eq_true rfl), (Nat.le_of_ble_eq_true rfl)⟩) hK hE hA hP hD hS [] rfl (by decide) rfl rfl rfl rfl rfl rfl hl.1 (Nat.le_of_ble_eq_true rfl) dX5_separate_104 ⟨Nat.zero_le _, Nat.zero_le _⟩ (fun H locs hP hD hS => ?_)
            obtain ⟨r49, hcr49, hM⟩ := ob_use hM
            refine cl_V (As := [.int r48]) (rest := []) (w_Writer_this_tree_names_out cI ad o_tree o_names r49) [] ⟨hx, hb, hml, hown, hts⟩ (c_Writer_token l D cI sd ad o_names r46 r48 r49 hcr49) (cwV2 hts q872 mvX5_token rfl rfl ⟨(Nat.le_of_ble_eq_true rfl), (Nat.le_of_ble_eq_true rfl)⟩) hK hE hA hP hD hS 0 (T := TX5) (N := 3) (ci := 5) rfl rfl [0, 9, 10, 11, 12, 13, 14, 15] rfl (by decide) rfl rfl rfl rfl rfl rfl hl.1 (Nat.le_of_ble_eq_true rfl) dX5_separate_107 ⟨Nat.zero_le _, Nat.zero_le _⟩ (fun H locs hP hD hS => ?_)
            cases hM
            exact rt_v hx hb hr hlk hP hD hS rfl dX5_separate_110
  · replace hM := if_t c4 hM
    refine lv_iload_n hx hb dX5_separate_35 rfl (lv_at hl 2 rfl) ?_
    refine lv_iconst (v := 2) hx hb dX5_separate_36 (by decide) ?_
    refine lv_icmp_ne (tgt := 46) hx hb dX5_separate_37 (by decide) (fun c50 => ?_) (fun c50 => ?_)
    · replace hM := if_f c50 hM
      refine lv_iload hx hb dX5_separate_46 (lv_at hl 0 rfl) ?_
      refine lv_bipush (v := 16) hx hb dX5_separate_48 (by decide) ?_
      refine lv_icmp_ne (tgt := 65) hx hb dX5_separate_50 (by decide) (fun c51 => ?_) (fun c51 => ?_)
      · replace hM := if_f c51 hM
        refine lv_iload hx hb dX5_separate_65 (lv_at hl 0 rfl) ?_
        refine lv_bipush (v := 35) hx hb dX5_separate_67 (by decide) ?_
        refine lv_icmp_ne (tgt := 92) hx hb dX5_separate_69 (by decide) (fun c52 => ?_) (fun c52 => ?_)
        · replace hM := if_f c52 hM
          refine lv_aload_n hx hb dX5_separate_92 rfl (lv_at hl 3 rfl) ?_
          refine lv_iload hx hb dX5_separate_93 (lv_at hl 0 rfl) ?_
          refine lv_aload_n hx hb dX5_separate_95 rfl (lv_at hl 3 rfl) ?_
          refine va_get (D := D) (ci := 5) (v := .ref (ad 14)) (C := RX5) (T := TX5) (N := 3) hx hb hts layX5 hown hK hP 0 rfl rfl 0 (by decide) (hts _ (inA q442)) (fun _ h9 => h9) rfl dX5_separate_96 ?_
          refine lv_iload_n hx hb dX5_separate_99 rfl (lv_at hl 4 rfl) ?_
          obtain ⟨r53, hcr53, hM⟩ := ob_use hM
          refine cl_V (As := [.int a1]) (rest := [.int r3, .ref (ad 23)]) (w_Writer_this_tree_names_out cI ad o_tree o_names o_out) (.int r53 :: [.int r3, .ref (ad 23)]) ⟨hx, hb, hml, hown, hts⟩ (c_Tree_kind l D cI sd ad o_tree a1 r53 hcr53) (cwV2 hts q870 mvX3_kind rfl rfl ⟨(Nat.le_of_ble_eq_true rfl), (Nat.le_of_ble_eq_true rfl)⟩) hK hE hA hP hD hS 1 (T := TX3) (N := 8) (ci := 3) rfl rfl [1, 2, 3, 4, 5, 6, 7, 8] rfl (by decide) rfl rfl rfl rfl rfl rfl hl.1 (Nat.le_of_ble_eq_true rfl) dX5_separate_100 ⟨Nat.zero_le _, Nat.zero_le _⟩ (fun H locs hP hD hS => ?_)
          refine lv_iload_n hx hb dX5_separate_103 rfl (lv_at hl 2 rfl) ?_
          obtain ⟨r54, hcr54, hM⟩ := ob_use hM
          refine cl_S (As := [.int r3, .int r53, .int r1]) (rest := [.ref (ad 23)]) (w_Writer_this_tree_names_out cI ad o_tree o_names o_out) (.int r54 :: [.ref (ad 23)]) ⟨hx, hb, hml, hown, hts⟩ (c_Writer_separator l D cI sd ad r3 r53 r1 r54 hcr54) (cwS2 hts q913 mvX5_separator rfl rfl ⟨(Nat.le_of_ble_eq_true rfl), (Nat.le_of_ble_eq_true rfl)⟩) hK hE hA hP hD hS [] rfl (by decide) rfl rfl rfl rfl rfl rfl hl.1 (Nat.le_of_ble_eq_true rfl) dX5_separate_104 ⟨Nat.zero_le _, Nat.zero_le _⟩ (fun H locs hP hD hS => ?_)
          obtain ⟨r55, hcr55, hM⟩ := ob_use hM
          refine cl_V (As := [.int r54]) (rest := []) (w_Writer_this_tree_names_out cI ad o_tree o_names r55) [] ⟨hx, hb, hml, hown, hts⟩ (c_Writer_token l D cI sd ad o_names o_out r54 r55 hcr55) (cwV2 hts q872 mvX5_token rfl rfl ⟨(Nat.le_of_ble_eq_true rfl), (Nat.le_of_ble_eq_true rfl)⟩) hK hE hA hP hD hS 0 (T := TX5) (N := 3) (ci := 5) rfl rfl [0, 9, 10, 11, 12, 13, 14, 15] rfl (by decide) rfl rfl rfl rfl rfl rfl hl.1 (Nat.le_of_ble_eq_true rfl) dX5_separate_107 ⟨Nat.zero_le _, Nat.zero_le _⟩ (fun H locs hP hD hS => ?_)
          cases hM
          exact rt_v hx hb hr hlk hP hD hS rfl dX5_separate_110
        · replace hM := if_t c52 hM
          refine lv_iload_n hx hb dX5_separate_72 rfl (lv_at hl 2 rfl) ?_
          refine lv_iconst (v := 1) hx hb dX5_separate_73 (by decide) ?_
          refine lv_icmp_ne (tgt := 92) hx hb dX5_separate_74 (by decide) (fun c56 => ?_) (fun c56 => ?_)
          · replace hM := if_f c56 hM
            refine lv_aload_n hx hb dX5_separate_92 rfl (lv_at hl 3 rfl) ?_
            refine lv_iload hx hb dX5_separate_93 (lv_at hl 0 rfl) ?_
            refine lv_aload_n hx hb dX5_separate_95 rfl (lv_at hl 3 rfl) ?_
            refine va_get (D := D) (ci := 5) (v := .ref (ad 14)) (C := RX5) (T := TX5) (N := 3) hx hb hts layX5 hown hK hP 0 rfl rfl 0 (by decide) (hts _ (inA q442)) (fun _ h9 => h9) rfl dX5_separate_96 ?_
            refine lv_iload_n hx hb dX5_separate_99 rfl (lv_at hl 4 rfl) ?_
            obtain ⟨r57, hcr57, hM⟩ := ob_use hM
            refine cl_V (As := [.int a1]) (rest := [.int r3, .ref (ad 23)]) (w_Writer_this_tree_names_out cI ad o_tree o_names o_out) (.int r57 :: [.int r3, .ref (ad 23)]) ⟨hx, hb, hml, hown, hts⟩ (c_Tree_kind l D cI sd ad o_tree a1 r57 hcr57) (cwV2 hts q870 mvX3_kind rfl rfl ⟨(Nat.le_of_ble_eq_true rfl), (Nat.le_of_ble_eq_true rfl)⟩) hK hE hA hP hD hS 1 (T := TX3) (N := 8) (ci := 3) rfl rfl [1, 2, 3, 4, 5, 6, 7, 8] rfl (by decide) rfl rfl rfl rfl rfl rfl hl.1 (Nat.le_of_ble_eq_true rfl) dX5_separate_100 ⟨Nat.zero_le _, Nat.zero_le _⟩ (fun H locs hP hD hS => ?_)
            refine lv_iload_n hx hb dX5_separate_103 rfl (lv_at hl 2 rfl) ?_
            obtain ⟨r58, hcr58, hM⟩ := ob_use hM
            refine cl_S (As := [.int r3, .int r57, .int r1]) (rest := [.ref (ad 23)]) (w_Writer_this_tree_names_out cI ad o_tree o_names o_out) (.int r58 :: [.ref (ad 23)]) ⟨hx, hb, hml, hown, hts⟩ (c_Writer_separator l D cI sd ad r3 r57 r1 r58 hcr58) (cwS2 hts q913 mvX5_separator rfl rfl ⟨(Nat.le_of_ble_eq_true rfl), (Nat.le_of_ble_eq_true rfl)⟩) hK hE hA hP hD hS [] rfl (by decide) rfl rfl rfl rfl rfl rfl hl.1 (Nat.le_of_ble_eq_true rfl) dX5_separate_104 ⟨Nat.zero_le _, Nat.zero_le _⟩ (fun H locs hP hD hS => ?_)
            obtain ⟨r59, hcr59, hM⟩ := ob_use hM
            refine cl_V (As := [.int r58]) (rest := []) (w_Writer_this_tree_names_out cI ad o_tree o_names r59) [] ⟨hx, hb, hml, hown, hts⟩ (c_Writer_token l D cI sd ad o_names o_out r58 r59 hcr59) (cwV2 hts q872 mvX5_token rfl rfl ⟨(Nat.le_of_ble_eq_true rfl), (Nat.le_of_ble_eq_true rfl)⟩) hK hE hA hP hD hS 0 (T := TX5) (N := 3) (ci := 5) rfl rfl [0, 9, 10, 11, 12, 13, 14, 15] rfl (by decide) rfl rfl rfl rfl rfl rfl hl.1 (Nat.le_of_ble_eq_true rfl) dX5_separate_107 ⟨Nat.zero_le _, Nat.zero_le _⟩ (fun H locs hP hD hS => ?_)
            cases hM
            exact rt_v hx hb hr hlk hP hD hS rfl dX5_separate_110
          · replace hM := if_t c56 hM
            refine lv_aload_n hx hb dX5_separate_77 rfl (lv_at hl 3 rfl) ?_
            refine lv_aload_n hx hb dX5_separate_78 rfl (lv_at hl 3 rfl) ?_
            refine va_get (D := D) (ci := 5) (v := .ref (ad 14)) (C := RX5) (T := TX5) (N := 3) hx hb hts layX5 hown hK hP 0 rfl rfl 0 (by decide) (hts _ (inA q442)) (fun _ h9 => h9) rfl dX5_separate_79 ?_
            refine lv_iload_n hx hb dX5_separate_82 rfl (lv_at hl 1 rfl) ?_
            obtain ⟨r60, hcr60, hM⟩ := ob_use hM
            refine cl_V (As := [.int r2]) (rest := [.ref (ad 23)]) (w_Writer_this_tree_names_out cI ad o_tree o_names o_out) (.int r60 :: [.ref (ad 23)]) ⟨hx, hb, hml, hown, hts⟩ (c_Tree_value l D cI sd ad o_tree r2 r60 hcr60) (cwV2 hts q892 mvX3_value rfl rfl ⟨(Nat.le_of_ble_eq_true rfl), (Nat.le_of_ble_eq_true rfl)⟩) hK hE hA hP hD hS 1 (T := TX3) (N := 8) (ci := 3) rfl rfl [1, 2, 3, 4, 5, 6, 7, 8] rfl (by decide) rfl rfl rfl rfl rfl rfl hl.1 (Nat.le_of_ble_eq_true rfl) dX5_separate_83 ⟨Nat.zero_le _, Nat.zero_le _⟩ (fun H locs hP hD hS => ?_)
            obtain ⟨r61, hcr61, hM⟩ := ob_use hM
            refine cl_S (As := [.int r60]) (rest := [.ref (ad 23)]) (w_Writer_this_tree_names_out cI ad o_tree o_names o_out) (.int r61 :: [.ref (ad 23)]) ⟨hx, hb, hml, hown, hts⟩ (c_Sign_between l D cI sd ad r60 r61 hcr61) (cwS2 hts q908 mvX7_between rfl rfl ⟨(Nat.le_of_ble_eq_true rfl), (Nat.le_of_ble_eq_true rfl)⟩) hK hE hA hP hD hS [] rfl (by decide) rfl rfl rfl rfl rfl rfl hl.1 (Nat.le_of_ble_eq_true rfl) dX5_separate_86 ⟨Nat.zero_le _, Nat.zero_le _⟩ (fun H locs hP hD hS => ?_)
            obtain ⟨r62, hcr62, hM⟩ := ob_use hM
            refine cl_V (As := [.int r61]) (rest := []) (w_Writer_this_tree_names_out cI ad o_tree o_names r62) [] ⟨hx, hb, hml, hown, hts⟩ (c_Writer_token l D cI sd ad o_names o_out r61 r62 hcr62) (cwV2 hts q872 mvX5_token rfl rfl ⟨(Nat.le_of_ble_eq_true rfl), (Nat.le_of_ble_eq_true rfl)⟩) hK hE hA hP hD hS 0 (T := TX5) (N := 3) (ci := 5) rfl rfl [0, 9, 10, 11, 12, 13, 14, 15] rfl (by decide) rfl rfl rfl rfl rfl rfl hl.1 (Nat.le_of_ble_eq_true rfl) dX5_separate_89 ⟨Nat.zero_le _, Nat.zero_le _⟩ (fun H locs hP hD hS => ?_)
            refine lv_aload_n hx hb dX5_separate_92 rfl (lv_at hl 3 rfl) ?_
            refine lv_iload hx hb dX5_separate_93 (lv_at hl 0 rfl) ?_
            refine lv_aload_n hx hb dX5_separate_95 rfl (lv_at hl 3 rfl) ?_
            refine va_get (D := D) (ci := 5) (v := .ref (ad 14)) (C := RX5) (T := TX5) (N := 3) hx hb hts layX5 hown hK hP 0 rfl rfl 0 (by decide) (hts _ (inA q442)) (fun _ h9 => h9) rfl dX5_separate_96 ?_
            refine lv_iload_n hx hb dX5_separate_99 rfl (lv_at hl 4 rfl) ?_
            obtain ⟨r63, hcr63, hM⟩ := ob_use hM
            refine cl_V (As := [.int a1]) (rest := [.int r3, .ref (ad 23)]) (w_Writer_this_tree_names_out cI ad o_tree o_names r62) (.int r63 :: [.int r3, .ref (ad 23)]) ⟨hx, hb, hml, hown, hts⟩ (c_Tree_kind l D cI sd ad o_tree a1 r63 hcr63) (cwV2 hts q870 mvX3_kind rfl rfl ⟨(Nat.le_of_ble_eq_true rfl), (Nat.le_of_ble_eq_true rfl)⟩) hK hE hA hP hD hS 1 (T := TX3) (N := 8) (ci := 3) rfl rfl [1, 2, 3, 4, 5, 6, 7, 8] rfl (by decide) rfl rfl rfl rfl rfl rfl hl.1 (Nat.le_of_ble_eq_true rfl) dX5_separate_100 ⟨Nat.zero_le _, Nat.zero_le _⟩ (fun H locs hP hD hS => ?_)
            refine lv_iload_n hx hb dX5_separate_103 rfl (lv_at hl 2 rfl) ?_
            obtain ⟨r64, hcr64, hM⟩ := ob_use hM
            refine cl_S (As := [.int r3, .int r63, .int r1]) (rest := [.ref (ad 23)]) (w_Writer_this_tree_names_out cI ad o_tree o_names r62) (.int r64 :: [.ref (ad 23)]) ⟨hx, hb, hml, hown, hts⟩ (c_Writer_separator l D cI sd ad r3 r63 r1 r64 hcr64) (cwS2 hts q913 mvX5_separator rfl rfl ⟨(Nat.le_of_ble_eq_true rfl), (Nat.le_of_ble_eq_true rfl)⟩) hK hE hA hP hD hS [] rfl (by decide) rfl rfl rfl rfl rfl rfl hl.1 (Nat.le_of_ble_eq_true rfl) dX5_separate_104 ⟨Nat.zero_le _, Nat.zero_le _⟩ (fun H locs hP hD hS => ?_)
            obtain ⟨r65, hcr65, hM⟩ := ob_use hM
            refine cl_V (As := [.int r64]) (rest := []) (w_Writer_this_tree_names_out cI ad o_tree o_names r65) [] ⟨hx, hb, hml, hown, hts⟩ (c_Writer_token l D cI sd ad o_names r62 r64 r65 hcr65) (cwV2 hts q872 mvX5_token rfl rfl ⟨(Nat.le_of_ble_eq_true rfl), (Nat.le_of_ble_eq_true rfl)⟩) hK hE hA hP hD hS 0 (T := TX5) (N := 3) (ci := 5) rfl rfl [0, 9, 10, 11, 12, 13, 14, 15] rfl (by decide) rfl rfl rfl rfl rfl rfl hl.1 (Nat.le_of_ble_eq_true rfl) dX5_separate_107 ⟨Nat.zero_le _, Nat.zero_le _⟩ (fun H locs hP hD hS => ?_)
            cases hM
            exact rt_v hx hb hr hlk hP hD hS rfl dX5_separate_110
      · replace hM := if_t c51 hM
        refine lv_iload_n hx hb dX5_separate_53 rfl (lv_at hl 2 rfl) ?_
        refine lv_iconst (v := 1) hx hb dX5_separate_54 (by decide) ?_
        refine lv_icmp_ne (tgt := 65) hx hb dX5_separate_55 (by decide) (fun c66 => ?_) (fun c66 => ?_)
        · replace hM := if_f c66 hM
          refine lv_iload hx hb dX5_separate_65 (lv_at hl 0 rfl) ?_
          refine lv_bipush (v := 35) hx hb dX5_separate_67 (by decide) ?_
          refine lv_icmp_ne (tgt := 92) hx hb dX5_separate_69 (by decide) (fun c67 => ?_) (fun c67 => ?_)
          · replace hM := if_f c67 hM
            refine lv_aload_n hx hb dX5_separate_92 rfl (lv_at hl 3 rfl) ?_
            refine lv_iload hx hb dX5_separate_93 (lv_at hl 0 rfl) ?_
            refine lv_aload_n hx hb dX5_separate_95 rfl (lv_at hl 3 rfl) ?_
            refine va_get (D := D) (ci := 5) (v := .ref (ad 14)) (C := RX5) (T := TX5) (N := 3) hx hb hts layX5 hown hK hP 0 rfl rfl 0 (by decide) (hts _ (inA q442)) (fun _ h9 => h9) rfl dX5_separate_96 ?_
            refine lv_iload_n hx hb dX5_separate_99 rfl (lv_at hl 4 rfl) ?_
            obtain ⟨r68, hcr68, hM⟩ := ob_use hM
            refine cl_V (As := [.int a1]) (rest := [.int r3, .ref (ad 23)]) (w_Writer_this_tree_names_out cI ad o_tree o_names o_out) (.int r68 :: [.int r3, .ref (ad 23)]) ⟨hx, hb, hml, hown, hts⟩ (c_Tree_kind l D cI sd ad o_tree a1 r68 hcr68) (cwV2 hts q870 mvX3_kind rfl rfl ⟨(Nat.le_of_ble_eq_true rfl), (Nat.le_of_ble_eq_true rfl)⟩) hK hE hA hP hD hS 1 (T := TX3) (N := 8) (ci := 3) rfl rfl [1, 2, 3, 4, 5, 6, 7, 8] rfl (by decide) rfl rfl rfl rfl rfl rfl hl.1 (Nat.le_of_ble_eq_true rfl) dX5_separate_100 ⟨Nat.zero_le _, Nat.zero_le _⟩ (fun H locs hP hD hS => ?_)
            refine lv_iload_n hx hb dX5_separate_103 rfl (lv_at hl 2 rfl) ?_
            obtain ⟨r69, hcr69, hM⟩ := ob_use hM
            refine cl_S (As := [.int r3, .int r68, .int r1]) (rest := [.ref (ad 23)]) (w_Writer_this_tree_names_out cI ad o_tree o_names o_out) (.int r69 :: [.ref (ad 23)]) ⟨hx, hb, hml, hown, hts⟩ (c_Writer_separator l D cI sd ad r3 r68 r1 r69 hcr69) (cwS2 hts q913 mvX5_separator rfl rfl ⟨(Nat.le_of_ble_eq_true rfl), (Nat.le_of_ble_eq_true rfl)⟩) hK hE hA hP hD hS [] rfl (by decide) rfl rfl rfl rfl rfl rfl hl.1 (Nat.le_of_ble_eq_true rfl) dX5_separate_104 ⟨Nat.zero_le _, Nat.zero_le _⟩ (fun H locs hP hD hS => ?_)
            obtain ⟨r70, hcr70, hM⟩ := ob_use hM
            refine cl_V (As := [.int r69]) (rest := []) (w_Writer_this_tree_names_out cI ad o_tree o_names r70) [] ⟨hx, hb, hml, hown, hts⟩ (c_Writer_token l D cI sd ad o_names o_out r69 r70 hcr70) (cwV2 hts q872 mvX5_token rfl rfl ⟨(Nat.le_of_ble_eq_true rfl), (Nat.le_of_ble_eq_true rfl)⟩) hK hE hA hP hD hS 0 (T := TX5) (N := 3) (ci := 5) rfl rfl [0, 9, 10, 11, 12, 13, 14, 15] rfl (by decide) rfl rfl rfl rfl rfl rfl hl.1 (Nat.le_of_ble_eq_true rfl) dX5_separate_107 ⟨Nat.zero_le _, Nat.zero_le _⟩ (fun H locs hP hD hS => ?_)
            cases hM
            exact rt_v hx hb hr hlk hP hD hS rfl dX5_separate_110
          · replace hM := if_t c67 hM
            refine lv_iload_n hx hb dX5_separate_72 rfl (lv_at hl 2 rfl) ?_
            refine lv_iconst (v := 1) hx hb dX5_separate_73 (by decide) ?_
            refine lv_icmp_ne (tgt := 92) hx hb dX5_separate_74 (by decide) (fun c71 => ?_) (fun c71 => ?_)
            · replace hM := if_f c71 hM
              refine lv_aload_n hx hb dX5_separate_92 rfl (lv_at hl 3 rfl) ?_
              refine lv_iload hx hb dX5_separate_93 (lv_at hl 0 rfl) ?_
              refine lv_aload_n hx hb dX5_separate_95 rfl (lv_at hl 3 rfl) ?_
              refine va_get (D := D) (ci := 5) (v := .ref (ad 14)) (C := RX5) (T := TX5) (N := 3) hx hb hts layX5 hown hK hP 0 rfl rfl 0 (by decide) (hts _ (inA q442)) (fun _ h9 => h9) rfl dX5_separate_96 ?_
              refine lv_iload_n hx hb dX5_separate_99 rfl (lv_at hl 4 rfl) ?_
              obtain ⟨r72, hcr72, hM⟩ := ob_use hM
              refine cl_V (As := [.int a1]) (rest := [.int r3, .ref (ad 23)]) (w_Writer_this_tree_names_out cI ad o_tree o_names o_out) (.int r72 :: [.int r3, .ref (ad 23)]) ⟨hx, hb, hml, hown, hts⟩ (c_Tree_kind l D cI sd ad o_tree a1 r72 hcr72) (cwV2 hts q870 mvX3_kind rfl rfl ⟨(Nat.le_of_ble_eq_true rfl), (Nat.le_of_ble_eq_true rfl)⟩) hK hE hA hP hD hS 1 (T := TX3) (N := 8) (ci := 3) rfl rfl [1, 2, 3, 4, 5, 6, 7, 8] rfl (by decide) rfl rfl rfl rfl rfl rfl hl.1 (Nat.le_of_ble_eq_true rfl) dX5_separate_100 ⟨Nat.zero_le _, Nat.zero_le _⟩ (fun H locs hP hD hS => ?_)
              refine lv_iload_n hx hb dX5_separate_103 rfl (lv_at hl 2 rfl) ?_
              obtain ⟨r73, hcr73, hM⟩ := ob_use hM
              refine cl_S (As := [.int r3, .int r72, .int r1]) (rest := [.ref (ad 23)]) (w_Writer_this_tree_names_out cI ad o_tree o_names o_out) (.int r73 :: [.ref (ad 23)]) ⟨hx, hb, hml, hown, hts⟩ (c_Writer_separator l D cI sd ad r3 r72 r1 r73 hcr73) (cwS2 hts q913 mvX5_separator rfl rfl ⟨(Nat.le_of_ble_eq_true rfl), (Nat.le_of_ble_eq_true rfl)⟩) hK hE hA hP hD hS [] rfl (by decide) rfl rfl rfl rfl rfl rfl hl.1 (Nat.le_of_ble_eq_true rfl) dX5_separate_104 ⟨Nat.zero_le _, Nat.zero_le _⟩ (fun H locs hP hD hS => ?_)
              obtain ⟨r74, hcr74, hM⟩ := ob_use hM
              refine cl_V (As := [.int r73]) (rest := []) (w_Writer_this_tree_names_out cI ad o_tree o_names r74) [] ⟨hx, hb, hml, hown, hts⟩ (c_Writer_token l D cI sd ad o_names o_out r73 r74 hcr74) (cwV2 hts q872 mvX5_token rfl rfl ⟨(Nat.le_of_ble_eq_true rfl), (Nat.le_of_ble_eq_true rfl)⟩) hK hE hA hP hD hS 0 (T := TX5) (N := 3) (ci := 5) rfl rfl [0, 9, 10, 11, 12, 13, 14, 15] rfl (by decide) rfl rfl rfl rfl rfl rfl hl.1 (Nat.le_of_ble_eq_true rfl) dX5_separate_107 ⟨Nat.zero_le _, Nat.zero_le _⟩ (fun H locs hP hD hS => ?_)
              cases hM
              exact rt_v hx hb hr hlk hP hD hS rfl dX5_separate_110
            · replace hM := if_t c71 hM
              refine lv_aload_n hx hb dX5_separate_77 rfl (lv_at hl 3 rfl) ?_
              refine lv_aload_n hx hb dX5_separate_78 rfl (lv_at hl 3 rfl) ?_
              refine va_get (D := D) (ci := 5) (v := .ref (ad 14)) (C := RX5) (T := TX5) (N := 3) hx hb hts layX5 hown hK hP 0 rfl rfl 0 (by decide) (hts _ (inA q442)) (fun _ h9 => h9) rfl dX5_separate_79 ?_
              refine lv_iload_n hx hb dX5_separate_82 rfl (lv_at hl 1 rfl) ?_
              obtain ⟨r75, hcr75, hM⟩ := ob_use hM
              refine cl_V (As := [.int r2]) (rest := [.ref (ad 23)]) (w_Writer_this_tree_names_out cI ad o_tree o_names o_out) (.int r75 :: [.ref (ad 23)]) ⟨hx, hb, hml, hown, hts⟩ (c_Tree_value l D cI sd ad o_tree r2 r75 hcr75) (cwV2 hts q892 mvX3_value rfl rfl ⟨(Nat.le_of_ble_eq_true rfl), (Nat.le_of_ble_eq_true rfl)⟩) hK hE hA hP hD hS 1 (T := TX3) (N := 8) (ci := 3) rfl rfl [1, 2, 3, 4, 5, 6, 7, 8] rfl (by decide) rfl rfl rfl rfl rfl rfl hl.1 (Nat.le_of_ble_eq_true rfl) dX5_separate_83 ⟨Nat.zero_le _, Nat.zero_le _⟩ (fun H locs hP hD hS => ?_)
              obtain ⟨r76, hcr76, hM⟩ := ob_use hM
              refine cl_S (As := [.int r75]) (rest := [.ref (ad 23)]) (w_Writer_this_tree_names_out cI ad o_tree o_names o_out) (.int r76 :: [.ref (ad 23)]) ⟨hx, hb, hml, hown, hts⟩ (c_Sign_between l D cI sd ad r75 r76 hcr76) (cwS2 hts q908 mvX7_between rfl rfl ⟨(Nat.le_of_ble_eq_true rfl), (Nat.le_of_ble_eq_true rfl)⟩) hK hE hA hP hD hS [] rfl (by decide) rfl rfl rfl rfl rfl rfl hl.1 (Nat.le_of_ble_eq_true rfl) dX5_separate_86 ⟨Nat.zero_le _, Nat.zero_le _⟩ (fun H locs hP hD hS => ?_)
              obtain ⟨r77, hcr77, hM⟩ := ob_use hM
              refine cl_V (As := [.int r76]) (rest := []) (w_Writer_this_tree_names_out cI ad o_tree o_names r77) [] ⟨hx, hb, hml, hown, hts⟩ (c_Writer_token l D cI sd ad o_names o_out r76 r77 hcr77) (cwV2 hts q872 mvX5_token rfl rfl ⟨(Nat.le_of_ble_eq_true rfl), (Nat.le_of_ble_eq_true rfl)⟩) hK hE hA hP hD hS 0 (T := TX5) (N := 3) (ci := 5) rfl rfl [0, 9, 10, 11, 12, 13, 14, 15] rfl (by decide) rfl rfl rfl rfl rfl rfl hl.1 (Nat.le_of_ble_eq_true rfl) dX5_separate_89 ⟨Nat.zero_le _, Nat.zero_le _⟩ (fun H locs hP hD hS => ?_)
              refine lv_aload_n hx hb dX5_separate_92 rfl (lv_at hl 3 rfl) ?_
              refine lv_iload hx hb dX5_separate_93 (lv_at hl 0 rfl) ?_
              refine lv_aload_n hx hb dX5_separate_95 rfl (lv_at hl 3 rfl) ?_
              refine va_get (D := D) (ci := 5) (v := .ref (ad 14)) (C := RX5) (T := TX5) (N := 3) hx hb hts layX5 hown hK hP 0 rfl rfl 0 (by decide) (hts _ (inA q442)) (fun _ h9 => h9) rfl dX5_separate_96 ?_
              refine lv_iload_n hx hb dX5_separate_99 rfl (lv_at hl 4 rfl) ?_
              obtain ⟨r78, hcr78, hM⟩ := ob_use hM
              refine cl_V (As := [.int a1]) (rest := [.int r3, .ref (ad 23)]) (w_Writer_this_tree_names_out cI ad o_tree o_names r77) (.int r78 :: [.int r3, .ref (ad 23)]) ⟨hx, hb, hml, hown, hts⟩ (c_Tree_kind l D cI sd ad o_tree a1 r78 hcr78) (cwV2 hts q870 mvX3_kind rfl rfl ⟨(Nat.le_of_ble_eq_true rfl), (Nat.le_of_ble_eq_true rfl)⟩) hK hE hA hP hD hS 1 (T := TX3) (N := 8) (ci := 3) rfl rfl [1, 2, 3, 4, 5, 6, 7, 8] rfl (by decide) rfl rfl rfl rfl rfl rfl hl.1 (Nat.le_of_ble_eq_true rfl) dX5_separate_100 ⟨Nat.zero_le _, Nat.zero_le _⟩ (fun H locs hP hD hS => ?_)
              refine lv_iload_n hx hb dX5_separate_103 rfl (lv_at hl 2 rfl) ?_
              obtain ⟨r79, hcr79, hM⟩ := ob_use hM
              refine cl_S (As := [.int r3, .int r78, .int r1]) (rest := [.ref (ad 23)]) (w_Writer_this_tree_names_out cI ad o_tree o_names r77) (.int r79 :: [.ref (ad 23)]) ⟨hx, hb, hml, hown, hts⟩ (c_Writer_separator l D cI sd ad r3 r78 r1 r79 hcr79) (cwS2 hts q913 mvX5_separator rfl rfl ⟨(Nat.le_of_ble_eq_true rfl), (Nat.le_of_ble_eq_true rfl)⟩) hK hE hA hP hD hS [] rfl (by decide) rfl rfl rfl rfl rfl rfl hl.1 (Nat.le_of_ble_eq_true rfl) dX5_separate_104 ⟨Nat.zero_le _, Nat.zero_le _⟩ (fun H locs hP hD hS => ?_)
              obtain ⟨r80, hcr80, hM⟩ := ob_use hM
              refine cl_V (As := [.int r79]) (rest := []) (w_Writer_this_tree_names_out cI ad o_tree o_names r80) [] ⟨hx, hb, hml, hown, hts⟩ (c_Writer_token l D cI sd ad o_names r77 r79 r80 hcr80) (cwV2 hts q872 mvX5_token rfl rfl ⟨(Nat.le_of_ble_eq_true rfl), (Nat.le_of_ble_eq_true rfl)⟩) hK hE hA hP hD hS 0 (T := TX5) (N := 3) (ci := 5) rfl rfl [0, 9, 10, 11, 12, 13, 14, 15] rfl (by decide) rfl rfl rfl rfl rfl rfl hl.1 (Nat.le_of_ble_eq_true rfl) dX5_separate_107 ⟨Nat.zero_le _, Nat.zero_le _⟩ (fun H locs hP hD hS => ?_)
              cases hM
              exact rt_v hx hb hr hlk hP hD hS rfl dX5_separate_110
        · replace hM := if_t c66 hM
          refine lv_aload_n hx hb dX5_separate_58 rfl (lv_at hl 3 rfl) ?_
          refine lv_sipush (v := 271) hx hb dX5_separate_59 (by decide) ?_
          obtain ⟨r81, hcr81, hM⟩ := ob_use hM
          refine cl_V (As := [.int 271]) (rest := []) (w_Writer_this_tree_names_out cI ad o_tree o_names r81) [] ⟨hx, hb, hml, hown, hts⟩ (c_Writer_token l D cI sd ad o_names o_out 271 r81 hcr81) (cwV2 hts q872 mvX5_token rfl rfl ⟨(Nat.le_of_ble_eq_true rfl), (Nat.le_of_ble_eq_true rfl)⟩) hK hE hA hP hD hS 0 (T := TX5) (N := 3) (ci := 5) rfl rfl [0, 9, 10, 11, 12, 13, 14, 15] rfl (by decide) rfl rfl rfl rfl rfl rfl hl.1 (Nat.le_of_ble_eq_true rfl) dX5_separate_62 ⟨Nat.zero_le _, Nat.zero_le _⟩ (fun H locs hP hD hS => ?_)
          refine lv_iload hx hb dX5_separate_65 (lv_at hl 0 rfl) ?_
          refine lv_bipush (v := 35) hx hb dX5_separate_67 (by decide) ?_
          refine lv_icmp_ne (tgt := 92) hx hb dX5_separate_69 (by decide) (fun c82 => ?_) (fun c82 => ?_)
          · replace hM := if_f c82 hM
            refine lv_aload_n hx hb dX5_separate_92 rfl (lv_at hl 3 rfl) ?_
            refine lv_iload hx hb dX5_separate_93 (lv_at hl 0 rfl) ?_
            refine lv_aload_n hx hb dX5_separate_95 rfl (lv_at hl 3 rfl) ?_
            refine va_get (D := D) (ci := 5) (v := .ref (ad 14)) (C := RX5) (T := TX5) (N := 3) hx hb hts layX5 hown hK hP 0 rfl rfl 0 (by decide) (hts _ (inA q442)) (fun _ h9 => h9) rfl dX5_separate_96 ?_
            refine lv_iload_n hx hb dX5_separate_99 rfl (lv_at hl 4 rfl) ?_
            obtain ⟨r83, hcr83, hM⟩ := ob_use hM
            refine cl_V (As := [.int a1]) (rest := [.int r3, .ref (ad 23)]) (w_Writer_this_tree_names_out cI ad o_tree o_names r81) (.int r83 :: [.int r3, .ref (ad 23)]) ⟨hx, hb, hml, hown, hts⟩ (c_Tree_kind l D cI sd ad o_tree a1 r83 hcr83) (cwV2 hts q870 mvX3_kind rfl rfl ⟨(Nat.le_of_ble_eq_true rfl), (Nat.le_of_ble_eq_true rfl)⟩) hK hE hA hP hD hS 1 (T := TX3) (N := 8) (ci := 3) rfl rfl [1, 2, 3, 4, 5, 6, 7, 8] rfl (by decide) rfl rfl rfl rfl rfl rfl hl.1 (Nat.le_of_ble_eq_true rfl) dX5_separate_100 ⟨Nat.zero_le _, Nat.zero_le _⟩ (fun H locs hP hD hS => ?_)
            refine lv_iload_n hx hb dX5_separate_103 rfl (lv_at hl 2 rfl) ?_
            obtain ⟨r84, hcr84, hM⟩ := ob_use hM
            refine cl_S (As := [.int r3, .int r83, .int r1]) (rest := [.ref (ad 23)]) (w_Writer_this_tree_names_out cI ad o_tree o_names r81) (.int r84 :: [.ref (ad 23)]) ⟨hx, hb, hml, hown, hts⟩ (c_Writer_separator l D cI sd ad r3 r83 r1 r84 hcr84) (cwS2 hts q913 mvX5_separator rfl rfl ⟨(Nat.le_of_ble_eq_true rfl), (Nat.le_of_ble_eq_true rfl)⟩) hK hE hA hP hD hS [] rfl (by decide) rfl rfl rfl rfl rfl rfl hl.1 (Nat.le_of_ble_eq_true rfl) dX5_separate_104 ⟨Nat.zero_le _, Nat.zero_le _⟩ (fun H locs hP hD hS => ?_)
            obtain ⟨r85, hcr85, hM⟩ := ob_use hM
            refine cl_V (As := [.int r84]) (rest := []) (w_Writer_this_tree_names_out cI ad o_tree o_names r85) [] ⟨hx, hb, hml, hown, hts⟩ (c_Writer_token l D cI sd ad o_names r81 r84 r85 hcr85) (cwV2 hts q872 mvX5_token rfl rfl ⟨(Nat.le_of_ble_eq_true rfl), (Nat.le_of_ble_eq_true rfl)⟩) hK hE hA hP hD hS 0 (T := TX5) (N := 3) (ci := 5) rfl rfl [0, 9, 10, 11, 12, 13, 14, 15] rfl (by decide) rfl rfl rfl rfl rfl rfl hl.1 (Nat.le_of_ble_eq_true rfl) dX5_separate_107 ⟨Nat.zero_le _, Nat.zero_le _⟩ (fun H locs hP hD hS => ?_)
            cases hM
            exact rt_v hx hb hr hlk hP hD hS rfl dX5_separate_110
          · replace hM := if_t c82 hM
            refine lv_iload_n hx hb dX5_separate_72 rfl (lv_at hl 2 rfl) ?_
            refine lv_iconst (v := 1) hx hb dX5_separate_73 (by decide) ?_
            refine lv_icmp_ne (tgt := 92) hx hb dX5_separate_74 (by decide) (fun c86 => ?_) (fun c86 => ?_)
            · replace hM := if_f c86 hM
              refine lv_aload_n hx hb dX5_separate_92 rfl (lv_at hl 3 rfl) ?_
              refine lv_iload hx hb dX5_separate_93 (lv_at hl 0 rfl) ?_
              refine lv_aload_n hx hb dX5_separate_95 rfl (lv_at hl 3 rfl) ?_
              refine va_get (D := D) (ci := 5) (v := .ref (ad 14)) (C := RX5) (T := TX5) (N := 3) hx hb hts layX5 hown hK hP 0 rfl rfl 0 (by decide) (hts _ (inA q442)) (fun _ h9 => h9) rfl dX5_separate_96 ?_
              refine lv_iload_n hx hb dX5_separate_99 rfl (lv_at hl 4 rfl) ?_
              obtain ⟨r87, hcr87, hM⟩ := ob_use hM
              refine cl_V (As := [.int a1]) (rest := [.int r3, .ref (ad 23)]) (w_Writer_this_tree_names_out cI ad o_tree o_names r81) (.int r87 :: [.int r3, .ref (ad 23)]) ⟨hx, hb, hml, hown, hts⟩ (c_Tree_kind l D cI sd ad o_tree a1 r87 hcr87) (cwV2 hts q870 mvX3_kind rfl rfl ⟨(Nat.le_of_ble_eq_true rfl), (Nat.le_of_ble_eq_true rfl)⟩) hK hE hA hP hD hS 1 (T := TX3) (N := 8) (ci := 3) rfl rfl [1, 2, 3, 4, 5, 6, 7, 8] rfl (by decide) rfl rfl rfl rfl rfl rfl hl.1 (Nat.le_of_ble_eq_true rfl) dX5_separate_100 ⟨Nat.zero_le _, Nat.zero_le _⟩ (fun H locs hP hD hS => ?_)
              refine lv_iload_n hx hb dX5_separate_103 rfl (lv_at hl 2 rfl) ?_
              obtain ⟨r88, hcr88, hM⟩ := ob_use hM
              refine cl_S (As := [.int r3, .int r87, .int r1]) (rest := [.ref (ad 23)]) (w_Writer_this_tree_names_out cI ad o_tree o_names r81) (.int r88 :: [.ref (ad 23)]) ⟨hx, hb, hml, hown, hts⟩ (c_Writer_separator l D cI sd ad r3 r87 r1 r88 hcr88) (cwS2 hts q913 mvX5_separator rfl rfl ⟨(Nat.le_of_ble_eq_true rfl), (Nat.le_of_ble_eq_true rfl)⟩) hK hE hA hP hD hS [] rfl (by decide) rfl rfl rfl rfl rfl rfl hl.1 (Nat.le_of_ble_eq_true rfl) dX5_separate_104 ⟨Nat.zero_le _, Nat.zero_le _⟩ (fun H locs hP hD hS => ?_)
              obtain ⟨r89, hcr89, hM⟩ := ob_use hM
              refine cl_V (As := [.int r88]) (rest := []) (w_Writer_this_tree_names_out cI ad o_tree o_names r89) [] ⟨hx, hb, hml, hown, hts⟩ (c_Writer_token l D cI sd ad o_names r81 r88 r89 hcr89) (cwV2 hts q872 mvX5_token rfl rfl ⟨(Nat.le_of_ble_eq_true rfl), (Nat.le_of_ble_eq_true rfl)⟩) hK hE hA hP hD hS 0 (T := TX5) (N := 3) (ci := 5) rfl rfl [0, 9, 10, 11, 12, 13, 14, 15] rfl (by decide) rfl rfl rfl rfl rfl rfl hl.1 (Nat.le_of_ble_eq_true rfl) dX5_separate_107 ⟨Nat.zero_le _, Nat.zero_le _⟩ (fun H locs hP hD hS => ?_)
              cases hM
              exact rt_v hx hb hr hlk hP hD hS rfl dX5_separate_110
            · replace hM := if_t c86 hM
              refine lv_aload_n hx hb dX5_separate_77 rfl (lv_at hl 3 rfl) ?_
              refine lv_aload_n hx hb dX5_separate_78 rfl (lv_at hl 3 rfl) ?_
              refine va_get (D := D) (ci := 5) (v := .ref (ad 14)) (C := RX5) (T := TX5) (N := 3) hx hb hts layX5 hown hK hP 0 rfl rfl 0 (by decide) (hts _ (inA q442)) (fun _ h9 => h9) rfl dX5_separate_79 ?_
              refine lv_iload_n hx hb dX5_separate_82 rfl (lv_at hl 1 rfl) ?_
              obtain ⟨r90, hcr90, hM⟩ := ob_use hM
              refine cl_V (As := [.int r2]) (rest := [.ref (ad 23)]) (w_Writer_this_tree_names_out cI ad o_tree o_names r81) (.int r90 :: [.ref (ad 23)]) ⟨hx, hb, hml, hown, hts⟩ (c_Tree_value l D cI sd ad o_tree r2 r90 hcr90) (cwV2 hts q892 mvX3_value rfl rfl ⟨(Nat.le_of_ble_eq_true rfl), (Nat.le_of_ble_eq_true rfl)⟩) hK hE hA hP hD hS 1 (T := TX3) (N := 8) (ci := 3) rfl rfl [1, 2, 3, 4, 5, 6, 7, 8] rfl (by decide) rfl rfl rfl rfl rfl rfl hl.1 (Nat.le_of_ble_eq_true rfl) dX5_separate_83 ⟨Nat.zero_le _, Nat.zero_le _⟩ (fun H locs hP hD hS => ?_)
              obtain ⟨r91, hcr91, hM⟩ := ob_use hM
              refine cl_S (As := [.int r90]) (rest := [.ref (ad 23)]) (w_Writer_this_tree_names_out cI ad o_tree o_names r81) (.int r91 :: [.ref (ad 23)]) ⟨hx, hb, hml, hown, hts⟩ (c_Sign_between l D cI sd ad r90 r91 hcr91) (cwS2 hts q908 mvX7_between rfl rfl ⟨(Nat.le_of_ble_eq_true rfl), (Nat.le_of_ble_eq_true rfl)⟩) hK hE hA hP hD hS [] rfl (by decide) rfl rfl rfl rfl rfl rfl hl.1 (Nat.le_of_ble_eq_true rfl) dX5_separate_86 ⟨Nat.zero_le _, Nat.zero_le _⟩ (fun H locs hP hD hS => ?_)
              obtain ⟨r92, hcr92, hM⟩ := ob_use hM
              refine cl_V (As := [.int r91]) (rest := []) (w_Writer_this_tree_names_out cI ad o_tree o_names r92) [] ⟨hx, hb, hml, hown, hts⟩ (c_Writer_token l D cI sd ad o_names r81 r91 r92 hcr92) (cwV2 hts q872 mvX5_token rfl rfl ⟨(Nat.le_of_ble_eq_true rfl), (Nat.le_of_ble_eq_true rfl)⟩) hK hE hA hP hD hS 0 (T := TX5) (N := 3) (ci := 5) rfl rfl [0, 9, 10, 11, 12, 13, 14, 15] rfl (by decide) rfl rfl rfl rfl rfl rfl hl.1 (Nat.le_of_ble_eq_true rfl) dX5_separate_89 ⟨Nat.zero_le _, Nat.zero_le _⟩ (fun H locs hP hD hS => ?_)
              refine lv_aload_n hx hb dX5_separate_92 rfl (lv_at hl 3 rfl) ?_
              refine lv_iload hx hb dX5_separate_93 (lv_at hl 0 rfl) ?_
              refine lv_aload_n hx hb dX5_separate_95 rfl (lv_at hl 3 rfl) ?_
              refine va_get (D := D) (ci := 5) (v := .ref (ad 14)) (C := RX5) (T := TX5) (N := 3) hx hb hts layX5 hown hK hP 0 rfl rfl 0 (by decide) (hts _ (inA q442)) (fun _ h9 => h9) rfl dX5_separate_96 ?_
              refine lv_iload_n hx hb dX5_separate_99 rfl (lv_at hl 4 rfl) ?_
              obtain ⟨r93, hcr93, hM⟩ := ob_use hM
              refine cl_V (As := [.int a1]) (rest := [.int r3, .ref (ad 23)]) (w_Writer_this_tree_names_out cI ad o_tree o_names r92) (.int r93 :: [.int r3, .ref (ad 23)]) ⟨hx, hb, hml, hown, hts⟩ (c_Tree_kind l D cI sd ad o_tree a1 r93 hcr93) (cwV2 hts q870 mvX3_kind rfl rfl ⟨(Nat.le_of_ble_eq_true rfl), (Nat.le_of_ble_eq_true rfl)⟩) hK hE hA hP hD hS 1 (T := TX3) (N := 8) (ci := 3) rfl rfl [1, 2, 3, 4, 5, 6, 7, 8] rfl (by decide) rfl rfl rfl rfl rfl rfl hl.1 (Nat.le_of_ble_eq_true rfl) dX5_separate_100 ⟨Nat.zero_le _, Nat.zero_le _⟩ (fun H locs hP hD hS => ?_)
              refine lv_iload_n hx hb dX5_separate_103 rfl (lv_at hl 2 rfl) ?_
              obtain ⟨r94, hcr94, hM⟩ := ob_use hM
              refine cl_S (As := [.int r3, .int r93, .int r1]) (rest := [.ref (ad 23)]) (w_Writer_this_tree_names_out cI ad o_tree o_names r92) (.int r94 :: [.ref (ad 23)]) ⟨hx, hb, hml, hown, hts⟩ (c_Writer_separator l D cI sd ad r3 r93 r1 r94 hcr94) (cwS2 hts q913 mvX5_separator rfl rfl ⟨(Nat.le_of_ble_eq_true rfl), (Nat.le_of_ble_eq_true rfl)⟩) hK hE hA hP hD hS [] rfl (by decide) rfl rfl rfl rfl rfl rfl hl.1 (Nat.le_of_ble_eq_true rfl) dX5_separate_104 ⟨Nat.zero_le _, Nat.zero_le _⟩ (fun H locs hP hD hS => ?_)
              obtain ⟨r95, hcr95, hM⟩ := ob_use hM
              refine cl_V (As := [.int r94]) (rest := []) (w_Writer_this_tree_names_out cI ad o_tree o_names r95) [] ⟨hx, hb, hml, hown, hts⟩ (c_Writer_token l D cI sd ad o_names r92 r94 r95 hcr95) (cwV2 hts q872 mvX5_token rfl rfl ⟨(Nat.le_of_ble_eq_true rfl), (Nat.le_of_ble_eq_true rfl)⟩) hK hE hA hP hD hS 0 (T := TX5) (N := 3) (ci := 5) rfl rfl [0, 9, 10, 11, 12, 13, 14, 15] rfl (by decide) rfl rfl rfl rfl rfl rfl hl.1 (Nat.le_of_ble_eq_true rfl) dX5_separate_107 ⟨Nat.zero_le _, Nat.zero_le _⟩ (fun H locs hP hD hS => ?_)
              cases hM
              exact rt_v hx hb hr hlk hP hD hS rfl dX5_separate_110
    · replace hM := if_t c50 hM
      refine lv_aload_n hx hb dX5_separate_40 rfl (lv_at hl 3 rfl) ?_
      refine lv_bipush (v := 93) hx hb dX5_separate_41 (by decide) ?_
      obtain ⟨r96, hcr96, hM⟩ := ob_use hM
      refine cl_V (As := [.int 93]) (rest := []) (w_Writer_this_tree_names_out cI ad o_tree o_names r96) [] ⟨hx, hb, hml, hown, hts⟩ (c_Writer_token l D cI sd ad o_names o_out 93 r96 hcr96) (cwV2 hts q872 mvX5_token rfl rfl ⟨(Nat.le_of_ble_eq_true rfl), (Nat.le_of_ble_eq_true rfl)⟩) hK hE hA hP hD hS 0 (T := TX5) (N := 3) (ci := 5) rfl rfl [0, 9, 10, 11, 12, 13, 14, 15] rfl (by decide) rfl rfl rfl rfl rfl rfl hl.1 (Nat.le_of_ble_eq_true rfl) dX5_separate_43 ⟨Nat.zero_le _, Nat.zero_le _⟩ (fun H locs hP hD hS => ?_)
      refine lv_iload hx hb dX5_separate_46 (lv_at hl 0 rfl) ?_
      refine lv_bipush (v := 16) hx hb dX5_separate_48 (by decide) ?_
      refine lv_icmp_ne (tgt := 65) hx hb dX5_separate_50 (by decide) (fun c97 => ?_) (fun c97 => ?_)
      · replace hM := if_f c97 hM
        refine lv_iload hx hb dX5_separate_65 (lv_at hl 0 rfl) ?_
        refine lv_bipush (v := 35) hx hb dX5_separate_67 (by decide) ?_
        refine lv_icmp_ne (tgt := 92) hx hb dX5_separate_69 (by decide) (fun c98 => ?_) (fun c98 => ?_)
        · replace hM := if_f c98 hM
          refine lv_aload_n hx hb dX5_separate_92 rfl (lv_at hl 3 rfl) ?_
          refine lv_iload hx hb dX5_separate_93 (lv_at hl 0 rfl) ?_
          refine lv_aload_n hx hb dX5_separate_95 rfl (lv_at hl 3 rfl) ?_
          refine va_get (D := D) (ci := 5) (v := .ref (ad 14)) (C := RX5) (T := TX5) (N := 3) hx hb hts layX5 hown hK hP 0 rfl rfl 0 (by decide) (hts _ (inA q442)) (fun _ h9 => h9) rfl dX5_separate_96 ?_
          refine lv_iload_n hx hb dX5_separate_99 rfl (lv_at hl 4 rfl) ?_
          obtain ⟨r99, hcr99, hM⟩ := ob_use hM
          refine cl_V (As := [.int a1]) (rest := [.int r3, .ref (ad 23)]) (w_Writer_this_tree_names_out cI ad o_tree o_names r96) (.int r99 :: [.int r3, .ref (ad 23)]) ⟨hx, hb, hml, hown, hts⟩ (c_Tree_kind l D cI sd ad o_tree a1 r99 hcr99) (cwV2 hts q870 mvX3_kind rfl rfl ⟨(Nat.le_of_ble_eq_true rfl), (Nat.le_of_ble_eq_true rfl)⟩) hK hE hA hP hD hS 1 (T := TX3) (N := 8) (ci := 3) rfl rfl [1, 2, 3, 4, 5, 6, 7, 8] rfl (by decide) rfl rfl rfl rfl rfl rfl hl.1 (Nat.le_of_ble_eq_true rfl) dX5_separate_100 ⟨Nat.zero_le _, Nat.zero_le _⟩ (fun H locs hP hD hS => ?_)
          refine lv_iload_n hx hb dX5_separate_103 rfl (lv_at hl 2 rfl) ?_
          obtain ⟨r100, hcr100, hM⟩ := ob_use hM
          refine cl_S (As := [.int r3, .int r99, .int r1]) (rest := [.ref (ad 23)]) (w_Writer_this_tree_names_out cI ad o_tree o_names r96) (.int r100 :: [.ref (ad 23)]) ⟨hx, hb, hml, hown, hts⟩ (c_Writer_separator l D cI sd ad r3 r99 r1 r100 hcr100) (cwS2 hts q913 mvX5_separator rfl rfl ⟨(Nat.le_of_ble_eq_true rfl), (Nat.le_of_ble_eq_true rfl)⟩) hK hE hA hP hD hS [] rfl (by decide) rfl rfl rfl rfl rfl rfl hl.1 (Nat.le_of_ble_eq_true rfl) dX5_separate_104 ⟨Nat.zero_le _, Nat.zero_le _⟩ (fun H locs hP hD hS => ?_)
          obtain ⟨r101, hcr101, hM⟩ := ob_use hM
          refine cl_V (As := [.int r100]) (rest := []) (w_Writer_this_tree_names_out cI ad o_tree o_names r101) [] ⟨hx, hb, hml, hown, hts⟩ (c_Writer_token l D cI sd ad o_names r96 r100 r101 hcr101) (cwV2 hts q872 mvX5_token rfl rfl ⟨(Nat.le_of_ble_eq_true rfl), (Nat.le_of_ble_eq_true rfl)⟩) hK hE hA hP hD hS 0 (T := TX5) (N := 3) (ci := 5) rfl rfl [0, 9, 10, 11, 12, 13, 14, 15] rfl (by decide) rfl rfl rfl rfl rfl rfl hl.1 (Nat.le_of_ble_eq_true rfl) dX5_separate_107 ⟨Nat.zero_le _, Nat.zero_le _⟩ (fun H locs hP hD hS => ?_)
          cases hM
          exact rt_v hx hb hr hlk hP hD hS rfl dX5_separate_110
        · replace hM := if_t c98 hM
          refine lv_iload_n hx hb dX5_separate_72 rfl (lv_at hl 2 rfl) ?_
          refine lv_iconst (v := 1) hx hb dX5_separate_73 (by decide) ?_
          refine lv_icmp_ne (tgt := 92) hx hb dX5_separate_74 (by decide) (fun c102 => ?_) (fun c102 => ?_)
          · replace hM := if_f c102 hM
            refine lv_aload_n hx hb dX5_separate_92 rfl (lv_at hl 3 rfl) ?_
            refine lv_iload hx hb dX5_separate_93 (lv_at hl 0 rfl) ?_
            refine lv_aload_n hx hb dX5_separate_95 rfl (lv_at hl 3 rfl) ?_
            refine va_get (D := D) (ci := 5) (v := .ref (ad 14)) (C := RX5) (T := TX5) (N := 3) hx hb hts layX5 hown hK hP 0 rfl rfl 0 (by decide) (hts _ (inA q442)) (fun _ h9 => h9) rfl dX5_separate_96 ?_
            refine lv_iload_n hx hb dX5_separate_99 rfl (lv_at hl 4 rfl) ?_
            obtain ⟨r103, hcr103, hM⟩ := ob_use hM
            refine cl_V (As := [.int a1]) (rest := [.int r3, .ref (ad 23)]) (w_Writer_this_tree_names_out cI ad o_tree o_names r96) (.int r103 :: [.int r3, .ref (ad 23)]) ⟨hx, hb, hml, hown, hts⟩ (c_Tree_kind l D cI sd ad o_tree a1 r103 hcr103) (cwV2 hts q870 mvX3_kind rfl rfl ⟨(Nat.le_of_ble_eq_true rfl), (Nat.le_of_ble_eq_true rfl)⟩) hK hE hA hP hD hS 1 (T := TX3) (N := 8) (ci := 3) rfl rfl [1, 2, 3, 4, 5, 6, 7, 8] rfl (by decide) rfl rfl rfl rfl rfl rfl hl.1 (Nat.le_of_ble_eq_true rfl) dX5_separate_100 ⟨Nat.zero_le _, Nat.zero_le _⟩ (fun H locs hP hD hS => ?_)
            refine lv_iload_n hx hb dX5_separate_103 rfl (lv_at hl 2 rfl) ?_
            obtain ⟨r104, hcr104, hM⟩ := ob_use hM
            refine cl_S (As := [.int r3, .int r103, .int r1]) (rest := [.ref (ad 23)]) (w_Writer_this_tree_names_out cI ad o_tree o_names r96) (.int r104 :: [.ref (ad 23)]) ⟨hx, hb, hml, hown, hts⟩ (c_Writer_separator l D cI sd ad r3 r103 r1 r104 hcr104) (cwS2 hts q913 mvX5_separator rfl rfl ⟨(Nat.le_of_ble_eq_true rfl), (Nat.le_of_ble_eq_true rfl)⟩) hK hE hA hP hD hS [] rfl (by decide) rfl rfl rfl rfl rfl rfl hl.1 (Nat.le_of_ble_eq_true rfl) dX5_separate_104 ⟨Nat.zero_le _, Nat.zero_le _⟩ (fun H locs hP hD hS => ?_)
            obtain ⟨r105, hcr105, hM⟩ := ob_use hM
            refine cl_V (As := [.int r104]) (rest := []) (w_Writer_this_tree_names_out cI ad o_tree o_names r105) [] ⟨hx, hb, hml, hown, hts⟩ (c_Writer_token l D cI sd ad o_names r96 r104 r105 hcr105) (cwV2 hts q872 mvX5_token rfl rfl ⟨(Nat.le_of_ble_eq_true rfl), (Nat.le_of_ble_eq_true rfl)⟩) hK hE hA hP hD hS 0 (T := TX5) (N := 3) (ci := 5) rfl rfl [0, 9, 10, 11, 12, 13, 14, 15] rfl (by decide) rfl rfl rfl rfl rfl rfl hl.1 (Nat.le_of_ble_eq_true rfl) dX5_separate_107 ⟨Nat.zero_le _, Nat.zero_le _⟩ (fun H locs hP hD hS => ?_)
            cases hM
            exact rt_v hx hb hr hlk hP hD hS rfl dX5_separate_110
          · replace hM := if_t c102 hM
            refine lv_aload_n hx hb dX5_separate_77 rfl (lv_at hl 3 rfl) ?_
            refine lv_aload_n hx hb dX5_separate_78 rfl (lv_at hl 3 rfl) ?_
            refine va_get (D := D) (ci := 5) (v := .ref (ad 14)) (C := RX5) (T := TX5) (N := 3) hx hb hts layX5 hown hK hP 0 rfl rfl 0 (by decide) (hts _ (inA q442)) (fun _ h9 => h9) rfl dX5_separate_79 ?_
            refine lv_iload_n hx hb dX5_separate_82 rfl (lv_at hl 1 rfl) ?_
            obtain ⟨r106, hcr106, hM⟩ := ob_use hM
            refine cl_V (As := [.int r2]) (rest := [.ref (ad 23)]) (w_Writer_this_tree_names_out cI ad o_tree o_names r96) (.int r106 :: [.ref (ad 23)]) ⟨hx, hb, hml, hown, hts⟩ (c_Tree_value l D cI sd ad o_tree r2 r106 hcr106) (cwV2 hts q892 mvX3_value rfl rfl ⟨(Nat.le_of_ble_eq_true rfl), (Nat.le_of_ble_eq_true rfl)⟩) hK hE hA hP hD hS 1 (T := TX3) (N := 8) (ci := 3) rfl rfl [1, 2, 3, 4, 5, 6, 7, 8] rfl (by decide) rfl rfl rfl rfl rfl rfl hl.1 (Nat.le_of_ble_eq_true rfl) dX5_separate_83 ⟨Nat.zero_le _, Nat.zero_le _⟩ (fun H locs hP hD hS => ?_)
            obtain ⟨r107, hcr107, hM⟩ := ob_use hM
            refine cl_S (As := [.int r106]) (rest := [.ref (ad 23)]) (w_Writer_this_tree_names_out cI ad o_tree o_names r96) (.int r107 :: [.ref (ad 23)]) ⟨hx, hb, hml, hown, hts⟩ (c_Sign_between l D cI sd ad r106 r107 hcr107) (cwS2 hts q908 mvX7_between rfl rfl ⟨(Nat.le_of_ble_eq_true rfl), (Nat.le_of_ble_eq_true rfl)⟩) hK hE hA hP hD hS [] rfl (by decide) rfl rfl rfl rfl rfl rfl hl.1 (Nat.le_of_ble_eq_true rfl) dX5_separate_86 ⟨Nat.zero_le _, Nat.zero_le _⟩ (fun H locs hP hD hS => ?_)
            obtain ⟨r108, hcr108, hM⟩ := ob_use hM
            refine cl_V (As := [.int r107]) (rest := []) (w_Writer_this_tree_names_out cI ad o_tree o_names r108) [] ⟨hx, hb, hml, hown, hts⟩ (c_Writer_token l D cI sd ad o_names r96 r107 r108 hcr108) (cwV2 hts q872 mvX5_token rfl rfl ⟨(Nat.le_of_ble_eq_true rfl), (Nat.le_of_ble_eq_true rfl)⟩) hK hE hA hP hD hS 0 (T := TX5) (N := 3) (ci := 5) rfl rfl [0, 9, 10, 11, 12, 13, 14, 15] rfl (by decide) rfl rfl rfl rfl rfl rfl hl.1 (Nat.le_of_ble_eq_true rfl) dX5_separate_89 ⟨Nat.zero_le _, Nat.zero_le _⟩ (fun H locs hP hD hS => ?_)
            refine lv_aload_n hx hb dX5_separate_92 rfl (lv_at hl 3 rfl) ?_
            refine lv_iload hx hb dX5_separate_93 (lv_at hl 0 rfl) ?_
            refine lv_aload_n hx hb dX5_separate_95 rfl (lv_at hl 3 rfl) ?_
            refine va_get (D := D) (ci := 5) (v := .ref (ad 14)) (C := RX5) (T := TX5) (N := 3) hx hb hts layX5 hown hK hP 0 rfl rfl 0 (by decide) (hts _ (inA q442)) (fun _ h9 => h9) rfl dX5_separate_96 ?_
            refine lv_iload_n hx hb dX5_separate_99 rfl (lv_at hl 4 rfl) ?_
            obtain ⟨r109, hcr109, hM⟩ := ob_use hM
            refine cl_V (As := [.int a1]) (rest := [.int r3, .ref (ad 23)]) (w_Writer_this_tree_names_out cI ad o_tree o_names r108) (.int r109 :: [.int r3, .ref (ad 23)]) ⟨hx, hb, hml, hown, hts⟩ (c_Tree_kind l D cI sd ad o_tree a1 r109 hcr109) (cwV2 hts q870 mvX3_kind rfl rfl ⟨(Nat.le_of_ble_eq_true rfl), (Nat.le_of_ble_eq_true rfl)⟩) hK hE hA hP hD hS 1 (T := TX3) (N := 8) (ci := 3) rfl rfl [1, 2, 3, 4, 5, 6, 7, 8] rfl (by decide) rfl rfl rfl rfl rfl rfl hl.1 (Nat.le_of_ble_eq_true rfl) dX5_separate_100 ⟨Nat.zero_le _, Nat.zero_le _⟩ (fun H locs hP hD hS => ?_)
            refine lv_iload_n hx hb dX5_separate_103 rfl (lv_at hl 2 rfl) ?_
            obtain ⟨r110, hcr110, hM⟩ := ob_use hM
            refine cl_S (As := [.int r3, .int r109, .int r1]) (rest := [.ref (ad 23)]) (w_Writer_this_tree_names_out cI ad o_tree o_names r108) (.int r110 :: [.ref (ad 23)]) ⟨hx, hb, hml, hown, hts⟩ (c_Writer_separator l D cI sd ad r3 r109 r1 r110 hcr110) (cwS2 hts q913 mvX5_separator rfl rfl ⟨(Nat.le_of_ble_eq_true rfl), (Nat.le_of_ble_eq_true rfl)⟩) hK hE hA hP hD hS [] rfl (by decide) rfl rfl rfl rfl rfl rfl hl.1 (Nat.le_of_ble_eq_true rfl) dX5_separate_104 ⟨Nat.zero_le _, Nat.zero_le _⟩ (fun H locs hP hD hS => ?_)
            obtain ⟨r111, hcr111, hM⟩ := ob_use hM
            refine cl_V (As := [.int r110]) (rest := []) (w_Writer_this_tree_names_out cI ad o_tree o_names r111) [] ⟨hx, hb, hml, hown, hts⟩ (c_Writer_token l D cI sd ad o_names r108 r110 r111 hcr111) (cwV2 hts q872 mvX5_token rfl rfl ⟨(Nat.le_of_ble_eq_true rfl), (Nat.le_of_ble_eq_true rfl)⟩) hK hE hA hP hD hS 0 (T := TX5) (N := 3) (ci := 5) rfl rfl [0, 9, 10, 11, 12, 13, 14, 15] rfl (by decide) rfl rfl rfl rfl rfl rfl hl.1 (Nat.le_of_ble_eq_true rfl) dX5_separate_107 ⟨Nat.zero_le _, Nat.zero_le _⟩ (fun H locs hP hD hS => ?_)
            cases hM
            exact rt_v hx hb hr hlk hP hD hS rfl dX5_separate_110
      · replace hM := if_t c97 hM
        refine lv_iload_n hx hb dX5_separate_53 rfl (lv_at hl 2 rfl) ?_
        refine lv_iconst (v := 1) hx hb dX5_separate_54 (by decide) ?_
        refine lv_icmp_ne (tgt := 65) hx hb dX5_separate_55 (by decide) (fun c112 => ?_) (fun c112 => ?_)
        · replace hM := if_f c112 hM
          refine lv_iload hx hb dX5_separate_65 (lv_at hl 0 rfl) ?_
          refine lv_bipush (v := 35) hx hb dX5_separate_67 (by decide) ?_
          refine lv_icmp_ne (tgt := 92) hx hb dX5_separate_69 (by decide) (fun c113 => ?_) (fun c113 => ?_)
          · replace hM := if_f c113 hM
            refine lv_aload_n hx hb dX5_separate_92 rfl (lv_at hl 3 rfl) ?_
            refine lv_iload hx hb dX5_separate_93 (lv_at hl 0 rfl) ?_
            refine lv_aload_n hx hb dX5_separate_95 rfl (lv_at hl 3 rfl) ?_
            refine va_get (D := D) (ci := 5) (v := .ref (ad 14)) (C := RX5) (T := TX5) (N := 3) hx hb hts layX5 hown hK hP 0 rfl rfl 0 (by decide) (hts _ (inA q442)) (fun _ h9 => h9) rfl dX5_separate_96 ?_
            refine lv_iload_n hx hb dX5_separate_99 rfl (lv_at hl 4 rfl) ?_
            obtain ⟨r114, hcr114, hM⟩ := ob_use hM
            refine cl_V (As := [.int a1]) (rest := [.int r3, .ref (ad 23)]) (w_Writer_this_tree_names_out cI ad o_tree o_names r96) (.int r114 :: [.int r3, .ref (ad 23)]) ⟨hx, hb, hml, hown, hts⟩ (c_Tree_kind l D cI sd ad o_tree a1 r114 hcr114) (cwV2 hts q870 mvX3_kind rfl rfl ⟨(Nat.le_of_ble_eq_true rfl), (Nat.le_of_ble_eq_true rfl)⟩) hK hE hA hP hD hS 1 (T := TX3) (N := 8) (ci := 3) rfl rfl [1, 2, 3, 4, 5, 6, 7, 8] rfl (by decide) rfl rfl rfl rfl rfl rfl hl.1 (Nat.le_of_ble_eq_true rfl) dX5_separate_100 ⟨Nat.zero_le _, Nat.zero_le _⟩ (fun H locs hP hD hS => ?_)
            refine lv_iload_n hx hb dX5_separate_103 rfl (lv_at hl 2 rfl) ?_
            obtain ⟨r115, hcr115, hM⟩ := ob_use hM
            refine cl_S (As := [.int r3, .int r114, .int r1]) (rest := [.ref (ad 23)]) (w_Writer_this_tree_names_out cI ad o_tree o_names r96) (.int r115 :: [.ref (ad 23)]) ⟨hx, hb, hml, hown, hts⟩ (c_Writer_separator l D cI sd ad r3 r114 r1 r115 hcr115) (cwS2 hts q913 mvX5_separator rfl rfl ⟨(Nat.le_of_ble_eq_true rfl), (Nat.le_of_ble_eq_true rfl)⟩) hK hE hA hP hD hS [] rfl (by decide) rfl rfl rfl rfl rfl rfl hl.1 (Nat.le_of_ble_eq_true rfl) dX5_separate_104 ⟨Nat.zero_le _, Nat.zero_le _⟩ (fun H locs hP hD hS => ?_)
            obtain ⟨r116, hcr116, hM⟩ := ob_use hM
            refine cl_V (As := [.int r115]) (rest := []) (w_Writer_this_tree_names_out cI ad o_tree o_names r116) [] ⟨hx, hb, hml, hown, hts⟩ (c_Writer_token l D cI sd ad o_names r96 r115 r116 hcr116) (cwV2 hts q872 mvX5_token rfl rfl ⟨(Nat.le_of_ble_eq_true rfl), (Nat.le_of_ble_eq_true rfl)⟩) hK hE hA hP hD hS 0 (T := TX5) (N := 3) (ci := 5) rfl rfl [0, 9, 10, 11, 12, 13, 14, 15] rfl (by decide) rfl rfl rfl rfl rfl rfl hl.1 (Nat.le_of_ble_eq_true rfl) dX5_separate_107 ⟨Nat.zero_le _, Nat.zero_le _⟩ (fun H locs hP hD hS => ?_)
            cases hM
            exact rt_v hx hb hr hlk hP hD hS rfl dX5_separate_110
          · replace hM := if_t c113 hM
            refine lv_iload_n hx hb dX5_separate_72 rfl (lv_at hl 2 rfl) ?_
            refine lv_iconst (v := 1) hx hb dX5_separate_73 (by decide) ?_
            refine lv_icmp_ne (tgt := 92) hx hb dX5_separate_74 (by decide) (fun c117 => ?_) (fun c117 => ?_)
            · replace hM := if_f c117 hM
              refine lv_aload_n hx hb dX5_separate_92 rfl (lv_at hl 3 rfl) ?_
              refine lv_iload hx hb dX5_separate_93 (lv_at hl 0 rfl) ?_
              refine lv_aload_n hx hb dX5_separate_95 rfl (lv_at hl 3 rfl) ?_
              refine va_get (D := D) (ci := 5) (v := .ref (ad 14)) (C := RX5) (T := TX5) (N := 3) hx hb hts layX5 hown hK hP 0 rfl rfl 0 (by decide) (hts _ (inA q442)) (fun _ h9 => h9) rfl dX5_separate_96 ?_
              refine lv_iload_n hx hb dX5_separate_99 rfl (lv_at hl 4 rfl) ?_
              obtain ⟨r118, hcr118, hM⟩ := ob_use hM
              refine cl_V (As := [.int a1]) (rest := [.int r3, .ref (ad 23)]) (w_Writer_this_tree_names_out cI ad o_tree o_names r96) (.int r118 :: [.int r3, .ref (ad 23)]) ⟨hx, hb, hml, hown, hts⟩ (c_Tree_kind l D cI sd ad o_tree a1 r118 hcr118) (cwV2 hts q870 mvX3_kind rfl rfl ⟨(Nat.le_of_ble_eq_true rfl), (Nat.le_of_ble_eq_true rfl)⟩) hK hE hA hP hD hS 1 (T := TX3) (N := 8) (ci := 3) rfl rfl [1, 2, 3, 4, 5, 6, 7, 8] rfl (by decide) rfl rfl rfl rfl rfl rfl hl.1 (Nat.le_of_ble_eq_true rfl) dX5_separate_100 ⟨Nat.zero_le _, Nat.zero_le _⟩ (fun H locs hP hD hS => ?_)
              refine lv_iload_n hx hb dX5_separate_103 rfl (lv_at hl 2 rfl) ?_
              obtain ⟨r119, hcr119, hM⟩ := ob_use hM
              refine cl_S (As := [.int r3, .int r118, .int r1]) (rest := [.ref (ad 23)]) (w_Writer_this_tree_names_out cI ad o_tree o_names r96) (.int r119 :: [.ref (ad 23)]) ⟨hx, hb, hml, hown, hts⟩ (c_Writer_separator l D cI sd ad r3 r118 r1 r119 hcr119) (cwS2 hts q913 mvX5_separator rfl rfl ⟨(Nat.le_of_ble_eq_true rfl), (Nat.le_of_ble_eq_true rfl)⟩) hK hE hA hP hD hS [] rfl (by decide) rfl rfl rfl rfl rfl rfl hl.1 (Nat.le_of_ble_eq_true rfl) dX5_separate_104 ⟨Nat.zero_le _, Nat.zero_le _⟩ (fun H locs hP hD hS => ?_)
              obtain ⟨r120, hcr120, hM⟩ := ob_use hM
              refine cl_V (As := [.int r119]) (rest := []) (w_Writer_this_tree_names_out cI ad o_tree o_names r120) [] ⟨hx, hb, hml, hown, hts⟩ (c_Writer_token l D cI sd ad o_names r96 r119 r120 hcr120) (cwV2 hts q872 mvX5_token rfl rfl ⟨(Nat.le_of_ble_eq_true rfl), (Nat.le_of_ble_eq_true rfl)⟩) hK hE hA hP hD hS 0 (T := TX5) (N := 3) (ci := 5) rfl rfl [0, 9, 10, 11, 12, 13, 14, 15] rfl (by decide) rfl rfl rfl rfl rfl rfl hl.1 (Nat.le_of_ble_eq_true rfl) dX5_separate_107 ⟨Nat.zero_le _, Nat.zero_le _⟩ (fun H locs hP hD hS => ?_)
              cases hM
              exact rt_v hx hb hr hlk hP hD hS rfl dX5_separate_110
            · replace hM := if_t c117 hM
              refine lv_aload_n hx hb dX5_separate_77 rfl (lv_at hl 3 rfl) ?_
              refine lv_aload_n hx hb dX5_separate_78 rfl (lv_at hl 3 rfl) ?_
              refine va_get (D := D) (ci := 5) (v := .ref (ad 14)) (C := RX5) (T := TX5) (N := 3) hx hb hts layX5 hown hK hP 0 rfl rfl 0 (by decide) (hts _ (inA q442)) (fun _ h9 => h9) rfl dX5_separate_79 ?_
              refine lv_iload_n hx hb dX5_separate_82 rfl (lv_at hl 1 rfl) ?_
              obtain ⟨r121, hcr121, hM⟩ := ob_use hM
              refine cl_V (As := [.int r2]) (rest := [.ref (ad 23)]) (w_Writer_this_tree_names_out cI ad o_tree o_names r96) (.int r121 :: [.ref (ad 23)]) ⟨hx, hb, hml, hown, hts⟩ (c_Tree_value l D cI sd ad o_tree r2 r121 hcr121) (cwV2 hts q892 mvX3_value rfl rfl ⟨(Nat.le_of_ble_eq_true rfl), (Nat.le_of_ble_eq_true rfl)⟩) hK hE hA hP hD hS 1 (T := TX3) (N := 8) (ci := 3) rfl rfl [1, 2, 3, 4, 5, 6, 7, 8] rfl (by decide) rfl rfl rfl rfl rfl rfl hl.1 (Nat.le_of_ble_eq_true rfl) dX5_separate_83 ⟨Nat.zero_le _, Nat.zero_le _⟩ (fun H locs hP hD hS => ?_)
              obtain ⟨r122, hcr122, hM⟩ := ob_use hM
              refine cl_S (As := [.int r121]) (rest := [.ref (ad 23)]) (w_Writer_this_tree_names_out cI ad o_tree o_names r96) (.int r122 :: [.ref (ad 23)]) ⟨hx, hb, hml, hown, hts⟩ (c_Sign_between l D cI sd ad r121 r122 hcr122) (cwS2 hts q908 mvX7_between rfl rfl ⟨(Nat.le_of_ble_eq_true rfl), (Nat.le_of_ble_eq_true rfl)⟩) hK hE hA hP hD hS [] rfl (by decide) rfl rfl rfl rfl rfl rfl hl.1 (Nat.le_of_ble_eq_true rfl) dX5_separate_86 ⟨Nat.zero_le _, Nat.zero_le _⟩ (fun H locs hP hD hS => ?_)
              obtain ⟨r123, hcr123, hM⟩ := ob_use hM
              refine cl_V (As := [.int r122]) (rest := []) (w_Writer_this_tree_names_out cI ad o_tree o_names r123) [] ⟨hx, hb, hml, hown, hts⟩ (c_Writer_token l D cI sd ad o_names r96 r122 r123 hcr123) (cwV2 hts q872 mvX5_token rfl rfl ⟨(Nat.le_of_ble_eq_true rfl), (Nat.le_of_ble_eq_true rfl)⟩) hK hE hA hP hD hS 0 (T := TX5) (N := 3) (ci := 5) rfl rfl [0, 9, 10, 11, 12, 13, 14, 15] rfl (by decide) rfl rfl rfl rfl rfl rfl hl.1 (Nat.le_of_ble_eq_true rfl) dX5_separate_89 ⟨Nat.zero_le _, Nat.zero_le _⟩ (fun H locs hP hD hS => ?_)
              refine lv_aload_n hx hb dX5_separate_92 rfl (lv_at hl 3 rfl) ?_
              refine lv_iload hx hb dX5_separate_93 (lv_at hl 0 rfl) ?_
              refine lv_aload_n hx hb dX5_separate_95 rfl (lv_at hl 3 rfl) ?_
              refine va_get (D := D) (ci := 5) (v := .ref (ad 14)) (C := RX5) (T := TX5) (N := 3) hx hb hts layX5 hown hK hP 0 rfl rfl 0 (by decide) (hts _ (inA q442)) (fun _ h9 => h9) rfl dX5_separate_96 ?_
              refine lv_iload_n hx hb dX5_separate_99 rfl (lv_at hl 4 rfl) ?_
              obtain ⟨r124, hcr124, hM⟩ := ob_use hM
              refine cl_V (As := [.int a1]) (rest := [.int r3, .ref (ad 23)]) (w_Writer_this_tree_names_out cI ad o_tree o_names r123) (.int r124 :: [.int r3, .ref (ad 23)]) ⟨hx, hb, hml, hown, hts⟩ (c_Tree_kind l D cI sd ad o_tree a1 r124 hcr124) (cwV2 hts q870 mvX3_kind rfl rfl ⟨(Nat.le_of_ble_eq_true rfl), (Nat.le_of_ble_eq_true rfl)⟩) hK hE hA hP hD hS 1 (T := TX3) (N := 8) (ci := 3) rfl rfl [1, 2, 3, 4, 5, 6, 7, 8] rfl (by decide) rfl rfl rfl rfl rfl rfl hl.1 (Nat.le_of_ble_eq_true rfl) dX5_separate_100 ⟨Nat.zero_le _, Nat.zero_le _⟩ (fun H locs hP hD hS => ?_)
              refine lv_iload_n hx hb dX5_separate_103 rfl (lv_at hl 2 rfl) ?_
              obtain ⟨r125, hcr125, hM⟩ := ob_use hM
              refine cl_S (As := [.int r3, .int r124, .int r1]) (rest := [.ref (ad 23)]) (w_Writer_this_tree_names_out cI ad o_tree o_names r123) (.int r125 :: [.ref (ad 23)]) ⟨hx, hb, hml, hown, hts⟩ (c_Writer_separator l D cI sd ad r3 r124 r1 r125 hcr125) (cwS2 hts q913 mvX5_separator rfl rfl ⟨(Nat.le_of_ble_eq_true rfl), (Nat.le_of_ble_eq_true rfl)⟩) hK hE hA hP hD hS [] rfl (by decide) rfl rfl rfl rfl rfl rfl hl.1 (Nat.le_of_ble_eq_true rfl) dX5_separate_104 ⟨Nat.zero_le _, Nat.zero_le _⟩ (fun H locs hP hD hS => ?_)
              obtain ⟨r126, hcr126, hM⟩ := ob_use hM
              refine cl_V (As := [.int r125]) (rest := []) (w_Writer_this_tree_names_out cI ad o_tree o_names r126) [] ⟨hx, hb, hml, hown, hts⟩ (c_Writer_token l D cI sd ad o_names r123 r125 r126 hcr126) (cwV2 hts q872 mvX5_token rfl rfl ⟨(Nat.le_of_ble_eq_true rfl), (Nat.le_of_ble_eq_true rfl)⟩) hK hE hA hP hD hS 0 (T := TX5) (N := 3) (ci := 5) rfl rfl [0, 9, 10, 11, 12, 13, 14, 15] rfl (by decide) rfl rfl rfl rfl rfl rfl hl.1 (Nat.le_of_ble_eq_true rfl) dX5_separate_107 ⟨Nat.zero_le _, Nat.zero_le _⟩ (fun H locs hP hD hS => ?_)
              cases hM
              exact rt_v hx hb hr hlk hP hD hS rfl dX5_separate_110
        · replace hM := if_t c112 hM
          refine lv_aload_n hx hb dX5_separate_58 rfl (lv_at hl 3 rfl) ?_
          refine lv_sipush (v := 271) hx hb dX5_separate_59 (by decide) ?_
          obtain ⟨r127, hcr127, hM⟩ := ob_use hM
          refine cl_V (As := [.int 271]) (rest := []) (w_Writer_this_tree_names_out cI ad o_tree o_names r127) [] ⟨hx, hb, hml, hown, hts⟩ (c_Writer_token l D cI sd ad o_names r96 271 r127 hcr127) (cwV2 hts q872 mvX5_token rfl rfl ⟨(Nat.le_of_ble_eq_true rfl), (Nat.le_of_ble_eq_true rfl)⟩) hK hE hA hP hD hS 0 (T := TX5) (N := 3) (ci := 5) rfl rfl [0, 9, 10, 11, 12, 13, 14, 15] rfl (by decide) rfl rfl rfl rfl rfl rfl hl.1 (Nat.le_of_ble_eq_true rfl) dX5_separate_62 ⟨Nat.zero_le _, Nat.zero_le _⟩ (fun H locs hP hD hS => ?_)
          refine lv_iload hx hb dX5_separate_65 (lv_at hl 0 rfl) ?_
          refine lv_bipush (v := 35) hx hb dX5_separate_67 (by decide) ?_
          refine lv_icmp_ne (tgt := 92) hx hb dX5_separate_69 (by decide) (fun c128 => ?_) (fun c128 => ?_)
          · replace hM := if_f c128 hM
            refine lv_aload_n hx hb dX5_separate_92 rfl (lv_at hl 3 rfl) ?_
            refine lv_iload hx hb dX5_separate_93 (lv_at hl 0 rfl) ?_
            refine lv_aload_n hx hb dX5_separate_95 rfl (lv_at hl 3 rfl) ?_
            refine va_get (D := D) (ci := 5) (v := .ref (ad 14)) (C := RX5) (T := TX5) (N := 3) hx hb hts layX5 hown hK hP 0 rfl rfl 0 (by decide) (hts _ (inA q442)) (fun _ h9 => h9) rfl dX5_separate_96 ?_
            refine lv_iload_n hx hb dX5_separate_99 rfl (lv_at hl 4 rfl) ?_
            obtain ⟨r129, hcr129, hM⟩ := ob_use hM
            refine cl_V (As := [.int a1]) (rest := [.int r3, .ref (ad 23)]) (w_Writer_this_tree_names_out cI ad o_tree o_names r127) (.int r129 :: [.int r3, .ref (ad 23)]) ⟨hx, hb, hml, hown, hts⟩ (c_Tree_kind l D cI sd ad o_tree a1 r129 hcr129) (cwV2 hts q870 mvX3_kind rfl rfl ⟨(Nat.le_of_ble_eq_true rfl), (Nat.le_of_ble_eq_true rfl)⟩) hK hE hA hP hD hS 1 (T := TX3) (N := 8) (ci := 3) rfl rfl [1, 2, 3, 4, 5, 6, 7, 8] rfl (by decide) rfl rfl rfl rfl rfl rfl hl.1 (Nat.le_of_ble_eq_true rfl) dX5_separate_100 ⟨Nat.zero_le _, Nat.zero_le _⟩ (fun H locs hP hD hS => ?_)
            refine lv_iload_n hx hb dX5_separate_103 rfl (lv_at hl 2 rfl) ?_
            obtain ⟨r130, hcr130, hM⟩ := ob_use hM
            refine cl_S (As := [.int r3, .int r129, .int r1]) (rest := [.ref (ad 23)]) (w_Writer_this_tree_names_out cI ad o_tree o_names r127) (.int r130 :: [.ref (ad 23)]) ⟨hx, hb, hml, hown, hts⟩ (c_Writer_separator l D cI sd ad r3 r129 r1 r130 hcr130) (cwS2 hts q913 mvX5_separator rfl rfl ⟨(Nat.le_of_ble_eq_true rfl), (Nat.le_of_ble_eq_true rfl)⟩) hK hE hA hP hD hS [] rfl (by decide) rfl rfl rfl rfl rfl rfl hl.1 (Nat.le_of_ble_eq_true rfl) dX5_separate_104 ⟨Nat.zero_le _, Nat.zero_le _⟩ (fun H locs hP hD hS => ?_)
            obtain ⟨r131, hcr131, hM⟩ := ob_use hM
            refine cl_V (As := [.int r130]) (rest := []) (w_Writer_this_tree_names_out cI ad o_tree o_names r131) [] ⟨hx, hb, hml, hown, hts⟩ (c_Writer_token l D cI sd ad o_names r127 r130 r131 hcr131) (cwV2 hts q872 mvX5_token rfl rfl ⟨(Nat.le_of_ble_eq_true rfl), (Nat.le_of_ble_eq_true rfl)⟩) hK hE hA hP hD hS 0 (T := TX5) (N := 3) (ci := 5) rfl rfl [0, 9, 10, 11, 12, 13, 14, 15] rfl (by decide) rfl rfl rfl rfl rfl rfl hl.1 (Nat.le_of_ble_eq_true rfl) dX5_separate_107 ⟨Nat.zero_le _, Nat.zero_le _⟩ (fun H locs hP hD hS => ?_)
            cases hM
            exact rt_v hx hb hr hlk hP hD hS rfl dX5_separate_110
          · replace hM := if_t c128 hM
            refine lv_iload_n hx hb dX5_separate_72 rfl (lv_at hl 2 rfl) ?_
            refine lv_iconst (v := 1) hx hb dX5_separate_73 (by decide) ?_
            refine lv_icmp_ne (tgt := 92) hx hb dX5_separate_74 (by decide) (fun c132 => ?_) (fun c132 => ?_)
            · replace hM := if_f c132 hM
              refine lv_aload_n hx hb dX5_separate_92 rfl (lv_at hl 3 rfl) ?_
              refine lv_iload hx hb dX5_separate_93 (lv_at hl 0 rfl) ?_
              refine lv_aload_n hx hb dX5_separate_95 rfl (lv_at hl 3 rfl) ?_
              refine va_get (D := D) (ci := 5) (v := .ref (ad 14)) (C := RX5) (T := TX5) (N := 3) hx hb hts layX5 hown hK hP 0 rfl rfl 0 (by decide) (hts _ (inA q442)) (fun _ h9 => h9) rfl dX5_separate_96 ?_
              refine lv_iload_n hx hb dX5_separate_99 rfl (lv_at hl 4 rfl) ?_
              obtain ⟨r133, hcr133, hM⟩ := ob_use hM
              refine cl_V (As := [.int a1]) (rest := [.int r3, .ref (ad 23)]) (w_Writer_this_tree_names_out cI ad o_tree o_names r127) (.int r133 :: [.int r3, .ref (ad 23)]) ⟨hx, hb, hml, hown, hts⟩ (c_Tree_kind l D cI sd ad o_tree a1 r133 hcr133) (cwV2 hts q870 mvX3_kind rfl rfl ⟨(Nat.le_of_ble_eq_true rfl), (Nat.le_of_ble_eq_true rfl)⟩) hK hE hA hP hD hS 1 (T := TX3) (N := 8) (ci := 3) rfl rfl [1, 2, 3, 4, 5, 6, 7, 8] rfl (by decide) rfl rfl rfl rfl rfl rfl hl.1 (Nat.le_of_ble_eq_true rfl) dX5_separate_100 ⟨Nat.zero_le _, Nat.zero_le _⟩ (fun H locs hP hD hS => ?_)
              refine lv_iload_n hx hb dX5_separate_103 rfl (lv_at hl 2 rfl) ?_
              obtain ⟨r134, hcr134, hM⟩ := ob_use hM
              refine cl_S (As := [.int r3, .int r133, .int r1]) (rest := [.ref (ad 23)]) (w_Writer_this_tree_names_out cI ad o_tree o_names r127) (.int r134 :: [.ref (ad 23)]) ⟨hx, hb, hml, hown, hts⟩ (c_Writer_separator l D cI sd ad r3 r133 r1 r134 hcr134) (cwS2 hts q913 mvX5_separator rfl rfl ⟨(Nat.le_of_ble_eq_true rfl), (Nat.le_of_ble_eq_true rfl)⟩) hK hE hA hP hD hS [] rfl (by decide) rfl rfl rfl rfl rfl rfl hl.1 (Nat.le_of_ble_eq_true rfl) dX5_separate_104 ⟨Nat.zero_le _, Nat.zero_le _⟩ (fun H locs hP hD hS => ?_)
              obtain ⟨r135, hcr135, hM⟩ := ob_use hM
              refine cl_V (As := [.int r134]) (rest := []) (w_Writer_this_tree_names_out cI ad o_tree o_names r135) [] ⟨hx, hb, hml, hown, hts⟩ (c_Writer_token l D cI sd ad o_names r127 r134 r135 hcr135) (cwV2 hts q872 mvX5_token rfl rfl ⟨(Nat.le_of_ble_eq_true rfl), (Nat.le_of_ble_eq_true rfl)⟩) hK hE hA hP hD hS 0 (T := TX5) (N := 3) (ci := 5) rfl rfl [0, 9, 10, 11, 12, 13, 14, 15] rfl (by decide) rfl rfl rfl rfl rfl rfl hl.1 (Nat.le_of_ble_eq_true rfl) dX5_separate_107 ⟨Nat.zero_le _, Nat.zero_le _⟩ (fun H locs hP hD hS => ?_)
              cases hM
              exact rt_v hx hb hr hlk hP hD hS rfl dX5_separate_110
            · replace hM := if_t c132 hM
              refine lv_aload_n hx hb dX5_separate_77 rfl (lv_at hl 3 rfl) ?_
              refine lv_aload_n hx hb dX5_separate_78 rfl (lv_at hl 3 rfl) ?_
              refine va_get (D := D) (ci := 5) (v := .ref (ad 14)) (C := RX5) (T := TX5) (N := 3) hx hb hts layX5 hown hK hP 0 rfl rfl 0 (by decide) (hts _ (inA q442)) (fun _ h9 => h9) rfl dX5_separate_79 ?_
              refine lv_iload_n hx hb dX5_separate_82 rfl (lv_at hl 1 rfl) ?_
              obtain ⟨r136, hcr136, hM⟩ := ob_use hM
              refine cl_V (As := [.int r2]) (rest := [.ref (ad 23)]) (w_Writer_this_tree_names_out cI ad o_tree o_names r127) (.int r136 :: [.ref (ad 23)]) ⟨hx, hb, hml, hown, hts⟩ (c_Tree_value l D cI sd ad o_tree r2 r136 hcr136) (cwV2 hts q892 mvX3_value rfl rfl ⟨(Nat.le_of_ble_eq_true rfl), (Nat.le_of_ble_eq_true rfl)⟩) hK hE hA hP hD hS 1 (T := TX3) (N := 8) (ci := 3) rfl rfl [1, 2, 3, 4, 5, 6, 7, 8] rfl (by decide) rfl rfl rfl rfl rfl rfl hl.1 (Nat.le_of_ble_eq_true rfl) dX5_separate_83 ⟨Nat.zero_le _, Nat.zero_le _⟩ (fun H locs hP hD hS => ?_)
              obtain ⟨r137, hcr137, hM⟩ := ob_use hM
              refine cl_S (As := [.int r136]) (rest := [.ref (ad 23)]) (w_Writer_this_tree_names_out cI ad o_tree o_names r127) (.int r137 :: [.ref (ad 23)]) ⟨hx, hb, hml, hown, hts⟩ (c_Sign_between l D cI sd ad r136 r137 hcr137) (cwS2 hts q908 mvX7_between rfl rfl ⟨(Nat.le_of_ble_eq_true rfl), (Nat.le_of_ble_eq_true rfl)⟩) hK hE hA hP hD hS [] rfl (by decide) rfl rfl rfl rfl rfl rfl hl.1 (Nat.le_of_ble_eq_true rfl) dX5_separate_86 ⟨Nat.zero_le _, Nat.zero_le _⟩ (fun H locs hP hD hS => ?_)
              obtain ⟨r138, hcr138, hM⟩ := ob_use hM
              refine cl_V (As := [.int r137]) (rest := []) (w_Writer_this_tree_names_out cI ad o_tree o_names r138) [] ⟨hx, hb, hml, hown, hts⟩ (c_Writer_token l D cI sd ad o_names r127 r137 r138 hcr138) (cwV2 hts q872 mvX5_token rfl rfl ⟨(Nat.le_of_ble_eq_true rfl), (Nat.le_of_ble_eq_true rfl)⟩) hK hE hA hP hD hS 0 (T := TX5) (N := 3) (ci := 5) rfl rfl [0, 9, 10, 11, 12, 13, 14, 15] rfl (by decide) rfl rfl rfl rfl rfl rfl hl.1 (Nat.le_of_ble_eq_true rfl) dX5_separate_89 ⟨Nat.zero_le _, Nat.zero_le _⟩ (fun H locs hP hD hS => ?_)
              refine lv_aload_n hx hb dX5_separate_92 rfl (lv_at hl 3 rfl) ?_
              refine lv_iload hx hb dX5_separate_93 (lv_at hl 0 rfl) ?_
              refine lv_aload_n hx hb dX5_separate_95 rfl (lv_at hl 3 rfl) ?_
              refine va_get (D := D) (ci := 5) (v := .ref (ad 14)) (C := RX5) (T := TX5) (N := 3) hx hb hts layX5 hown hK hP 0 rfl rfl 0 (by decide) (hts _ (inA q442)) (fun _ h9 => h9) rfl dX5_separate_96 ?_
              refine lv_iload_n hx hb dX5_separate_99 rfl (lv_at hl 4 rfl) ?_
              obtain ⟨r139, hcr139, hM⟩ := ob_use hM
              refine cl_V (As := [.int a1]) (rest := [.int r3, .ref (ad 23)]) (w_Writer_this_tree_names_out cI ad o_tree o_names r138) (.int r139 :: [.int r3, .ref (ad 23)]) ⟨hx, hb, hml, hown, hts⟩ (c_Tree_kind l D cI sd ad o_tree a1 r139 hcr139) (cwV2 hts q870 mvX3_kind rfl rfl ⟨(Nat.le_of_ble_eq_true rfl), (Nat.le_of_ble_eq_true rfl)⟩) hK hE hA hP hD hS 1 (T := TX3) (N := 8) (ci := 3) rfl rfl [1, 2, 3, 4, 5, 6, 7, 8] rfl (by decide) rfl rfl rfl rfl rfl rfl hl.1 (Nat.le_of_ble_eq_true rfl) dX5_separate_100 ⟨Nat.zero_le _, Nat.zero_le _⟩ (fun H locs hP hD hS => ?_)
              refine lv_iload_n hx hb dX5_separate_103 rfl (lv_at hl 2 rfl) ?_
              obtain ⟨r140, hcr140, hM⟩ := ob_use hM
              refine cl_S (As := [.int r3, .int r139, .int r1]) (rest := [.ref (ad 23)]) (w_Writer_this_tree_names_out cI ad o_tree o_names r138) (.int r140 :: [.ref (ad 23)]) ⟨hx, hb, hml, hown, hts⟩ (c_Writer_separator l D cI sd ad r3 r139 r1 r140 hcr140) (cwS2 hts q913 mvX5_separator rfl rfl ⟨(Nat.le_of_ble_eq_true rfl), (Nat.le_of_ble_eq_true rfl)⟩) hK hE hA hP hD hS [] rfl (by decide) rfl rfl rfl rfl rfl rfl hl.1 (Nat.le_of_ble_eq_true rfl) dX5_separate_104 ⟨Nat.zero_le _, Nat.zero_le _⟩ (fun H locs hP hD hS => ?_)
              obtain ⟨r141, hcr141, hM⟩ := ob_use hM
              refine cl_V (As := [.int r140]) (rest := []) (w_Writer_this_tree_names_out cI ad o_tree o_names r141) [] ⟨hx, hb, hml, hown, hts⟩ (c_Writer_token l D cI sd ad o_names r138 r140 r141 hcr141) (cwV2 hts q872 mvX5_token rfl rfl ⟨(Nat.le_of_ble_eq_true rfl), (Nat.le_of_ble_eq_true rfl)⟩) hK hE hA hP hD hS 0 (T := TX5) (N := 3) (ci := 5) rfl rfl [0, 9, 10, 11, 12, 13, 14, 15] rfl (by decide) rfl rfl rfl rfl rfl rfl hl.1 (Nat.le_of_ble_eq_true rfl) dX5_separate_107 ⟨Nat.zero_le _, Nat.zero_le _⟩ (fun H locs hP hD hS => ?_)
              cases hM
              exact rt_v hx hb hr hlk hP hD hS rfl dX5_separate_110
