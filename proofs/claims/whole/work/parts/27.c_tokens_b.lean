set_option maxHeartbeats 4000000 in
set_option maxRecDepth 100000 in
theorem c_Tokens_digits (l : Launch) (D : va_G) (cI : ClassId) (sd : Nat → Nat) (ad : Nat → Nat) (o_this : S_Tokens) (o_text : S_Bytes) (a1 : Int32) (res : Int64 × S_Tokens) (hM : f_Tokens_digits o_this o_text a1 = some res) : Ctr l D cI sd yX2_digits (wsM yX2_digits cX2_digits 7 (Option.some Jvm.ClassFile.FieldType.long)) { frames := 2, cells := 0, slots := 0, locals := 41 } [.ref (ad 10), .int a1] (w_Tokens_this_text cI ad o_this o_text) (w_Tokens_this_text cI ad res.2 o_text) (some (.long res.1)) := by
  refine Ctr.of (cc := cX2_digits) (maxL := 7) (own := RX2) (by decide +kernel) rfl rfl (Nat.le_of_ble_eq_true rfl) ?_
  intro p e s m below meth c A ls hx hb hr hml hown hts hlk hK hE hA hP hD hS hl
  have hl : lv_has ls 7 [(0, .ref (ad 10)), (1, .int a1)] := hl
  unfold f_Tokens_digits at hM
  refine lv_lconst (v := 0) hx hb dX2_digits_0 (by decide) ?_
  refine lv_lstore_n (lv' := [(2, .long 0), (0, .ref (ad 10)), (1, .int a1)]) hx hb dX2_digits_1 rfl hl (by decide) rfl (fun ls hl => ?_)
  refine lv_aload_n hx hb dX2_digits_2 rfl (lv_at hl 1 rfl) ?_
  refine va_get (D := D) (ci := 2) (v := .int o_this.2.1) (C := RX2) (T := TX2) (N := 7) hx hb hts layX2 hown hK hP 0 rfl rfl 6 (by decide) (hts _ (inA q341)) (fun _ h9 => h9) rfl dX2_digits_3 ?_
  refine lv_istore (lv' := [(4, .int o_this.2.1), (2, .long 0), (0, .ref (ad 10)), (1, .int a1)]) hx hb dX2_digits_6 hl (by decide) rfl (fun ls hl => ?_)
  refine lv_iconst (v := 0) hx hb dX2_digits_8 (by decide) ?_
  refine lv_istore (lv' := [(5, .int 0), (4, .int o_this.2.1), (2, .long 0), (0, .ref (ad 10)), (1, .int a1)]) hx hb dX2_digits_9 hl (by decide) rfl (fun ls hl => ?_)
  have lp_L11 : ∀ (w4_L11 : Int32) (w1_L11 : Int32) (n : Nat) (v5_L11 : Int32) (v2_L11 : Int64) (o_this_L11 : S_Tokens) (H : Heap) (locs : List Loc) (ls : Array Slot), f_Tokens_digits_L11 o_text w4_L11 w1_L11 n v5_L11 v2_L11 o_this_L11 = some res → va_P D vwCl (w_Tokens_this_text cI ad o_this_L11 o_text) H → va_D A (w_Tokens_this_text cI ad o_this_L11 o_text) → va_S A s.heap H locs → lv_has ls 7 [(5, .int v5_L11), (4, .int w4_L11), (2, .long v2_L11), (0, .ref (ad 10)), (1, .int w1_L11)] → W p l e { frames := 2, cells := 0, slots := 0, locals := 41 } s m [.ref (ad 10), .int a1].toArray below meth c H locs 0 0 (MQ below (CQ D A (w_Tokens_this_text cI ad res.2 o_text) (some (.long res.1))) [.ref (ad 10), .int a1].toArray s 0 0 A) (F0 m 11 ls []) := by
    intro w4_L11 w1_L11 n
    induction n with
    | zero => intro v5_L11 v2_L11 o_this_L11 H locs ls hM; exact absurd (show none = some _ from hM) (by simp)
    | succ n ih_L11 =>
      intro v5_L11 v2_L11 o_this_L11 H locs ls hM hP hD hS hl
      rw [f_Tokens_digits_L11] at hM
      refine lv_iload hx hb dX2_digits_11 (lv_at hl 0 rfl) ?_
      refine lv_sipush (v := 8192) hx hb dX2_digits_13 (by decide) ?_
      refine lv_icmp_ge (tgt := 81) hx hb dX2_digits_16 (by decide) (fun c1211 => ?_) (fun c1211 => ?_)
      · replace hM := if_t c1211 hM
        refine lv_aload_n hx hb dX2_digits_81 rfl (lv_at hl 3 rfl) ?_
        refine va_get (D := D) (ci := 2) (v := .int o_this_L11.2.1) (C := RX2) (T := TX2) (N := 7) hx hb hts layX2 hown hK hP 0 rfl rfl 6 (by decide) (hts _ (inA q341)) (fun _ h9 => h9) rfl dX2_digits_82 ?_
        refine lv_iload hx hb dX2_digits_85 (lv_at hl 1 rfl) ?_
        refine lv_icmp_ne (tgt := 96) hx hb dX2_digits_87 (by decide) (fun c1212 => ?_) (fun c1212 => ?_)
        · replace hM := if_f c1212 hM
          refine lv_lload_n hx hb dX2_digits_96 rfl (lv_at hl 2 rfl) ?_
          cases hM
          exact rt_l hx hb hr hlk hP hD hS rfl dX2_digits_97
        · replace hM := if_t c1212 hM
          refine lv_ldc2 (v := (-1)) hx hb hown (hts _ (inA q558)) dX2_digits_90 ?_
          refine lv_goto (tgt := 97) hx hb dX2_digits_93 (by decide) ?_
          cases hM
          exact rt_l hx hb hr hlk hP hD hS rfl dX2_digits_97
      · replace hM := if_f c1211 hM
        refine lv_aload_n hx hb dX2_digits_19 rfl (lv_at hl 3 rfl) ?_
        refine va_get (D := D) (ci := 2) (v := .ref (ad 1)) (C := RX2) (T := TX2) (N := 7) hx hb hts layX2 hown hK hP 0 rfl rfl 0 (by decide) (hts _ (inA q331)) (fun _ h9 => h9) rfl dX2_digits_20 ?_
        refine lv_aload_n hx hb dX2_digits_23 rfl (lv_at hl 3 rfl) ?_
        refine va_get (D := D) (ci := 2) (v := .int o_this_L11.2.1) (C := RX2) (T := TX2) (N := 7) hx hb hts layX2 hown hK hP 0 rfl rfl 6 (by decide) (hts _ (inA q341)) (fun _ h9 => h9) rfl dX2_digits_24 ?_
        obtain ⟨r1213, hcr1213, hM⟩ := ob_use hM
        refine cl_V (As := [.int o_this_L11.2.1]) (rest := []) (w_Tokens_this_text cI ad o_this_L11 o_text) (.int r1213 :: []) ⟨hx, hb, hml, hown, hts⟩ (c_Bytes_get l D cI sd (ad 1) (ad 2) 8192 o_text o_this_L11.2.1 r1213 hcr1213) (cwV2 hts q530 mvX0_get rfl rfl ⟨(Nat.le_of_ble_eq_true rfl), (Nat.le_of_ble_eq_true rfl)⟩) hK hE hA hP hD hS 4 (T := TX0) (N := 2) (ci := 0) rfl rfl [4, 5] rfl (by decide) rfl rfl rfl rfl rfl rfl hl.1 (Nat.le_of_ble_eq_true rfl) dX2_digits_27 ⟨Nat.zero_le _, Nat.zero_le _⟩ (fun H locs hP hD hS => ?_)
        obtain ⟨r1214, hcr1214, hM⟩ := ob_use hM
        refine cl_S (As := [.int r1213]) (rest := []) (w_Tokens_this_text cI ad o_this_L11 o_text) (.int r1214 :: []) ⟨hx, hb, hml, hown, hts⟩ (c_Tokens_digit l D cI sd ad r1213 r1214 hcr1214) (cwS2 hts q548 mvX2_digit rfl rfl ⟨(Nat.le_of_ble_eq_true rfl), (Nat.le_of_ble_eq_true rfl)⟩) hK hE hA hP hD hS [] rfl (by decide) rfl rfl rfl rfl rfl rfl hl.1 (Nat.le_of_ble_eq_true rfl) dX2_digits_30 ⟨Nat.zero_le _, Nat.zero_le _⟩ (fun H locs hP hD hS => ?_)
        refine lv_istore (lv' := [(6, .int r1214), (5, .int v5_L11), (4, .int w4_L11), (2, .long v2_L11), (0, .ref (ad 10)), (1, .int w1_L11)]) hx hb dX2_digits_33 hl (by decide) rfl (fun ls hl => ?_)
        refine lv_iload hx hb dX2_digits_35 (lv_at hl 0 rfl) ?_
        refine lv_iconst (v := (-1)) hx hb dX2_digits_37 (by decide) ?_
        refine lv_icmp_eq (tgt := 81) hx hb dX2_digits_38 (by decide) (fun c1215 => ?_) (fun c1215 => ?_)
        · replace hM := if_t c1215 hM
          refine lv_aload_n hx hb dX2_digits_81 rfl (lv_at hl 4 rfl) ?_
          refine va_get (D := D) (ci := 2) (v := .int o_this_L11.2.1) (C := RX2) (T := TX2) (N := 7) hx hb hts layX2 hown hK hP 0 rfl rfl 6 (by decide) (hts _ (inA q341)) (fun _ h9 => h9) rfl dX2_digits_82 ?_
          refine lv_iload hx hb dX2_digits_85 (lv_at hl 2 rfl) ?_
          refine lv_icmp_ne (tgt := 96) hx hb dX2_digits_87 (by decide) (fun c1216 => ?_) (fun c1216 => ?_)
          · replace hM := if_f c1216 hM
            refine lv_lload_n hx hb dX2_digits_96 rfl (lv_at hl 3 rfl) ?_
            cases hM
            exact rt_l hx hb hr hlk hP hD hS rfl dX2_digits_97
          · replace hM := if_t c1216 hM
            refine lv_ldc2 (v := (-1)) hx hb hown (hts _ (inA q558)) dX2_digits_90 ?_
            refine lv_goto (tgt := 97) hx hb dX2_digits_93 (by decide) ?_
            cases hM
            exact rt_l hx hb hr hlk hP hD hS rfl dX2_digits_97
        · replace hM := if_f c1215 hM
          refine lv_iload hx hb dX2_digits_41 (lv_at hl 0 rfl) ?_
          refine lv_iload_n hx hb dX2_digits_43 rfl (lv_at hl 5 rfl) ?_
          refine lv_icmp_lt (tgt := 50) hx hb dX2_digits_44 (by decide) (fun c1217 => ?_) (fun c1217 => ?_)
          · replace hM := if_t c1217 hM
            refine lv_ldc2 (v := 2147483648) hx hb hown (hts _ (inA q554)) dX2_digits_50 ?_
            refine lv_lload_n hx hb dX2_digits_53 rfl (lv_at hl 3 rfl) ?_
            refine lv_iload_n hx hb dX2_digits_54 rfl (lv_at hl 5 rfl) ?_
            refine lv_i2l hx hb dX2_digits_55 rfl ?_
            refine lv_lmul hx hb dX2_digits_56 ?_
            refine lv_iload hx hb dX2_digits_57 (lv_at hl 0 rfl) ?_
            refine lv_i2l hx hb dX2_digits_59 rfl ?_
            refine lv_ladd hx hb dX2_digits_60 ?_
            obtain ⟨r1218, hcr1218, hM⟩ := ob_use hM
            refine cl_S (As := [.long 2147483648, .long ((v2_L11 * w1_L11.toInt64) + r1214.toInt64)]) (rest := []) (w_Tokens_this_text cI ad o_this_L11 o_text) (.long r1218 :: []) ⟨hx, hb, hml, hown, hts⟩ (c_Math_min l D cI sd ad 2147483648 ((v2_L11 * w1_L11.toInt64) + r1214.toInt64) r1218 hcr1218) (cwS2 hts q555 mvX10_min rfl rfl ⟨(Nat.le_of_ble_eq_true rfl), (Nat.le_of_ble_eq_true rfl)⟩) hK hE hA hP hD hS [] rfl (by decide) rfl rfl rfl rfl rfl rfl hl.1 (Nat.le_of_ble_eq_true rfl) dX2_digits_61 ⟨Nat.zero_le _, Nat.zero_le _⟩ (fun H locs hP hD hS => ?_)
            refine lv_lstore_n (lv' := [(2, .long r1218), (6, .int r1214), (5, .int v5_L11), (4, .int w4_L11), (0, .ref (ad 10)), (1, .int w1_L11)]) hx hb dX2_digits_64 rfl hl (by decide) rfl (fun ls hl => ?_)
            refine lv_aload_n hx hb dX2_digits_65 rfl (lv_at hl 4 rfl) ?_
            refine lv_dup hx hb dX2_digits_66 rfl ?_
            refine va_get (D := D) (ci := 2) (v := .int o_this_L11.2.1) (C := RX2) (T := TX2) (N := 7) hx hb hts layX2 hown hK hP 0 rfl rfl 6 (by decide) (hts _ (inA q341)) (fun _ h9 => h9) rfl dX2_digits_67 ?_
            refine lv_iconst (v := 1) hx hb dX2_digits_70 (by decide) ?_
            refine lv_iadd hx hb dX2_digits_71 ?_
            refine va_put (D := D) (ci := 2) (v := .int (o_this_L11.2.1 + 1)) (ty := .int) (C := RX2) (T := TX2) (N := 7) hx hb hts layX2 tyX2 tyX2_ok nmX2 hown hK hP hD hS 0 rfl rfl 6 (by decide) (hts _ (inA q341)) (fun _ h9 => h9) rfl (by decide +kernel) rfl rfl (Nat.le_of_ble_eq_true rfl) dX2_digits_72 (fun H locs hP hD hS => ?_)
            have hP : va_P D vwCl (w_Tokens_this_text cI ad (o_this_L11.1, o_this_L11.2.1 + 1, o_this_L11.2.2) o_text) H := hP
            have hD : va_D A (w_Tokens_this_text cI ad (o_this_L11.1, o_this_L11.2.1 + 1, o_this_L11.2.2) o_text) := hD
            obtain ⟨x1219, ex1219⟩ : ∃ y : Int32, y = v5_L11 + 1 := ⟨_, rfl⟩
            replace hM := nm_use ex1219 hM
            refine lv_iinc (v := x1219) (lv' := [(5, .int x1219), (2, .long r1218), (6, .int r1214), (4, .int w4_L11), (0, .ref (ad 10)), (1, .int w1_L11)]) hx hb dX2_digits_75 hl (k := 2) rfl (by rw [ex1219]; rfl) (by decide) rfl (fun ls hl => ?_)
            refine lv_goto (tgt := 11) hx hb dX2_digits_78 (by decide) ?_
            exact ih_L11 x1219 r1218 (o_this_L11.1, o_this_L11.2.1 + 1, o_this_L11.2.2) _ _ _ hM hP hD hS (lv_sub hl [0, 3, 1, 4, 5] rfl)
          · replace hM := if_f c1217 hM
            refine lv_goto (tgt := 81) hx hb dX2_digits_47 (by decide) ?_
            refine lv_aload_n hx hb dX2_digits_81 rfl (lv_at hl 4 rfl) ?_
            refine va_get (D := D) (ci := 2) (v := .int o_this_L11.2.1) (C := RX2) (T := TX2) (N := 7) hx hb hts layX2 hown hK hP 0 rfl rfl 6 (by decide) (hts _ (inA q341)) (fun _ h9 => h9) rfl dX2_digits_82 ?_
            refine lv_iload hx hb dX2_digits_85 (lv_at hl 2 rfl) ?_
            refine lv_icmp_ne (tgt := 96) hx hb dX2_digits_87 (by decide) (fun c1220 => ?_) (fun c1220 => ?_)
            · replace hM := if_f c1220 hM
              refine lv_lload_n hx hb dX2_digits_96 rfl (lv_at hl 3 rfl) ?_
              cases hM
              exact rt_l hx hb hr hlk hP hD hS rfl dX2_digits_97
            · replace hM := if_t c1220 hM
              refine lv_ldc2 (v := (-1)) hx hb hown (hts _ (inA q558)) dX2_digits_90 ?_
              refine lv_goto (tgt := 97) hx hb dX2_digits_93 (by decide) ?_
              cases hM
              exact rt_l hx hb hr hlk hP hD hS rfl dX2_digits_97
  exact lp_L11 o_this.2.1 a1 FU 0 0 o_this _ _ _ hM hP hD hS (lv_sub hl [0, 1, 2, 3, 4] rfl)

set_option maxHeartbeats 4000000 in
set_option maxRecDepth 100000 in
theorem c_Tokens_scanNumber (l : Launch) (D : va_G) (cI : ClassId) (sd : Nat → Nat) (ad : Nat → Nat) (o_this : S_Tokens) (o_text : S_Bytes) (res : S_Tokens) (hM : f_Tokens_scanNumber o_this o_text = some res) : Ctr l D cI sd yX2_scanNumber (wsM yX2_scanNumber cX2_scanNumber 4 (Option.none : Option Jvm.ClassFile.FieldType)) { frames := 3, cells := 0, slots := 0, locals := 67 } [.ref (ad 10)] (w_Tokens_this_text cI ad o_this o_text) (w_Tokens_this_text cI ad res o_text) none := by
  refine Ctr.of (cc := cX2_scanNumber) (maxL := 4) (own := RX2) (by decide +kernel) rfl rfl (Nat.le_of_ble_eq_true rfl) ?_
  intro p e s m below meth c A ls hx hb hr hml hown hts hlk hK hE hA hP hD hS hl
  have hl : lv_has ls 4 [(0, .ref (ad 10))] := hl
  unfold f_Tokens_scanNumber at hM
  refine lv_aload_n hx hb dX2_scanNumber_0 rfl (lv_at hl 0 rfl) ?_
  refine va_get (D := D) (ci := 2) (v := .int o_this.2.1) (C := RX2) (T := TX2) (N := 7) hx hb hts layX2 hown hK hP 0 rfl rfl 6 (by decide) (hts _ (inA q341)) (fun _ h9 => h9) rfl dX2_scanNumber_1 ?_
  refine lv_istore_n (lv' := [(1, .int o_this.2.1), (0, .ref (ad 10))]) hx hb dX2_scanNumber_4 rfl hl (by decide) rfl (fun ls hl => ?_)
  refine lv_aload_n hx hb dX2_scanNumber_5 rfl (lv_at hl 1 rfl) ?_
  refine lv_bipush (v := 10) hx hb dX2_scanNumber_6 (by decide) ?_
  obtain ⟨r1, hcr1, hM⟩ := ob_use hM
  refine cl_V (As := [.int 10]) (rest := []) (w_Tokens_this_text cI ad r1.2 o_text) (.long r1.1 :: []) ⟨hx, hb, hml, hown, hts⟩ (c_Tokens_digits l D cI sd ad o_this o_text 10 r1 hcr1) (cwV2 hts q544 mvX2_digits rfl rfl ⟨(Nat.le_of_ble_eq_true rfl), (Nat.le_of_ble_eq_true rfl)⟩) hK hE hA hP hD hS 0 (T := TX2) (N := 7) (ci := 2) rfl rfl [0, 1, 2, 3, 4, 5] rfl (by decide) rfl rfl rfl rfl rfl rfl hl.1 (Nat.le_of_ble_eq_true rfl) dX2_scanNumber_8 ⟨Nat.zero_le _, Nat.zero_le _⟩ (fun H locs hP hD hS => ?_)
  refine lv_lstore_n (lv' := [(2, .long r1.1), (1, .int o_this.2.1), (0, .ref (ad 10))]) hx hb dX2_scanNumber_11 rfl hl (by decide) rfl (fun ls hl => ?_)
  refine lv_aload_n hx hb dX2_scanNumber_12 rfl (lv_at hl 2 rfl) ?_
  refine va_get (D := D) (ci := 2) (v := .ref (ad 1)) (C := RX2) (T := TX2) (N := 7) hx hb hts layX2 hown hK hP 0 rfl rfl 0 (by decide) (hts _ (inA q331)) (fun _ h9 => h9) rfl dX2_scanNumber_13 ?_
  refine lv_aload_n hx hb dX2_scanNumber_16 rfl (lv_at hl 2 rfl) ?_
  refine va_get (D := D) (ci := 2) (v := .int r1.2.2.1) (C := RX2) (T := TX2) (N := 7) hx hb hts layX2 hown hK hP 0 rfl rfl 6 (by decide) (hts _ (inA q341)) (fun _ h9 => h9) rfl dX2_scanNumber_17 ?_
  obtain ⟨r2, hcr2, hM⟩ := ob_use hM
  refine cl_V (As := [.int r1.2.2.1]) (rest := []) (w_Tokens_this_text cI ad r1.2 o_text) (.int r2 :: []) ⟨hx, hb, hml, hown, hts⟩ (c_Bytes_get l D cI sd (ad 1) (ad 2) 8192 o_text r1.2.2.1 r2 hcr2) (cwV2 hts q530 mvX0_get rfl rfl ⟨(Nat.le_of_ble_eq_true rfl), (Nat.le_of_ble_eq_true rfl)⟩) hK hE hA hP hD hS 4 (T := TX0) (N := 2) (ci := 0) rfl rfl [4, 5] rfl (by decide) rfl rfl rfl rfl rfl rfl hl.1 (Nat.le_of_ble_eq_true rfl) dX2_scanNumber_20 ⟨Nat.zero_le _, Nat.zero_le _⟩ (fun H locs hP hD hS => ?_)
  refine lv_bipush (v := 35) hx hb dX2_scanNumber_23 (by decide) ?_
  refine lv_icmp_ne (tgt := 67) hx hb dX2_scanNumber_25 (by decide) (fun c3 => ?_) (fun c3 => ?_)
  · replace hM := if_f c3 hM
    refine lv_aload_n hx hb dX2_scanNumber_67 rfl (lv_at hl 2 rfl) ?_
    refine lv_iload_n hx hb dX2_scanNumber_68 rfl (lv_at hl 1 rfl) ?_
    refine lv_lload_n hx hb dX2_scanNumber_69 rfl (lv_at hl 0 rfl) ?_
    obtain ⟨r4, hcr4, hM⟩ := ob_use hM
    refine cl_V (As := [.int o_this.2.1, .long r1.1]) (rest := []) (w_Tokens_this_text cI ad r4 o_text) [] ⟨hx, hb, hml, hown, hts⟩ (c_Tokens_addNumber l D cI sd ad r1.2 o_text o_this.2.1 r1.1 r4 hcr4) (cwV2 hts q566 mvX2_addNumber rfl rfl ⟨(Nat.le_of_ble_eq_true rfl), (Nat.le_of_ble_eq_true rfl)⟩) hK hE hA hP hD hS 0 (T := TX2) (N := 7) (ci := 2) rfl rfl [0, 1, 2, 3, 4, 5] rfl (by decide) rfl rfl rfl rfl rfl rfl hl.1 (Nat.le_of_ble_eq_true rfl) dX2_scanNumber_70 ⟨Nat.zero_le _, Nat.zero_le _⟩ (fun H locs hP hD hS => ?_)
    cases hM
    exact rt_v hx hb hr hlk hP hD hS rfl dX2_scanNumber_73
  · replace hM := if_t c3 hM
    refine lv_aload_n hx hb dX2_scanNumber_28 rfl (lv_at hl 2 rfl) ?_
    refine lv_dup hx hb dX2_scanNumber_29 rfl ?_
    refine va_get (D := D) (ci := 2) (v := .int r1.2.2.1) (C := RX2) (T := TX2) (N := 7) hx hb hts layX2 hown hK hP 0 rfl rfl 6 (by decide) (hts _ (inA q341)) (fun _ h9 => h9) rfl dX2_scanNumber_30 ?_
    refine lv_iconst (v := 1) hx hb dX2_scanNumber_33 (by decide) ?_
    refine lv_iadd hx hb dX2_scanNumber_34 ?_
    refine va_put (D := D) (ci := 2) (v := .int (r1.2.2.1 + 1)) (ty := .int) (C := RX2) (T := TX2) (N := 7) hx hb hts layX2 tyX2 tyX2_ok nmX2 hown hK hP hD hS 0 rfl rfl 6 (by decide) (hts _ (inA q341)) (fun _ h9 => h9) rfl (by decide +kernel) rfl rfl (Nat.le_of_ble_eq_true rfl) dX2_scanNumber_35 (fun H locs hP hD hS => ?_)
    have hP : va_P D vwCl (w_Tokens_this_text cI ad (r1.2.1, r1.2.2.1 + 1, r1.2.2.2) o_text) H := hP
    have hD : va_D A (w_Tokens_this_text cI ad (r1.2.1, r1.2.2.1 + 1, r1.2.2.2) o_text) := hD
    refine lv_lload_n hx hb dX2_scanNumber_38 rfl (lv_at hl 0 rfl) ?_
    refine lv_ldc2 (v := 16) hx hb hown (hts _ (inA q578)) dX2_scanNumber_39 ?_
    refine W.lcmp hx hb dX2_scanNumber_42 ?_
    refine lv_if_eq (tgt := 54) hx hb dX2_scanNumber_43 (by decide) (fun c5 => ?_) (fun c5 => ?_)
    · replace hM := if_t c5 hM
      refine lv_aload_n hx hb dX2_scanNumber_54 rfl (lv_at hl 2 rfl) ?_
      refine lv_lload_n hx hb dX2_scanNumber_55 rfl (lv_at hl 0 rfl) ?_
      refine lv_l2i hx hb dX2_scanNumber_56 rfl ?_
      obtain ⟨r6, hcr6, hM⟩ := ob_use hM
      refine cl_V (As := [.int r1.1.toInt32]) (rest := []) (w_Tokens_this_text cI ad r6.2 o_text) (.long r6.1 :: []) ⟨hx, hb, hml, hown, hts⟩ (c_Tokens_digits l D cI sd ad (r1.2.1, r1.2.2.1 + 1, r1.2.2.2) o_text r1.1.toInt32 r6 hcr6) (cwV2 hts q544 mvX2_digits rfl rfl ⟨(Nat.le_of_ble_eq_true rfl), (Nat.le_of_ble_eq_true rfl)⟩) hK hE hA hP hD hS 0 (T := TX2) (N := 7) (ci := 2) rfl rfl [0, 1, 2, 3, 4, 5] rfl (by decide) rfl rfl rfl rfl rfl rfl hl.1 (Nat.le_of_ble_eq_true rfl) dX2_scanNumber_57 ⟨Nat.zero_le _, Nat.zero_le _⟩ (fun H locs hP hD hS => ?_)
      refine lv_goto (tgt := 66) hx hb dX2_scanNumber_60 (by decide) ?_
      refine lv_lstore_n (lv' := [(2, .long r6.1), (1, .int o_this.2.1), (0, .ref (ad 10))]) hx hb dX2_scanNumber_66 rfl hl (by decide) rfl (fun ls hl => ?_)
      refine lv_aload_n hx hb dX2_scanNumber_67 rfl (lv_at hl 2 rfl) ?_
      refine lv_iload_n hx hb dX2_scanNumber_68 rfl (lv_at hl 1 rfl) ?_
      refine lv_lload_n hx hb dX2_scanNumber_69 rfl (lv_at hl 0 rfl) ?_
      obtain ⟨r7, hcr7, hM⟩ := ob_use hM
      refine cl_V (As := [.int o_this.2.1, .long r6.1]) (rest := []) (w_Tokens_this_text cI ad r7 o_text) [] ⟨hx, hb, hml, hown, hts⟩ (c_Tokens_addNumber l D cI sd ad r6.2 o_text o_this.2.1 r6.1 r7 hcr7) (cwV2 hts q566 mvX2_addNumber rfl rfl ⟨(Nat.le_of_ble_eq_true rfl), (Nat.le_of_ble_eq_true rfl)⟩) hK hE hA hP hD hS 0 (T := TX2) (N := 7) (ci := 2) rfl rfl [0, 1, 2, 3, 4, 5] rfl (by decide) rfl rfl rfl rfl rfl rfl hl.1 (Nat.le_of_ble_eq_true rfl) dX2_scanNumber_70 ⟨Nat.zero_le _, Nat.zero_le _⟩ (fun H locs hP hD hS => ?_)
      cases hM
      exact rt_v hx hb hr hlk hP hD hS rfl dX2_scanNumber_73
    · replace hM := if_f c5 hM
      refine lv_lload_n hx hb dX2_scanNumber_46 rfl (lv_at hl 0 rfl) ?_
      refine lv_ldc2 (v := 2) hx hb hown (hts _ (inA q579)) dX2_scanNumber_47 ?_
      refine W.lcmp hx hb dX2_scanNumber_50 ?_
      refine lv_if_ne (tgt := 63) hx hb dX2_scanNumber_51 (by decide) (fun c8 => ?_) (fun c8 => ?_)
      · replace hM := if_f c8 hM
        refine lv_ldc2 (v := (-1)) hx hb hown (hts _ (inA q558)) dX2_scanNumber_63 ?_
        refine lv_lstore_n (lv' := [(2, .long (-1)), (1, .int o_this.2.1), (0, .ref (ad 10))]) hx hb dX2_scanNumber_66 rfl hl (by decide) rfl (fun ls hl => ?_)
        refine lv_aload_n hx hb dX2_scanNumber_67 rfl (lv_at hl 2 rfl) ?_
        refine lv_iload_n hx hb dX2_scanNumber_68 rfl (lv_at hl 1 rfl) ?_
        refine lv_lload_n hx hb dX2_scanNumber_69 rfl (lv_at hl 0 rfl) ?_
        obtain ⟨r9, hcr9, hM⟩ := ob_use hM
        refine cl_V (As := [.int o_this.2.1, .long (-1)]) (rest := []) (w_Tokens_this_text cI ad r9 o_text) [] ⟨hx, hb, hml, hown, hts⟩ (c_Tokens_addNumber l D cI sd ad (r1.2.1, r1.2.2.1 + 1, r1.2.2.2) o_text o_this.2.1 (-1) r9 hcr9) (cwV2 hts q566 mvX2_addNumber rfl rfl ⟨(Nat.le_of_ble_eq_true rfl), (Nat.le_of_ble_eq_true rfl)⟩) hK hE hA hP hD hS 0 (T := TX2) (N := 7) (ci := 2) rfl rfl [0, 1, 2, 3, 4, 5] rfl (by decide) rfl rfl rfl rfl rfl rfl hl.1 (Nat.le_of_ble_eq_true rfl) dX2_scanNumber_70 ⟨Nat.zero_le _, Nat.zero_le _⟩ (fun H locs hP hD hS => ?_)
        cases hM
        exact rt_v hx hb hr hlk hP hD hS rfl dX2_scanNumber_73
      · replace hM := if_t c8 hM
        refine lv_aload_n hx hb dX2_scanNumber_54 rfl (lv_at hl 2 rfl) ?_
        refine lv_lload_n hx hb dX2_scanNumber_55 rfl (lv_at hl 0 rfl) ?_
        refine lv_l2i hx hb dX2_scanNumber_56 rfl ?_
        obtain ⟨r10, hcr10, hM⟩ := ob_use hM
        refine cl_V (As := [.int r1.1.toInt32]) (rest := []) (w_Tokens_this_text cI ad r10.2 o_text) (.long r10.1 :: []) ⟨hx, hb, hml, hown, hts⟩ (c_Tokens_digits l D cI sd ad (r1.2.1, r1.2.2.1 + 1, r1.2.2.2) o_text r1.1.toInt32 r10 hcr10) (cwV2 hts q544 mvX2_digits rfl rfl ⟨(Nat.le_of_ble_eq_true rfl), (Nat.le_of_ble_eq_true rfl)⟩) hK hE hA hP hD hS 0 (T := TX2) (N := 7) (ci := 2) rfl rfl [0, 1, 2, 3, 4, 5] rfl (by decide) rfl rfl rfl rfl rfl rfl hl.1 (Nat.le_of_ble_eq_true rfl) dX2_scanNumber_57 ⟨Nat.zero_le _, Nat.zero_le _⟩ (fun H locs hP hD hS => ?_)
        refine lv_goto (tgt := 66) hx hb dX2_scanNumber_60 (by decide) ?_
        refine lv_lstore_n (lv' := [(2, .long r10.1), (1, .int o_this.2.1), (0, .ref (ad 10))]) hx hb dX2_scanNumber_66 rfl hl (by decide) rfl (fun ls hl => ?_)
        refine lv_aload_n hx hb dX2_scanNumber_67 rfl (lv_at hl 2 rfl) ?_
        refine lv_iload_n hx hb dX2_scanNumber_68 rfl (lv_at hl 1 rfl) ?_
        refine lv_lload_n hx hb dX2_scanNumber_69 rfl (lv_at hl 0 rfl) ?_
        obtain ⟨r11, hcr11, hM⟩ := ob_use hM
        refine cl_V (As := [.int o_this.2.1, .long r10.1]) (rest := []) (w_Tokens_this_text cI ad r11 o_text) [] ⟨hx, hb, hml, hown, hts⟩ (c_Tokens_addNumber l D cI sd ad r10.2 o_text o_this.2.1 r10.1 r11 hcr11) (cwV2 hts q566 mvX2_addNumber rfl rfl ⟨(Nat.le_of_ble_eq_true rfl), (Nat.le_of_ble_eq_true rfl)⟩) hK hE hA hP hD hS 0 (T := TX2) (N := 7) (ci := 2) rfl rfl [0, 1, 2, 3, 4, 5] rfl (by decide) rfl rfl rfl rfl rfl rfl hl.1 (Nat.le_of_ble_eq_true rfl) dX2_scanNumber_70 ⟨Nat.zero_le _, Nat.zero_le _⟩ (fun H locs hP hD hS => ?_)
        cases hM
        exact rt_v hx hb hr hlk hP hD hS rfl dX2_scanNumber_73

set_option maxHeartbeats 4000000 in
set_option maxRecDepth 100000 in
theorem c_Tokens_placeRow (l : Launch) (D : va_G) (cI : ClassId) (sd : Nat → Nat) (ad : Nat → Nat) (a1 : Int32) (a2 : Int32) (res : Int32) (hM : f_Tokens_placeRow a1 a2 = some res) : Ctr l D cI sd yX2_placeRow (wsM yX2_placeRow cX2_placeRow 3 (Option.some Jvm.ClassFile.FieldType.int)) { frames := 0, cells := 0, slots := 0, locals := 0 } [.int a1, .int a2] (([] : va_W)) (([] : va_W)) (some (.int res)) := by
  refine Ctr.of (cc := cX2_placeRow) (maxL := 3) (own := RX2) (by decide +kernel) rfl rfl (Nat.le_of_ble_eq_true rfl) ?_
  intro p e s m below meth c A ls hx hb hr hml hown hts hlk hK hE hA hP hD hS hl
  have hl : lv_has ls 3 [(0, .int a1), (1, .int a2)] := hl
  unfold f_Tokens_placeRow at hM
  refine lv_iload_n hx hb dX2_placeRow_0 rfl (lv_at hl 0 rfl) ?_
  refine lv_bipush (v := 73) hx hb dX2_placeRow_1 (by decide) ?_
  refine lv_icmp_ne (tgt := 10) hx hb dX2_placeRow_3 (by decide) (fun c1 => ?_) (fun c1 => ?_)
  · replace hM := if_f c1 hM
    refine lv_iload_n hx hb dX2_placeRow_10 rfl (lv_at hl 0 rfl) ?_
    refine lv_bipush (v := 81) hx hb dX2_placeRow_11 (by decide) ?_
    refine lv_icmp_ne (tgt := 20) hx hb dX2_placeRow_13 (by decide) (fun c2 => ?_) (fun c2 => ?_)
    · replace hM := if_f c2 hM
      refine lv_iload_n hx hb dX2_placeRow_20 rfl (lv_at hl 0 rfl) ?_
      refine lv_bipush (v := 77) hx hb dX2_placeRow_21 (by decide) ?_
      refine lv_icmp_ne (tgt := 30) hx hb dX2_placeRow_23 (by decide) (fun c3 => ?_) (fun c3 => ?_)
      · replace hM := if_f c3 hM
        refine lv_iconst (v := (-1)) hx hb dX2_placeRow_30 (by decide) ?_
        refine lv_istore_n (lv' := [(2, .int (-1)), (0, .int a1), (1, .int a2)]) hx hb dX2_placeRow_31 rfl hl (by decide) rfl (fun ls hl => ?_)
        refine lv_iload_n hx hb dX2_placeRow_32 rfl (lv_at hl 0 rfl) ?_
        refine lv_iconst (v := (-1)) hx hb dX2_placeRow_33 (by decide) ?_
        refine lv_icmp_eq (tgt := 49) hx hb dX2_placeRow_34 (by decide) (fun c4 => ?_) (fun c4 => False.elim (by revert c4; decide))
        refine lv_iconst (v := (-1)) hx hb dX2_placeRow_49 (by decide) ?_
        cases hM
        exact rt_i hx hb hr hlk hP hD hS rfl dX2_placeRow_50
      · replace hM := if_t c3 hM
        refine lv_iconst (v := 2) hx hb dX2_placeRow_26 (by decide) ?_
        refine lv_goto (tgt := 31) hx hb dX2_placeRow_27 (by decide) ?_
        refine lv_istore_n (lv' := [(2, .int 2), (0, .int a1), (1, .int a2)]) hx hb dX2_placeRow_31 rfl hl (by decide) rfl (fun ls hl => ?_)
        refine lv_iload_n hx hb dX2_placeRow_32 rfl (lv_at hl 0 rfl) ?_
        refine lv_iconst (v := (-1)) hx hb dX2_placeRow_33 (by decide) ?_
        refine lv_icmp_eq (tgt := 49) hx hb dX2_placeRow_34 (by decide) (fun c5 => False.elim (by revert c5; decide)) (fun c5 => ?_)
        refine lv_iload_n hx hb dX2_placeRow_37 rfl (lv_at hl 2 rfl) ?_
        refine lv_bipush (v := 88) hx hb dX2_placeRow_38 (by decide) ?_
        refine lv_icmp_eq (tgt := 51) hx hb dX2_placeRow_40 (by decide) (fun c6 => ?_) (fun c6 => ?_)
        · replace hM := if_t c6 hM
          refine lv_iload_n hx hb dX2_placeRow_51 rfl (lv_at hl 2 rfl) ?_
          refine lv_bipush (v := 88) hx hb dX2_placeRow_52 (by decide) ?_
          refine lv_icmp_ne (tgt := 61) hx hb dX2_placeRow_54 (by decide) (fun c7 => ?_) (fun c7 => ?_)
          · replace hM := if_f c7 hM
            refine lv_iconst (v := 3) hx hb dX2_placeRow_61 (by decide) ?_
            refine lv_iload_n hx hb dX2_placeRow_62 rfl (lv_at hl 0 rfl) ?_
            refine lv_iadd hx hb dX2_placeRow_63 ?_
            cases hM
            exact rt_i hx hb hr hlk hP hD hS rfl dX2_placeRow_64
          · replace hM := if_t c7 hM
            refine lv_iload_n hx hb dX2_placeRow_57 rfl (lv_at hl 0 rfl) ?_
            refine lv_goto (tgt := 64) hx hb dX2_placeRow_58 (by decide) ?_
            cases hM
            exact rt_i hx hb hr hlk hP hD hS rfl dX2_placeRow_64
        · replace hM := if_f c6 hM
          refine lv_iload_n hx hb dX2_placeRow_43 rfl (lv_at hl 2 rfl) ?_
          refine lv_bipush (v := 87) hx hb dX2_placeRow_44 (by decide) ?_
          refine lv_icmp_eq (tgt := 51) hx hb dX2_placeRow_46 (by decide) (fun c8 => ?_) (fun c8 => ?_)
          · replace hM := if_t c8 hM
            refine lv_iload_n hx hb dX2_placeRow_51 rfl (lv_at hl 2 rfl) ?_
            refine lv_bipush (v := 88) hx hb dX2_placeRow_52 (by decide) ?_
            refine lv_icmp_ne (tgt := 61) hx hb dX2_placeRow_54 (by decide) (fun c9 => ?_) (fun c9 => ?_)
            · replace hM := if_f c9 hM
              refine lv_iconst (v := 3) hx hb dX2_placeRow_61 (by decide) ?_
              refine lv_iload_n hx hb dX2_placeRow_62 rfl (lv_at hl 0 rfl) ?_
              refine lv_iadd hx hb dX2_placeRow_63 ?_
              cases hM
              exact rt_i hx hb hr hlk hP hD hS rfl dX2_placeRow_64
            · replace hM := if_t c9 hM
              refine lv_iload_n hx hb dX2_placeRow_57 rfl (lv_at hl 0 rfl) ?_
              refine lv_goto (tgt := 64) hx hb dX2_placeRow_58 (by decide) ?_
              cases hM
              exact rt_i hx hb hr hlk hP hD hS rfl dX2_placeRow_64
          · replace hM := if_f c8 hM
            refine lv_iconst (v := (-1)) hx hb dX2_placeRow_49 (by decide) ?_
            cases hM
            exact rt_i hx hb hr hlk hP hD hS rfl dX2_placeRow_50
    · replace hM := if_t c2 hM
      refine lv_iconst (v := 1) hx hb dX2_placeRow_16 (by decide) ?_
      refine lv_goto (tgt := 31) hx hb dX2_placeRow_17 (by decide) ?_
      refine lv_istore_n (lv' := [(2, .int 1), (0, .int a1), (1, .int a2)]) hx hb dX2_placeRow_31 rfl hl (by decide) rfl (fun ls hl => ?_)
      refine lv_iload_n hx hb dX2_placeRow_32 rfl (lv_at hl 0 rfl) ?_
      refine lv_iconst (v := (-1)) hx hb dX2_placeRow_33 (by decide) ?_
      refine lv_icmp_eq (tgt := 49) hx hb dX2_placeRow_34 (by decide) (fun c10 => False.elim (by revert c10; decide)) (fun c10 => ?_)
      refine lv_iload_n hx hb dX2_placeRow_37 rfl (lv_at hl 2 rfl) ?_
      refine lv_bipush (v := 88) hx hb dX2_placeRow_38 (by decide) ?_
      refine lv_icmp_eq (tgt := 51) hx hb dX2_placeRow_40 (by decide) (fun c11 => ?_) (fun c11 => ?_)
      · replace hM := if_t c11 hM
        refine lv_iload_n hx hb dX2_placeRow_51 rfl (lv_at hl 2 rfl) ?_
        refine lv_bipush (v := 88) hx hb dX2_placeRow_52 (by decide) ?_
        refine lv_icmp_ne (tgt := 61) hx hb dX2_placeRow_54 (by decide) (fun c12 => ?_) (fun c12 => ?_)
        · replace hM := if_f c12 hM
          refine lv_iconst (v := 3) hx hb dX2_placeRow_61 (by decide) ?_
          refine lv_iload_n hx hb dX2_placeRow_62 rfl (lv_at hl 0 rfl) ?_
          refine lv_iadd hx hb dX2_placeRow_63 ?_
          cases hM
          exact rt_i hx hb hr hlk hP hD hS rfl dX2_placeRow_64
        · replace hM := if_t c12 hM
          refine lv_iload_n hx hb dX2_placeRow_57 rfl (lv_at hl 0 rfl) ?_
          refine lv_goto (tgt := 64) hx hb dX2_placeRow_58 (by decide) ?_
          cases hM
          exact rt_i hx hb hr hlk hP hD hS rfl dX2_placeRow_64
      · replace hM := if_f c11 hM
        refine lv_iload_n hx hb dX2_placeRow_43 rfl (lv_at hl 2 rfl) ?_
        refine lv_bipush (v := 87) hx hb dX2_placeRow_44 (by decide) ?_
        refine lv_icmp_eq (tgt := 51) hx hb dX2_placeRow_46 (by decide) (fun c13 => ?_) (fun c13 => ?_)
        · replace hM := if_t c13 hM
          refine lv_iload_n hx hb dX2_placeRow_51 rfl (lv_at hl 2 rfl) ?_
          refine lv_bipush (v := 88) hx hb dX2_placeRow_52 (by decide) ?_
          refine lv_icmp_ne (tgt := 61) hx hb dX2_placeRow_54 (by decide) (fun c14 => ?_) (fun c14 => ?_)
          · replace hM := if_f c14 hM
            refine lv_iconst (v := 3) hx hb dX2_placeRow_61 (by decide) ?_
            refine lv_iload_n hx hb dX2_placeRow_62 rfl (lv_at hl 0 rfl) ?_
            refine lv_iadd hx hb dX2_placeRow_63 ?_
            cases hM
            exact rt_i hx hb hr hlk hP hD hS rfl dX2_placeRow_64
          · replace hM := if_t c14 hM
            refine lv_iload_n hx hb dX2_placeRow_57 rfl (lv_at hl 0 rfl) ?_
            refine lv_goto (tgt := 64) hx hb dX2_placeRow_58 (by decide) ?_
            cases hM
            exact rt_i hx hb hr hlk hP hD hS rfl dX2_placeRow_64
        · replace hM := if_f c13 hM
          refine lv_iconst (v := (-1)) hx hb dX2_placeRow_49 (by decide) ?_
          cases hM
          exact rt_i hx hb hr hlk hP hD hS rfl dX2_placeRow_50
  · replace hM := if_t c1 hM
    refine lv_iconst (v := 0) hx hb dX2_placeRow_6 (by decide) ?_
    refine lv_goto (tgt := 31) hx hb dX2_placeRow_7 (by decide) ?_
    refine lv_istore_n (lv' := [(2, .int 0), (0, .int a1), (1, .int a2)]) hx hb dX2_placeRow_31 rfl hl (by decide) rfl (fun ls hl => ?_)
    refine lv_iload_n hx hb dX2_placeRow_32 rfl (lv_at hl 0 rfl) ?_
    refine lv_iconst (v := (-1)) hx hb dX2_placeRow_33 (by decide) ?_
    refine lv_icmp_eq (tgt := 49) hx hb dX2_placeRow_34 (by decide) (fun c15 => False.elim (by revert c15; decide)) (fun c15 => ?_)
    refine lv_iload_n hx hb dX2_placeRow_37 rfl (lv_at hl 2 rfl) ?_
    refine lv_bipush (v := 88) hx hb dX2_placeRow_38 (by decide) ?_
    refine lv_icmp_eq (tgt := 51) hx hb dX2_placeRow_40 (by decide) (fun c16 => ?_) (fun c16 => ?_)
    · replace hM := if_t c16 hM
      refine lv_iload_n hx hb dX2_placeRow_51 rfl (lv_at hl 2 rfl) ?_
      refine lv_bipush (v := 88) hx hb dX2_placeRow_52 (by decide) ?_
      refine lv_icmp_ne (tgt := 61) hx hb dX2_placeRow_54 (by decide) (fun c17 => ?_) (fun c17 => ?_)
      · replace hM := if_f c17 hM
        refine lv_iconst (v := 3) hx hb dX2_placeRow_61 (by decide) ?_
        refine lv_iload_n hx hb dX2_placeRow_62 rfl (lv_at hl 0 rfl) ?_
        refine lv_iadd hx hb dX2_placeRow_63 ?_
        cases hM
        exact rt_i hx hb hr hlk hP hD hS rfl dX2_placeRow_64
      · replace hM := if_t c17 hM
        refine lv_iload_n hx hb dX2_placeRow_57 rfl (lv_at hl 0 rfl) ?_
        refine lv_goto (tgt := 64) hx hb dX2_placeRow_58 (by decide) ?_
        cases hM
        exact rt_i hx hb hr hlk hP hD hS rfl dX2_placeRow_64
    · replace hM := if_f c16 hM
      refine lv_iload_n hx hb dX2_placeRow_43 rfl (lv_at hl 2 rfl) ?_
      refine lv_bipush (v := 87) hx hb dX2_placeRow_44 (by decide) ?_
      refine lv_icmp_eq (tgt := 51) hx hb dX2_placeRow_46 (by decide) (fun c18 => ?_) (fun c18 => ?_)
      · replace hM := if_t c18 hM
        refine lv_iload_n hx hb dX2_placeRow_51 rfl (lv_at hl 2 rfl) ?_
        refine lv_bipush (v := 88) hx hb dX2_placeRow_52 (by decide) ?_
        refine lv_icmp_ne (tgt := 61) hx hb dX2_placeRow_54 (by decide) (fun c19 => ?_) (fun c19 => ?_)
        · replace hM := if_f c19 hM
          refine lv_iconst (v := 3) hx hb dX2_placeRow_61 (by decide) ?_
          refine lv_iload_n hx hb dX2_placeRow_62 rfl (lv_at hl 0 rfl) ?_
          refine lv_iadd hx hb dX2_placeRow_63 ?_
          cases hM
          exact rt_i hx hb hr hlk hP hD hS rfl dX2_placeRow_64
        · replace hM := if_t c19 hM
          refine lv_iload_n hx hb dX2_placeRow_57 rfl (lv_at hl 0 rfl) ?_
          refine lv_goto (tgt := 64) hx hb dX2_placeRow_58 (by decide) ?_
          cases hM
          exact rt_i hx hb hr hlk hP hD hS rfl dX2_placeRow_64
      · replace hM := if_f c18 hM
        refine lv_iconst (v := (-1)) hx hb dX2_placeRow_49 (by decide) ?_
        cases hM
        exact rt_i hx hb hr hlk hP hD hS rfl dX2_placeRow_50
