set_option maxHeartbeats 4000000 in
set_option maxRecDepth 100000 in
theorem c_Names_number (l : Launch) (D : va_G) (cI : ClassId) (sd : Nat → Nat) (ad : Nat → Nat) (o_this : S_Names) (res : Int32 × S_Names) (hM : f_Names_number o_this = some res) : Ctr l D cI sd yX1_number (wsM yX1_number cX1_number 4 (Option.some Jvm.ClassFile.FieldType.int)) { frames := 2, cells := 0, slots := 0, locals := 46 } [.ref (ad 5)] (wN cI ad o_this) (wN cI ad res.2) (some (.int res.1)) := by
  refine Ctr.of (cc := cX1_number) (maxL := 4) (own := RX1) (by decide +kernel) rfl rfl (Nat.le_of_ble_eq_true rfl) ?_
  intro p e s m below meth c A ls hx hb hr hml hown hts hlk hK hE hA hP hD hS hl
  have hl : lv_has ls 4 [(0, .ref (ad 5))] := hl
  unfold f_Names_number at hM
  refine lv_aload_n hx hb dX1_number_0 rfl (lv_at hl 0 rfl) ?_
  obtain ⟨r1, hcr1, hM⟩ := ob_use hM
  refine cl_V (As := []) (rest := []) (wN cI ad o_this) (.int r1 :: []) ⟨hx, hb, hml, hown, hts⟩ (c_Names_firstSlot l D cI sd ad o_this r1 hcr1) (cwV2 hts q276 mvX1_firstSlot rfl rfl ⟨(Nat.le_of_ble_eq_true rfl), (Nat.le_of_ble_eq_true rfl)⟩) hK hE hA hP hD hS 0 (T := TX1) (N := 6) (ci := 1) rfl rfl [0, 1, 2, 3, 4] rfl (by decide) rfl rfl rfl rfl rfl rfl hl.1 (Nat.le_of_ble_eq_true rfl) dX1_number_1 ⟨Nat.zero_le _, Nat.zero_le _⟩ (fun H locs hP hD hS => ?_)
  refine lv_istore_n (lv' := [(1, .int r1), (0, .ref (ad 5))]) hx hb dX1_number_4 rfl hl (by decide) rfl (fun ls hl => ?_)
  refine lv_iconst (v := 0) hx hb dX1_number_5 (by decide) ?_
  refine lv_istore_n (lv' := [(2, .int 0), (1, .int r1), (0, .ref (ad 5))]) hx hb dX1_number_6 rfl hl (by decide) rfl (fun ls hl => ?_)
  have lp_L7 : ∀ (n : Nat) (v2_L7 : Int32) (v1_L7 : Int32) (H : Heap) (locs : List Loc) (ls : Array Slot), f_Names_number_L7 o_this n v2_L7 v1_L7 = some res → va_P D vwCl (wN cI ad o_this) H → va_D A (wN cI ad o_this) → va_S A s.heap H locs → lv_has ls 4 [(2, .int v2_L7), (1, .int v1_L7), (0, .ref (ad 5))] → W p l e { frames := 2, cells := 0, slots := 0, locals := 46 } s m [.ref (ad 5)].toArray below meth c H locs 0 0 (MQ below (CQ D A (wN cI ad res.2) (some (.int res.1))) [.ref (ad 5)].toArray s 0 0 A) (F0 m 7 ls []) := by
    intro  n
    induction n with
    | zero => intro v2_L7 v1_L7 H locs ls hM; exact absurd (show none = some _ from hM) (by simp)
    | succ n ih_L7 =>
      intro v2_L7 v1_L7 H locs ls hM hP hD hS hl
      rw [f_Names_number_L7] at hM
      refine lv_iload_n hx hb dX1_number_7 rfl (lv_at hl 0 rfl) ?_
      refine lv_sipush (v := 8192) hx hb dX1_number_8 (by decide) ?_
      refine lv_icmp_ge (tgt := 80) hx hb dX1_number_11 (by decide) (fun c1171 => ?_) (fun c1171 => ?_)
      · replace hM := if_t c1171 hM
        refine lv_iconst (v := (-1)) hx hb dX1_number_80 (by decide) ?_
        cases hM
        exact rt_i hx hb hr hlk hP hD hS rfl dX1_number_81
      · replace hM := if_f c1171 hM
        refine lv_iload_n hx hb dX1_number_14 rfl (lv_at hl 1 rfl) ?_
        refine lv_if_lt (tgt := 80) hx hb dX1_number_15 (by decide) (fun c1172 => ?_) (fun c1172 => ?_)
        · replace hM := if_t c1172 hM
          refine lv_iconst (v := (-1)) hx hb dX1_number_80 (by decide) ?_
          cases hM
          exact rt_i hx hb hr hlk hP hD hS rfl dX1_number_81
        · replace hM := if_f c1172 hM
          refine lv_iload_n hx hb dX1_number_18 rfl (lv_at hl 1 rfl) ?_
          refine lv_sipush (v := 8192) hx hb dX1_number_19 (by decide) ?_
          refine lv_icmp_ge (tgt := 80) hx hb dX1_number_22 (by decide) (fun c1173 => ?_) (fun c1173 => ?_)
          · replace hM := if_t c1173 hM
            refine lv_iconst (v := (-1)) hx hb dX1_number_80 (by decide) ?_
            cases hM
            exact rt_i hx hb hr hlk hP hD hS rfl dX1_number_81
          · replace hM := if_f c1173 hM
            refine lv_aload_n hx hb dX1_number_25 rfl (lv_at hl 2 rfl) ?_
            refine va_get (D := D) (ci := 1) (v := .ref (ad 9)) (C := RX1) (T := TX1) (N := 6) hx hb hts layX1 hown hK hP 0 rfl rfl 3 (by decide) (hts _ (inA q307)) (fun _ h9 => h9) rfl dX1_number_26 ?_
            refine lv_iload_n hx hb dX1_number_29 rfl (lv_at hl 1 rfl) ?_
            obtain ⟨b1174, hM⟩ := gd_use hM
            refine va_iald hx hb hK hP 4 0 rfl rfl b1174 dX1_number_30 ?_
            refine lv_iconst (v := 1) hx hb dX1_number_31 (by decide) ?_
            refine lv_isub hx hb dX1_number_32 ?_
            refine lv_topi (fun x1175 ex1175 => ?_)
            replace hM := nm_use ex1175 hM
            refine lv_istore_n (lv' := [(3, .int x1175), (2, .int v2_L7), (1, .int v1_L7), (0, .ref (ad 5))]) hx hb dX1_number_33 rfl hl (by decide) rfl (fun ls hl => ?_)
            refine lv_iload_n hx hb dX1_number_34 rfl (lv_at hl 0 rfl) ?_
            refine lv_if_ge (tgt := 44) hx hb dX1_number_35 (by decide) (fun c1176 => ?_) (fun c1176 => ?_)
            · replace hM := if_t c1176 hM
              refine lv_aload_n hx hb dX1_number_44 rfl (lv_at hl 3 rfl) ?_
              refine lv_iload_n hx hb dX1_number_45 rfl (lv_at hl 0 rfl) ?_
              obtain ⟨r1177, hcr1177, hM⟩ := ob_use hM
              refine cl_V (As := [.int x1175]) (rest := []) (wN cI ad o_this) (.int r1177 :: []) ⟨hx, hb, hml, hown, hts⟩ (c_Names_isAddedLast l D cI sd ad o_this x1175 r1177 hcr1177) (cwV2 hts q288 mvX1_isAddedLast rfl rfl ⟨(Nat.le_of_ble_eq_true rfl), (Nat.le_of_ble_eq_true rfl)⟩) hK hE hA hP hD hS 0 (T := TX1) (N := 6) (ci := 1) rfl rfl [0, 1, 2, 3, 4] rfl (by decide) rfl rfl rfl rfl rfl rfl hl.1 (Nat.le_of_ble_eq_true rfl) dX1_number_46 ⟨Nat.zero_le _, Nat.zero_le _⟩ (fun H locs hP hD hS => ?_)
              refine lv_if_eq (tgt := 66) hx hb dX1_number_49 (by decide) (fun c1178 => ?_) (fun c1178 => ?_)
              · replace hM := if_t c1178 hM
                refine lv_iload_n hx hb dX1_number_66 rfl (lv_at hl 2 rfl) ?_
                refine lv_iconst (v := 1) hx hb dX1_number_67 (by decide) ?_
                refine lv_iadd hx hb dX1_number_68 ?_
                refine lv_sipush (v := 8191) hx hb dX1_number_69 (by decide) ?_
                refine lv_iand hx hb dX1_number_72 ?_
                refine lv_istore_n (lv' := [(1, .int ((v1_L7 + 1) &&& 8191)), (3, .int x1175), (2, .int v2_L7), (0, .ref (ad 5))]) hx hb dX1_number_73 rfl hl (by decide) rfl (fun ls hl => ?_)
                obtain ⟨x1179, ex1179⟩ : ∃ y : Int32, y = v2_L7 + 1 := ⟨_, rfl⟩
                replace hM := nm_use ex1179 hM
                refine lv_iinc (v := x1179) (lv' := [(2, .int x1179), (1, .int ((v1_L7 + 1) &&& 8191)), (3, .int x1175), (0, .ref (ad 5))]) hx hb dX1_number_74 hl (k := 2) rfl (by rw [ex1179]; rfl) (by decide) rfl (fun ls hl => ?_)
                refine lv_goto (tgt := 7) hx hb dX1_number_77 (by decide) ?_
                exact ih_L7 x1179 ((v1_L7 + 1) &&& 8191) _ _ _ hM hP hD hS (lv_sub hl [0, 1, 3] rfl)
              · replace hM := if_f c1178 hM
                refine lv_aload_n hx hb dX1_number_52 rfl (lv_at hl 3 rfl) ?_
                refine lv_aload_n hx hb dX1_number_53 rfl (lv_at hl 3 rfl) ?_
                refine lv_aload_n hx hb dX1_number_54 rfl (lv_at hl 3 rfl) ?_
                refine va_get (D := D) (ci := 1) (v := .int o_this.1) (C := RX1) (T := TX1) (N := 6) hx hb hts layX1 hown hK hP 0 rfl rfl 4 (by decide) (hts _ (inA q308)) (fun _ h9 => h9) rfl dX1_number_55 ?_
                obtain ⟨r1180, hcr1180, hM⟩ := ob_use hM
                refine cl_V (As := [.int o_this.1]) (rest := [.ref (ad 5)]) (wN cI ad o_this) (.int r1180 :: [.ref (ad 5)]) ⟨hx, hb, hml, hown, hts⟩ (c_Names_startOf l D cI sd ad o_this o_this.1 r1180 hcr1180) (cwV2 hts q280 mvX1_startOf rfl rfl ⟨(Nat.le_of_ble_eq_true rfl), (Nat.le_of_ble_eq_true rfl)⟩) hK hE hA hP hD hS 0 (T := TX1) (N := 6) (ci := 1) rfl rfl [0, 1, 2, 3, 4] rfl (by decide) rfl rfl rfl rfl rfl rfl hl.1 (Nat.le_of_ble_eq_true rfl) dX1_number_58 ⟨Nat.zero_le _, Nat.zero_le _⟩ (fun H locs hP hD hS => ?_)
                refine va_put (D := D) (ci := 1) (v := .int r1180) (ty := .int) (C := RX1) (T := TX1) (N := 6) hx hb hts layX1 tyX1 tyX1_ok nmX1 hown hK hP hD hS 0 rfl rfl 5 (by decide) (hts _ (inA q310)) (fun _ h9 => h9) rfl (by decide +kernel) rfl rfl (Nat.le_of_ble_eq_true rfl) dX1_number_61 (fun H locs hP hD hS => ?_)
                have hP : va_P D vwCl (wN cI ad (o_this.1, r1180, o_this.2.2)) H := hP
                have hD : va_D A (wN cI ad (o_this.1, r1180, o_this.2.2)) := hD
                refine lv_iload_n hx hb dX1_number_64 rfl (lv_at hl 0 rfl) ?_
                cases hM
                exact rt_i hx hb hr hlk hP hD hS rfl dX1_number_65
            · replace hM := if_f c1176 hM
              refine lv_aload_n hx hb dX1_number_38 rfl (lv_at hl 3 rfl) ?_
              refine lv_iload_n hx hb dX1_number_39 rfl (lv_at hl 2 rfl) ?_
              obtain ⟨r1181, hcr1181, hM⟩ := ob_use hM
              refine cl_V (As := [.int v1_L7]) (rest := []) (wN cI ad r1181.2) (.int r1181.1 :: []) ⟨hx, hb, hml, hown, hts⟩ (c_Names_keep l D cI sd ad o_this v1_L7 r1181 hcr1181) (cwV2 hts q284 mvX1_keep rfl rfl ⟨(Nat.le_of_ble_eq_true rfl), (Nat.le_of_ble_eq_true rfl)⟩) hK hE hA hP hD hS 0 (T := TX1) (N := 6) (ci := 1) rfl rfl [0, 1, 2, 3, 4] rfl (by decide) rfl rfl rfl rfl rfl rfl hl.1 (Nat.le_of_ble_eq_true rfl) dX1_number_40 ⟨Nat.zero_le _, Nat.zero_le _⟩ (fun H locs hP hD hS => ?_)
              cases hM
              exact rt_i hx hb hr hlk hP hD hS rfl dX1_number_43
  exact lp_L7 FU 0 r1 _ _ _ hM hP hD hS (lv_sub hl [0, 1, 2] rfl)

set_option maxHeartbeats 4000000 in
set_option maxRecDepth 100000 in
theorem c_Names_letterOf (l : Launch) (D : va_G) (cI : ClassId) (sd : Nat → Nat) (ad : Nat → Nat) (o_this : S_Names) (a1 : Int32) (a2 : Int32) (res : Int32) (hM : f_Names_letterOf o_this a1 a2 = some res) : Ctr l D cI sd yX1_letterOf (wsM yX1_letterOf cX1_letterOf 4 (Option.some Jvm.ClassFile.FieldType.int)) { frames := 0, cells := 0, slots := 0, locals := 0 } [.ref (ad 5), .int a1, .int a2] (wN cI ad o_this) (wN cI ad o_this) (some (.int res)) := by
  refine Ctr.of (cc := cX1_letterOf) (maxL := 4) (own := RX1) (by decide +kernel) rfl rfl (Nat.le_of_ble_eq_true rfl) ?_
  intro p e s m below meth c A ls hx hb hr hml hown hts hlk hK hE hA hP hD hS hl
  have hl : lv_has ls 4 [(0, .ref (ad 5)), (1, .int a1), (2, .int a2)] := hl
  unfold f_Names_letterOf at hM
  refine lv_iload_n hx hb dX1_letterOf_0 rfl (lv_at hl 1 rfl) ?_
  refine lv_if_lt (tgt := 42) hx hb dX1_letterOf_1 (by decide) (fun c1 => ?_) (fun c1 => ?_)
  · replace hM := if_t c1 hM
    refine lv_iconst (v := (-1)) hx hb dX1_letterOf_42 (by decide) ?_
    cases hM
    exact rt_i hx hb hr hlk hP hD hS rfl dX1_letterOf_43
  · replace hM := if_f c1 hM
    refine lv_iload_n hx hb dX1_letterOf_4 rfl (lv_at hl 1 rfl) ?_
    refine lv_aload_n hx hb dX1_letterOf_5 rfl (lv_at hl 0 rfl) ?_
    refine va_get (D := D) (ci := 1) (v := .int o_this.1) (C := RX1) (T := TX1) (N := 6) hx hb hts layX1 hown hK hP 0 rfl rfl 4 (by decide) (hts _ (inA q308)) (fun _ h9 => h9) rfl dX1_letterOf_6 ?_
    refine lv_icmp_ge (tgt := 42) hx hb dX1_letterOf_9 (by decide) (fun c2 => ?_) (fun c2 => ?_)
    · replace hM := if_t c2 hM
      refine lv_iconst (v := (-1)) hx hb dX1_letterOf_42 (by decide) ?_
      cases hM
      exact rt_i hx hb hr hlk hP hD hS rfl dX1_letterOf_43
    · replace hM := if_f c2 hM
      refine lv_iload_n hx hb dX1_letterOf_12 rfl (lv_at hl 1 rfl) ?_
      refine lv_sipush (v := 4137) hx hb dX1_letterOf_13 (by decide) ?_
      refine lv_icmp_ge (tgt := 42) hx hb dX1_letterOf_16 (by decide) (fun c3 => ?_) (fun c3 => ?_)
      · replace hM := if_t c3 hM
        refine lv_iconst (v := (-1)) hx hb dX1_letterOf_42 (by decide) ?_
        cases hM
        exact rt_i hx hb hr hlk hP hD hS rfl dX1_letterOf_43
      · replace hM := if_f c3 hM
        refine lv_iload_n hx hb dX1_letterOf_19 rfl (lv_at hl 2 rfl) ?_
        refine lv_if_lt (tgt := 42) hx hb dX1_letterOf_20 (by decide) (fun c4 => ?_) (fun c4 => ?_)
        · replace hM := if_t c4 hM
          refine lv_iconst (v := (-1)) hx hb dX1_letterOf_42 (by decide) ?_
          cases hM
          exact rt_i hx hb hr hlk hP hD hS rfl dX1_letterOf_43
        · replace hM := if_f c4 hM
          refine lv_iload_n hx hb dX1_letterOf_23 rfl (lv_at hl 2 rfl) ?_
          refine lv_aload_n hx hb dX1_letterOf_24 rfl (lv_at hl 0 rfl) ?_
          refine va_get (D := D) (ci := 1) (v := .ref (ad 7)) (C := RX1) (T := TX1) (N := 6) hx hb hts layX1 hown hK hP 0 rfl rfl 1 (by decide) (hts _ (inA q305)) (fun _ h9 => h9) rfl dX1_letterOf_25 ?_
          refine lv_iload_n hx hb dX1_letterOf_28 rfl (lv_at hl 1 rfl) ?_
          refine lv_iconst (v := 1) hx hb dX1_letterOf_29 (by decide) ?_
          refine lv_iadd hx hb dX1_letterOf_30 ?_
          obtain ⟨b5, hM⟩ := gd_use hM
          refine va_iald hx hb hK hP 2 0 rfl rfl b5 dX1_letterOf_31 ?_
          refine lv_aload_n hx hb dX1_letterOf_32 rfl (lv_at hl 0 rfl) ?_
          refine va_get (D := D) (ci := 1) (v := .ref (ad 7)) (C := RX1) (T := TX1) (N := 6) hx hb hts layX1 hown hK hP 0 rfl rfl 1 (by decide) (hts _ (inA q305)) (fun _ h9 => h9) rfl dX1_letterOf_33 ?_
          refine lv_iload_n hx hb dX1_letterOf_36 rfl (lv_at hl 1 rfl) ?_
          obtain ⟨b6, hM⟩ := gd_use hM
          refine va_iald hx hb hK hP 2 0 rfl rfl b6 dX1_letterOf_37 ?_
          refine lv_isub hx hb dX1_letterOf_38 ?_
          refine lv_icmp_lt (tgt := 44) hx hb dX1_letterOf_39 (by decide) (fun c7 => ?_) (fun c7 => ?_)
          · replace hM := if_t c7 hM
            refine lv_aload_n hx hb dX1_letterOf_44 rfl (lv_at hl 0 rfl) ?_
            refine va_get (D := D) (ci := 1) (v := .ref (ad 7)) (C := RX1) (T := TX1) (N := 6) hx hb hts layX1 hown hK hP 0 rfl rfl 1 (by decide) (hts _ (inA q305)) (fun _ h9 => h9) rfl dX1_letterOf_45 ?_
            refine lv_iload_n hx hb dX1_letterOf_48 rfl (lv_at hl 1 rfl) ?_
            obtain ⟨b8, hM⟩ := gd_use hM
            refine va_iald hx hb hK hP 2 0 rfl rfl b8 dX1_letterOf_49 ?_
            refine lv_iload_n hx hb dX1_letterOf_50 rfl (lv_at hl 2 rfl) ?_
            refine lv_iadd hx hb dX1_letterOf_51 ?_
            refine lv_topi (fun x9 ex9 => ?_)
            replace hM := nm_use ex9 hM
            refine lv_istore_n (lv' := [(3, .int x9), (0, .ref (ad 5)), (1, .int a1), (2, .int a2)]) hx hb dX1_letterOf_52 rfl hl (by decide) rfl (fun ls hl => ?_)
            refine lv_iload_n hx hb dX1_letterOf_53 rfl (lv_at hl 0 rfl) ?_
            refine lv_if_lt (tgt := 75) hx hb dX1_letterOf_54 (by decide) (fun c10 => ?_) (fun c10 => ?_)
            · replace hM := if_t c10 hM
              refine lv_iconst (v := (-1)) hx hb dX1_letterOf_75 (by decide) ?_
              cases hM
              exact rt_i hx hb hr hlk hP hD hS rfl dX1_letterOf_76
            · replace hM := if_f c10 hM
              refine lv_iload_n hx hb dX1_letterOf_57 rfl (lv_at hl 0 rfl) ?_
              refine lv_aload_n hx hb dX1_letterOf_58 rfl (lv_at hl 1 rfl) ?_
              refine va_get (D := D) (ci := 1) (v := .ref (ad 6)) (C := RX1) (T := TX1) (N := 6) hx hb hts layX1 hown hK hP 0 rfl rfl 0 (by decide) (hts _ (inA q304)) (fun _ h9 => h9) rfl dX1_letterOf_59 ?_
              refine va_alen (v := 8704) hx hb hK hP 1 0 rfl rfl (show Int32.ofNat 8704 = 8704 by decide) dX1_letterOf_62 ?_
              refine lv_icmp_ge (tgt := 75) hx hb dX1_letterOf_63 (by decide) (fun c11 => ?_) (fun c11 => ?_)
              · replace hM := if_t c11 hM
                refine lv_iconst (v := (-1)) hx hb dX1_letterOf_75 (by decide) ?_
                cases hM
                exact rt_i hx hb hr hlk hP hD hS rfl dX1_letterOf_76
              · replace hM := if_f c11 hM
                refine lv_aload_n hx hb dX1_letterOf_66 rfl (lv_at hl 1 rfl) ?_
                refine va_get (D := D) (ci := 1) (v := .ref (ad 6)) (C := RX1) (T := TX1) (N := 6) hx hb hts layX1 hown hK hP 0 rfl rfl 0 (by decide) (hts _ (inA q304)) (fun _ h9 => h9) rfl dX1_letterOf_67 ?_
                refine lv_iload_n hx hb dX1_letterOf_70 rfl (lv_at hl 0 rfl) ?_
                obtain ⟨b12, hM⟩ := gd_use hM
                refine va_iald hx hb hK hP 1 0 rfl rfl b12 dX1_letterOf_71 ?_
                refine lv_goto (tgt := 76) hx hb dX1_letterOf_72 (by decide) ?_
                cases hM
                exact rt_i hx hb hr hlk hP hD hS rfl dX1_letterOf_76
          · replace hM := if_f c7 hM
            refine lv_iconst (v := (-1)) hx hb dX1_letterOf_42 (by decide) ?_
            cases hM
            exact rt_i hx hb hr hlk hP hD hS rfl dX1_letterOf_43
