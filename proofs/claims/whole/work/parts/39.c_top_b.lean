set_option maxHeartbeats 4000000 in
set_option maxRecDepth 100000 in
theorem c_Top_back (l : Launch) (D : va_G) (cI : ClassId) (sd : Nat → Nat) (ad : Nat → Nat) (o_text : S_Bytes) (o_written : S_Bytes) (res : Int32 × S_Bytes) (hM : f_Top_back o_text o_written = some res) : Ctr l D cI sd yX6_back (wsM yX6_back cX6_back 2 (Option.some Jvm.ClassFile.FieldType.int)) { frames := 1, cells := 0, slots := 0, locals := 21 } [.ref (ad 0)] (w_Top_this_text_written cI ad o_text o_written) (w_Top_this_text_written cI ad res.2 o_written) (some (.int res.1)) := by
  refine Ctr.of (cc := cX6_back) (maxL := 2) (own := RX6) (by decide +kernel) rfl rfl (Nat.le_of_ble_eq_true rfl) ?_
  intro p e s m below meth c A ls hx hb hr hml hown hts hlk hK hE hA hP hD hS hl
  have hl : lv_has ls 2 [(0, .ref (ad 0))] := hl
  unfold f_Top_back at hM
  refine lv_aload_n hx hb dX6_back_0 rfl (lv_at hl 0 rfl) ?_
  refine va_get (D := D) (ci := 6) (v := .ref (ad 3)) (C := RX6) (T := TX6) (N := 7) hx hb hts layX6 hown hK hP 0 rfl rfl 1 (by decide) (hts _ (inA q453)) (fun _ h9 => h9) rfl dX6_back_1 ?_
  refine va_getN (D := D) (ci := 0) (v := .int o_written.1) (C := RX0) (T := TX0) (N := 2) hx hb hts layX0 hown hK hP 3 rfl rfl 1 (by decide) (nfE0 hE) (fun _ h9 => h9) rfl dX6_back_4 ?_
  refine lv_if_eq (tgt := 23) hx hb dX6_back_7 (by decide) (fun c1 => ?_) (fun c1 => ?_)
  · replace hM := if_t c1 hM
    refine lv_iconst (v := (-1)) hx hb dX6_back_23 (by decide) ?_
    cases hM
    exact rt_i hx hb hr hlk hP hD hS rfl dX6_back_24
  · replace hM := if_f c1 hM
    refine lv_aload_n hx hb dX6_back_10 rfl (lv_at hl 0 rfl) ?_
    refine va_get (D := D) (ci := 6) (v := .ref (ad 3)) (C := RX6) (T := TX6) (N := 7) hx hb hts layX6 hown hK hP 0 rfl rfl 1 (by decide) (hts _ (inA q453)) (fun _ h9 => h9) rfl dX6_back_11 ?_
    refine va_getN (D := D) (ci := 0) (v := .int o_written.1) (C := RX0) (T := TX0) (N := 2) hx hb hts layX0 hown hK hP 3 rfl rfl 1 (by decide) (nfE0 hE) (fun _ h9 => h9) rfl dX6_back_14 ?_
    refine lv_sipush (v := 8192) hx hb dX6_back_17 (by decide) ?_
    refine lv_icmp_le (tgt := 25) hx hb dX6_back_20 (by decide) (fun c2 => ?_) (fun c2 => ?_)
    · replace hM := if_t c2 hM
      refine lv_aload_n hx hb dX6_back_25 rfl (lv_at hl 0 rfl) ?_
      refine va_get (D := D) (ci := 6) (v := .ref (ad 1)) (C := RX6) (T := TX6) (N := 7) hx hb hts layX6 hown hK hP 0 rfl rfl 0 (by decide) (hts _ (inA q452)) (fun _ h9 => h9) rfl dX6_back_26 ?_
      refine lv_iconst (v := 0) hx hb dX6_back_29 (by decide) ?_
      obtain ⟨r3, hcr3, hM⟩ := ob_use hM
      refine cl_V (As := [.int 0]) (rest := []) (w_Top_this_text_written cI ad r3 o_written) [] ⟨hx, hb, hml, hown, hts⟩ (c_Bytes_cut l D cI sd (ad 1) (ad 2) 8192 o_text 0 r3 hcr3) (cwV2 hts q478 mvX0_cut rfl rfl ⟨(Nat.le_of_ble_eq_true rfl), (Nat.le_of_ble_eq_true rfl)⟩) hK hE hA hP hD hS 1 (T := TX0) (N := 2) (ci := 0) rfl rfl [1, 2] rfl (by decide) rfl rfl rfl rfl rfl rfl hl.1 (Nat.le_of_ble_eq_true rfl) dX6_back_30 ⟨Nat.zero_le _, Nat.zero_le _⟩ (fun H locs hP hD hS => ?_)
      refine lv_iconst (v := 0) hx hb dX6_back_33 (by decide) ?_
      refine lv_istore_n (lv' := [(1, .int 0), (0, .ref (ad 0))]) hx hb dX6_back_34 rfl hl (by decide) rfl (fun ls hl => ?_)
      have lp_L35 : ∀ (o_written_L35 : S_Bytes) (n : Nat) (v1_L35 : Int32) (o_text_L35 : S_Bytes) (out_L35 : S_Bytes) (H : Heap) (locs : List Loc) (ls : Array Slot), f_Top_back_L35 o_written_L35 n v1_L35 o_text_L35 = some out_L35 → va_P D vwCl (w_Top_this_text_written cI ad o_text_L35 o_written_L35) H → va_D A (w_Top_this_text_written cI ad o_text_L35 o_written_L35) → va_S A s.heap H locs → lv_has ls 2 [(1, .int v1_L35), (0, .ref (ad 0))] → (∀ (H : Heap) (locs : List Loc) (ls : Array Slot), va_P D vwCl (w_Top_this_text_written cI ad out_L35 o_written_L35) H → va_D A (w_Top_this_text_written cI ad out_L35 o_written_L35) → va_S A s.heap H locs → lv_has ls 2 [(0, .ref (ad 0))] → W p l e { frames := 1, cells := 0, slots := 0, locals := 21 } s m [.ref (ad 0)].toArray below meth c H locs 0 0 (MQ below (CQ D A (w_Top_this_text_written cI ad res.2 o_written) (some (.int res.1))) [.ref (ad 0)].toArray s 0 0 A) (F0 m 67 ls [])) → W p l e { frames := 1, cells := 0, slots := 0, locals := 21 } s m [.ref (ad 0)].toArray below meth c H locs 0 0 (MQ below (CQ D A (w_Top_this_text_written cI ad res.2 o_written) (some (.int res.1))) [.ref (ad 0)].toArray s 0 0 A) (F0 m 35 ls []) := by
        intro o_written_L35 n
        induction n with
        | zero => intro v1_L35 o_text_L35 out_L35 H locs ls hM; exact absurd (show none = some _ from hM) (by simp)
        | succ n ih_L35 =>
          intro v1_L35 o_text_L35 out_L35 H locs ls hM hP hD hS hl kx_L35
          rw [f_Top_back_L35] at hM
          refine lv_iload_n hx hb dX6_back_35 rfl (lv_at hl 0 rfl) ?_
          refine lv_aload_n hx hb dX6_back_36 rfl (lv_at hl 1 rfl) ?_
          refine va_get (D := D) (ci := 6) (v := .ref (ad 3)) (C := RX6) (T := TX6) (N := 7) hx hb hts layX6 hown hK hP 0 rfl rfl 1 (by decide) (hts _ (inA q453)) (fun _ h9 => h9) rfl dX6_back_37 ?_
          refine va_getN (D := D) (ci := 0) (v := .int o_written_L35.1) (C := RX0) (T := TX0) (N := 2) hx hb hts layX0 hown hK hP 3 rfl rfl 1 (by decide) (nfE0 hE) (fun _ h9 => h9) rfl dX6_back_40 ?_
          refine lv_icmp_ge (tgt := 67) hx hb dX6_back_43 (by decide) (fun c1451 => ?_) (fun c1451 => ?_)
          · replace hM := if_t c1451 hM
            cases hM
            exact kx_L35 _ _ _ hP hD hS (lv_sub hl [1] rfl)
          · replace hM := if_f c1451 hM
            refine lv_aload_n hx hb dX6_back_46 rfl (lv_at hl 1 rfl) ?_
            refine va_get (D := D) (ci := 6) (v := .ref (ad 1)) (C := RX6) (T := TX6) (N := 7) hx hb hts layX6 hown hK hP 0 rfl rfl 0 (by decide) (hts _ (inA q452)) (fun _ h9 => h9) rfl dX6_back_47 ?_
            refine lv_aload_n hx hb dX6_back_50 rfl (lv_at hl 1 rfl) ?_
            refine va_get (D := D) (ci := 6) (v := .ref (ad 3)) (C := RX6) (T := TX6) (N := 7) hx hb hts layX6 hown hK hP 0 rfl rfl 1 (by decide) (hts _ (inA q453)) (fun _ h9 => h9) rfl dX6_back_51 ?_
            refine lv_iload_n hx hb dX6_back_54 rfl (lv_at hl 0 rfl) ?_
            obtain ⟨r1452, hcr1452, hM⟩ := ob_use hM
            refine cl_V (As := [.int v1_L35]) (rest := [.ref (ad 1)]) (w_Top_this_text_written cI ad o_text_L35 o_written_L35) (.int r1452 :: [.ref (ad 1)]) ⟨hx, hb, hml, hown, hts⟩ (c_Bytes_get l D cI sd (ad 3) (ad 4) 16384 o_written_L35 v1_L35 r1452 hcr1452) (cwV2 hts q967 mvX0_get rfl rfl ⟨(Nat.le_of_ble_eq_true rfl), (Nat.le_of_ble_eq_true rfl)⟩) hK hE hA hP hD hS 3 (T := TX0) (N := 2) (ci := 0) rfl rfl [3, 4] rfl (by decide) rfl rfl rfl rfl rfl rfl hl.1 (Nat.le_of_ble_eq_true rfl) dX6_back_55 ⟨Nat.zero_le _, Nat.zero_le _⟩ (fun H locs hP hD hS => ?_)
            obtain ⟨r1453, hcr1453, hM⟩ := ob_use hM
            refine cl_V (As := [.int r1452]) (rest := []) (w_Top_this_text_written cI ad r1453 o_written_L35) [] ⟨hx, hb, hml, hown, hts⟩ (c_Bytes_put l D cI sd (ad 1) (ad 2) 8192 o_text_L35 r1452 r1453 hcr1453) (cwV2 hts q490 mvX0_put rfl rfl ⟨(Nat.le_of_ble_eq_true rfl), (Nat.le_of_ble_eq_true rfl)⟩) hK hE hA hP hD hS 1 (T := TX0) (N := 2) (ci := 0) rfl rfl [1, 2] rfl (by decide) rfl rfl rfl rfl rfl rfl hl.1 (Nat.le_of_ble_eq_true rfl) dX6_back_58 ⟨Nat.zero_le _, Nat.zero_le _⟩ (fun H locs hP hD hS => ?_)
            obtain ⟨x1454, ex1454⟩ : ∃ y : Int32, y = v1_L35 + 1 := ⟨_, rfl⟩
            replace hM := nm_use ex1454 hM
            refine lv_iinc (v := x1454) (lv' := [(1, .int x1454), (0, .ref (ad 0))]) hx hb dX6_back_61 hl (k := 0) rfl (by rw [ex1454]; rfl) (by decide) rfl (fun ls hl => ?_)
            refine lv_goto (tgt := 35) hx hb dX6_back_64 (by decide) ?_
            exact ih_L35 x1454 r1453 out_L35 _ _ _ hM hP hD hS (lv_sub hl [0, 1] rfl) kx_L35
      obtain ⟨r4, hcr4, hM⟩ := ob_use hM
      refine lp_L35 o_written FU 0 r3 r4 _ _ _ hcr4 hP hD hS (lv_sub hl [0, 1] rfl) (fun H locs ls hP hD hS hl => ?_)
      refine lv_aload_n hx hb dX6_back_67 rfl (lv_at hl 0 rfl) ?_
      refine va_get (D := D) (ci := 6) (v := .ref (ad 1)) (C := RX6) (T := TX6) (N := 7) hx hb hts layX6 hown hK hP 0 rfl rfl 0 (by decide) (hts _ (inA q452)) (fun _ h9 => h9) rfl dX6_back_68 ?_
      refine va_getN (D := D) (ci := 0) (v := .int r4.1) (C := RX0) (T := TX0) (N := 2) hx hb hts layX0 hown hK hP 1 rfl rfl 1 (by decide) (nfE0 hE) (fun _ h9 => h9) rfl dX6_back_71 ?_
      cases hM
      exact rt_i hx hb hr hlk hP hD hS rfl dX6_back_74
    · replace hM := if_f c2 hM
      refine lv_iconst (v := (-1)) hx hb dX6_back_23 (by decide) ?_
      cases hM
      exact rt_i hx hb hr hlk hP hD hS rfl dX6_back_24
