set_option maxHeartbeats 4000000 in
set_option maxRecDepth 100000 in
theorem c_Tree_add (l : Launch) (D : va_G) (cI : ClassId) (sd : Nat → Nat) (ad : Nat → Nat) (o_this : S_Tree) (a1 : Int32) (a2 : Int32) (a3 : Int32) (a4 : Int32) (res : Int32 × S_Tree) (hM : f_Tree_add o_this a1 a2 a3 a4 = some res) : Ctr l D cI sd yX3_add (wsM yX3_add cX3_add 6 (Option.some Jvm.ClassFile.FieldType.int)) { frames := 0, cells := 0, slots := 0, locals := 0 } [.ref (ad 14), .int a1, .int a2, .int a3, .int a4] (wT cI ad o_this) (wT cI ad res.2) (some (.int res.1)) := by
  refine Ctr.of (cc := cX3_add) (maxL := 6) (own := RX3) (by decide +kernel) rfl rfl (Nat.le_of_ble_eq_true rfl) ?_
  intro p e s m below meth c A ls hx hb hr hml hown hts hlk hK hE hA hP hD hS hl
  have hl : lv_has ls 6 [(0, .ref (ad 14)), (1, .int a1), (2, .int a2), (3, .int a3), (4, .int a4)] := hl
  unfold f_Tree_add at hM
  refine lv_aload_n hx hb dX3_add_0 rfl (lv_at hl 0 rfl) ?_
  refine va_get (D := D) (ci := 3) (v := .int o_this.1) (C := RX3) (T := TX3) (N := 8) hx hb hts layX3 hown hK hP 0 rfl rfl 7 (by decide) (hts _ (inA q370)) (fun _ h9 => h9) rfl dX3_add_1 ?_
  refine lv_istore (lv' := [(5, .int o_this.1), (0, .ref (ad 14)), (1, .int a1), (2, .int a2), (3, .int a3), (4, .int a4)]) hx hb dX3_add_4 hl (by decide) rfl (fun ls hl => ?_)
  refine lv_iload hx hb dX3_add_6 (lv_at hl 0 rfl) ?_
  refine lv_if_lt (tgt := 19) hx hb dX3_add_8 (by decide) (fun c1 => ?_) (fun c1 => ?_)
  · replace hM := if_t c1 hM
    refine lv_iconst (v := (-1)) hx hb dX3_add_19 (by decide) ?_
    cases hM
    exact rt_i hx hb hr hlk hP hD hS rfl dX3_add_20
  · replace hM := if_f c1 hM
    refine lv_iload hx hb dX3_add_11 (lv_at hl 0 rfl) ?_
    refine lv_sipush (v := 16384) hx hb dX3_add_13 (by decide) ?_
    refine lv_icmp_lt (tgt := 21) hx hb dX3_add_16 (by decide) (fun c2 => ?_) (fun c2 => ?_)
    · replace hM := if_t c2 hM
      refine lv_iload_n hx hb dX3_add_21 rfl (lv_at hl 2 rfl) ?_
      refine lv_if_lt (tgt := 41) hx hb dX3_add_22 (by decide) (fun c3 => ?_) (fun c3 => ?_)
      · replace hM := if_t c3 hM
        refine lv_aload_n hx hb dX3_add_41 rfl (lv_at hl 1 rfl) ?_
        refine va_get (D := D) (ci := 3) (v := .ref (ad 15)) (C := RX3) (T := TX3) (N := 8) hx hb hts layX3 hown hK hP 0 rfl rfl 0 (by decide) (hts _ (inA q363)) (fun _ h9 => h9) rfl dX3_add_42 ?_
        refine lv_iload hx hb dX3_add_45 (lv_at hl 0 rfl) ?_
        refine lv_iload_n hx hb dX3_add_47 rfl (lv_at hl 3 rfl) ?_
        obtain ⟨b4, hM⟩ := gd_use hM
        refine va_iast hx hb hK hP hD hS 1 0 rfl rfl b4 dX3_add_48 (fun H locs hP hD hS => ?_)
        have hP : va_P D vwCl (wT cI ad (o_this.1, upd o_this.2.1 o_this.1.toNatClampNeg a2, o_this.2.2)) H := hP
        have hD : va_D A (wT cI ad (o_this.1, upd o_this.2.1 o_this.1.toNatClampNeg a2, o_this.2.2)) := hD
        refine lv_aload_n hx hb dX3_add_49 rfl (lv_at hl 1 rfl) ?_
        refine va_get (D := D) (ci := 3) (v := .ref (ad 16)) (C := RX3) (T := TX3) (N := 8) hx hb hts layX3 hown hK hP 0 rfl rfl 1 (by decide) (hts _ (inA q364)) (fun _ h9 => h9) rfl dX3_add_50 ?_
        refine lv_iload hx hb dX3_add_53 (lv_at hl 0 rfl) ?_
        refine lv_iload_n hx hb dX3_add_55 rfl (lv_at hl 4 rfl) ?_
        obtain ⟨b5, hM⟩ := gd_use hM
        refine va_iast hx hb hK hP hD hS 2 0 rfl rfl b5 dX3_add_56 (fun H locs hP hD hS => ?_)
        have hP : va_P D vwCl (wT cI ad (o_this.1, upd o_this.2.1 o_this.1.toNatClampNeg a2, upd o_this.2.2.1 o_this.1.toNatClampNeg a3, o_this.2.2.2)) H := hP
        have hD : va_D A (wT cI ad (o_this.1, upd o_this.2.1 o_this.1.toNatClampNeg a2, upd o_this.2.2.1 o_this.1.toNatClampNeg a3, o_this.2.2.2)) := hD
        refine lv_aload_n hx hb dX3_add_57 rfl (lv_at hl 1 rfl) ?_
        refine va_get (D := D) (ci := 3) (v := .ref (ad 17)) (C := RX3) (T := TX3) (N := 8) hx hb hts layX3 hown hK hP 0 rfl rfl 2 (by decide) (hts _ (inA q365)) (fun _ h9 => h9) rfl dX3_add_58 ?_
        refine lv_iload hx hb dX3_add_61 (lv_at hl 0 rfl) ?_
        refine lv_iload hx hb dX3_add_63 (lv_at hl 5 rfl) ?_
        obtain ⟨b6, hM⟩ := gd_use hM
        refine va_iast hx hb hK hP hD hS 3 0 rfl rfl b6 dX3_add_65 (fun H locs hP hD hS => ?_)
        have hP : va_P D vwCl (wT cI ad (o_this.1, upd o_this.2.1 o_this.1.toNatClampNeg a2, upd o_this.2.2.1 o_this.1.toNatClampNeg a3, upd o_this.2.2.2.1 o_this.1.toNatClampNeg a4, o_this.2.2.2.2)) H := hP
        have hD : va_D A (wT cI ad (o_this.1, upd o_this.2.1 o_this.1.toNatClampNeg a2, upd o_this.2.2.1 o_this.1.toNatClampNeg a3, upd o_this.2.2.2.1 o_this.1.toNatClampNeg a4, o_this.2.2.2.2)) := hD
        refine lv_aload_n hx hb dX3_add_66 rfl (lv_at hl 1 rfl) ?_
        refine va_get (D := D) (ci := 3) (v := .ref (ad 18)) (C := RX3) (T := TX3) (N := 8) hx hb hts layX3 hown hK hP 0 rfl rfl 3 (by decide) (hts _ (inA q366)) (fun _ h9 => h9) rfl dX3_add_67 ?_
        refine lv_iload hx hb dX3_add_70 (lv_at hl 0 rfl) ?_
        refine lv_iconst (v := 0) hx hb dX3_add_72 (by decide) ?_
        obtain ⟨b7, hM⟩ := gd_use hM
        refine va_iast hx hb hK hP hD hS 4 0 rfl rfl b7 dX3_add_73 (fun H locs hP hD hS => ?_)
        have hP : va_P D vwCl (wT cI ad (o_this.1, upd o_this.2.1 o_this.1.toNatClampNeg a2, upd o_this.2.2.1 o_this.1.toNatClampNeg a3, upd o_this.2.2.2.1 o_this.1.toNatClampNeg a4, upd o_this.2.2.2.2.1 o_this.1.toNatClampNeg 0, o_this.2.2.2.2.2)) H := hP
        have hD : va_D A (wT cI ad (o_this.1, upd o_this.2.1 o_this.1.toNatClampNeg a2, upd o_this.2.2.1 o_this.1.toNatClampNeg a3, upd o_this.2.2.2.1 o_this.1.toNatClampNeg a4, upd o_this.2.2.2.2.1 o_this.1.toNatClampNeg 0, o_this.2.2.2.2.2)) := hD
        refine lv_aload_n hx hb dX3_add_74 rfl (lv_at hl 1 rfl) ?_
        refine lv_dup hx hb dX3_add_75 rfl ?_
        refine va_get (D := D) (ci := 3) (v := .int o_this.1) (C := RX3) (T := TX3) (N := 8) hx hb hts layX3 hown hK hP 0 rfl rfl 7 (by decide) (hts _ (inA q370)) (fun _ h9 => h9) rfl dX3_add_76 ?_
        refine lv_iconst (v := 1) hx hb dX3_add_79 (by decide) ?_
        refine lv_iadd hx hb dX3_add_80 ?_
        refine va_put (D := D) (ci := 3) (v := .int (o_this.1 + 1)) (ty := .int) (C := RX3) (T := TX3) (N := 8) hx hb hts layX3 tyX3 tyX3_ok nmX3 hown hK hP hD hS 0 rfl rfl 7 (by decide) (hts _ (inA q370)) (fun _ h9 => h9) rfl (by decide +kernel) rfl rfl (Nat.le_of_ble_eq_true rfl) dX3_add_81 (fun H locs hP hD hS => ?_)
        have hP : va_P D vwCl (wT cI ad (o_this.1 + 1, upd o_this.2.1 o_this.1.toNatClampNeg a2, upd o_this.2.2.1 o_this.1.toNatClampNeg a3, upd o_this.2.2.2.1 o_this.1.toNatClampNeg a4, upd o_this.2.2.2.2.1 o_this.1.toNatClampNeg 0, o_this.2.2.2.2.2)) H := hP
        have hD : va_D A (wT cI ad (o_this.1 + 1, upd o_this.2.1 o_this.1.toNatClampNeg a2, upd o_this.2.2.1 o_this.1.toNatClampNeg a3, upd o_this.2.2.2.1 o_this.1.toNatClampNeg a4, upd o_this.2.2.2.2.1 o_this.1.toNatClampNeg 0, o_this.2.2.2.2.2)) := hD
        refine lv_iload hx hb dX3_add_84 (lv_at hl 0 rfl) ?_
        cases hM
        exact rt_i hx hb hr hlk hP hD hS rfl dX3_add_86
      · replace hM := if_f c3 hM
        refine lv_iload_n hx hb dX3_add_25 rfl (lv_at hl 2 rfl) ?_
        refine lv_iload hx hb dX3_add_26 (lv_at hl 0 rfl) ?_
        refine lv_icmp_ge (tgt := 41) hx hb dX3_add_28 (by decide) (fun c8 => ?_) (fun c8 => ?_)
        · replace hM := if_t c8 hM
          refine lv_aload_n hx hb dX3_add_41 rfl (lv_at hl 1 rfl) ?_
          refine va_get (D := D) (ci := 3) (v := .ref (ad 15)) (C := RX3) (T := TX3) (N := 8) hx hb hts layX3 hown hK hP 0 rfl rfl 0 (by decide) (hts _ (inA q363)) (fun _ h9 => h9) rfl dX3_add_42 ?_
          refine lv_iload hx hb dX3_add_45 (lv_at hl 0 rfl) ?_
          refine lv_iload_n hx hb dX3_add_47 rfl (lv_at hl 3 rfl) ?_
          obtain ⟨b9, hM⟩ := gd_use hM
          refine va_iast hx hb hK hP hD hS 1 0 rfl rfl b9 dX3_add_48 (fun H locs hP hD hS => ?_)
          have hP : va_P D vwCl (wT cI ad (o_this.1, upd o_this.2.1 o_this.1.toNatClampNeg a2, o_this.2.2)) H := hP
          have hD : va_D A (wT cI ad (o_this.1, upd o_this.2.1 o_this.1.toNatClampNeg a2, o_this.2.2)) := hD
          refine lv_aload_n hx hb dX3_add_49 rfl (lv_at hl 1 rfl) ?_
          refine va_get (D := D) (ci := 3) (v := .ref (ad 16)) (C := RX3) (T := TX3) (N := 8) hx hb hts layX3 hown hK hP 0 rfl rfl 1 (by decide) (hts _ (inA q364)) (fun _ h9 => h9) rfl dX3_add_50 ?_
          refine lv_iload hx hb dX3_add_53 (lv_at hl 0 rfl) ?_
          refine lv_iload_n hx hb dX3_add_55 rfl (lv_at hl 4 rfl) ?_
          obtain ⟨b10, hM⟩ := gd_use hM
          refine va_iast hx hb hK hP hD hS 2 0 rfl rfl b10 dX3_add_56 (fun H locs hP hD hS => ?_)
          have hP : va_P D vwCl (wT cI ad (o_this.1, upd o_this.2.1 o_this.1.toNatClampNeg a2, upd o_this.2.2.1 o_this.1.toNatClampNeg a3, o_this.2.2.2)) H := hP
          have hD : va_D A (wT cI ad (o_this.1, upd o_this.2.1 o_this.1.toNatClampNeg a2, upd o_this.2.2.1 o_this.1.toNatClampNeg a3, o_this.2.2.2)) := hD
          refine lv_aload_n hx hb dX3_add_57 rfl (lv_at hl 1 rfl) ?_
          refine va_get (D := D) (ci := 3) (v := .ref (ad 17)) (C := RX3) (T := TX3) (N := 8) hx hb hts layX3 hown hK hP 0 rfl rfl 2 (by decide) (hts _ (inA q365)) (fun _ h9 => h9) rfl dX3_add_58 ?_
          refine lv_iload hx hb dX3_add_61 (lv_at hl 0 rfl) ?_
          refine lv_iload hx hb dX3_add_63 (lv_at hl 5 rfl) ?_
          obtain ⟨b11, hM⟩ := gd_use hM
          refine va_iast hx hb hK hP hD hS 3 0 rfl rfl b11 dX3_add_65 (fun H locs hP hD hS => ?_)
          have hP : va_P D vwCl (wT cI ad (o_this.1, upd o_this.2.1 o_this.1.toNatClampNeg a2, upd o_this.2.2.1 o_this.1.toNatClampNeg a3, upd o_this.2.2.2.1 o_this.1.toNatClampNeg a4, o_this.2.2.2.2)) H := hP
          have hD : va_D A (wT cI ad (o_this.1, upd o_this.2.1 o_this.1.toNatClampNeg a2, upd o_this.2.2.1 o_this.1.toNatClampNeg a3, upd o_this.2.2.2.1 o_this.1.toNatClampNeg a4, o_this.2.2.2.2)) := hD
          refine lv_aload_n hx hb dX3_add_66 rfl (lv_at hl 1 rfl) ?_
          refine va_get (D := D) (ci := 3) (v := .ref (ad 18)) (C := RX3) (T := TX3) (N := 8) hx hb hts layX3 hown hK hP 0 rfl rfl 3 (by decide) (hts _ (inA q366)) (fun _ h9 => h9) rfl dX3_add_67 ?_
          refine lv_iload hx hb dX3_add_70 (lv_at hl 0 rfl) ?_
          refine lv_iconst (v := 0) hx hb dX3_add_72 (by decide) ?_
          obtain ⟨b12, hM⟩ := gd_use hM
          refine va_iast hx hb hK hP hD hS 4 0 rfl rfl b12 dX3_add_73 (fun H locs hP hD hS => ?_)
          have hP : va_P D vwCl (wT cI ad (o_this.1, upd o_this.2.1 o_this.1.toNatClampNeg a2, upd o_this.2.2.1 o_this.1.toNatClampNeg a3, upd o_this.2.2.2.1 o_this.1.toNatClampNeg a4, upd o_this.2.2.2.2.1 o_this.1.toNatClampNeg 0, o_this.2.2.2.2.2)) H := hP
          have hD : va_D A (wT cI ad (o_this.1, upd o_this.2.1 o_this.1.toNatClampNeg a2, upd o_this.2.2.1 o_this.1.toNatClampNeg a3, upd o_this.2.2.2.1 o_this.1.toNatClampNeg a4, upd o_this.2.2.2.2.1 o_this.1.toNatClampNeg 0, o_this.2.2.2.2.2)) := hD
          refine lv_aload_n hx hb dX3_add_74 rfl (lv_at hl 1 rfl) ?_
          refine lv_dup hx hb dX3_add_75 rfl ?_
          refine va_get (D := D) (ci := 3) (v := .int o_this.1) (C := RX3) (T := TX3) (N := 8) hx hb hts layX3 hown hK hP 0 rfl rfl 7 (by decide) (hts _ (inA q370)) (fun _ h9 => h9) rfl dX3_add_76 ?_
          refine lv_iconst (v := 1) hx hb dX3_add_79 (by decide) ?_
          refine lv_iadd hx hb dX3_add_80 ?_
          refine va_put (D := D) (ci := 3) (v := .int (o_this.1 + 1)) (ty := .int) (C := RX3) (T := TX3) (N := 8) hx hb hts layX3 tyX3 tyX3_ok nmX3 hown hK hP hD hS 0 rfl rfl 7 (by decide) (hts _ (inA q370)) (fun _ h9 => h9) rfl (by decide +kernel) rfl rfl (Nat.le_of_ble_eq_true rfl) dX3_add_81 (fun H locs hP hD hS => ?_)
          have hP : va_P D vwCl (wT cI ad (o_this.1 + 1, upd o_this.2.1 o_this.1.toNatClampNeg a2, upd o_this.2.2.1 o_this.1.toNatClampNeg a3, upd o_this.2.2.2.1 o_this.1.toNatClampNeg a4, upd o_this.2.2.2.2.1 o_this.1.toNatClampNeg 0, o_this.2.2.2.2.2)) H := hP
          have hD : va_D A (wT cI ad (o_this.1 + 1, upd o_this.2.1 o_this.1.toNatClampNeg a2, upd o_this.2.2.1 o_this.1.toNatClampNeg a3, upd o_this.2.2.2.1 o_this.1.toNatClampNeg a4, upd o_this.2.2.2.2.1 o_this.1.toNatClampNeg 0, o_this.2.2.2.2.2)) := hD
          refine lv_iload hx hb dX3_add_84 (lv_at hl 0 rfl) ?_
          cases hM
          exact rt_i hx hb hr hlk hP hD hS rfl dX3_add_86
        · replace hM := if_f c8 hM
          refine lv_aload_n hx hb dX3_add_31 rfl (lv_at hl 1 rfl) ?_
          refine va_get (D := D) (ci := 3) (v := .ref (ad 18)) (C := RX3) (T := TX3) (N := 8) hx hb hts layX3 hown hK hP 0 rfl rfl 3 (by decide) (hts _ (inA q366)) (fun _ h9 => h9) rfl dX3_add_32 ?_
          refine lv_iload_n hx hb dX3_add_35 rfl (lv_at hl 2 rfl) ?_
          refine lv_dup2_11 hx hb dX3_add_36 rfl rfl ?_
          obtain ⟨b13, hM⟩ := gd_use hM
          refine va_iald hx hb hK hP 4 0 rfl rfl b13 dX3_add_37 ?_
          refine lv_iconst (v := 1) hx hb dX3_add_38 (by decide) ?_
          refine lv_iadd hx hb dX3_add_39 ?_
          refine lv_topi (fun x15 ex15 => ?_)
          replace hM := nm_use ex15 hM
          obtain ⟨b14, hM⟩ := gd_use hM
          refine va_iast hx hb hK hP hD hS 4 0 rfl rfl b14 dX3_add_40 (fun H locs hP hD hS => ?_)
          have hP : va_P D vwCl (wT cI ad (o_this.1, o_this.2.1, o_this.2.2.1, o_this.2.2.2.1, upd o_this.2.2.2.2.1 a1.toNatClampNeg x15, o_this.2.2.2.2.2)) H := hP
          have hD : va_D A (wT cI ad (o_this.1, o_this.2.1, o_this.2.2.1, o_this.2.2.2.1, upd o_this.2.2.2.2.1 a1.toNatClampNeg x15, o_this.2.2.2.2.2)) := hD
          refine lv_aload_n hx hb dX3_add_41 rfl (lv_at hl 1 rfl) ?_
          refine va_get (D := D) (ci := 3) (v := .ref (ad 15)) (C := RX3) (T := TX3) (N := 8) hx hb hts layX3 hown hK hP 0 rfl rfl 0 (by decide) (hts _ (inA q363)) (fun _ h9 => h9) rfl dX3_add_42 ?_
          refine lv_iload hx hb dX3_add_45 (lv_at hl 0 rfl) ?_
          refine lv_iload_n hx hb dX3_add_47 rfl (lv_at hl 3 rfl) ?_
          obtain ⟨b16, hM⟩ := gd_use hM
          refine va_iast hx hb hK hP hD hS 1 0 rfl rfl b16 dX3_add_48 (fun H locs hP hD hS => ?_)
          have hP : va_P D vwCl (wT cI ad (o_this.1, upd o_this.2.1 o_this.1.toNatClampNeg a2, o_this.2.2.1, o_this.2.2.2.1, upd o_this.2.2.2.2.1 a1.toNatClampNeg x15, o_this.2.2.2.2.2)) H := hP
          have hD : va_D A (wT cI ad (o_this.1, upd o_this.2.1 o_this.1.toNatClampNeg a2, o_this.2.2.1, o_this.2.2.2.1, upd o_this.2.2.2.2.1 a1.toNatClampNeg x15, o_this.2.2.2.2.2)) := hD
          refine lv_aload_n hx hb dX3_add_49 rfl (lv_at hl 1 rfl) ?_
          refine va_get (D := D) (ci := 3) (v := .ref (ad 16)) (C := RX3) (T := TX3) (N := 8) hx hb hts layX3 hown hK hP 0 rfl rfl 1 (by decide) (hts _ (inA q364)) (fun _ h9 => h9) rfl dX3_add_50 ?_
          refine lv_iload hx hb dX3_add_53 (lv_at hl 0 rfl) ?_
          refine lv_iload_n hx hb dX3_add_55 rfl (lv_at hl 4 rfl) ?_
          obtain ⟨b17, hM⟩ := gd_use hM
          refine va_iast hx hb hK hP hD hS 2 0 rfl rfl b17 dX3_add_56 (fun H locs hP hD hS => ?_)
          have hP : va_P D vwCl (wT cI ad (o_this.1, upd o_this.2.1 o_this.1.toNatClampNeg a2, upd o_this.2.2.1 o_this.1.toNatClampNeg a3, o_this.2.2.2.1, upd o_this.2.2.2.2.1 a1.toNatClampNeg x15, o_this.2.2.2.2.2)) H := hP
          have hD : va_D A (wT cI ad (o_this.1, upd o_this.2.1 o_this.1.toNatClampNeg a2, upd o_this.2.2.1 o_this.1.toNatClampNeg a3, o_this.2.2.2.1, upd o_this.2.2.2.2.1 a1.toNatClampNeg x15, o_this.2.2.2.2.2)) := hD
          refine lv_aload_n hx hb dX3_add_57 rfl (lv_at hl 1 rfl) ?_
          refine va_get (D := D) (ci := 3) (v := .ref (ad 17)) (C := RX3) (T := TX3) (N := 8) hx hb hts layX3 hown hK hP 0 rfl rfl 2 (by decide) (hts _ (inA q365)) (fun _ h9 => h9) rfl dX3_add_58 ?_
          refine lv_iload hx hb dX3_add_61 (lv_at hl 0 rfl) ?_
          refine lv_iload hx hb dX3_add_63 (lv_at hl 5 rfl) ?_
          obtain ⟨b18, hM⟩ := gd_use hM
          refine va_iast hx hb hK hP hD hS 3 0 rfl rfl b18 dX3_add_65 (fun H locs hP hD hS => ?_)
          have hP : va_P D vwCl (wT cI ad (o_this.1, upd o_this.2.1 o_this.1.toNatClampNeg a2, upd o_this.2.2.1 o_this.1.toNatClampNeg a3, upd o_this.2.2.2.1 o_this.1.toNatClampNeg a4, upd o_this.2.2.2.2.1 a1.toNatClampNeg x15, o_this.2.2.2.2.2)) H := hP
          have hD : va_D A (wT cI ad (o_this.1, upd o_this.2.1 o_this.1.toNatClampNeg a2, upd o_this.2.2.1 o_this.1.toNatClampNeg a3, upd o_this.2.2.2.1 o_this.1.toNatClampNeg a4, upd o_this.2.2.2.2.1 a1.toNatClampNeg x15, o_this.2.2.2.2.2)) := hD
          refine lv_aload_n hx hb dX3_add_66 rfl (lv_at hl 1 rfl) ?_
          refine va_get (D := D) (ci := 3) (v := .ref (ad 18)) (C := RX3) (T := TX3) (N := 8) hx hb hts layX3 hown hK hP 0 rfl rfl 3 (by decide) (hts _ (inA q366)) (fun _ h9 => h9) rfl dX3_add_67 ?_
          refine lv_iload hx hb dX3_add_70 (lv_at hl 0 rfl) ?_
          refine lv_iconst (v := 0) hx hb dX3_add_72 (by decide) ?_
          obtain ⟨b19, hM⟩ := gd_use hM
          refine va_iast hx hb hK hP hD hS 4 0 rfl rfl b19 dX3_add_73 (fun H locs hP hD hS => ?_)
          have hP : va_P D vwCl (wT cI ad (o_this.1, upd o_this.2.1 o_this.1.toNatClampNeg a2, upd o_this.2.2.1 o_this.1.toNatClampNeg a3, upd o_this.2.2.2.1 o_this.1.toNatClampNeg a4, upd (upd o_this.2.2.2.2.1 a1.toNatClampNeg x15) o_this.1.toNatClampNeg 0, o_this.2.2.2.2.2)) H := hP
          have hD : va_D A (wT cI ad (o_this.1, upd o_this.2.1 o_this.1.toNatClampNeg a2, upd o_this.2.2.1 o_this.1.toNatClampNeg a3, upd o_this.2.2.2.1 o_this.1.toNatClampNeg a4, upd (upd o_this.2.2.2.2.1 a1.toNatClampNeg x15) o_this.1.toNatClampNeg 0, o_this.2.2.2.2.2)) := hD
          refine lv_aload_n hx hb dX3_add_74 rfl (lv_at hl 1 rfl) ?_
          refine lv_dup hx hb dX3_add_75 rfl ?_
          refine va_get (D := D) (ci := 3) (v := .int o_this.1) (C := RX3) (T := TX3) (N := 8) hx hb hts layX3 hown hK hP 0 rfl rfl 7 (by decide) (hts _ (inA q370)) (fun _ h9 => h9) rfl dX3_add_76 ?_
          refine lv_iconst (v := 1) hx hb dX3_add_79 (by decide) ?_
          refine lv_iadd hx hb dX3_add_80 ?_
          refine va_put (D := D) (ci := 3) (v := .int (o_this.1 + 1)) (ty := .int) (C := RX3) (T := TX3) (N := 8) hx hb hts layX3 tyX3 tyX3_ok nmX3 hown hK hP hD hS 0 rfl rfl 7 (by decide) (hts _ (inA q370)) (fun _ h9 => h9) rfl (by decide +kernel) rfl rfl (Nat.le_of_ble_eq_true rfl) dX3_add_81 (fun H locs hP hD hS => ?_)
          have hP : va_P D vwCl (wT cI ad (o_this.1 + 1, upd o_this.2.1 o_this.1.toNatClampNeg a2, upd o_this.2.2.1 o_this.1.toNatClampNeg a3, upd o_this.2.2.2.1 o_this.1.toNatClampNeg a4, upd (upd o_this.2.2.2.2.1 a1.toNatClampNeg x15) o_this.1.toNatClampNeg 0, o_this.2.2.2.2.2)) H := hP
          have hD : va_D A (wT cI ad (o_this.1 + 1, upd o_this.2.1 o_this.1.toNatClampNeg a2, upd o_this.2.2.1 o_this.1.toNatClampNeg a3, upd o_this.2.2.2.1 o_this.1.toNatClampNeg a4, upd (upd o_this.2.2.2.2.1 a1.toNatClampNeg x15) o_this.1.toNatClampNeg 0, o_this.2.2.2.2.2)) := hD
          refine lv_iload hx hb dX3_add_84 (lv_at hl 0 rfl) ?_
          cases hM
          exact rt_i hx hb hr hlk hP hD hS rfl dX3_add_86
    · replace hM := if_f c2 hM
      refine lv_iconst (v := (-1)) hx hb dX3_add_19 (by decide) ?_
      cases hM
      exact rt_i hx hb hr hlk hP hD hS rfl dX3_add_20

set_option maxHeartbeats 4000000 in
set_option maxRecDepth 100000 in
theorem c_Tree_has (l : Launch) (D : va_G) (cI : ClassId) (sd : Nat → Nat) (ad : Nat → Nat) (o_this : S_Tree) (a1 : Int32) (res : Int32) (hM : f_Tree_has o_this a1 = some res) : Ctr l D cI sd yX3_has (wsM yX3_has cX3_has 2 (Option.some Jvm.ClassFile.FieldType.boolean)) { frames := 0, cells := 0, slots := 0, locals := 0 } [.ref (ad 14), .int a1] (wT cI ad o_this) (wT cI ad o_this) (some (.int res)) := by
  refine Ctr.of (cc := cX3_has) (maxL := 2) (own := RX3) (by decide +kernel) rfl rfl (Nat.le_of_ble_eq_true rfl) ?_
  intro p e s m below meth c A ls hx hb hr hml hown hts hlk hK hE hA hP hD hS hl
  have hl : lv_has ls 2 [(0, .ref (ad 14)), (1, .int a1)] := hl
  unfold f_Tree_has at hM
  refine lv_iload_n hx hb dX3_has_0 rfl (lv_at hl 1 rfl) ?_
  refine lv_if_lt (tgt := 23) hx hb dX3_has_1 (by decide) (fun c1 => ?_) (fun c1 => ?_)
  · replace hM := if_t c1 hM
    refine lv_iconst (v := 0) hx hb dX3_has_23 (by decide) ?_
    cases hM
    exact rt_z hx hb hr hlk (by decide) hP hD hS rfl dX3_has_24
  · replace hM := if_f c1 hM
    refine lv_iload_n hx hb dX3_has_4 rfl (lv_at hl 1 rfl) ?_
    refine lv_aload_n hx hb dX3_has_5 rfl (lv_at hl 0 rfl) ?_
    refine va_get (D := D) (ci := 3) (v := .int o_this.1) (C := RX3) (T := TX3) (N := 8) hx hb hts layX3 hown hK hP 0 rfl rfl 7 (by decide) (hts _ (inA q370)) (fun _ h9 => h9) rfl dX3_has_6 ?_
    refine lv_icmp_ge (tgt := 23) hx hb dX3_has_9 (by decide) (fun c2 => ?_) (fun c2 => ?_)
    · replace hM := if_t c2 hM
      refine lv_iconst (v := 0) hx hb dX3_has_23 (by decide) ?_
      cases hM
      exact rt_z hx hb hr hlk (by decide) hP hD hS rfl dX3_has_24
    · replace hM := if_f c2 hM
      refine lv_iload_n hx hb dX3_has_12 rfl (lv_at hl 1 rfl) ?_
      refine lv_sipush (v := 16384) hx hb dX3_has_13 (by decide) ?_
      refine lv_icmp_ge (tgt := 23) hx hb dX3_has_16 (by decide) (fun c3 => ?_) (fun c3 => ?_)
      · replace hM := if_t c3 hM
        refine lv_iconst (v := 0) hx hb dX3_has_23 (by decide) ?_
        cases hM
        exact rt_z hx hb hr hlk (by decide) hP hD hS rfl dX3_has_24
      · replace hM := if_f c3 hM
        refine lv_iconst (v := 1) hx hb dX3_has_19 (by decide) ?_
        refine lv_goto (tgt := 24) hx hb dX3_has_20 (by decide) ?_
        cases hM
        exact rt_z hx hb hr hlk (by decide) hP hD hS rfl dX3_has_24

set_option maxHeartbeats 4000000 in
set_option maxRecDepth 100000 in
theorem c_Tree_wrap (l : Launch) (D : va_G) (cI : ClassId) (sd : Nat → Nat) (ad : Nat → Nat) (o_this : S_Tree) (a1 : Int32) (a2 : Int32) (a3 : Int32) (a4 : Int32) (res : S_Tree) (hM : f_Tree_wrap o_this a1 a2 a3 a4 = some res) : Ctr l D cI sd yX3_wrap (wsM yX3_wrap cX3_wrap 6 (Option.none : Option Jvm.ClassFile.FieldType)) { frames := 1, cells := 0, slots := 0, locals := 64 } [.ref (ad 14), .int a1, .int a2, .int a3, .int a4] (wT cI ad o_this) (wT cI ad res) none := by
  refine Ctr.of (cc := cX3_wrap) (maxL := 6) (own := RX3) (by decide +kernel) rfl rfl (Nat.le_of_ble_eq_true rfl) ?_
  intro p e s m below meth c A ls hx hb hr hml hown hts hlk hK hE hA hP hD hS hl
  have hl : lv_has ls 6 [(0, .ref (ad 14)), (1, .int a1), (2, .int a2), (3, .int a3), (4, .int a4)] := hl
  unfold f_Tree_wrap at hM
  refine lv_aload_n hx hb dX3_wrap_0 rfl (lv_at hl 0 rfl) ?_
  refine lv_iload_n hx hb dX3_wrap_1 rfl (lv_at hl 1 rfl) ?_
  obtain ⟨r1, hcr1, hM⟩ := ob_use hM
  refine cl_V (As := [.int a1]) (rest := []) (wT cI ad o_this) (.int r1 :: []) ⟨hx, hb, hml, hown, hts⟩ (c_Tree_has l D cI sd ad o_this a1 r1 hcr1) (cwV2 hts q759 mvX3_has rfl rfl ⟨(Nat.le_of_ble_eq_true rfl), (Nat.le_of_ble_eq_true rfl)⟩) hK hE hA hP hD hS 0 (T := TX3) (N := 8) (ci := 3) rfl rfl [0, 1, 2, 3, 4, 5, 6, 7] rfl (by decide) rfl rfl rfl rfl rfl rfl hl.1 (Nat.le_of_ble_eq_true rfl) dX3_wrap_2 ⟨Nat.zero_le _, Nat.zero_le _⟩ (fun H locs hP hD hS => ?_)
  refine lv_if_eq (tgt := 18) hx hb dX3_wrap_5 (by decide) (fun c2 => ?_) (fun c2 => ?_)
  · replace hM := if_t c2 hM
    cases hM
    exact rt_v hx hb hr hlk hP hD hS rfl dX3_wrap_18
  · replace hM := if_f c2 hM
    refine lv_aload_n hx hb dX3_wrap_8 rfl (lv_at hl 0 rfl) ?_
    refine va_get (D := D) (ci := 3) (v := .int o_this.1) (C := RX3) (T := TX3) (N := 8) hx hb hts layX3 hown hK hP 0 rfl rfl 7 (by decide) (hts _ (inA q370)) (fun _ h9 => h9) rfl dX3_wrap_9 ?_
    refine lv_sipush (v := 16384) hx hb dX3_wrap_12 (by decide) ?_
    refine lv_icmp_lt (tgt := 19) hx hb dX3_wrap_15 (by decide) (fun c3 => ?_) (fun c3 => ?_)
    · replace hM := if_t c3 hM
      refine lv_aload_n hx hb dX3_wrap_19 rfl (lv_at hl 0 rfl) ?_
      refine va_get (D := D) (ci := 3) (v := .int o_this.1) (C := RX3) (T := TX3) (N := 8) hx hb hts layX3 hown hK hP 0 rfl rfl 7 (by decide) (hts _ (inA q370)) (fun _ h9 => h9) rfl dX3_wrap_20 ?_
      refine lv_iload_n hx hb dX3_wrap_23 rfl (lv_at hl 1 rfl) ?_
      refine lv_isub hx hb dX3_wrap_24 ?_
      refine lv_istore (lv' := [(5, .int (o_this.1 - a1)), (0, .ref (ad 14)), (1, .int a1), (2, .int a2), (3, .int a3), (4, .int a4)]) hx hb dX3_wrap_25 hl (by decide) rfl (fun ls hl => ?_)
      refine lv_aload_n hx hb dX3_wrap_27 rfl (lv_at hl 1 rfl) ?_
      refine va_get (D := D) (ci := 3) (v := .ref (ad 15)) (C := RX3) (T := TX3) (N := 8) hx hb hts layX3 hown hK hP 0 rfl rfl 0 (by decide) (hts _ (inA q363)) (fun _ h9 => h9) rfl dX3_wrap_28 ?_
      refine lv_iload_n hx hb dX3_wrap_31 rfl (lv_at hl 2 rfl) ?_
      refine lv_aload_n hx hb dX3_wrap_32 rfl (lv_at hl 1 rfl) ?_
      refine va_get (D := D) (ci := 3) (v := .ref (ad 15)) (C := RX3) (T := TX3) (N := 8) hx hb hts layX3 hown hK hP 0 rfl rfl 0 (by decide) (hts _ (inA q363)) (fun _ h9 => h9) rfl dX3_wrap_33 ?_
      refine lv_iload_n hx hb dX3_wrap_36 rfl (lv_at hl 2 rfl) ?_
      refine lv_iconst (v := 1) hx hb dX3_wrap_37 (by decide) ?_
      refine lv_iadd hx hb dX3_wrap_38 ?_
      refine lv_iload hx hb dX3_wrap_39 (lv_at hl 0 rfl) ?_
      obtain ⟨b41, b42, b43, b44, b45, hM⟩ := ac_use hM
      refine va_copyi hx hb (hml.trans hl.1.symm) hown (hts _ (inA q763)) (hts _ (inA q765)) (hts _ (inA q764)) (hts _ (inA q187)) hK hP hD hS 1 1 0 0 rfl rfl rfl rfl rfl b41 b42 b43 b44 b45 (fun _ _ => rfl) (Nat.le_of_ble_eq_true rfl) (Nat.le_of_ble_eq_true rfl) dX3_wrap_41 (fun H locs hP hD hS => ?_)
      have hP : va_P D vwCl (wT cI ad (o_this.1, va_cpy o_this.2.1 o_this.2.1 a1.toNatClampNeg (a1 + 1).toNatClampNeg (o_this.1 - a1).toNatClampNeg, o_this.2.2)) H := hP
      have hD : va_D A (wT cI ad (o_this.1, va_cpy o_this.2.1 o_this.2.1 a1.toNatClampNeg (a1 + 1).toNatClampNeg (o_this.1 - a1).toNatClampNeg, o_this.2.2)) := hD
      refine lv_aload_n hx hb dX3_wrap_44 rfl (lv_at hl 1 rfl) ?_
      refine va_get (D := D) (ci := 3) (v := .ref (ad 16)) (C := RX3) (T := TX3) (N := 8) hx hb hts layX3 hown hK hP 0 rfl rfl 1 (by decide) (hts _ (inA q364)) (fun _ h9 => h9) rfl dX3_wrap_45 ?_
      refine lv_iload_n hx hb dX3_wrap_48 rfl (lv_at hl 2 rfl) ?_
      refine lv_aload_n hx hb dX3_wrap_49 rfl (lv_at hl 1 rfl) ?_
      refine va_get (D := D) (ci := 3) (v := .ref (ad 16)) (C := RX3) (T := TX3) (N := 8) hx hb hts layX3 hown hK hP 0 rfl rfl 1 (by decide) (hts _ (inA q364)) (fun _ h9 => h9) rfl dX3_wrap_50 ?_
      refine lv_iload_n hx hb dX3_wrap_53 rfl (lv_at hl 2 rfl) ?_
      refine lv_iconst (v := 1) hx hb dX3_wrap_54 (by decide) ?_
      refine lv_iadd hx hb dX3_wrap_55 ?_
      refine lv_iload hx hb dX3_wrap_56 (lv_at hl 0 rfl) ?_
      obtain ⟨b51, b52, b53, b54, b55, hM⟩ := ac_use hM
      refine va_copyi hx hb (hml.trans hl.1.symm) hown (hts _ (inA q763)) (hts _ (inA q765)) (hts _ (inA q764)) (hts _ (inA q187)) hK hP hD hS 2 2 0 0 rfl rfl rfl rfl rfl b51 b52 b53 b54 b55 (fun _ _ => rfl) (Nat.le_of_ble_eq_true rfl) (Nat.le_of_ble_eq_true rfl) dX3_wrap_58 (fun H locs hP hD hS => ?_)
      have hP : va_P D vwCl (wT cI ad (o_this.1, va_cpy o_this.2.1 o_this.2.1 a1.toNatClampNeg (a1 + 1).toNatClampNeg (o_this.1 - a1).toNatClampNeg, va_cpy o_this.2.2.1 o_this.2.2.1 a1.toNatClampNeg (a1 + 1).toNatClampNeg (o_this.1 - a1).toNatClampNeg, o_this.2.2.2)) H := hP
      have hD : va_D A (wT cI ad (o_this.1, va_cpy o_this.2.1 o_this.2.1 a1.toNatClampNeg (a1 + 1).toNatClampNeg (o_this.1 - a1).toNatClampNeg, va_cpy o_this.2.2.1 o_this.2.2.1 a1.toNatClampNeg (a1 + 1).toNatClampNeg (o_this.1 - a1).toNatClampNeg, o_this.2.2.2)) := hD
      refine lv_aload_n hx hb dX3_wrap_61 rfl (lv_at hl 1 rfl) ?_
      refine va_get (D := D) (ci := 3) (v := .ref (ad 17)) (C := RX3) (T := TX3) (N := 8) hx hb hts layX3 hown hK hP 0 rfl rfl 2 (by decide) (hts _ (inA q365)) (fun _ h9 => h9) rfl dX3_wrap_62 ?_
      refine lv_iload_n hx hb dX3_wrap_65 rfl (lv_at hl 2 rfl) ?_
      refine lv_aload_n hx hb dX3_wrap_66 rfl (lv_at hl 1 rfl) ?_
      refine va_get (D := D) (ci := 3) (v := .ref (ad 17)) (C := RX3) (T := TX3) (N := 8) hx hb hts layX3 hown hK hP 0 rfl rfl 2 (by decide) (hts _ (inA q365)) (fun _ h9 => h9) rfl dX3_wrap_67 ?_
      refine lv_iload_n hx hb dX3_wrap_70 rfl (lv_at hl 2 rfl) ?_
      refine lv_iconst (v := 1) hx hb dX3_wrap_71 (by decide) ?_
      refine lv_iadd hx hb dX3_wrap_72 ?_
      refine lv_iload hx hb dX3_wrap_73 (lv_at hl 0 rfl) ?_
      obtain ⟨b61, b62, b63, b64, b65, hM⟩ := ac_use hM
      refine va_copyi hx hb (hml.trans hl.1.symm) hown (hts _ (inA q763)) (hts _ (inA q765)) (hts _ (inA q764)) (hts _ (inA q187)) hK hP hD hS 3 3 0 0 rfl rfl rfl rfl rfl b61 b62 b63 b64 b65 (fun _ _ => rfl) (Nat.le_of_ble_eq_true rfl) (Nat.le_of_ble_eq_true rfl) dX3_wrap_75 (fun H locs hP hD hS => ?_)
      have hP : va_P D vwCl (wT cI ad (o_this.1, va_cpy o_this.2.1 o_this.2.1 a1.toNatClampNeg (a1 + 1).toNatClampNeg (o_this.1 - a1).toNatClampNeg, va_cpy o_this.2.2.1 o_this.2.2.1 a1.toNatClampNeg (a1 + 1).toNatClampNeg (o_this.1 - a1).toNatClampNeg, va_cpy o_this.2.2.2.1 o_this.2.2.2.1 a1.toNatClampNeg (a1 + 1).toNatClampNeg (o_this.1 - a1).toNatClampNeg, o_this.2.2.2.2)) H := hP
      have hD : va_D A (wT cI ad (o_this.1, va_cpy o_this.2.1 o_this.2.1 a1.toNatClampNeg (a1 + 1).toNatClampNeg (o_this.1 - a1).toNatClampNeg, va_cpy o_this.2.2.1 o_this.2.2.1 a1.toNatClampNeg (a1 + 1).toNatClampNeg (o_this.1 - a1).toNatClampNeg, va_cpy o_this.2.2.2.1 o_this.2.2.2.1 a1.toNatClampNeg (a1 + 1).toNatClampNeg (o_this.1 - a1).toNatClampNeg, o_this.2.2.2.2)) := hD
      refine lv_aload_n hx hb dX3_wrap_78 rfl (lv_at hl 1 rfl) ?_
      refine va_get (D := D) (ci := 3) (v := .ref (ad 18)) (C := RX3) (T := TX3) (N := 8) hx hb hts layX3 hown hK hP 0 rfl rfl 3 (by decide) (hts _ (inA q366)) (fun _ h9 => h9) rfl dX3_wrap_79 ?_
      refine lv_iload_n hx hb dX3_wrap_82 rfl (lv_at hl 2 rfl) ?_
      refine lv_aload_n hx hb dX3_wrap_83 rfl (lv_at hl 1 rfl) ?_
      refine va_get (D := D) (ci := 3) (v := .ref (ad 18)) (C := RX3) (T := TX3) (N := 8) hx hb hts layX3 hown hK hP 0 rfl rfl 3 (by decide) (hts _ (inA q366)) (fun _ h9 => h9) rfl dX3_wrap_84 ?_
      refine lv_iload_n hx hb dX3_wrap_87 rfl (lv_at hl 2 rfl) ?_
      refine lv_iconst (v := 1) hx hb dX3_wrap_88 (by decide) ?_
      refine lv_iadd hx hb dX3_wrap_89 ?_
      refine lv_iload hx hb dX3_wrap_90 (lv_at hl 0 rfl) ?_
      obtain ⟨b71, b72, b73, b74, b75, hM⟩ := ac_use hM
      refine va_copyi hx hb (hml.trans hl.1.symm) hown (hts _ (inA q763)) (hts _ (inA q765)) (hts _ (inA q764)) (hts _ (inA q187)) hK hP hD hS 4 4 0 0 rfl rfl rfl rfl rfl b71 b72 b73 b74 b75 (fun _ _ => rfl) (Nat.le_of_ble_eq_true rfl) (Nat.le_of_ble_eq_true rfl) dX3_wrap_92 (fun H locs hP hD hS => ?_)
      have hP : va_P D vwCl (wT cI ad (o_this.1, va_cpy o_this.2.1 o_this.2.1 a1.toNatClampNeg (a1 + 1).toNatClampNeg (o_this.1 - a1).toNatClampNeg, va_cpy o_this.2.2.1 o_this.2.2.1 a1.toNatClampNeg (a1 + 1).toNatClampNeg (o_this.1 - a1).toNatClampNeg, va_cpy o_this.2.2.2.1 o_this.2.2.2.1 a1.toNatClampNeg (a1 + 1).toNatClampNeg (o_this.1 - a1).toNatClampNeg, va_cpy o_this.2.2.2.2.1 o_this.2.2.2.2.1 a1.toNatClampNeg (a1 + 1).toNatClampNeg (o_this.1 - a1).toNatClampNeg, o_this.2.2.2.2.2)) H := hP
      have hD : va_D A (wT cI ad (o_this.1, va_cpy o_this.2.1 o_this.2.1 a1.toNatClampNeg (a1 + 1).toNatClampNeg (o_this.1 - a1).toNatClampNeg, va_cpy o_this.2.2.1 o_this.2.2.1 a1.toNatClampNeg (a1 + 1).toNatClampNeg (o_this.1 - a1).toNatClampNeg, va_cpy o_this.2.2.2.1 o_this.2.2.2.1 a1.toNatClampNeg (a1 + 1).toNatClampNeg (o_this.1 - a1).toNatClampNeg, va_cpy o_this.2.2.2.2.1 o_this.2.2.2.2.1 a1.toNatClampNeg (a1 + 1).toNatClampNeg (o_this.1 - a1).toNatClampNeg, o_this.2.2.2.2.2)) := hD
      refine lv_aload_n hx hb dX3_wrap_95 rfl (lv_at hl 1 rfl) ?_
      refine va_get (D := D) (ci := 3) (v := .ref (ad 15)) (C := RX3) (T := TX3) (N := 8) hx hb hts layX3 hown hK hP 0 rfl rfl 0 (by decide) (hts _ (inA q363)) (fun _ h9 => h9) rfl dX3_wrap_96 ?_
      refine lv_iload_n hx hb dX3_wrap_99 rfl (lv_at hl 2 rfl) ?_
      refine lv_iload_n hx hb dX3_wrap_100 rfl (lv_at hl 3 rfl) ?_
      obtain ⟨b8, hM⟩ := gd_use hM
      refine va_iast hx hb hK hP hD hS 1 0 rfl rfl b8 dX3_wrap_101 (fun H locs hP hD hS => ?_)
      have hP : va_P D vwCl (wT cI ad (o_this.1, upd (va_cpy o_this.2.1 o_this.2.1 a1.toNatClampNeg (a1 + 1).toNatClampNeg (o_this.1 - a1).toNatClampNeg) a1.toNatClampNeg a2, va_cpy o_this.2.2.1 o_this.2.2.1 a1.toNatClampNeg (a1 + 1).toNatClampNeg (o_this.1 - a1).toNatClampNeg, va_cpy o_this.2.2.2.1 o_this.2.2.2.1 a1.toNatClampNeg (a1 + 1).toNatClampNeg (o_this.1 - a1).toNatClampNeg, va_cpy o_this.2.2.2.2.1 o_this.2.2.2.2.1 a1.toNatClampNeg (a1 + 1).toNatClampNeg (o_this.1 - a1).toNatClampNeg, o_this.2.2.2.2.2)) H := hP
      have hD : va_D A (wT cI ad (o_this.1, upd (va_cpy o_this.2.1 o_this.2.1 a1.toNatClampNeg (a1 + 1).toNatClampNeg (o_this.1 - a1).toNatClampNeg) a1.toNatClampNeg a2, va_cpy o_this.2.2.1 o_this.2.2.1 a1.toNatClampNeg (a1 + 1).toNatClampNeg (o_this.1 - a1).toNatClampNeg, va_cpy o_this.2.2.2.1 o_this.2.2.2.1 a1.toNatClampNeg (a1 + 1).toNatClampNeg (o_this.1 - a1).toNatClampNeg, va_cpy o_this.2.2.2.2.1 o_this.2.2.2.2.1 a1.toNatClampNeg (a1 + 1).toNatClampNeg (o_this.1 - a1).toNatClampNeg, o_this.2.2.2.2.2)) := hD
      refine lv_aload_n hx hb dX3_wrap_102 rfl (lv_at hl 1 rfl) ?_
      refine va_get (D := D) (ci := 3) (v := .ref (ad 16)) (C := RX3) (T := TX3) (N := 8) hx hb hts layX3 hown hK hP 0 rfl rfl 1 (by decide) (hts _ (inA q364)) (fun _ h9 => h9) rfl dX3_wrap_103 ?_
      refine lv_iload_n hx hb dX3_wrap_106 rfl (lv_at hl 2 rfl) ?_
      refine lv_iload_n hx hb dX3_wrap_107 rfl (lv_at hl 4 rfl) ?_
      obtain ⟨b9, hM⟩ := gd_use hM
      refine va_iast hx hb hK hP hD hS 2 0 rfl rfl b9 dX3_wrap_108 (fun H locs hP hD hS => ?_)
      have hP : va_P D vwCl (wT cI ad (o_this.1, upd (va_cpy o_this.2.1 o_this.2.1 a1.toNatClampNeg (a1 + 1).toNatClampNeg (o_this.1 - a1).toNatClampNeg) a1.toNatClampNeg a2, upd (va_cpy o_this.2.2.1 o_this.2.2.1 a1.toNatClampNeg (a1 + 1).toNatClampNeg (o_this.1 - a1).toNatClampNeg) a1.toNatClampNeg a3, va_cpy o_this.2.2.2.1 o_this.2.2.2.1 a1.toNatClampNeg (a1 + 1).toNatClampNeg (o_this.1 - a1).toNatClampNeg, va_cpy o_this.2.2.2.2.1 o_this.2.2.2.2.1 a1.toNatClampNeg (a1 + 1).toNatClampNeg (o_this.1 - a1).toNatClampNeg, o_this.2.2.2.2.2)) H := hP
      have hD : va_D A (wT cI ad (o_this.1, upd (va_cpy o_this.2.1 o_this.2.1 a1.toNatClampNeg (a1 + 1).toNatClampNeg (o_this.1 - a1).toNatClampNeg) a1.toNatClampNeg a2, upd (va_cpy o_this.2.2.1 o_this.2.2.1 a1.toNatClampNeg (a1 + 1).toNatClampNeg (o_this.1 - a1).toNatClampNeg) a1.toNatClampNeg a3, va_cpy o_this.2.2.2.1 o_this.2.2.2.1 a1.toNatClampNeg (a1 + 1).toNatClampNeg (o_this.1 - a1).toNatClampNeg, va_cpy o_this.2.2.2.2.1 o_this.2.2.2.2.1 a1.toNatClampNeg (a1 + 1).toNatClampNeg (o_this.1 - a1).toNatClampNeg, o_this.2.2.2.2.2)) := hD
      refine lv_aload_n hx hb dX3_wrap_109 rfl (lv_at hl 1 rfl) ?_
      refine va_get (D := D) (ci := 3) (v := .ref (ad 17)) (C := RX3) (T := TX3) (N := 8) hx hb hts layX3 hown hK hP 0 rfl rfl 2 (by decide) (hts _ (inA q365)) (fun _ h9 => h9) rfl dX3_wrap_110 ?_
      refine lv_iload_n hx hb dX3_wrap_113 rfl (lv_at hl 2 rfl) ?_
      refine lv_iload hx hb dX3_wrap_114 (lv_at hl 5 rfl) ?_
      obtain ⟨b10, hM⟩ := gd_use hM
      refine va_iast hx hb hK hP hD hS 3 0 rfl rfl b10 dX3_wrap_116 (fun H locs hP hD hS => ?_)
      have hP : va_P D vwCl (wT cI ad (o_this.1, upd (va_cpy o_this.2.1 o_this.2.1 a1.toNatClampNeg (a1 + 1).toNatClampNeg (o_this.1 - a1).toNatClampNeg) a1.toNatClampNeg a2, upd (va_cpy o_this.2.2.1 o_this.2.2.1 a1.toNatClampNeg (a1 + 1).toNatClampNeg (o_this.1 - a1).toNatClampNeg) a1.toNatClampNeg a3, upd (va_cpy o_this.2.2.2.1 o_this.2.2.2.1 a1.toNatClampNeg (a1 + 1).toNatClampNeg (o_this.1 - a1).toNatClampNeg) a1.toNatClampNeg a4, va_cpy o_this.2.2.2.2.1 o_this.2.2.2.2.1 a1.toNatClampNeg (a1 + 1).toNatClampNeg (o_this.1 - a1).toNatClampNeg, o_this.2.2.2.2.2)) H := hP
      have hD : va_D A (wT cI ad (o_this.1, upd (va_cpy o_this.2.1 o_this.2.1 a1.toNatClampNeg (a1 + 1).toNatClampNeg (o_this.1 - a1).toNatClampNeg) a1.toNatClampNeg a2, upd (va_cpy o_this.2.2.1 o_this.2.2.1 a1.toNatClampNeg (a1 + 1).toNatClampNeg (o_this.1 - a1).toNatClampNeg) a1.toNatClampNeg a3, upd (va_cpy o_this.2.2.2.1 o_this.2.2.2.1 a1.toNatClampNeg (a1 + 1).toNatClampNeg (o_this.1 - a1).toNatClampNeg) a1.toNatClampNeg a4, va_cpy o_this.2.2.2.2.1 o_this.2.2.2.2.1 a1.toNatClampNeg (a1 + 1).toNatClampNeg (o_this.1 - a1).toNatClampNeg, o_this.2.2.2.2.2)) := hD
      refine lv_aload_n hx hb dX3_wrap_117 rfl (lv_at hl 1 rfl) ?_
      refine va_get (D := D) (ci := 3) (v := .ref (ad 18)) (C := RX3) (T := TX3) (N := 8) hx hb hts layX3 hown hK hP 0 rfl rfl 3 (by decide) (hts _ (inA q366)) (fun _ h9 => h9) rfl dX3_wrap_118 ?_
      refine lv_iload_n hx hb dX3_wrap_121 rfl (lv_at hl 2 rfl) ?_
      refine lv_iconst (v := 1) hx hb dX3_wrap_122 (by decide) ?_
      obtain ⟨b11, hM⟩ := gd_use hM
      refine va_iast hx hb hK hP hD hS 4 0 rfl rfl b11 dX3_wrap_123 (fun H locs hP hD hS => ?_)
      have hP : va_P D vwCl (wT cI ad (o_this.1, upd (va_cpy o_this.2.1 o_this.2.1 a1.toNatClampNeg (a1 + 1).toNatClampNeg (o_this.1 - a1).toNatClampNeg) a1.toNatClampNeg a2, upd (va_cpy o_this.2.2.1 o_this.2.2.1 a1.toNatClampNeg (a1 + 1).toNatClampNeg (o_this.1 - a1).toNatClampNeg) a1.toNatClampNeg a3, upd (va_cpy o_this.2.2.2.1 o_this.2.2.2.1 a1.toNatClampNeg (a1 + 1).toNatClampNeg (o_this.1 - a1).toNatClampNeg) a1.toNatClampNeg a4, upd (va_cpy o_this.2.2.2.2.1 o_this.2.2.2.2.1 a1.toNatClampNeg (a1 + 1).toNatClampNeg (o_this.1 - a1).toNatClampNeg) a1.toNatClampNeg 1, o_this.2.2.2.2.2)) H := hP
      have hD : va_D A (wT cI ad (o_this.1, upd (va_cpy o_this.2.1 o_this.2.1 a1.toNatClampNeg (a1 + 1).toNatClampNeg (o_this.1 - a1).toNatClampNeg) a1.toNatClampNeg a2, upd (va_cpy o_this.2.2.1 o_this.2.2.1 a1.toNatClampNeg (a1 + 1).toNatClampNeg (o_this.1 - a1).toNatClampNeg) a1.toNatClampNeg a3, upd (va_cpy o_this.2.2.2.1 o_this.2.2.2.1 a1.toNatClampNeg (a1 + 1).toNatClampNeg (o_this.1 - a1).toNatClampNeg) a1.toNatClampNeg a4, upd (va_cpy o_this.2.2.2.2.1 o_this.2.2.2.2.1 a1.toNatClampNeg (a1 + 1).toNatClampNeg (o_this.1 - a1).toNatClampNeg) a1.toNatClampNeg 1, o_this.2.2.2.2.2)) := hD
      refine lv_aload_n hx hb dX3_wrap_124 rfl (lv_at hl 1 rfl) ?_
      refine lv_dup hx hb dX3_wrap_125 rfl ?_
      refine va_get (D := D) (ci := 3) (v := .int o_this.1) (C := RX3) (T := TX3) (N := 8) hx hb hts layX3 hown hK hP 0 rfl rfl 7 (by decide) (hts _ (inA q370)) (fun _ h9 => h9) rfl dX3_wrap_126 ?_
      refine lv_iconst (v := 1) hx hb dX3_wrap_129 (by decide) ?_
      refine lv_iadd hx hb dX3_wrap_130 ?_
      refine va_put (D := D) (ci := 3) (v := .int (o_this.1 + 1)) (ty := .int) (C := RX3) (T := TX3) (N := 8) hx hb hts layX3 tyX3 tyX3_ok nmX3 hown hK hP hD hS 0 rfl rfl 7 (by decide) (hts _ (inA q370)) (fun _ h9 => h9) rfl (by decide +kernel) rfl rfl (Nat.le_of_ble_eq_true rfl) dX3_wrap_131 (fun H locs hP hD hS => ?_)
      have hP : va_P D vwCl (wT cI ad (o_this.1 + 1, upd (va_cpy o_this.2.1 o_this.2.1 a1.toNatClampNeg (a1 + 1).toNatClampNeg (o_this.1 - a1).toNatClampNeg) a1.toNatClampNeg a2, upd (va_cpy o_this.2.2.1 o_this.2.2.1 a1.toNatClampNeg (a1 + 1).toNatClampNeg (o_this.1 - a1).toNatClampNeg) a1.toNatClampNeg a3, upd (va_cpy o_this.2.2.2.1 o_this.2.2.2.1 a1.toNatClampNeg (a1 + 1).toNatClampNeg (o_this.1 - a1).toNatClampNeg) a1.toNatClampNeg a4, upd (va_cpy o_this.2.2.2.2.1 o_this.2.2.2.2.1 a1.toNatClampNeg (a1 + 1).toNatClampNeg (o_this.1 - a1).toNatClampNeg) a1.toNatClampNeg 1, o_this.2.2.2.2.2)) H := hP
      have hD : va_D A (wT cI ad (o_this.1 + 1, upd (va_cpy o_this.2.1 o_this.2.1 a1.toNatClampNeg (a1 + 1).toNatClampNeg (o_this.1 - a1).toNatClampNeg) a1.toNatClampNeg a2, upd (va_cpy o_this.2.2.1 o_this.2.2.1 a1.toNatClampNeg (a1 + 1).toNatClampNeg (o_this.1 - a1).toNatClampNeg) a1.toNatClampNeg a3, upd (va_cpy o_this.2.2.2.1 o_this.2.2.2.1 a1.toNatClampNeg (a1 + 1).toNatClampNeg (o_this.1 - a1).toNatClampNeg) a1.toNatClampNeg a4, upd (va_cpy o_this.2.2.2.2.1 o_this.2.2.2.2.1 a1.toNatClampNeg (a1 + 1).toNatClampNeg (o_this.1 - a1).toNatClampNeg) a1.toNatClampNeg 1, o_this.2.2.2.2.2)) := hD
      cases hM
      exact rt_v hx hb hr hlk hP hD hS rfl dX3_wrap_134
    · replace hM := if_f c3 hM
      cases hM
      exact rt_v hx hb hr hlk hP hD hS rfl dX3_wrap_18

set_option maxHeartbeats 4000000 in
set_option maxRecDepth 100000 in
theorem c_Tree_forget (l : Launch) (D : va_G) (cI : ClassId) (sd : Nat → Nat) (ad : Nat → Nat) (o_this : S_Tree) (res : S_Tree) (hM : f_Tree_forget o_this = some res) : Ctr l D cI sd yX3_forget (wsM yX3_forget cX3_forget 1 (Option.none : Option Jvm.ClassFile.FieldType)) { frames := 0, cells := 0, slots := 0, locals := 0 } [.ref (ad 14)] (wT cI ad o_this) (wT cI ad res) none := by
  refine Ctr.of (cc := cX3_forget) (maxL := 1) (own := RX3) (by decide +kernel) rfl rfl (Nat.le_of_ble_eq_true rfl) ?_
  intro p e s m below meth c A ls hx hb hr hml hown hts hlk hK hE hA hP hD hS hl
  have hl : lv_has ls 1 [(0, .ref (ad 14))] := hl
  unfold f_Tree_forget at hM
  refine lv_aload_n hx hb dX3_forget_0 rfl (lv_at hl 0 rfl) ?_
  refine lv_iconst (v := 0) hx hb dX3_forget_1 (by decide) ?_
  refine va_put (D := D) (ci := 3) (v := .int 0) (ty := .int) (C := RX3) (T := TX3) (N := 8) hx hb hts layX3 tyX3 tyX3_ok nmX3 hown hK hP hD hS 0 rfl rfl 7 (by decide) (hts _ (inA q370)) (fun _ h9 => h9) rfl (by decide +kernel) rfl rfl (Nat.le_of_ble_eq_true rfl) dX3_forget_2 (fun H locs hP hD hS => ?_)
  have hP : va_P D vwCl (wT cI ad (0, o_this.2)) H := hP
  have hD : va_D A (wT cI ad (0, o_this.2)) := hD
  cases hM
  exact rt_v hx hb hr hlk hP hD hS rfl dX3_forget_5

set_option maxHeartbeats 4000000 in
set_option maxRecDepth 100000 in
theorem c_Tree_firstUnfilled (l : Launch) (D : va_G) (cI : ClassId) (sd : Nat → Nat) (ad : Nat → Nat) (o_this : S_Tree) (a1 : Int32) (res : Int32) (hM : f_Tree_firstUnfilled o_this a1 = some res) : Ctr l D cI sd yX3_firstUnfilled (wsM yX3_firstUnfilled cX3_firstUnfilled 4 (Option.some Jvm.ClassFile.FieldType.int)) { frames := 1, cells := 0, slots := 0, locals := 21 } [.ref (ad 14), .int a1] (wT cI ad o_this) (wT cI ad o_this) (some (.int res)) := by
  refine Ctr.of (cc := cX3_firstUnfilled) (maxL := 4) (own := RX3) (by decide +kernel) rfl rfl (Nat.le_of_ble_eq_true rfl) ?_
  intro p e s m below meth c A ls hx hb hr hml hown hts hlk hK hE hA hP hD hS hl
  have hl : lv_has ls 4 [(0, .ref (ad 14)), (1, .int a1)] := hl
  unfold f_Tree_firstUnfilled at hM
  refine lv_iload_n hx hb dX3_firstUnfilled_0 rfl (lv_at hl 1 rfl) ?_
  refine lv_istore_n (lv' := [(2, .int a1), (0, .ref (ad 14)), (1, .int a1)]) hx hb dX3_firstUnfilled_1 rfl hl (by decide) rfl (fun ls hl => ?_)
  refine lv_iconst (v := 0) hx hb dX3_firstUnfilled_2 (by decide) ?_
  refine lv_istore_n (lv' := [(3, .int 0), (2, .int a1), (0, .ref (ad 14)), (1, .int a1)]) hx hb dX3_firstUnfilled_3 rfl hl (by decide) rfl (fun ls hl => ?_)
  have lp_L4 : ∀ (o_this_L4 : S_Tree) (n : Nat) (v3_L4 : Int32) (v2_L4 : Int32) (out_L4 : Int32) (H : Heap) (locs : List Loc) (ls : Array Slot), f_Tree_firstUnfilled_L4 o_this_L4 n v3_L4 v2_L4 = some out_L4 → va_P D vwCl (wT cI ad o_this_L4) H → va_D A (wT cI ad o_this_L4) → va_S A s.heap H locs → lv_has ls 4 [(3, .int v3_L4), (2, .int v2_L4), (0, .ref (ad 14))] → (∀ (H : Heap) (locs : List Loc) (ls : Array Slot), va_P D vwCl (wT cI ad o_this_L4) H → va_D A (wT cI ad o_this_L4) → va_S A s.heap H locs → lv_has ls 4 [(2, .int out_L4), (0, .ref (ad 14))] → W p l e { frames := 1, cells := 0, slots := 0, locals := 21 } s m [.ref (ad 14), .int a1].toArray below meth c H locs 0 0 (MQ below (CQ D A (wT cI ad o_this) (some (.int res))) [.ref (ad 14), .int a1].toArray s 0 0 A) (F0 m 48 ls [])) → W p l e { frames := 1, cells := 0, slots := 0, locals := 21 } s m [.ref (ad 14), .int a1].toArray below meth c H locs 0 0 (MQ below (CQ D A (wT cI ad o_this) (some (.int res))) [.ref (ad 14), .int a1].toArray s 0 0 A) (F0 m 4 ls []) := by
    intro o_this_L4 n
    induction n with
    | zero => intro v3_L4 v2_L4 out_L4 H locs ls hM; exact absurd (show none = some _ from hM) (by simp)
    | succ n ih_L4 =>
      intro v3_L4 v2_L4 out_L4 H locs ls hM hP hD hS hl kx_L4
      rw [f_Tree_firstUnfilled_L4] at hM
      refine lv_iload_n hx hb dX3_firstUnfilled_4 rfl (lv_at hl 0 rfl) ?_
      refine lv_aload_n hx hb dX3_firstUnfilled_5 rfl (lv_at hl 2 rfl) ?_
      refine va_get (D := D) (ci := 3) (v := .int o_this_L4.1) (C := RX3) (T := TX3) (N := 8) hx hb hts layX3 hown hK hP 0 rfl rfl 7 (by decide) (hts _ (inA q370)) (fun _ h9 => h9) rfl dX3_firstUnfilled_6 ?_
      refine lv_icmp_ge (tgt := 48) hx hb dX3_firstUnfilled_9 (by decide) (fun c1141 => ?_) (fun c1141 => ?_)
      · replace hM := if_t c1141 hM
        cases hM
        exact kx_L4 _ _ _ hP hD hS (lv_sub hl [1, 2] rfl)
      · replace hM := if_f c1141 hM
        refine lv_aload_n hx hb dX3_firstUnfilled_12 rfl (lv_at hl 2 rfl) ?_
        refine lv_iload_n hx hb dX3_firstUnfilled_13 rfl (lv_at hl 1 rfl) ?_
        obtain ⟨r1142, hcr1142, hM⟩ := ob_use hM
        refine cl_V (As := [.int v2_L4]) (rest := []) (wT cI ad o_this_L4) (.int r1142 :: []) ⟨hx, hb, hml, hown, hts⟩ (c_Tree_has l D cI sd ad o_this_L4 v2_L4 r1142 hcr1142) (cwV2 hts q759 mvX3_has rfl rfl ⟨(Nat.le_of_ble_eq_true rfl), (Nat.le_of_ble_eq_true rfl)⟩) hK hE hA hP hD hS 0 (T := TX3) (N := 8) (ci := 3) rfl rfl [0, 1, 2, 3, 4, 5, 6, 7] rfl (by decide) rfl rfl rfl rfl rfl rfl hl.1 (Nat.le_of_ble_eq_true rfl) dX3_firstUnfilled_14 ⟨Nat.zero_le _, Nat.zero_le _⟩ (fun H locs hP hD hS => ?_)
        refine lv_if_eq (tgt := 48) hx hb dX3_firstUnfilled_17 (by decide) (fun c1143 => ?_) (fun c1143 => ?_)
        · replace hM := if_t c1143 hM
          cases hM
          exact kx_L4 _ _ _ hP hD hS (lv_sub hl [1, 2] rfl)
        · replace hM := if_f c1143 hM
          refine lv_aload_n hx hb dX3_firstUnfilled_20 rfl (lv_at hl 2 rfl) ?_
          refine va_get (D := D) (ci := 3) (v := .ref (ad 21)) (C := RX3) (T := TX3) (N := 8) hx hb hts layX3 hown hK hP 0 rfl rfl 6 (by decide) (hts _ (inA q369)) (fun _ h9 => h9) rfl dX3_firstUnfilled_21 ?_
          refine lv_iload_n hx hb dX3_firstUnfilled_24 rfl (lv_at hl 1 rfl) ?_
          obtain ⟨b1144, hM⟩ := gd_use hM
          refine va_iald hx hb hK hP 7 0 rfl rfl b1144 dX3_firstUnfilled_25 ?_
          refine lv_aload_n hx hb dX3_firstUnfilled_26 rfl (lv_at hl 2 rfl) ?_
          refine va_get (D := D) (ci := 3) (v := .ref (ad 18)) (C := RX3) (T := TX3) (N := 8) hx hb hts layX3 hown hK hP 0 rfl rfl 3 (by decide) (hts _ (inA q366)) (fun _ h9 => h9) rfl dX3_firstUnfilled_27 ?_
          refine lv_iload_n hx hb dX3_firstUnfilled_30 rfl (lv_at hl 1 rfl) ?_
          obtain ⟨b1145, hM⟩ := gd_use hM
          refine va_iald hx hb hK hP 4 0 rfl rfl b1145 dX3_firstUnfilled_31 ?_
          refine lv_icmp_lt (tgt := 48) hx hb dX3_firstUnfilled_32 (by decide) (fun c1146 => ?_) (fun c1146 => ?_)
          · replace hM := if_t c1146 hM
            cases hM
            exact kx_L4 _ _ _ hP hD hS (lv_sub hl [1, 2] rfl)
          · replace hM := if_f c1146 hM
            refine lv_aload_n hx hb dX3_firstUnfilled_35 rfl (lv_at hl 2 rfl) ?_
            refine va_get (D := D) (ci := 3) (v := .ref (ad 19)) (C := RX3) (T := TX3) (N := 8) hx hb hts layX3 hown hK hP 0 rfl rfl 4 (by decide) (hts _ (inA q367)) (fun _ h9 => h9) rfl dX3_firstUnfilled_36 ?_
            refine lv_iload_n hx hb dX3_firstUnfilled_39 rfl (lv_at hl 1 rfl) ?_
            obtain ⟨b1147, hM⟩ := gd_use hM
            refine va_iald hx hb hK hP 5 0 rfl rfl b1147 dX3_firstUnfilled_40 ?_
            refine lv_topi (fun x1148 ex1148 => ?_)
            replace hM := nm_use ex1148 hM
            refine lv_istore_n (lv' := [(2, .int x1148), (3, .int v3_L4), (0, .ref (ad 14))]) hx hb dX3_firstUnfilled_41 rfl hl (by decide) rfl (fun ls hl => ?_)
            obtain ⟨x1149, ex1149⟩ : ∃ y : Int32, y = v3_L4 + 1 := ⟨_, rfl⟩
            replace hM := nm_use ex1149 hM
            refine lv_iinc (v := x1149) (lv' := [(3, .int x1149), (2, .int x1148), (0, .ref (ad 14))]) hx hb dX3_firstUnfilled_42 hl (k := 1) rfl (by rw [ex1149]; rfl) (by decide) rfl (fun ls hl => ?_)
            refine lv_goto (tgt := 4) hx hb dX3_firstUnfilled_45 (by decide) ?_
            exact ih_L4 x1149 x1148 out_L4 _ _ _ hM hP hD hS (lv_sub hl [0, 1, 2] rfl) kx_L4
  obtain ⟨r1, hcr1, hM⟩ := ob_use hM
  refine lp_L4 o_this FU 0 a1 r1 _ _ _ hcr1 hP hD hS (lv_sub hl [0, 1, 2] rfl) (fun H locs ls hP hD hS hl => ?_)
  refine lv_iload_n hx hb dX3_firstUnfilled_48 rfl (lv_at hl 0 rfl) ?_
  cases hM
  exact rt_i hx hb hr hlk hP hD hS rfl dX3_firstUnfilled_49
