set_option maxHeartbeats 4000000 in
set_option maxRecDepth 100000 in
theorem c_Names_forget (l : Launch) (D : va_G) (cI : ClassId) (sd : Nat → Nat) (ad : Nat → Nat) (o_this : S_Names) (res : S_Names) (hM : f_Names_forget o_this = some res) : Ctr l D cI sd yX1_forget (wsM yX1_forget cX1_forget 3 (Option.none : Option Jvm.ClassFile.FieldType)) { frames := 0, cells := 0, slots := 0, locals := 0 } [.ref (ad 5)] (wN cI ad o_this) (wN cI ad res) none := by
  refine Ctr.of (cc := cX1_forget) (maxL := 3) (own := RX1) (by decide +kernel) rfl rfl (Nat.le_of_ble_eq_true rfl) ?_
  intro p e s m below meth c A ls hx hb hr hml hown hts hlk hK hE hA hP hD hS hl
  have hl : lv_has ls 3 [(0, .ref (ad 5))] := hl
  unfold f_Names_forget at hM
  refine lv_bipush (v := 41) hx hb dX1_forget_0 (by decide) ?_
  refine lv_istore_n (lv' := [(1, .int 41), (0, .ref (ad 5))]) hx hb dX1_forget_2 rfl hl (by decide) rfl (fun ls hl => ?_)
  have lp_L3 : ∀ (n : Nat) (v1_L3 : Int32) (o_this_L3 : S_Names) (out_L3 : S_Names) (H : Heap) (locs : List Loc) (ls : Array Slot), f_Names_forget_L3 n v1_L3 o_this_L3 = some out_L3 → va_P D vwCl (wN cI ad o_this_L3) H → va_D A (wN cI ad o_this_L3) → va_S A s.heap H locs → lv_has ls 3 [(1, .int v1_L3), (0, .ref (ad 5))] → (∀ (H : Heap) (locs : List Loc) (ls : Array Slot), va_P D vwCl (wN cI ad out_L3) H → va_D A (wN cI ad out_L3) → va_S A s.heap H locs → lv_has ls 3 [(0, .ref (ad 5))] → W p l e { frames := 0, cells := 0, slots := 0, locals := 0 } s m [.ref (ad 5)].toArray below meth c H locs 0 0 (MQ below (CQ D A (wN cI ad res) none) [.ref (ad 5)].toArray s 0 0 A) (F0 m 49 ls [])) → W p l e { frames := 0, cells := 0, slots := 0, locals := 0 } s m [.ref (ad 5)].toArray below meth c H locs 0 0 (MQ below (CQ D A (wN cI ad res) none) [.ref (ad 5)].toArray s 0 0 A) (F0 m 3 ls []) := by
    intro  n
    induction n with
    | zero => intro v1_L3 o_this_L3 out_L3 H locs ls hM; exact absurd (show none = some _ from hM) (by simp)
    | succ n ih_L3 =>
      intro v1_L3 o_this_L3 out_L3 H locs ls hM hP hD hS hl kx_L3
      rw [f_Names_forget_L3] at hM
      refine lv_iload_n hx hb dX1_forget_3 rfl (lv_at hl 0 rfl) ?_
      refine lv_aload_n hx hb dX1_forget_4 rfl (lv_at hl 1 rfl) ?_
      refine va_get (D := D) (ci := 1) (v := .int o_this_L3.1) (C := RX1) (T := TX1) (N := 6) hx hb hts layX1 hown hK hP 0 rfl rfl 4 (by decide) (hts _ (inA q308)) (fun _ h9 => h9) rfl dX1_forget_5 ?_
      refine lv_icmp_ge (tgt := 49) hx hb dX1_forget_8 (by decide) (fun c1131 => ?_) (fun c1131 => ?_)
      · replace hM := if_t c1131 hM
        cases hM
        exact kx_L3 _ _ _ hP hD hS (lv_sub hl [1] rfl)
      · replace hM := if_f c1131 hM
        refine lv_iload_n hx hb dX1_forget_11 rfl (lv_at hl 0 rfl) ?_
        refine lv_sipush (v := 4137) hx hb dX1_forget_12 (by decide) ?_
        refine lv_icmp_ge (tgt := 49) hx hb dX1_forget_15 (by decide) (fun c1132 => ?_) (fun c1132 => ?_)
        · replace hM := if_t c1132 hM
          cases hM
          exact kx_L3 _ _ _ hP hD hS (lv_sub hl [1] rfl)
        · replace hM := if_f c1132 hM
          refine lv_aload_n hx hb dX1_forget_18 rfl (lv_at hl 1 rfl) ?_
          refine va_get (D := D) (ci := 1) (v := .ref (ad 8)) (C := RX1) (T := TX1) (N := 6) hx hb hts layX1 hown hK hP 0 rfl rfl 2 (by decide) (hts _ (inA q306)) (fun _ h9 => h9) rfl dX1_forget_19 ?_
          refine lv_iload_n hx hb dX1_forget_22 rfl (lv_at hl 0 rfl) ?_
          obtain ⟨b1133, hM⟩ := gd_use hM
          refine va_iald hx hb hK hP 3 0 rfl rfl b1133 dX1_forget_23 ?_
          refine lv_topi (fun x1134 ex1134 => ?_)
          replace hM := nm_use ex1134 hM
          refine lv_istore_n (lv' := [(2, .int x1134), (1, .int v1_L3), (0, .ref (ad 5))]) hx hb dX1_forget_24 rfl hl (by decide) rfl (fun ls hl => ?_)
          refine lv_iload_n hx hb dX1_forget_25 rfl (lv_at hl 0 rfl) ?_
          refine lv_if_lt (tgt := 43) hx hb dX1_forget_26 (by decide) (fun c1135 => ?_) (fun c1135 => ?_)
          · replace hM := if_t c1135 hM
            obtain ⟨x1136, ex1136⟩ : ∃ y : Int32, y = v1_L3 + 1 := ⟨_, rfl⟩
            replace hM := nm_use ex1136 hM
            refine lv_iinc (v := x1136) (lv' := [(1, .int x1136), (2, .int x1134), (0, .ref (ad 5))]) hx hb dX1_forget_43 hl (k := 1) rfl (by rw [ex1136]; rfl) (by decide) rfl (fun ls hl => ?_)
            refine lv_goto (tgt := 3) hx hb dX1_forget_46 (by decide) ?_
            exact ih_L3 x1136 o_this_L3 out_L3 _ _ _ hM hP hD hS (lv_sub hl [0, 2] rfl) kx_L3
          · replace hM := if_f c1135 hM
            refine lv_iload_n hx hb dX1_forget_29 rfl (lv_at hl 0 rfl) ?_
            refine lv_sipush (v := 8192) hx hb dX1_forget_30 (by decide) ?_
            refine lv_icmp_ge (tgt := 43) hx hb dX1_forget_33 (by decide) (fun c1137 => ?_) (fun c1137 => ?_)
            · replace hM := if_t c1137 hM
              obtain ⟨x1138, ex1138⟩ : ∃ y : Int32, y = v1_L3 + 1 := ⟨_, rfl⟩
              replace hM := nm_use ex1138 hM
              refine lv_iinc (v := x1138) (lv' := [(1, .int x1138), (2, .int x1134), (0, .ref (ad 5))]) hx hb dX1_forget_43 hl (k := 1) rfl (by rw [ex1138]; rfl) (by decide) rfl (fun ls hl => ?_)
              refine lv_goto (tgt := 3) hx hb dX1_forget_46 (by decide) ?_
              exact ih_L3 x1138 o_this_L3 out_L3 _ _ _ hM hP hD hS (lv_sub hl [0, 2] rfl) kx_L3
            · replace hM := if_f c1137 hM
              refine lv_aload_n hx hb dX1_forget_36 rfl (lv_at hl 2 rfl) ?_
              refine va_get (D := D) (ci := 1) (v := .ref (ad 9)) (C := RX1) (T := TX1) (N := 6) hx hb hts layX1 hown hK hP 0 rfl rfl 3 (by decide) (hts _ (inA q307)) (fun _ h9 => h9) rfl dX1_forget_37 ?_
              refine lv_iload_n hx hb dX1_forget_40 rfl (lv_at hl 0 rfl) ?_
              refine lv_iconst (v := 0) hx hb dX1_forget_41 (by decide) ?_
              obtain ⟨b1139, hM⟩ := gd_use hM
              refine va_iast hx hb hK hP hD hS 4 0 rfl rfl b1139 dX1_forget_42 (fun H locs hP hD hS => ?_)
              have hP : va_P D vwCl (wN cI ad (o_this_L3.1, o_this_L3.2.1, o_this_L3.2.2.1, o_this_L3.2.2.2.1, o_this_L3.2.2.2.2.1, upd o_this_L3.2.2.2.2.2 x1134.toNatClampNeg 0)) H := hP
              have hD : va_D A (wN cI ad (o_this_L3.1, o_this_L3.2.1, o_this_L3.2.2.1, o_this_L3.2.2.2.1, o_this_L3.2.2.2.2.1, upd o_this_L3.2.2.2.2.2 x1134.toNatClampNeg 0)) := hD
              obtain ⟨x1140, ex1140⟩ : ∃ y : Int32, y = v1_L3 + 1 := ⟨_, rfl⟩
              replace hM := nm_use ex1140 hM
              refine lv_iinc (v := x1140) (lv' := [(1, .int x1140), (2, .int x1134), (0, .ref (ad 5))]) hx hb dX1_forget_43 hl (k := 1) rfl (by rw [ex1140]; rfl) (by decide) rfl (fun ls hl => ?_)
              refine lv_goto (tgt := 3) hx hb dX1_forget_46 (by decide) ?_
              exact ih_L3 x1140 (o_this_L3.1, o_this_L3.2.1, o_this_L3.2.2.1, o_this_L3.2.2.2.1, o_this_L3.2.2.2.2.1, upd o_this_L3.2.2.2.2.2 x1134.toNatClampNeg 0) out_L3 _ _ _ hM hP hD hS (lv_sub hl [0, 2] rfl) kx_L3
  obtain ⟨r1, hcr1, hM⟩ := ob_use hM
  refine lp_L3 FU 41 o_this r1 _ _ _ hcr1 hP hD hS (lv_sub hl [0, 1] rfl) (fun H locs ls hP hD hS hl => ?_)
  refine lv_aload_n hx hb dX1_forget_49 rfl (lv_at hl 0 rfl) ?_
  refine lv_bipush (v := 41) hx hb dX1_forget_50 (by decide) ?_
  refine va_put (D := D) (ci := 1) (v := .int 41) (ty := .int) (C := RX1) (T := TX1) (N := 6) hx hb hts layX1 tyX1 tyX1_ok nmX1 hown hK hP hD hS 0 rfl rfl 4 (by decide) (hts _ (inA q308)) (fun _ h9 => h9) rfl (by decide +kernel) rfl rfl (Nat.le_of_ble_eq_true rfl) dX1_forget_52 (fun H locs hP hD hS => ?_)
  have hP : va_P D vwCl (wN cI ad (41, r1.2)) H := hP
  have hD : va_D A (wN cI ad (41, r1.2)) := hD
  refine lv_aload_n hx hb dX1_forget_55 rfl (lv_at hl 0 rfl) ?_
  refine lv_aload_n hx hb dX1_forget_56 rfl (lv_at hl 0 rfl) ?_
  refine va_get (D := D) (ci := 1) (v := .ref (ad 7)) (C := RX1) (T := TX1) (N := 6) hx hb hts layX1 hown hK hP 0 rfl rfl 1 (by decide) (hts _ (inA q305)) (fun _ h9 => h9) rfl dX1_forget_57 ?_
  refine lv_bipush (v := 41) hx hb dX1_forget_60 (by decide) ?_
  obtain ⟨b2, hM⟩ := gd_use hM
  refine va_iald hx hb hK hP 2 0 rfl rfl b2 dX1_forget_62 ?_
  refine lv_topi (fun x3 ex3 => ?_)
  replace hM := nm_use ex3 hM
  refine va_put (D := D) (ci := 1) (v := .int x3) (ty := .int) (C := RX1) (T := TX1) (N := 6) hx hb hts layX1 tyX1 tyX1_ok nmX1 hown hK hP hD hS 0 rfl rfl 5 (by decide) (hts _ (inA q310)) (fun _ h9 => h9) rfl (by decide +kernel) rfl rfl (Nat.le_of_ble_eq_true rfl) dX1_forget_63 (fun H locs hP hD hS => ?_)
  have hP : va_P D vwCl (wN cI ad (41, x3, r1.2.2)) H := hP
  have hD : va_D A (wN cI ad (41, x3, r1.2.2)) := hD
  cases hM
  exact rt_v hx hb hr hlk hP hD hS rfl dX1_forget_66

set_option maxHeartbeats 4000000 in
set_option maxRecDepth 100000 in
theorem c_Names_addLetter (l : Launch) (D : va_G) (cI : ClassId) (sd : Nat → Nat) (ad : Nat → Nat) (o_this : S_Names) (a1 : Int32) (res : S_Names) (hM : f_Names_addLetter o_this a1 = some res) : Ctr l D cI sd yX1_addLetter (wsM yX1_addLetter cX1_addLetter 2 (Option.none : Option Jvm.ClassFile.FieldType)) { frames := 1, cells := 0, slots := 0, locals := 20 } [.ref (ad 5), .int a1] (wN cI ad o_this) (wN cI ad res) none := by
  refine Ctr.of (cc := cX1_addLetter) (maxL := 2) (own := RX1) (by decide +kernel) rfl rfl (Nat.le_of_ble_eq_true rfl) ?_
  intro p e s m below meth c A ls hx hb hr hml hown hts hlk hK hE hA hP hD hS hl
  have hl : lv_has ls 2 [(0, .ref (ad 5)), (1, .int a1)] := hl
  unfold f_Names_addLetter at hM
  refine lv_aload_n hx hb dX1_addLetter_0 rfl (lv_at hl 0 rfl) ?_
  refine va_get (D := D) (ci := 1) (v := .int o_this.2.1) (C := RX1) (T := TX1) (N := 6) hx hb hts layX1 hown hK hP 0 rfl rfl 5 (by decide) (hts _ (inA q310)) (fun _ h9 => h9) rfl dX1_addLetter_1 ?_
  refine lv_if_lt (tgt := 42) hx hb dX1_addLetter_4 (by decide) (fun c1 => ?_) (fun c1 => ?_)
  · replace hM := if_t c1 hM
    cases hM
    exact rt_v hx hb hr hlk hP hD hS rfl dX1_addLetter_42
  · replace hM := if_f c1 hM
    refine lv_aload_n hx hb dX1_addLetter_7 rfl (lv_at hl 0 rfl) ?_
    refine va_get (D := D) (ci := 1) (v := .int o_this.2.1) (C := RX1) (T := TX1) (N := 6) hx hb hts layX1 hown hK hP 0 rfl rfl 5 (by decide) (hts _ (inA q310)) (fun _ h9 => h9) rfl dX1_addLetter_8 ?_
    refine lv_aload_n hx hb dX1_addLetter_11 rfl (lv_at hl 0 rfl) ?_
    refine va_get (D := D) (ci := 1) (v := .ref (ad 6)) (C := RX1) (T := TX1) (N := 6) hx hb hts layX1 hown hK hP 0 rfl rfl 0 (by decide) (hts _ (inA q304)) (fun _ h9 => h9) rfl dX1_addLetter_12 ?_
    refine va_alen (v := 8704) hx hb hK hP 1 0 rfl rfl (show Int32.ofNat 8704 = 8704 by decide) dX1_addLetter_15 ?_
    refine lv_icmp_ge (tgt := 42) hx hb dX1_addLetter_16 (by decide) (fun c2 => ?_) (fun c2 => ?_)
    · replace hM := if_t c2 hM
      cases hM
      exact rt_v hx hb hr hlk hP hD hS rfl dX1_addLetter_42
    · replace hM := if_f c2 hM
      refine lv_aload_n hx hb dX1_addLetter_19 rfl (lv_at hl 0 rfl) ?_
      refine va_get (D := D) (ci := 1) (v := .ref (ad 6)) (C := RX1) (T := TX1) (N := 6) hx hb hts layX1 hown hK hP 0 rfl rfl 0 (by decide) (hts _ (inA q304)) (fun _ h9 => h9) rfl dX1_addLetter_20 ?_
      refine lv_aload_n hx hb dX1_addLetter_23 rfl (lv_at hl 0 rfl) ?_
      refine va_get (D := D) (ci := 1) (v := .int o_this.2.1) (C := RX1) (T := TX1) (N := 6) hx hb hts layX1 hown hK hP 0 rfl rfl 5 (by decide) (hts _ (inA q310)) (fun _ h9 => h9) rfl dX1_addLetter_24 ?_
      refine lv_iload_n hx hb dX1_addLetter_27 rfl (lv_at hl 1 rfl) ?_
      obtain ⟨r3, hcr3, hM⟩ := ob_use hM
      refine cl_SN (As := [.int a1]) (rest := [.int o_this.2.1, .ref (ad 6)]) (wN cI ad o_this) (.int r3 :: [.int o_this.2.1, .ref (ad 6)]) ⟨hx, hb, hml, hown, hts⟩ (c_Top_great l D cI sd ad a1 r3 hcr3) (cwSN2 hts (nmE0 hE) mvX6_great rfl rfl ⟨(Nat.le_of_ble_eq_true rfl), (Nat.le_of_ble_eq_true rfl)⟩) hK hE hA hP hD hS [] rfl (by decide) rfl rfl rfl rfl rfl rfl hl.1 (Nat.le_of_ble_eq_true rfl) dX1_addLetter_28 ⟨Nat.zero_le _, Nat.zero_le _⟩ (fun H locs hP hD hS => ?_)
      obtain ⟨b4, hM⟩ := gd_use hM
      refine va_iast hx hb hK hP hD hS 1 0 rfl rfl b4 dX1_addLetter_31 (fun H locs hP hD hS => ?_)
      have hP : va_P D vwCl (wN cI ad (o_this.1, o_this.2.1, upd o_this.2.2.1 o_this.2.1.toNatClampNeg r3, o_this.2.2.2)) H := hP
      have hD : va_D A (wN cI ad (o_this.1, o_this.2.1, upd o_this.2.2.1 o_this.2.1.toNatClampNeg r3, o_this.2.2.2)) := hD
      refine lv_aload_n hx hb dX1_addLetter_32 rfl (lv_at hl 0 rfl) ?_
      refine lv_dup hx hb dX1_addLetter_33 rfl ?_
      refine va_get (D := D) (ci := 1) (v := .int o_this.2.1) (C := RX1) (T := TX1) (N := 6) hx hb hts layX1 hown hK hP 0 rfl rfl 5 (by decide) (hts _ (inA q310)) (fun _ h9 => h9) rfl dX1_addLetter_34 ?_
      refine lv_iconst (v := 1) hx hb dX1_addLetter_37 (by decide) ?_
      refine lv_iadd hx hb dX1_addLetter_38 ?_
      refine va_put (D := D) (ci := 1) (v := .int (o_this.2.1 + 1)) (ty := .int) (C := RX1) (T := TX1) (N := 6) hx hb hts layX1 tyX1 tyX1_ok nmX1 hown hK hP hD hS 0 rfl rfl 5 (by decide) (hts _ (inA q310)) (fun _ h9 => h9) rfl (by decide +kernel) rfl rfl (Nat.le_of_ble_eq_true rfl) dX1_addLetter_39 (fun H locs hP hD hS => ?_)
      have hP : va_P D vwCl (wN cI ad (o_this.1, o_this.2.1 + 1, upd o_this.2.2.1 o_this.2.1.toNatClampNeg r3, o_this.2.2.2)) H := hP
      have hD : va_D A (wN cI ad (o_this.1, o_this.2.1 + 1, upd o_this.2.2.1 o_this.2.1.toNatClampNeg r3, o_this.2.2.2)) := hD
      cases hM
      exact rt_v hx hb hr hlk hP hD hS rfl dX1_addLetter_42

set_option maxHeartbeats 4000000 in
set_option maxRecDepth 100000 in
theorem c_Names_startOf (l : Launch) (D : va_G) (cI : ClassId) (sd : Nat → Nat) (ad : Nat → Nat) (o_this : S_Names) (a1 : Int32) (res : Int32) (hM : f_Names_startOf o_this a1 = some res) : Ctr l D cI sd yX1_startOf (wsM yX1_startOf cX1_startOf 2 (Option.some Jvm.ClassFile.FieldType.int)) { frames := 0, cells := 0, slots := 0, locals := 0 } [.ref (ad 5), .int a1] (wN cI ad o_this) (wN cI ad o_this) (some (.int res)) := by
  refine Ctr.of (cc := cX1_startOf) (maxL := 2) (own := RX1) (by decide +kernel) rfl rfl (Nat.le_of_ble_eq_true rfl) ?_
  intro p e s m below meth c A ls hx hb hr hml hown hts hlk hK hE hA hP hD hS hl
  have hl : lv_has ls 2 [(0, .ref (ad 5)), (1, .int a1)] := hl
  unfold f_Names_startOf at hM
  refine lv_iload_n hx hb dX1_startOf_0 rfl (lv_at hl 1 rfl) ?_
  refine lv_if_lt (tgt := 20) hx hb dX1_startOf_1 (by decide) (fun c1 => ?_) (fun c1 => ?_)
  · replace hM := if_t c1 hM
    refine lv_iconst (v := 0) hx hb dX1_startOf_20 (by decide) ?_
    cases hM
    exact rt_i hx hb hr hlk hP hD hS rfl dX1_startOf_21
  · replace hM := if_f c1 hM
    refine lv_iload_n hx hb dX1_startOf_4 rfl (lv_at hl 1 rfl) ?_
    refine lv_sipush (v := 4137) hx hb dX1_startOf_5 (by decide) ?_
    refine lv_icmp_gt (tgt := 20) hx hb dX1_startOf_8 (by decide) (fun c2 => ?_) (fun c2 => ?_)
    · replace hM := if_t c2 hM
      refine lv_iconst (v := 0) hx hb dX1_startOf_20 (by decide) ?_
      cases hM
      exact rt_i hx hb hr hlk hP hD hS rfl dX1_startOf_21
    · replace hM := if_f c2 hM
      refine lv_aload_n hx hb dX1_startOf_11 rfl (lv_at hl 0 rfl) ?_
      refine va_get (D := D) (ci := 1) (v := .ref (ad 7)) (C := RX1) (T := TX1) (N := 6) hx hb hts layX1 hown hK hP 0 rfl rfl 1 (by decide) (hts _ (inA q305)) (fun _ h9 => h9) rfl dX1_startOf_12 ?_
      refine lv_iload_n hx hb dX1_startOf_15 rfl (lv_at hl 1 rfl) ?_
      obtain ⟨b3, hM⟩ := gd_use hM
      refine va_iald hx hb hK hP 2 0 rfl rfl b3 dX1_startOf_16 ?_
      refine lv_goto (tgt := 21) hx hb dX1_startOf_17 (by decide) ?_
      cases hM
      exact rt_i hx hb hr hlk hP hD hS rfl dX1_startOf_21

set_option maxHeartbeats 4000000 in
set_option maxRecDepth 100000 in
theorem c_Names_firstSlot (l : Launch) (D : va_G) (cI : ClassId) (sd : Nat → Nat) (ad : Nat → Nat) (o_this : S_Names) (res : Int32) (hM : f_Names_firstSlot o_this = some res) : Ctr l D cI sd yX1_firstSlot (wsM yX1_firstSlot cX1_firstSlot 3 (Option.some Jvm.ClassFile.FieldType.int)) { frames := 1, cells := 0, slots := 0, locals := 21 } [.ref (ad 5)] (wN cI ad o_this) (wN cI ad o_this) (some (.int res)) := by
  refine Ctr.of (cc := cX1_firstSlot) (maxL := 3) (own := RX1) (by decide +kernel) rfl rfl (Nat.le_of_ble_eq_true rfl) ?_
  intro p e s m below meth c A ls hx hb hr hml hown hts hlk hK hE hA hP hD hS hl
  have hl : lv_has ls 3 [(0, .ref (ad 5))] := hl
  unfold f_Names_firstSlot at hM
  refine lv_iconst (v := 0) hx hb dX1_firstSlot_0 (by decide) ?_
  refine lv_istore_n (lv' := [(1, .int 0), (0, .ref (ad 5))]) hx hb dX1_firstSlot_1 rfl hl (by decide) rfl (fun ls hl => ?_)
  refine lv_aload_n hx hb dX1_firstSlot_2 rfl (lv_at hl 1 rfl) ?_
  refine lv_aload_n hx hb dX1_firstSlot_3 rfl (lv_at hl 1 rfl) ?_
  refine va_get (D := D) (ci := 1) (v := .int o_this.1) (C := RX1) (T := TX1) (N := 6) hx hb hts layX1 hown hK hP 0 rfl rfl 4 (by decide) (hts _ (inA q308)) (fun _ h9 => h9) rfl dX1_firstSlot_4 ?_
  obtain ⟨r1, hcr1, hM⟩ := ob_use hM
  refine cl_V (As := [.int o_this.1]) (rest := []) (wN cI ad o_this) (.int r1 :: []) ⟨hx, hb, hml, hown, hts⟩ (c_Names_startOf l D cI sd ad o_this o_this.1 r1 hcr1) (cwV2 hts q280 mvX1_startOf rfl rfl ⟨(Nat.le_of_ble_eq_true rfl), (Nat.le_of_ble_eq_true rfl)⟩) hK hE hA hP hD hS 0 (T := TX1) (N := 6) (ci := 1) rfl rfl [0, 1, 2, 3, 4] rfl (by decide) rfl rfl rfl rfl rfl rfl hl.1 (Nat.le_of_ble_eq_true rfl) dX1_firstSlot_7 ⟨Nat.zero_le _, Nat.zero_le _⟩ (fun H locs hP hD hS => ?_)
  refine lv_istore_n (lv' := [(2, .int r1), (1, .int 0), (0, .ref (ad 5))]) hx hb dX1_firstSlot_10 rfl hl (by decide) rfl (fun ls hl => ?_)
  have lp_L11 : ∀ (o_this_L11 : S_Names) (n : Nat) (v2_L11 : Int32) (v1_L11 : Int32) (out_L11 : Int32) (H : Heap) (locs : List Loc) (ls : Array Slot), f_Names_firstSlot_L11 o_this_L11 n v2_L11 v1_L11 = some out_L11 → va_P D vwCl (wN cI ad o_this_L11) H → va_D A (wN cI ad o_this_L11) → va_S A s.heap H locs → lv_has ls 3 [(2, .int v2_L11), (1, .int v1_L11), (0, .ref (ad 5))] → (∀ (H : Heap) (locs : List Loc) (ls : Array Slot), va_P D vwCl (wN cI ad o_this_L11) H → va_D A (wN cI ad o_this_L11) → va_S A s.heap H locs → lv_has ls 3 [(1, .int out_L11), (0, .ref (ad 5))] → W p l e { frames := 1, cells := 0, slots := 0, locals := 21 } s m [.ref (ad 5)].toArray below meth c H locs 0 0 (MQ below (CQ D A (wN cI ad o_this) (some (.int res))) [.ref (ad 5)].toArray s 0 0 A) (F0 m 46 ls [])) → W p l e { frames := 1, cells := 0, slots := 0, locals := 21 } s m [.ref (ad 5)].toArray below meth c H locs 0 0 (MQ below (CQ D A (wN cI ad o_this) (some (.int res))) [.ref (ad 5)].toArray s 0 0 A) (F0 m 11 ls []) := by
    intro o_this_L11 n
    induction n with
    | zero => intro v2_L11 v1_L11 out_L11 H locs ls hM; exact absurd (show none = some _ from hM) (by simp)
    | succ n ih_L11 =>
      intro v2_L11 v1_L11 out_L11 H locs ls hM hP hD hS hl kx_L11
      rw [f_Names_firstSlot_L11] at hM
      refine lv_iload_n hx hb dX1_firstSlot_11 rfl (lv_at hl 0 rfl) ?_
      refine lv_aload_n hx hb dX1_firstSlot_12 rfl (lv_at hl 2 rfl) ?_
      refine va_get (D := D) (ci := 1) (v := .int o_this_L11.2.1) (C := RX1) (T := TX1) (N := 6) hx hb hts layX1 hown hK hP 0 rfl rfl 5 (by decide) (hts _ (inA q310)) (fun _ h9 => h9) rfl dX1_firstSlot_13 ?_
      refine lv_icmp_ge (tgt := 46) hx hb dX1_firstSlot_16 (by decide) (fun c1211 => ?_) (fun c1211 => ?_)
      · replace hM := if_t c1211 hM
        cases hM
        exact kx_L11 _ _ _ hP hD hS (lv_sub hl [1, 2] rfl)
      · replace hM := if_f c1211 hM
        refine lv_iload_n hx hb dX1_firstSlot_19 rfl (lv_at hl 0 rfl) ?_
        refine lv_aload_n hx hb dX1_firstSlot_20 rfl (lv_at hl 2 rfl) ?_
        refine va_get (D := D) (ci := 1) (v := .ref (ad 6)) (C := RX1) (T := TX1) (N := 6) hx hb hts layX1 hown hK hP 0 rfl rfl 0 (by decide) (hts _ (inA q304)) (fun _ h9 => h9) rfl dX1_firstSlot_21 ?_
        refine va_alen (v := 8704) hx hb hK hP 1 0 rfl rfl (show Int32.ofNat 8704 = 8704 by decide) dX1_firstSlot_24 ?_
        refine lv_icmp_ge (tgt := 46) hx hb dX1_firstSlot_25 (by decide) (fun c1212 => ?_) (fun c1212 => ?_)
        · replace hM := if_t c1212 hM
          cases hM
          exact kx_L11 _ _ _ hP hD hS (lv_sub hl [1, 2] rfl)
        · replace hM := if_f c1212 hM
          refine lv_bipush (v := 31) hx hb dX1_firstSlot_28 (by decide) ?_
          refine lv_iload_n hx hb dX1_firstSlot_30 rfl (lv_at hl 1 rfl) ?_
          refine lv_imul hx hb dX1_firstSlot_31 ?_
          refine lv_aload_n hx hb dX1_firstSlot_32 rfl (lv_at hl 2 rfl) ?_
          refine va_get (D := D) (ci := 1) (v := .ref (ad 6)) (C := RX1) (T := TX1) (N := 6) hx hb hts layX1 hown hK hP 0 rfl rfl 0 (by decide) (hts _ (inA q304)) (fun _ h9 => h9) rfl dX1_firstSlot_33 ?_
          refine lv_iload_n hx hb dX1_firstSlot_36 rfl (lv_at hl 0 rfl) ?_
          obtain ⟨b1213, hM⟩ := gd_use hM
          refine va_iald hx hb hK hP 1 0 rfl rfl b1213 dX1_firstSlot_37 ?_
          refine lv_iadd hx hb dX1_firstSlot_38 ?_
          refine lv_topi (fun x1214 ex1214 => ?_)
          replace hM := nm_use ex1214 hM
          refine lv_istore_n (lv' := [(1, .int x1214), (2, .int v2_L11), (0, .ref (ad 5))]) hx hb dX1_firstSlot_39 rfl hl (by decide) rfl (fun ls hl => ?_)
          obtain ⟨x1215, ex1215⟩ : ∃ y : Int32, y = v2_L11 + 1 := ⟨_, rfl⟩
          replace hM := nm_use ex1215 hM
          refine lv_iinc (v := x1215) (lv' := [(2, .int x1215), (1, .int x1214), (0, .ref (ad 5))]) hx hb dX1_firstSlot_40 hl (k := 1) rfl (by rw [ex1215]; rfl) (by decide) rfl (fun ls hl => ?_)
          refine lv_goto (tgt := 11) hx hb dX1_firstSlot_43 (by decide) ?_
          exact ih_L11 x1215 x1214 out_L11 _ _ _ hM hP hD hS (lv_sub hl [0, 1, 2] rfl) kx_L11
  obtain ⟨r2, hcr2, hM⟩ := ob_use hM
  refine lp_L11 o_this FU r1 0 r2 _ _ _ hcr2 hP hD hS (lv_sub hl [0, 1, 2] rfl) (fun H locs ls hP hD hS hl => ?_)
  refine lv_iload_n hx hb dX1_firstSlot_46 rfl (lv_at hl 0 rfl) ?_
  refine lv_sipush (v := 8191) hx hb dX1_firstSlot_47 (by decide) ?_
  refine lv_iand hx hb dX1_firstSlot_50 ?_
  cases hM
  exact rt_i hx hb hr hlk hP hD hS rfl dX1_firstSlot_51

set_option maxHeartbeats 4000000 in
set_option maxRecDepth 100000 in
theorem c_Names_isAddedLast (l : Launch) (D : va_G) (cI : ClassId) (sd : Nat → Nat) (ad : Nat → Nat) (o_this : S_Names) (a1 : Int32) (res : Int32) (hM : f_Names_isAddedLast o_this a1 = some res) : Ctr l D cI sd yX1_isAddedLast (wsM yX1_isAddedLast cX1_isAddedLast 6 (Option.some Jvm.ClassFile.FieldType.boolean)) { frames := 1, cells := 0, slots := 0, locals := 21 } [.ref (ad 5), .int a1] (wN cI ad o_this) (wN cI ad o_this) (some (.int res)) := by
  refine Ctr.of (cc := cX1_isAddedLast) (maxL := 6) (own := RX1) (by decide +kernel) rfl rfl (Nat.le_of_ble_eq_true rfl) ?_
  intro p e s m below meth c A ls hx hb hr hml hown hts hlk hK hE hA hP hD hS hl
  have hl : lv_has ls 6 [(0, .ref (ad 5)), (1, .int a1)] := hl
  unfold f_Names_isAddedLast at hM
  refine lv_aload_n hx hb dX1_isAddedLast_0 rfl (lv_at hl 0 rfl) ?_
  refine lv_iload_n hx hb dX1_isAddedLast_1 rfl (lv_at hl 1 rfl) ?_
  obtain ⟨r1, hcr1, hM⟩ := ob_use hM
  refine cl_V (As := [.int a1]) (rest := []) (wN cI ad o_this) (.int r1 :: []) ⟨hx, hb, hml, hown, hts⟩ (c_Names_startOf l D cI sd ad o_this a1 r1 hcr1) (cwV2 hts q280 mvX1_startOf rfl rfl ⟨(Nat.le_of_ble_eq_true rfl), (Nat.le_of_ble_eq_true rfl)⟩) hK hE hA hP hD hS 0 (T := TX1) (N := 6) (ci := 1) rfl rfl [0, 1, 2, 3, 4] rfl (by decide) rfl rfl rfl rfl rfl rfl hl.1 (Nat.le_of_ble_eq_true rfl) dX1_isAddedLast_2 ⟨Nat.zero_le _, Nat.zero_le _⟩ (fun H locs hP hD hS => ?_)
  refine lv_istore_n (lv' := [(2, .int r1), (0, .ref (ad 5)), (1, .int a1)]) hx hb dX1_isAddedLast_5 rfl hl (by decide) rfl (fun ls hl => ?_)
  refine lv_aload_n hx hb dX1_isAddedLast_6 rfl (lv_at hl 1 rfl) ?_
  refine lv_aload_n hx hb dX1_isAddedLast_7 rfl (lv_at hl 1 rfl) ?_
  refine va_get (D := D) (ci := 1) (v := .int o_this.1) (C := RX1) (T := TX1) (N := 6) hx hb hts layX1 hown hK hP 0 rfl rfl 4 (by decide) (hts _ (inA q308)) (fun _ h9 => h9) rfl dX1_isAddedLast_8 ?_
  obtain ⟨r2, hcr2, hM⟩ := ob_use hM
  refine cl_V (As := [.int o_this.1]) (rest := []) (wN cI ad o_this) (.int r2 :: []) ⟨hx, hb, hml, hown, hts⟩ (c_Names_startOf l D cI sd ad o_this o_this.1 r2 hcr2) (cwV2 hts q280 mvX1_startOf rfl rfl ⟨(Nat.le_of_ble_eq_true rfl), (Nat.le_of_ble_eq_true rfl)⟩) hK hE hA hP hD hS 0 (T := TX1) (N := 6) (ci := 1) rfl rfl [0, 1, 2, 3, 4] rfl (by decide) rfl rfl rfl rfl rfl rfl hl.1 (Nat.le_of_ble_eq_true rfl) dX1_isAddedLast_11 ⟨Nat.zero_le _, Nat.zero_le _⟩ (fun H locs hP hD hS => ?_)
  refine lv_istore_n (lv' := [(3, .int r2), (2, .int r1), (0, .ref (ad 5)), (1, .int a1)]) hx hb dX1_isAddedLast_14 rfl hl (by decide) rfl (fun ls hl => ?_)
  refine lv_aload_n hx hb dX1_isAddedLast_15 rfl (lv_at hl 2 rfl) ?_
  refine va_get (D := D) (ci := 1) (v := .int o_this.2.1) (C := RX1) (T := TX1) (N := 6) hx hb hts layX1 hown hK hP 0 rfl rfl 5 (by decide) (hts _ (inA q310)) (fun _ h9 => h9) rfl dX1_isAddedLast_16 ?_
  refine lv_iload_n hx hb dX1_isAddedLast_19 rfl (lv_at hl 0 rfl) ?_
  refine lv_isub hx hb dX1_isAddedLast_20 ?_
  refine lv_istore (lv' := [(4, .int (o_this.2.1 - r2)), (3, .int r2), (2, .int r1), (0, .ref (ad 5)), (1, .int a1)]) hx hb dX1_isAddedLast_21 hl (by decide) rfl (fun ls hl => ?_)
  refine lv_aload_n hx hb dX1_isAddedLast_23 rfl (lv_at hl 3 rfl) ?_
  refine lv_iload_n hx hb dX1_isAddedLast_24 rfl (lv_at hl 4 rfl) ?_
  refine lv_iconst (v := 1) hx hb dX1_isAddedLast_25 (by decide) ?_
  refine lv_iadd hx hb dX1_isAddedLast_26 ?_
  obtain ⟨r3, hcr3, hM⟩ := ob_use hM
  refine cl_V (As := [.int (a1 + 1)]) (rest := []) (wN cI ad o_this) (.int r3 :: []) ⟨hx, hb, hml, hown, hts⟩ (c_Names_startOf l D cI sd ad o_this (a1 + 1) r3 hcr3) (cwV2 hts q280 mvX1_startOf rfl rfl ⟨(Nat.le_of_ble_eq_true rfl), (Nat.le_of_ble_eq_true rfl)⟩) hK hE hA hP hD hS 0 (T := TX1) (N := 6) (ci := 1) rfl rfl [0, 1, 2, 3, 4] rfl (by decide) rfl rfl rfl rfl rfl rfl hl.1 (Nat.le_of_ble_eq_true rfl) dX1_isAddedLast_27 ⟨Nat.zero_le _, Nat.zero_le _⟩ (fun H locs hP hD hS => ?_)
  refine lv_iload_n hx hb dX1_isAddedLast_30 rfl (lv_at hl 2 rfl) ?_
  refine lv_isub hx hb dX1_isAddedLast_31 ?_
  refine lv_iload hx hb dX1_isAddedLast_32 (lv_at hl 0 rfl) ?_
  refine lv_icmp_ne (tgt := 61) hx hb dX1_isAddedLast_34 (by decide) (fun c4 => ?_) (fun c4 => ?_)
  · replace hM := if_f c4 hM
    refine lv_iconst (v := 0) hx hb dX1_isAddedLast_61 (by decide) ?_
    cases hM
    exact rt_z hx hb hr hlk (by decide) hP hD hS rfl dX1_isAddedLast_62
  · replace hM := if_t c4 hM
    refine lv_iload_n hx hb dX1_isAddedLast_37 rfl (lv_at hl 2 rfl) ?_
    refine lv_iload hx hb dX1_isAddedLast_38 (lv_at hl 0 rfl) ?_
    refine lv_iadd hx hb dX1_isAddedLast_40 ?_
    refine lv_aload_n hx hb dX1_isAddedLast_41 rfl (lv_at hl 3 rfl) ?_
    refine va_get (D := D) (ci := 1) (v := .ref (ad 6)) (C := RX1) (T := TX1) (N := 6) hx hb hts layX1 hown hK hP 0 rfl rfl 0 (by decide) (hts _ (inA q304)) (fun _ h9 => h9) rfl dX1_isAddedLast_42 ?_
    refine va_alen (v := 8704) hx hb hK hP 1 0 rfl rfl (show Int32.ofNat 8704 = 8704 by decide) dX1_isAddedLast_45 ?_
    refine lv_icmp_gt (tgt := 61) hx hb dX1_isAddedLast_46 (by decide) (fun c5 => ?_) (fun c5 => ?_)
    · replace hM := if_t c5 hM
      refine lv_iconst (v := 0) hx hb dX1_isAddedLast_61 (by decide) ?_
      cases hM
      exact rt_z hx hb hr hlk (by decide) hP hD hS rfl dX1_isAddedLast_62
    · replace hM := if_f c5 hM
      refine lv_aload_n hx hb dX1_isAddedLast_49 rfl (lv_at hl 3 rfl) ?_
      refine va_get (D := D) (ci := 1) (v := .int o_this.2.1) (C := RX1) (T := TX1) (N := 6) hx hb hts layX1 hown hK hP 0 rfl rfl 5 (by decide) (hts _ (inA q310)) (fun _ h9 => h9) rfl dX1_isAddedLast_50 ?_
      refine lv_aload_n hx hb dX1_isAddedLast_53 rfl (lv_at hl 3 rfl) ?_
      refine va_get (D := D) (ci := 1) (v := .ref (ad 6)) (C := RX1) (T := TX1) (N := 6) hx hb hts layX1 hown hK hP 0 rfl rfl 0 (by decide) (hts _ (inA q304)) (fun _ h9 => h9) rfl dX1_isAddedLast_54 ?_
      refine va_alen (v := 8704) hx hb hK hP 1 0 rfl rfl (show Int32.ofNat 8704 = 8704 by decide) dX1_isAddedLast_57 ?_
      refine lv_icmp_le (tgt := 63) hx hb dX1_isAddedLast_58 (by decide) (fun c6 => ?_) (fun c6 => ?_)
      · replace hM := if_t c6 hM
        refine lv_iconst (v := 0) hx hb dX1_isAddedLast_63 (by decide) ?_
        refine lv_istore (lv' := [(5, .int 0), (4, .int (o_this.2.1 - r2)), (3, .int r2), (2, .int r1), (0, .ref (ad 5)), (1, .int a1)]) hx hb dX1_isAddedLast_64 hl (by decide) rfl (fun ls hl => ?_)
        have lp_L66 : ∀ (w4_L66 : Int32) (w3_L66 : Int32) (w2_L66 : Int32) (n : Nat) (v5_L66 : Int32) (H : Heap) (locs : List Loc) (ls : Array Slot), f_Names_isAddedLast_L66 o_this w4_L66 w3_L66 w2_L66 n v5_L66 = some res → va_P D vwCl (wN cI ad o_this) H → va_D A (wN cI ad o_this) → va_S A s.heap H locs → lv_has ls 6 [(5, .int v5_L66), (4, .int w4_L66), (3, .int w3_L66), (2, .int w2_L66), (0, .ref (ad 5))] → W p l e { frames := 1, cells := 0, slots := 0, locals := 21 } s m [.ref (ad 5), .int a1].toArray below meth c H locs 0 0 (MQ below (CQ D A (wN cI ad o_this) (some (.int res))) [.ref (ad 5), .int a1].toArray s 0 0 A) (F0 m 66 ls []) := by
          intro w4_L66 w3_L66 w2_L66 n
          induction n with
          | zero => intro v5_L66 H locs ls hM; exact absurd (show none = some _ from hM) (by simp)
          | succ n ih_L66 =>
            intro v5_L66 H locs ls hM hP hD hS hl
            rw [f_Names_isAddedLast_L66] at hM
            refine lv_iload hx hb dX1_isAddedLast_66 (lv_at hl 0 rfl) ?_
            refine lv_iload hx hb dX1_isAddedLast_68 (lv_at hl 1 rfl) ?_
            refine lv_icmp_ge (tgt := 102) hx hb dX1_isAddedLast_70 (by decide) (fun c1761 => ?_) (fun c1761 => ?_)
            · replace hM := if_t c1761 hM
              refine lv_iconst (v := 1) hx hb dX1_isAddedLast_102 (by decide) ?_
              cases hM
              exact rt_z hx hb hr hlk (by decide) hP hD hS rfl dX1_isAddedLast_103
            · replace hM := if_f c1761 hM
              refine lv_aload_n hx hb dX1_isAddedLast_73 rfl (lv_at hl 4 rfl) ?_
              refine va_get (D := D) (ci := 1) (v := .ref (ad 6)) (C := RX1) (T := TX1) (N := 6) hx hb hts layX1 hown hK hP 0 rfl rfl 0 (by decide) (hts _ (inA q304)) (fun _ h9 => h9) rfl dX1_isAddedLast_74 ?_
              refine lv_iload_n hx hb dX1_isAddedLast_77 rfl (lv_at hl 3 rfl) ?_
              refine lv_iload hx hb dX1_isAddedLast_78 (lv_at hl 0 rfl) ?_
              refine lv_iadd hx hb dX1_isAddedLast_80 ?_
              obtain ⟨b1762, hM⟩ := gd_use hM
              refine va_iald hx hb hK hP 1 0 rfl rfl b1762 dX1_isAddedLast_81 ?_
              refine lv_aload_n hx hb dX1_isAddedLast_82 rfl (lv_at hl 4 rfl) ?_
              refine va_get (D := D) (ci := 1) (v := .ref (ad 6)) (C := RX1) (T := TX1) (N := 6) hx hb hts layX1 hown hK hP 0 rfl rfl 0 (by decide) (hts _ (inA q304)) (fun _ h9 => h9) rfl dX1_isAddedLast_83 ?_
              refine lv_iload_n hx hb dX1_isAddedLast_86 rfl (lv_at hl 2 rfl) ?_
              refine lv_iload hx hb dX1_isAddedLast_87 (lv_at hl 0 rfl) ?_
              refine lv_iadd hx hb dX1_isAddedLast_89 ?_
              obtain ⟨b1763, hM⟩ := gd_use hM
              refine va_iald hx hb hK hP 1 0 rfl rfl b1763 dX1_isAddedLast_90 ?_
              refine lv_icmp_eq (tgt := 96) hx hb dX1_isAddedLast_91 (by decide) (fun c1764 => ?_) (fun c1764 => ?_)
              · replace hM := if_t c1764 hM
                obtain ⟨x1765, ex1765⟩ : ∃ y : Int32, y = v5_L66 + 1 := ⟨_, rfl⟩
                replace hM := nm_use ex1765 hM
                refine lv_iinc (v := x1765) (lv' := [(5, .int x1765), (4, .int w4_L66), (3, .int w3_L66), (2, .int w2_L66), (0, .ref (ad 5))]) hx hb dX1_isAddedLast_96 hl (k := 0) rfl (by rw [ex1765]; rfl) (by decide) rfl (fun ls hl => ?_)
                refine lv_goto (tgt := 66) hx hb dX1_isAddedLast_99 (by decide) ?_
                exact ih_L66 x1765 _ _ _ hM hP hD hS (lv_sub hl [0, 1, 2, 3, 4] rfl)
              · replace hM := if_f c1764 hM
                refine lv_iconst (v := 0) hx hb dX1_isAddedLast_94 (by decide) ?_
                cases hM
                exact rt_z hx hb hr hlk (by decide) hP hD hS rfl dX1_isAddedLast_95
        exact lp_L66 (o_this.2.1 - r2) r2 r1 FU 0 _ _ _ hM hP hD hS (lv_sub hl [0, 1, 2, 3, 4] rfl)
      · replace hM := if_f c6 hM
        refine lv_iconst (v := 0) hx hb dX1_isAddedLast_61 (by decide) ?_
        cases hM
        exact rt_z hx hb hr hlk (by decide) hP hD hS rfl dX1_isAddedLast_62

set_option maxHeartbeats 4000000 in
set_option maxRecDepth 100000 in
theorem c_Names_keep (l : Launch) (D : va_G) (cI : ClassId) (sd : Nat → Nat) (ad : Nat → Nat) (o_this : S_Names) (a1 : Int32) (res : Int32 × S_Names) (hM : f_Names_keep o_this a1 = some res) : Ctr l D cI sd yX1_keep (wsM yX1_keep cX1_keep 3 (Option.some Jvm.ClassFile.FieldType.int)) { frames := 0, cells := 0, slots := 0, locals := 0 } [.ref (ad 5), .int a1] (wN cI ad o_this) (wN cI ad res.2) (some (.int res.1)) := by
  refine Ctr.of (cc := cX1_keep) (maxL := 3) (own := RX1) (by decide +kernel) rfl rfl (Nat.le_of_ble_eq_true rfl) ?_
  intro p e s m below meth c A ls hx hb hr hml hown hts hlk hK hE hA hP hD hS hl
  have hl : lv_has ls 3 [(0, .ref (ad 5)), (1, .int a1)] := hl
  unfold f_Names_keep at hM
  refine lv_aload_n hx hb dX1_keep_0 rfl (lv_at hl 0 rfl) ?_
  refine va_get (D := D) (ci := 1) (v := .int o_this.1) (C := RX1) (T := TX1) (N := 6) hx hb hts layX1 hown hK hP 0 rfl rfl 4 (by decide) (hts _ (inA q308)) (fun _ h9 => h9) rfl dX1_keep_1 ?_
  refine lv_if_lt (tgt := 28) hx hb dX1_keep_4 (by decide) (fun c1 => ?_) (fun c1 => ?_)
  · replace hM := if_t c1 hM
    refine lv_iconst (v := (-1)) hx hb dX1_keep_28 (by decide) ?_
    cases hM
    exact rt_i hx hb hr hlk hP hD hS rfl dX1_keep_29
  · replace hM := if_f c1 hM
    refine lv_aload_n hx hb dX1_keep_7 rfl (lv_at hl 0 rfl) ?_
    refine va_get (D := D) (ci := 1) (v := .int o_this.1) (C := RX1) (T := TX1) (N := 6) hx hb hts layX1 hown hK hP 0 rfl rfl 4 (by decide) (hts _ (inA q308)) (fun _ h9 => h9) rfl dX1_keep_8 ?_
    refine lv_sipush (v := 4137) hx hb dX1_keep_11 (by decide) ?_
    refine lv_icmp_ge (tgt := 28) hx hb dX1_keep_14 (by decide) (fun c2 => ?_) (fun c2 => ?_)
    · replace hM := if_t c2 hM
      refine lv_iconst (v := (-1)) hx hb dX1_keep_28 (by decide) ?_
      cases hM
      exact rt_i hx hb hr hlk hP hD hS rfl dX1_keep_29
    · replace hM := if_f c2 hM
      refine lv_iload_n hx hb dX1_keep_17 rfl (lv_at hl 1 rfl) ?_
      refine lv_if_lt (tgt := 28) hx hb dX1_keep_18 (by decide) (fun c3 => ?_) (fun c3 => ?_)
      · replace hM := if_t c3 hM
        refine lv_iconst (v := (-1)) hx hb dX1_keep_28 (by decide) ?_
        cases hM
        exact rt_i hx hb hr hlk hP hD hS rfl dX1_keep_29
      · replace hM := if_f c3 hM
        refine lv_iload_n hx hb dX1_keep_21 rfl (lv_at hl 1 rfl) ?_
        refine lv_sipush (v := 8192) hx hb dX1_keep_22 (by decide) ?_
        refine lv_icmp_lt (tgt := 30) hx hb dX1_keep_25 (by decide) (fun c4 => ?_) (fun c4 => ?_)
        · replace hM := if_t c4 hM
          refine lv_aload_n hx hb dX1_keep_30 rfl (lv_at hl 0 rfl) ?_
          refine va_get (D := D) (ci := 1) (v := .int o_this.1) (C := RX1) (T := TX1) (N := 6) hx hb hts layX1 hown hK hP 0 rfl rfl 4 (by decide) (hts _ (inA q308)) (fun _ h9 => h9) rfl dX1_keep_31 ?_
          refine lv_istore_n (lv' := [(2, .int o_this.1), (0, .ref (ad 5)), (1, .int a1)]) hx hb dX1_keep_34 rfl hl (by decide) rfl (fun ls hl => ?_)
          refine lv_aload_n hx hb dX1_keep_35 rfl (lv_at hl 1 rfl) ?_
          refine va_get (D := D) (ci := 1) (v := .ref (ad 9)) (C := RX1) (T := TX1) (N := 6) hx hb hts layX1 hown hK hP 0 rfl rfl 3 (by decide) (hts _ (inA q307)) (fun _ h9 => h9) rfl dX1_keep_36 ?_
          refine lv_iload_n hx hb dX1_keep_39 rfl (lv_at hl 2 rfl) ?_
          refine lv_iload_n hx hb dX1_keep_40 rfl (lv_at hl 0 rfl) ?_
          refine lv_iconst (v := 1) hx hb dX1_keep_41 (by decide) ?_
          refine lv_iadd hx hb dX1_keep_42 ?_
          obtain ⟨b5, hM⟩ := gd_use hM
          refine va_iast hx hb hK hP hD hS 4 0 rfl rfl b5 dX1_keep_43 (fun H locs hP hD hS => ?_)
          have hP : va_P D vwCl (wN cI ad (o_this.1, o_this.2.1, o_this.2.2.1, o_this.2.2.2.1, o_this.2.2.2.2.1, upd o_this.2.2.2.2.2 a1.toNatClampNeg (o_this.1 + 1))) H := hP
          have hD : va_D A (wN cI ad (o_this.1, o_this.2.1, o_this.2.2.1, o_this.2.2.2.1, o_this.2.2.2.2.1, upd o_this.2.2.2.2.2 a1.toNatClampNeg (o_this.1 + 1))) := hD
          refine lv_aload_n hx hb dX1_keep_44 rfl (lv_at hl 1 rfl) ?_
          refine va_get (D := D) (ci := 1) (v := .ref (ad 8)) (C := RX1) (T := TX1) (N := 6) hx hb hts layX1 hown hK hP 0 rfl rfl 2 (by decide) (hts _ (inA q306)) (fun _ h9 => h9) rfl dX1_keep_45 ?_
          refine lv_iload_n hx hb dX1_keep_48 rfl (lv_at hl 0 rfl) ?_
          refine lv_iload_n hx hb dX1_keep_49 rfl (lv_at hl 2 rfl) ?_
          obtain ⟨b6, hM⟩ := gd_use hM
          refine va_iast hx hb hK hP hD hS 3 0 rfl rfl b6 dX1_keep_50 (fun H locs hP hD hS => ?_)
          have hP : va_P D vwCl (wN cI ad (o_this.1, o_this.2.1, o_this.2.2.1, o_this.2.2.2.1, upd o_this.2.2.2.2.1 o_this.1.toNatClampNeg a1, upd o_this.2.2.2.2.2 a1.toNatClampNeg (o_this.1 + 1))) H := hP
          have hD : va_D A (wN cI ad (o_this.1, o_this.2.1, o_this.2.2.1, o_this.2.2.2.1, upd o_this.2.2.2.2.1 o_this.1.toNatClampNeg a1, upd o_this.2.2.2.2.2 a1.toNatClampNeg (o_this.1 + 1))) := hD
          refine lv_aload_n hx hb dX1_keep_51 rfl (lv_at hl 1 rfl) ?_
          refine lv_dup hx hb dX1_keep_52 rfl ?_
          refine va_get (D := D) (ci := 1) (v := .int o_this.1) (C := RX1) (T := TX1) (N := 6) hx hb hts layX1 hown hK hP 0 rfl rfl 4 (by decide) (hts _ (inA q308)) (fun _ h9 => h9) rfl dX1_keep_53 ?_
          refine lv_iconst (v := 1) hx hb dX1_keep_56 (by decide) ?_
          refine lv_iadd hx hb dX1_keep_57 ?_
          refine va_put (D := D) (ci := 1) (v := .int (o_this.1 + 1)) (ty := .int) (C := RX1) (T := TX1) (N := 6) hx hb hts layX1 tyX1 tyX1_ok nmX1 hown hK hP hD hS 0 rfl rfl 4 (by decide) (hts _ (inA q308)) (fun _ h9 => h9) rfl (by decide +kernel) rfl rfl (Nat.le_of_ble_eq_true rfl) dX1_keep_58 (fun H locs hP hD hS => ?_)
          have hP : va_P D vwCl (wN cI ad (o_this.1 + 1, o_this.2.1, o_this.2.2.1, o_this.2.2.2.1, upd o_this.2.2.2.2.1 o_this.1.toNatClampNeg a1, upd o_this.2.2.2.2.2 a1.toNatClampNeg (o_this.1 + 1))) H := hP
          have hD : va_D A (wN cI ad (o_this.1 + 1, o_this.2.1, o_this.2.2.1, o_this.2.2.2.1, upd o_this.2.2.2.2.1 o_this.1.toNatClampNeg a1, upd o_this.2.2.2.2.2 a1.toNatClampNeg (o_this.1 + 1))) := hD
          refine lv_aload_n hx hb dX1_keep_61 rfl (lv_at hl 1 rfl) ?_
          refine va_get (D := D) (ci := 1) (v := .ref (ad 7)) (C := RX1) (T := TX1) (N := 6) hx hb hts layX1 hown hK hP 0 rfl rfl 1 (by decide) (hts _ (inA q305)) (fun _ h9 => h9) rfl dX1_keep_62 ?_
          refine lv_aload_n hx hb dX1_keep_65 rfl (lv_at hl 1 rfl) ?_
          refine va_get (D := D) (ci := 1) (v := .int (o_this.1 + 1)) (C := RX1) (T := TX1) (N := 6) hx hb hts layX1 hown hK hP 0 rfl rfl 4 (by decide) (hts _ (inA q308)) (fun _ h9 => h9) rfl dX1_keep_66 ?_
          refine lv_aload_n hx hb dX1_keep_69 rfl (lv_at hl 1 rfl) ?_
          refine va_get (D := D) (ci := 1) (v := .int o_this.2.1) (C := RX1) (T := TX1) (N := 6) hx hb hts layX1 hown hK hP 0 rfl rfl 5 (by decide) (hts _ (inA q310)) (fun _ h9 => h9) rfl dX1_keep_70 ?_
          obtain ⟨b7, hM⟩ := gd_use hM
          refine va_iast hx hb hK hP hD hS 2 0 rfl rfl b7 dX1_keep_73 (fun H locs hP hD hS => ?_)
          have hP : va_P D vwCl (wN cI ad (o_this.1 + 1, o_this.2.1, o_this.2.2.1, upd o_this.2.2.2.1 (o_this.1 + 1).toNatClampNeg o_this.2.1, upd o_this.2.2.2.2.1 o_this.1.toNatClampNeg a1, upd o_this.2.2.2.2.2 a1.toNatClampNeg (o_this.1 + 1))) H := hP
          have hD : va_D A (wN cI ad (o_this.1 + 1, o_this.2.1, o_this.2.2.1, upd o_this.2.2.2.1 (o_this.1 + 1).toNatClampNeg o_this.2.1, upd o_this.2.2.2.2.1 o_this.1.toNatClampNeg a1, upd o_this.2.2.2.2.2 a1.toNatClampNeg (o_this.1 + 1))) := hD
          refine lv_iload_n hx hb dX1_keep_74 rfl (lv_at hl 0 rfl) ?_
          cases hM
          exact rt_i hx hb hr hlk hP hD hS rfl dX1_keep_75
        · replace hM := if_f c4 hM
          refine lv_iconst (v := (-1)) hx hb dX1_keep_28 (by decide) ?_
          cases hM
          exact rt_i hx hb hr hlk hP hD hS rfl dX1_keep_29
