set_option maxHeartbeats 4000000 in
set_option maxRecDepth 100000 in
theorem c_Bytes_cut (l : Launch) (D : va_G) (cI : ClassId) (sd : Nat → Nat) (h a : Nat) (n : Nat) (o_this : S_Bytes) (a1 : Int32) (res : S_Bytes) (hM : f_Bytes_cut n o_this a1 = some res) : Ctr l D cI sd yX0_cut (wsM yX0_cut cX0_cut 2 (Option.none : Option Jvm.ClassFile.FieldType)) { frames := 0, cells := 0, slots := 0, locals := 0 } [.ref h, .int a1] (wB cI h a n o_this) (wB cI h a n res) none := by
  refine Ctr.of (cc := cX0_cut) (maxL := 2) (own := RX0) (by decide +kernel) rfl rfl (Nat.le_of_ble_eq_true rfl) ?_
  intro p e s m below meth c A ls hx hb hr hml hown hts hlk hK hE hA hP hD hS hl
  have hl : lv_has ls 2 [(0, .ref h), (1, .int a1)] := hl
  unfold f_Bytes_cut at hM
  refine lv_iload_n hx hb dX0_cut_0 rfl (lv_at hl 1 rfl) ?_
  refine lv_if_lt (tgt := 17) hx hb dX0_cut_1 (by decide) (fun c1 => ?_) (fun c1 => ?_)
  · replace hM := if_t c1 hM
    cases hM
    exact rt_v hx hb hr hlk hP hD hS rfl dX0_cut_17
  · replace hM := if_f c1 hM
    refine lv_iload_n hx hb dX0_cut_4 rfl (lv_at hl 1 rfl) ?_
    refine lv_aload_n hx hb dX0_cut_5 rfl (lv_at hl 0 rfl) ?_
    refine va_get (D := D) (ci := 0) (v := .int o_this.1) (C := RX0) (T := TX0) (N := 2) hx hb hts layX0 hown hK hP 0 rfl rfl 1 (by decide) (hts _ (inA q204)) (fun _ h9 => h9) rfl dX0_cut_6 ?_
    refine lv_icmp_ge (tgt := 17) hx hb dX0_cut_9 (by decide) (fun c2 => ?_) (fun c2 => ?_)
    · replace hM := if_t c2 hM
      cases hM
      exact rt_v hx hb hr hlk hP hD hS rfl dX0_cut_17
    · replace hM := if_f c2 hM
      refine lv_aload_n hx hb dX0_cut_12 rfl (lv_at hl 0 rfl) ?_
      refine lv_iload_n hx hb dX0_cut_13 rfl (lv_at hl 1 rfl) ?_
      refine va_put (D := D) (ci := 0) (v := .int a1) (ty := .int) (C := RX0) (T := TX0) (N := 2) hx hb hts layX0 tyX0 tyX0_ok nmX0 hown hK hP hD hS 0 rfl rfl 1 (by decide) (hts _ (inA q204)) (fun _ h9 => h9) rfl (by decide +kernel) rfl rfl (Nat.le_of_ble_eq_true rfl) dX0_cut_14 (fun H locs hP hD hS => ?_)
      have hP : va_P D vwCl (wB cI h a n (a1, o_this.2)) H := hP
      have hD : va_D A (wB cI h a n (a1, o_this.2)) := hD
      cases hM
      exact rt_v hx hb hr hlk hP hD hS rfl dX0_cut_17

set_option maxHeartbeats 4000000 in
set_option maxRecDepth 100000 in
theorem c_Bytes_put (l : Launch) (D : va_G) (cI : ClassId) (sd : Nat → Nat) (h a : Nat) (n : Nat) (o_this : S_Bytes) (a1 : Int32) (res : S_Bytes) (hM : f_Bytes_put n o_this a1 = some res) : Ctr l D cI sd yX0_put (wsM yX0_put cX0_put 2 (Option.none : Option Jvm.ClassFile.FieldType)) { frames := 0, cells := 0, slots := 0, locals := 0 } [.ref h, .int a1] (wB cI h a n o_this) (wB cI h a n res) none := by
  refine Ctr.of (cc := cX0_put) (maxL := 2) (own := RX0) (by decide +kernel) rfl rfl (Nat.le_of_ble_eq_true rfl) ?_
  intro p e s m below meth c A ls hx hb hr hml hown hts hlk hK hE hA hP hD hS hl
  have hl : lv_has ls 2 [(0, .ref h), (1, .int a1)] := hl
  unfold f_Bytes_put at hM
  refine lv_aload_n hx hb dX0_put_0 rfl (lv_at hl 0 rfl) ?_
  refine va_get (D := D) (ci := 0) (v := .int o_this.1) (C := RX0) (T := TX0) (N := 2) hx hb hts layX0 hown hK hP 0 rfl rfl 1 (by decide) (hts _ (inA q204)) (fun _ h9 => h9) rfl dX0_put_1 ?_
  refine lv_if_lt (tgt := 39) hx hb dX0_put_4 (by decide) (fun c1 => ?_) (fun c1 => ?_)
  · replace hM := if_t c1 hM
    cases hM
    exact rt_v hx hb hr hlk hP hD hS rfl dX0_put_39
  · replace hM := if_f c1 hM
    refine lv_aload_n hx hb dX0_put_7 rfl (lv_at hl 0 rfl) ?_
    refine va_get (D := D) (ci := 0) (v := .int o_this.1) (C := RX0) (T := TX0) (N := 2) hx hb hts layX0 hown hK hP 0 rfl rfl 1 (by decide) (hts _ (inA q204)) (fun _ h9 => h9) rfl dX0_put_8 ?_
    refine lv_aload_n hx hb dX0_put_11 rfl (lv_at hl 0 rfl) ?_
    refine va_get (D := D) (ci := 0) (v := .ref a) (C := RX0) (T := TX0) (N := 2) hx hb hts layX0 hown hK hP 0 rfl rfl 0 (by decide) (hts _ (inA q202)) (fun _ h9 => h9) rfl dX0_put_12 ?_
    refine va_alen (v := Int32.ofNat n) hx hb hK hP 1 0 rfl rfl rfl dX0_put_15 ?_
    refine lv_icmp_ge (tgt := 39) hx hb dX0_put_16 (by decide) (fun c2 => ?_) (fun c2 => ?_)
    · replace hM := if_t c2 hM
      cases hM
      exact rt_v hx hb hr hlk hP hD hS rfl dX0_put_39
    · replace hM := if_f c2 hM
      refine lv_aload_n hx hb dX0_put_19 rfl (lv_at hl 0 rfl) ?_
      refine va_get (D := D) (ci := 0) (v := .ref a) (C := RX0) (T := TX0) (N := 2) hx hb hts layX0 hown hK hP 0 rfl rfl 0 (by decide) (hts _ (inA q202)) (fun _ h9 => h9) rfl dX0_put_20 ?_
      refine lv_aload_n hx hb dX0_put_23 rfl (lv_at hl 0 rfl) ?_
      refine va_get (D := D) (ci := 0) (v := .int o_this.1) (C := RX0) (T := TX0) (N := 2) hx hb hts layX0 hown hK hP 0 rfl rfl 1 (by decide) (hts _ (inA q204)) (fun _ h9 => h9) rfl dX0_put_24 ?_
      refine lv_iload_n hx hb dX0_put_27 rfl (lv_at hl 1 rfl) ?_
      obtain ⟨b3, hM⟩ := gd_use hM
      refine va_iast hx hb hK hP hD hS 1 0 rfl rfl b3 dX0_put_28 (fun H locs hP hD hS => ?_)
      have hP : va_P D vwCl (wB cI h a n (o_this.1, upd o_this.2 o_this.1.toNatClampNeg a1)) H := hP
      have hD : va_D A (wB cI h a n (o_this.1, upd o_this.2 o_this.1.toNatClampNeg a1)) := hD
      refine lv_aload_n hx hb dX0_put_29 rfl (lv_at hl 0 rfl) ?_
      refine lv_dup hx hb dX0_put_30 rfl ?_
      refine va_get (D := D) (ci := 0) (v := .int o_this.1) (C := RX0) (T := TX0) (N := 2) hx hb hts layX0 hown hK hP 0 rfl rfl 1 (by decide) (hts _ (inA q204)) (fun _ h9 => h9) rfl dX0_put_31 ?_
      refine lv_iconst (v := 1) hx hb dX0_put_34 (by decide) ?_
      refine lv_iadd hx hb dX0_put_35 ?_
      refine va_put (D := D) (ci := 0) (v := .int (o_this.1 + 1)) (ty := .int) (C := RX0) (T := TX0) (N := 2) hx hb hts layX0 tyX0 tyX0_ok nmX0 hown hK hP hD hS 0 rfl rfl 1 (by decide) (hts _ (inA q204)) (fun _ h9 => h9) rfl (by decide +kernel) rfl rfl (Nat.le_of_ble_eq_true rfl) dX0_put_36 (fun H locs hP hD hS => ?_)
      have hP : va_P D vwCl (wB cI h a n (o_this.1 + 1, upd o_this.2 o_this.1.toNatClampNeg a1)) H := hP
      have hD : va_D A (wB cI h a n (o_this.1 + 1, upd o_this.2 o_this.1.toNatClampNeg a1)) := hD
      cases hM
      exact rt_v hx hb hr hlk hP hD hS rfl dX0_put_39

set_option maxHeartbeats 4000000 in
set_option maxRecDepth 100000 in
theorem c_Bytes_get (l : Launch) (D : va_G) (cI : ClassId) (sd : Nat → Nat) (h a : Nat) (n : Nat) (o_this : S_Bytes) (a1 : Int32) (res : Int32) (hM : f_Bytes_get n o_this a1 = some res) : Ctr l D cI sd yX0_get (wsM yX0_get cX0_get 2 (Option.some Jvm.ClassFile.FieldType.int)) { frames := 0, cells := 0, slots := 0, locals := 0 } [.ref h, .int a1] (wB cI h a n o_this) (wB cI h a n o_this) (some (.int res)) := by
  refine Ctr.of (cc := cX0_get) (maxL := 2) (own := RX0) (by decide +kernel) rfl rfl (Nat.le_of_ble_eq_true rfl) ?_
  intro p e s m below meth c A ls hx hb hr hml hown hts hlk hK hE hA hP hD hS hl
  have hl : lv_has ls 2 [(0, .ref h), (1, .int a1)] := hl
  unfold f_Bytes_get at hM
  refine lv_iload_n hx hb dX0_get_0 rfl (lv_at hl 1 rfl) ?_
  refine lv_if_lt (tgt := 30) hx hb dX0_get_1 (by decide) (fun c1 => ?_) (fun c1 => ?_)
  · replace hM := if_t c1 hM
    refine lv_iconst (v := (-1)) hx hb dX0_get_30 (by decide) ?_
    cases hM
    exact rt_i hx hb hr hlk hP hD hS rfl dX0_get_31
  · replace hM := if_f c1 hM
    refine lv_iload_n hx hb dX0_get_4 rfl (lv_at hl 1 rfl) ?_
    refine lv_aload_n hx hb dX0_get_5 rfl (lv_at hl 0 rfl) ?_
    refine va_get (D := D) (ci := 0) (v := .int o_this.1) (C := RX0) (T := TX0) (N := 2) hx hb hts layX0 hown hK hP 0 rfl rfl 1 (by decide) (hts _ (inA q204)) (fun _ h9 => h9) rfl dX0_get_6 ?_
    refine lv_icmp_ge (tgt := 30) hx hb dX0_get_9 (by decide) (fun c2 => ?_) (fun c2 => ?_)
    · replace hM := if_t c2 hM
      refine lv_iconst (v := (-1)) hx hb dX0_get_30 (by decide) ?_
      cases hM
      exact rt_i hx hb hr hlk hP hD hS rfl dX0_get_31
    · replace hM := if_f c2 hM
      refine lv_iload_n hx hb dX0_get_12 rfl (lv_at hl 1 rfl) ?_
      refine lv_aload_n hx hb dX0_get_13 rfl (lv_at hl 0 rfl) ?_
      refine va_get (D := D) (ci := 0) (v := .ref a) (C := RX0) (T := TX0) (N := 2) hx hb hts layX0 hown hK hP 0 rfl rfl 0 (by decide) (hts _ (inA q202)) (fun _ h9 => h9) rfl dX0_get_14 ?_
      refine va_alen (v := Int32.ofNat n) hx hb hK hP 1 0 rfl rfl rfl dX0_get_17 ?_
      refine lv_icmp_ge (tgt := 30) hx hb dX0_get_18 (by decide) (fun c3 => ?_) (fun c3 => ?_)
      · replace hM := if_t c3 hM
        refine lv_iconst (v := (-1)) hx hb dX0_get_30 (by decide) ?_
        cases hM
        exact rt_i hx hb hr hlk hP hD hS rfl dX0_get_31
      · replace hM := if_f c3 hM
        refine lv_aload_n hx hb dX0_get_21 rfl (lv_at hl 0 rfl) ?_
        refine va_get (D := D) (ci := 0) (v := .ref a) (C := RX0) (T := TX0) (N := 2) hx hb hts layX0 hown hK hP 0 rfl rfl 0 (by decide) (hts _ (inA q202)) (fun _ h9 => h9) rfl dX0_get_22 ?_
        refine lv_iload_n hx hb dX0_get_25 rfl (lv_at hl 1 rfl) ?_
        obtain ⟨b4, hM⟩ := gd_use hM
        refine va_iald hx hb hK hP 1 0 rfl rfl b4 dX0_get_26 ?_
        refine lv_goto (tgt := 31) hx hb dX0_get_27 (by decide) ?_
        cases hM
        exact rt_i hx hb hr hlk hP hD hS rfl dX0_get_31

set_option maxHeartbeats 4000000 in
set_option maxRecDepth 100000 in
theorem c_Bytes_swap (l : Launch) (D : va_G) (cI : ClassId) (sd : Nat → Nat) (h a : Nat) (n : Nat) (o_this : S_Bytes) (a1 : Int32) (a2 : Int32) (res : Int32 × S_Bytes) (hM : f_Bytes_swap n o_this a1 a2 = some res) : Ctr l D cI sd yX0_swap (wsM yX0_swap cX0_swap 4 (Option.some Jvm.ClassFile.FieldType.int)) { frames := 1, cells := 0, slots := 0, locals := 21 } [.ref h, .int a1, .int a2] (wB cI h a n o_this) (wB cI h a n res.2) (some (.int res.1)) := by
  refine Ctr.of (cc := cX0_swap) (maxL := 4) (own := RX0) (by decide +kernel) rfl rfl (Nat.le_of_ble_eq_true rfl) ?_
  intro p e s m below meth c A ls hx hb hr hml hown hts hlk hK hE hA hP hD hS hl
  have hl : lv_has ls 4 [(0, .ref h), (1, .int a1), (2, .int a2)] := hl
  unfold f_Bytes_swap at hM
  refine lv_aload_n hx hb dX0_swap_0 rfl (lv_at hl 0 rfl) ?_
  refine lv_iload_n hx hb dX0_swap_1 rfl (lv_at hl 1 rfl) ?_
  obtain ⟨r1, hcr1, hM⟩ := ob_use hM
  refine cl_V (As := [.int a1]) (rest := []) (wB cI h a n o_this) (.int r1 :: []) ⟨hx, hb, hml, hown, hts⟩ (c_Bytes_get l D cI sd h a n o_this a1 r1 hcr1) (cwV2 hts q506 mvX0_get rfl rfl ⟨(Nat.le_of_ble_eq_true rfl), (Nat.le_of_ble_eq_true rfl)⟩) hK hE hA hP hD hS 0 (T := TX0) (N := 2) (ci := 0) rfl rfl [0, 1] rfl (by decide) rfl rfl rfl rfl rfl rfl hl.1 (Nat.le_of_ble_eq_true rfl) dX0_swap_2 ⟨Nat.zero_le _, Nat.zero_le _⟩ (fun H locs hP hD hS => ?_)
  refine lv_istore_n (lv' := [(3, .int r1), (0, .ref h), (1, .int a1), (2, .int a2)]) hx hb dX0_swap_5 rfl hl (by decide) rfl (fun ls hl => ?_)
  refine lv_iload_n hx hb dX0_swap_6 rfl (lv_at hl 0 rfl) ?_
  refine lv_iconst (v := (-1)) hx hb dX0_swap_7 (by decide) ?_
  refine lv_icmp_eq (tgt := 31) hx hb dX0_swap_8 (by decide) (fun c2 => ?_) (fun c2 => ?_)
  · replace hM := if_t c2 hM
    refine lv_iload_n hx hb dX0_swap_31 rfl (lv_at hl 0 rfl) ?_
    cases hM
    exact rt_i hx hb hr hlk hP hD hS rfl dX0_swap_32
  · replace hM := if_f c2 hM
    refine lv_iload_n hx hb dX0_swap_11 rfl (lv_at hl 2 rfl) ?_
    refine lv_if_lt (tgt := 31) hx hb dX0_swap_12 (by decide) (fun c3 => ?_) (fun c3 => ?_)
    · replace hM := if_t c3 hM
      refine lv_iload_n hx hb dX0_swap_31 rfl (lv_at hl 0 rfl) ?_
      cases hM
      exact rt_i hx hb hr hlk hP hD hS rfl dX0_swap_32
    · replace hM := if_f c3 hM
      refine lv_iload_n hx hb dX0_swap_15 rfl (lv_at hl 2 rfl) ?_
      refine lv_aload_n hx hb dX0_swap_16 rfl (lv_at hl 1 rfl) ?_
      refine va_get (D := D) (ci := 0) (v := .ref a) (C := RX0) (T := TX0) (N := 2) hx hb hts layX0 hown hK hP 0 rfl rfl 0 (by decide) (hts _ (inA q202)) (fun _ h9 => h9) rfl dX0_swap_17 ?_
      refine va_alen (v := Int32.ofNat n) hx hb hK hP 1 0 rfl rfl rfl dX0_swap_20 ?_
      refine lv_icmp_ge (tgt := 31) hx hb dX0_swap_21 (by decide) (fun c4 => ?_) (fun c4 => ?_)
      · replace hM := if_t c4 hM
        refine lv_iload_n hx hb dX0_swap_31 rfl (lv_at hl 0 rfl) ?_
        cases hM
        exact rt_i hx hb hr hlk hP hD hS rfl dX0_swap_32
      · replace hM := if_f c4 hM
        refine lv_aload_n hx hb dX0_swap_24 rfl (lv_at hl 1 rfl) ?_
        refine va_get (D := D) (ci := 0) (v := .ref a) (C := RX0) (T := TX0) (N := 2) hx hb hts layX0 hown hK hP 0 rfl rfl 0 (by decide) (hts _ (inA q202)) (fun _ h9 => h9) rfl dX0_swap_25 ?_
        refine lv_iload_n hx hb dX0_swap_28 rfl (lv_at hl 2 rfl) ?_
        refine lv_iload_n hx hb dX0_swap_29 rfl (lv_at hl 3 rfl) ?_
        obtain ⟨b5, hM⟩ := gd_use hM
        refine va_iast hx hb hK hP hD hS 1 0 rfl rfl b5 dX0_swap_30 (fun H locs hP hD hS => ?_)
        have hP : va_P D vwCl (wB cI h a n (o_this.1, upd o_this.2 a1.toNatClampNeg a2)) H := hP
        have hD : va_D A (wB cI h a n (o_this.1, upd o_this.2 a1.toNatClampNeg a2)) := hD
        refine lv_iload_n hx hb dX0_swap_31 rfl (lv_at hl 0 rfl) ?_
        cases hM
        exact rt_i hx hb hr hlk hP hD hS rfl dX0_swap_32
