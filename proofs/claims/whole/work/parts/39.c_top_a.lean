set_option maxHeartbeats 4000000 in
set_option maxRecDepth 100000 in
theorem c_Top_clear (l : Launch) (D : va_G) (cI : ClassId) (sd : Nat → Nat) (ad : Nat → Nat) (o_text : S_Bytes) (res : Int32 × S_Bytes) (hM : f_Top_clear o_text = some res) : Ctr l D cI sd yX6_clear (wsM yX6_clear cX6_clear 2 (Option.some Jvm.ClassFile.FieldType.int)) { frames := 1, cells := 0, slots := 0, locals := 21 } [.ref (ad 0)] (w_Top_this_text cI ad o_text) (w_Top_this_text cI ad res.2) (some (.int res.1)) := by
  refine Ctr.of (cc := cX6_clear) (maxL := 2) (own := RX6) (by decide +kernel) rfl rfl (Nat.le_of_ble_eq_true rfl) ?_
  intro p e s m below meth c A ls hx hb hr hml hown hts hlk hK hE hA hP hD hS hl
  have hl : lv_has ls 2 [(0, .ref (ad 0))] := hl
  unfold f_Top_clear at hM
  refine lv_aload_n hx hb dX6_clear_0 rfl (lv_at hl 0 rfl) ?_
  refine va_get (D := D) (ci := 6) (v := .ref (ad 1)) (C := RX6) (T := TX6) (N := 7) hx hb hts layX6 hown hK hP 0 rfl rfl 0 (by decide) (hts _ (inA q452)) (fun _ h9 => h9) rfl dX6_clear_1 ?_
  refine va_getN (D := D) (ci := 0) (v := .int o_text.1) (C := RX0) (T := TX0) (N := 2) hx hb hts layX0 hown hK hP 1 rfl rfl 1 (by decide) (nfE0 hE) (fun _ h9 => h9) rfl dX6_clear_4 ?_
  refine lv_istore_n (lv' := [(1, .int o_text.1), (0, .ref (ad 0))]) hx hb dX6_clear_7 rfl hl (by decide) rfl (fun ls hl => ?_)
  refine lv_aload_n hx hb dX6_clear_8 rfl (lv_at hl 1 rfl) ?_
  refine va_get (D := D) (ci := 6) (v := .ref (ad 1)) (C := RX6) (T := TX6) (N := 7) hx hb hts layX6 hown hK hP 0 rfl rfl 0 (by decide) (hts _ (inA q452)) (fun _ h9 => h9) rfl dX6_clear_9 ?_
  refine lv_iconst (v := 0) hx hb dX6_clear_12 (by decide) ?_
  obtain ⟨r1, hcr1, hM⟩ := ob_use hM
  refine cl_V (As := [.int 0]) (rest := []) (w_Top_this_text cI ad r1) [] ⟨hx, hb, hml, hown, hts⟩ (c_Bytes_cut l D cI sd (ad 1) (ad 2) 8192 o_text 0 r1 hcr1) (cwV2 hts q478 mvX0_cut rfl rfl ⟨(Nat.le_of_ble_eq_true rfl), (Nat.le_of_ble_eq_true rfl)⟩) hK hE hA hP hD hS 1 (T := TX0) (N := 2) (ci := 0) rfl rfl [1, 2] rfl (by decide) rfl rfl rfl rfl rfl rfl hl.1 (Nat.le_of_ble_eq_true rfl) dX6_clear_13 ⟨Nat.zero_le _, Nat.zero_le _⟩ (fun H locs hP hD hS => ?_)
  refine lv_iload_n hx hb dX6_clear_16 rfl (lv_at hl 0 rfl) ?_
  cases hM
  exact rt_i hx hb hr hlk hP hD hS rfl dX6_clear_17

set_option maxHeartbeats 4000000 in
set_option maxRecDepth 100000 in
theorem c_Top_feedNumber (l : Launch) (D : va_G) (cI : ClassId) (sd : Nat → Nat) (ad : Nat → Nat) (o_text : S_Bytes) (a1 : Int32) (res : S_Bytes) (hM : f_Top_feedNumber o_text a1 = some res) : Ctr l D cI sd yX6_feedNumber (wsM yX6_feedNumber cX6_feedNumber 3 (Option.none : Option Jvm.ClassFile.FieldType)) { frames := 1, cells := 0, slots := 0, locals := 21 } [.ref (ad 0), .int a1] (w_Top_this_text cI ad o_text) (w_Top_this_text cI ad res) none := by
  refine Ctr.of (cc := cX6_feedNumber) (maxL := 3) (own := RX6) (by decide +kernel) rfl rfl (Nat.le_of_ble_eq_true rfl) ?_
  intro p e s m below meth c A ls hx hb hr hml hown hts hlk hK hE hA hP hD hS hl
  have hl : lv_has ls 3 [(0, .ref (ad 0)), (1, .int a1)] := hl
  unfold f_Top_feedNumber at hM
  refine lv_bipush (v := 24) hx hb dX6_feedNumber_0 (by decide) ?_
  refine lv_istore_n (lv' := [(2, .int 24), (0, .ref (ad 0)), (1, .int a1)]) hx hb dX6_feedNumber_2 rfl hl (by decide) rfl (fun ls hl => ?_)
  have lp_L3 : ∀ (w1_L3 : Int32) (n : Nat) (v2_L3 : Int32) (o_text_L3 : S_Bytes) (out_L3 : S_Bytes) (H : Heap) (locs : List Loc) (ls : Array Slot), f_Top_feedNumber_L3 w1_L3 n v2_L3 o_text_L3 = some out_L3 → va_P D vwCl (w_Top_this_text cI ad o_text_L3) H → va_D A (w_Top_this_text cI ad o_text_L3) → va_S A s.heap H locs → lv_has ls 3 [(2, .int v2_L3), (0, .ref (ad 0)), (1, .int w1_L3)] → (∀ (H : Heap) (locs : List Loc) (ls : Array Slot), va_P D vwCl (w_Top_this_text cI ad out_L3) H → va_D A (w_Top_this_text cI ad out_L3) → va_S A s.heap H locs → lv_has ls 3 [(0, .ref (ad 0)), (1, .int w1_L3)] → W p l e { frames := 1, cells := 0, slots := 0, locals := 21 } s m [.ref (ad 0), .int a1].toArray below meth c H locs 0 0 (MQ below (CQ D A (w_Top_this_text cI ad res) none) [.ref (ad 0), .int a1].toArray s 0 0 A) (F0 m 27 ls [])) → W p l e { frames := 1, cells := 0, slots := 0, locals := 21 } s m [.ref (ad 0), .int a1].toArray below meth c H locs 0 0 (MQ below (CQ D A (w_Top_this_text cI ad res) none) [.ref (ad 0), .int a1].toArray s 0 0 A) (F0 m 3 ls []) := by
    intro w1_L3 n
    induction n with
    | zero => intro v2_L3 o_text_L3 out_L3 H locs ls hM; exact absurd (show none = some _ from hM) (by simp)
    | succ n ih_L3 =>
      intro v2_L3 o_text_L3 out_L3 H locs ls hM hP hD hS hl kx_L3
      rw [f_Top_feedNumber_L3] at hM
      refine lv_iload_n hx hb dX6_feedNumber_3 rfl (lv_at hl 0 rfl) ?_
      refine lv_if_lt (tgt := 27) hx hb dX6_feedNumber_4 (by decide) (fun c1131 => ?_) (fun c1131 => ?_)
      · replace hM := if_t c1131 hM
        cases hM
        exact kx_L3 _ _ _ hP hD hS (lv_sub hl [1, 2] rfl)
      · replace hM := if_f c1131 hM
        refine lv_aload_n hx hb dX6_feedNumber_7 rfl (lv_at hl 1 rfl) ?_
        refine va_get (D := D) (ci := 6) (v := .ref (ad 1)) (C := RX6) (T := TX6) (N := 7) hx hb hts layX6 hown hK hP 0 rfl rfl 0 (by decide) (hts _ (inA q452)) (fun _ h9 => h9) rfl dX6_feedNumber_8 ?_
        refine lv_iload_n hx hb dX6_feedNumber_11 rfl (lv_at hl 2 rfl) ?_
        refine lv_iload_n hx hb dX6_feedNumber_12 rfl (lv_at hl 0 rfl) ?_
        refine lv_iushr hx hb dX6_feedNumber_13 rfl ?_
        refine lv_sipush (v := 255) hx hb dX6_feedNumber_14 (by decide) ?_
        refine lv_iand hx hb dX6_feedNumber_17 ?_
        obtain ⟨r1132, hcr1132, hM⟩ := ob_use hM
        refine cl_V (As := [.int (((w1_L3.toUInt32 >>> (v2_L3.toUInt32 &&& Int32.toUInt32 31)).toInt32) &&& 255)]) (rest := []) (w_Top_this_text cI ad r1132) [] ⟨hx, hb, hml, hown, hts⟩ (c_Bytes_put l D cI sd (ad 1) (ad 2) 8192 o_text_L3 (((w1_L3.toUInt32 >>> (v2_L3.toUInt32 &&& Int32.toUInt32 31)).toInt32) &&& 255) r1132 hcr1132) (cwV2 hts q490 mvX0_put rfl rfl ⟨(Nat.le_of_ble_eq_true rfl), (Nat.le_of_ble_eq_true rfl)⟩) hK hE hA hP hD hS 1 (T := TX0) (N := 2) (ci := 0) rfl rfl [1, 2] rfl (by decide) rfl rfl rfl rfl rfl rfl hl.1 (Nat.le_of_ble_eq_true rfl) dX6_feedNumber_18 ⟨Nat.zero_le _, Nat.zero_le _⟩ (fun H locs hP hD hS => ?_)
        obtain ⟨x1133, ex1133⟩ : ∃ y : Int32, y = v2_L3 + (-8) := ⟨_, rfl⟩
        replace hM := nm_use ex1133 hM
        refine lv_iinc (v := x1133) (lv' := [(2, .int x1133), (0, .ref (ad 0)), (1, .int w1_L3)]) hx hb dX6_feedNumber_21 hl (k := 0) rfl (by rw [ex1133]; rfl) (by decide) rfl (fun ls hl => ?_)
        refine lv_goto (tgt := 3) hx hb dX6_feedNumber_24 (by decide) ?_
        exact ih_L3 x1133 r1132 out_L3 _ _ _ hM hP hD hS (lv_sub hl [0, 1, 2] rfl) kx_L3
  obtain ⟨r1, hcr1, hM⟩ := ob_use hM
  refine lp_L3 a1 FU 24 o_text r1 _ _ _ hcr1 hP hD hS (lv_sub hl [0, 1, 2] rfl) (fun H locs ls hP hD hS hl => ?_)
  cases hM
  exact rt_v hx hb hr hlk hP hD hS rfl dX6_feedNumber_27

set_option maxHeartbeats 4000000 in
set_option maxRecDepth 100000 in
theorem c_Top_feed (l : Launch) (D : va_G) (cI : ClassId) (sd : Nat → Nat) (ad : Nat → Nat) (o_text : S_Bytes) (a1 : Int32) (a2 : Int32) (a3 : Int32) (a4 : Int32) (a5 : Int32) (res : Int32 × S_Bytes) (hM : f_Top_feed o_text a1 a2 a3 a4 a5 = some res) : Ctr l D cI sd yX6_feed (wsM yX6_feed cX6_feed 6 (Option.some Jvm.ClassFile.FieldType.int)) { frames := 2, cells := 0, slots := 0, locals := 43 } [.ref (ad 0), .int a1, .int a2, .int a3, .int a4, .int a5] (w_Top_this_text cI ad o_text) (w_Top_this_text cI ad res.2) (some (.int res.1)) := by
  refine Ctr.of (cc := cX6_feed) (maxL := 6) (own := RX6) (by decide +kernel) rfl rfl (Nat.le_of_ble_eq_true rfl) ?_
  intro p e s m below meth c A ls hx hb hr hml hown hts hlk hK hE hA hP hD hS hl
  have hl : lv_has ls 6 [(0, .ref (ad 0)), (1, .int a1), (2, .int a2), (3, .int a3), (4, .int a4), (5, .int a5)] := hl
  unfold f_Top_feed at hM
  refine lv_aload_n hx hb dX6_feed_0 rfl (lv_at hl 0 rfl) ?_
  refine va_get (D := D) (ci := 6) (v := .ref (ad 1)) (C := RX6) (T := TX6) (N := 7) hx hb hts layX6 hown hK hP 0 rfl rfl 0 (by decide) (hts _ (inA q452)) (fun _ h9 => h9) rfl dX6_feed_1 ?_
  refine va_getN (D := D) (ci := 0) (v := .int o_text.1) (C := RX0) (T := TX0) (N := 2) hx hb hts layX0 hown hK hP 1 rfl rfl 1 (by decide) (nfE0 hE) (fun _ h9 => h9) rfl dX6_feed_4 ?_
  refine lv_bipush (v := 20) hx hb dX6_feed_7 (by decide) ?_
  refine lv_iadd hx hb dX6_feed_9 ?_
  refine lv_sipush (v := 8192) hx hb dX6_feed_10 (by decide) ?_
  refine lv_icmp_le (tgt := 18) hx hb dX6_feed_13 (by decide) (fun c1 => ?_) (fun c1 => ?_)
  · replace hM := if_t c1 hM
    refine lv_aload_n hx hb dX6_feed_18 rfl (lv_at hl 0 rfl) ?_
    refine lv_iload_n hx hb dX6_feed_19 rfl (lv_at hl 1 rfl) ?_
    obtain ⟨r2, hcr2, hM⟩ := ob_use hM
    refine cl_V (As := [.int a1]) (rest := []) (w_Top_this_text cI ad r2) [] ⟨hx, hb, hml, hown, hts⟩ (c_Top_feedNumber l D cI sd ad o_text a1 r2 hcr2) (cwV2 hts q486 mvX6_feedNumber rfl rfl ⟨(Nat.le_of_ble_eq_true rfl), (Nat.le_of_ble_eq_true rfl)⟩) hK hE hA hP hD hS 0 (T := TX6) (N := 7) (ci := 6) rfl rfl [0, 1, 2] rfl (by decide) rfl rfl rfl rfl rfl rfl hl.1 (Nat.le_of_ble_eq_true rfl) dX6_feed_20 ⟨Nat.zero_le _, Nat.zero_le _⟩ (fun H locs hP hD hS => ?_)
    refine lv_aload_n hx hb dX6_feed_23 rfl (lv_at hl 0 rfl) ?_
    refine lv_iload_n hx hb dX6_feed_24 rfl (lv_at hl 2 rfl) ?_
    obtain ⟨r3, hcr3, hM⟩ := ob_use hM
    refine cl_V (As := [.int a2]) (rest := []) (w_Top_this_text cI ad r3) [] ⟨hx, hb, hml, hown, hts⟩ (c_Top_feedNumber l D cI sd ad r2 a2 r3 hcr3) (cwV2 hts q486 mvX6_feedNumber rfl rfl ⟨(Nat.le_of_ble_eq_true rfl), (Nat.le_of_ble_eq_true rfl)⟩) hK hE hA hP hD hS 0 (T := TX6) (N := 7) (ci := 6) rfl rfl [0, 1, 2] rfl (by decide) rfl rfl rfl rfl rfl rfl hl.1 (Nat.le_of_ble_eq_true rfl) dX6_feed_25 ⟨Nat.zero_le _, Nat.zero_le _⟩ (fun H locs hP hD hS => ?_)
    refine lv_aload_n hx hb dX6_feed_28 rfl (lv_at hl 0 rfl) ?_
    refine lv_iload_n hx hb dX6_feed_29 rfl (lv_at hl 3 rfl) ?_
    obtain ⟨r4, hcr4, hM⟩ := ob_use hM
    refine cl_V (As := [.int a3]) (rest := []) (w_Top_this_text cI ad r4) [] ⟨hx, hb, hml, hown, hts⟩ (c_Top_feedNumber l D cI sd ad r3 a3 r4 hcr4) (cwV2 hts q486 mvX6_feedNumber rfl rfl ⟨(Nat.le_of_ble_eq_true rfl), (Nat.le_of_ble_eq_true rfl)⟩) hK hE hA hP hD hS 0 (T := TX6) (N := 7) (ci := 6) rfl rfl [0, 1, 2] rfl (by decide) rfl rfl rfl rfl rfl rfl hl.1 (Nat.le_of_ble_eq_true rfl) dX6_feed_30 ⟨Nat.zero_le _, Nat.zero_le _⟩ (fun H locs hP hD hS => ?_)
    refine lv_aload_n hx hb dX6_feed_33 rfl (lv_at hl 0 rfl) ?_
    refine lv_iload hx hb dX6_feed_34 (lv_at hl 4 rfl) ?_
    obtain ⟨r5, hcr5, hM⟩ := ob_use hM
    refine cl_V (As := [.int a4]) (rest := []) (w_Top_this_text cI ad r5) [] ⟨hx, hb, hml, hown, hts⟩ (c_Top_feedNumber l D cI sd ad r4 a4 r5 hcr5) (cwV2 hts q486 mvX6_feedNumber rfl rfl ⟨(Nat.le_of_ble_eq_true rfl), (Nat.le_of_ble_eq_true rfl)⟩) hK hE hA hP hD hS 0 (T := TX6) (N := 7) (ci := 6) rfl rfl [0, 1, 2] rfl (by decide) rfl rfl rfl rfl rfl rfl hl.1 (Nat.le_of_ble_eq_true rfl) dX6_feed_36 ⟨Nat.zero_le _, Nat.zero_le _⟩ (fun H locs hP hD hS => ?_)
    refine lv_aload_n hx hb dX6_feed_39 rfl (lv_at hl 0 rfl) ?_
    refine lv_iload hx hb dX6_feed_40 (lv_at hl 5 rfl) ?_
    obtain ⟨r6, hcr6, hM⟩ := ob_use hM
    refine cl_V (As := [.int a5]) (rest := []) (w_Top_this_text cI ad r6) [] ⟨hx, hb, hml, hown, hts⟩ (c_Top_feedNumber l D cI sd ad r5 a5 r6 hcr6) (cwV2 hts q486 mvX6_feedNumber rfl rfl ⟨(Nat.le_of_ble_eq_true rfl), (Nat.le_of_ble_eq_true rfl)⟩) hK hE hA hP hD hS 0 (T := TX6) (N := 7) (ci := 6) rfl rfl [0, 1, 2] rfl (by decide) rfl rfl rfl rfl rfl rfl hl.1 (Nat.le_of_ble_eq_true rfl) dX6_feed_42 ⟨Nat.zero_le _, Nat.zero_le _⟩ (fun H locs hP hD hS => ?_)
    refine lv_aload_n hx hb dX6_feed_45 rfl (lv_at hl 0 rfl) ?_
    refine va_get (D := D) (ci := 6) (v := .ref (ad 1)) (C := RX6) (T := TX6) (N := 7) hx hb hts layX6 hown hK hP 0 rfl rfl 0 (by decide) (hts _ (inA q452)) (fun _ h9 => h9) rfl dX6_feed_46 ?_
    refine va_getN (D := D) (ci := 0) (v := .int r6.1) (C := RX0) (T := TX0) (N := 2) hx hb hts layX0 hown hK hP 1 rfl rfl 1 (by decide) (nfE0 hE) (fun _ h9 => h9) rfl dX6_feed_49 ?_
    cases hM
    exact rt_i hx hb hr hlk hP hD hS rfl dX6_feed_52
  · replace hM := if_f c1 hM
    refine lv_iconst (v := (-1)) hx hb dX6_feed_16 (by decide) ?_
    cases hM
    exact rt_i hx hb hr hlk hP hD hS rfl dX6_feed_17

set_option maxHeartbeats 4000000 in
set_option maxRecDepth 100000 in
theorem c_Top_end (l : Launch) (D : va_G) (cI : ClassId) (sd : Nat → Nat) (ad : Nat → Nat) (o_text : S_Bytes) (a1 : Int32) (res : Int32 × S_Bytes) (hM : f_Top_end o_text a1 = some res) : Ctr l D cI sd yX6_end (wsM yX6_end cX6_end 2 (Option.some Jvm.ClassFile.FieldType.int)) { frames := 1, cells := 0, slots := 0, locals := 21 } [.ref (ad 0), .int a1] (w_Top_this_text cI ad o_text) (w_Top_this_text cI ad res.2) (some (.int res.1)) := by
  refine Ctr.of (cc := cX6_end) (maxL := 2) (own := RX6) (by decide +kernel) rfl rfl (Nat.le_of_ble_eq_true rfl) ?_
  intro p e s m below meth c A ls hx hb hr hml hown hts hlk hK hE hA hP hD hS hl
  have hl : lv_has ls 2 [(0, .ref (ad 0)), (1, .int a1)] := hl
  unfold f_Top_end at hM
  refine lv_iload_n hx hb dX6_end_0 rfl (lv_at hl 1 rfl) ?_
  refine lv_if_lt (tgt := 22) hx hb dX6_end_1 (by decide) (fun c1 => ?_) (fun c1 => ?_)
  · replace hM := if_t c1 hM
    refine lv_iconst (v := (-1)) hx hb dX6_end_22 (by decide) ?_
    cases hM
    exact rt_i hx hb hr hlk hP hD hS rfl dX6_end_23
  · replace hM := if_f c1 hM
    refine lv_iload_n hx hb dX6_end_4 rfl (lv_at hl 1 rfl) ?_
    refine lv_bipush (v := 20) hx hb dX6_end_5 (by decide) ?_
    refine lv_icmp_gt (tgt := 22) hx hb dX6_end_7 (by decide) (fun c2 => ?_) (fun c2 => ?_)
    · replace hM := if_t c2 hM
      refine lv_iconst (v := (-1)) hx hb dX6_end_22 (by decide) ?_
      cases hM
      exact rt_i hx hb hr hlk hP hD hS rfl dX6_end_23
    · replace hM := if_f c2 hM
      refine lv_aload_n hx hb dX6_end_10 rfl (lv_at hl 0 rfl) ?_
      refine va_get (D := D) (ci := 6) (v := .ref (ad 1)) (C := RX6) (T := TX6) (N := 7) hx hb hts layX6 hown hK hP 0 rfl rfl 0 (by decide) (hts _ (inA q452)) (fun _ h9 => h9) rfl dX6_end_11 ?_
      refine va_getN (D := D) (ci := 0) (v := .int o_text.1) (C := RX0) (T := TX0) (N := 2) hx hb hts layX0 hown hK hP 1 rfl rfl 1 (by decide) (nfE0 hE) (fun _ h9 => h9) rfl dX6_end_14 ?_
      refine lv_bipush (v := 20) hx hb dX6_end_17 (by decide) ?_
      refine lv_icmp_ge (tgt := 24) hx hb dX6_end_19 (by decide) (fun c3 => ?_) (fun c3 => ?_)
      · replace hM := if_t c3 hM
        refine lv_aload_n hx hb dX6_end_24 rfl (lv_at hl 0 rfl) ?_
        refine va_get (D := D) (ci := 6) (v := .ref (ad 1)) (C := RX6) (T := TX6) (N := 7) hx hb hts layX6 hown hK hP 0 rfl rfl 0 (by decide) (hts _ (inA q452)) (fun _ h9 => h9) rfl dX6_end_25 ?_
        refine lv_aload_n hx hb dX6_end_28 rfl (lv_at hl 0 rfl) ?_
        refine va_get (D := D) (ci := 6) (v := .ref (ad 1)) (C := RX6) (T := TX6) (N := 7) hx hb hts layX6 hown hK hP 0 rfl rfl 0 (by decide) (hts _ (inA q452)) (fun _ h9 => h9) rfl dX6_end_29 ?_
        refine va_getN (D := D) (ci := 0) (v := .int o_text.1) (C := RX0) (T := TX0) (N := 2) hx hb hts layX0 hown hK hP 1 rfl rfl 1 (by decide) (nfE0 hE) (fun _ h9 => h9) rfl dX6_end_32 ?_
        refine lv_bipush (v := 20) hx hb dX6_end_35 (by decide) ?_
        refine lv_isub hx hb dX6_end_37 ?_
        refine lv_iload_n hx hb dX6_end_38 rfl (lv_at hl 1 rfl) ?_
        refine lv_iadd hx hb dX6_end_39 ?_
        obtain ⟨r4, hcr4, hM⟩ := ob_use hM
        refine cl_V (As := [.int ((o_text.1 - 20) + a1)]) (rest := []) (w_Top_this_text cI ad r4) [] ⟨hx, hb, hml, hown, hts⟩ (c_Bytes_cut l D cI sd (ad 1) (ad 2) 8192 o_text ((o_text.1 - 20) + a1) r4 hcr4) (cwV2 hts q478 mvX0_cut rfl rfl ⟨(Nat.le_of_ble_eq_true rfl), (Nat.le_of_ble_eq_true rfl)⟩) hK hE hA hP hD hS 1 (T := TX0) (N := 2) (ci := 0) rfl rfl [1, 2] rfl (by decide) rfl rfl rfl rfl rfl rfl hl.1 (Nat.le_of_ble_eq_true rfl) dX6_end_40 ⟨Nat.zero_le _, Nat.zero_le _⟩ (fun H locs hP hD hS => ?_)
        refine lv_aload_n hx hb dX6_end_43 rfl (lv_at hl 0 rfl) ?_
        refine va_get (D := D) (ci := 6) (v := .ref (ad 1)) (C := RX6) (T := TX6) (N := 7) hx hb hts layX6 hown hK hP 0 rfl rfl 0 (by decide) (hts _ (inA q452)) (fun _ h9 => h9) rfl dX6_end_44 ?_
        refine va_getN (D := D) (ci := 0) (v := .int r4.1) (C := RX0) (T := TX0) (N := 2) hx hb hts layX0 hown hK hP 1 rfl rfl 1 (by decide) (nfE0 hE) (fun _ h9 => h9) rfl dX6_end_47 ?_
        cases hM
        exact rt_i hx hb hr hlk hP hD hS rfl dX6_end_50
      · replace hM := if_f c3 hM
        refine lv_iconst (v := (-1)) hx hb dX6_end_22 (by decide) ?_
        cases hM
        exact rt_i hx hb hr hlk hP hD hS rfl dX6_end_23

set_option maxHeartbeats 4000000 in
set_option maxRecDepth 100000 in
theorem c_Top_change (l : Launch) (D : va_G) (cI : ClassId) (sd : Nat → Nat) (ad : Nat → Nat) (o_text : S_Bytes) (a1 : Int32) (a2 : Int32) (res : Int32 × S_Bytes) (hM : f_Top_change o_text a1 a2 = some res) : Ctr l D cI sd yX6_change (wsM yX6_change cX6_change 3 (Option.some Jvm.ClassFile.FieldType.int)) { frames := 2, cells := 0, slots := 0, locals := 44 } [.ref (ad 0), .int a1, .int a2] (w_Top_this_text cI ad o_text) (w_Top_this_text cI ad res.2) (some (.int res.1)) := by
  refine Ctr.of (cc := cX6_change) (maxL := 3) (own := RX6) (by decide +kernel) rfl rfl (Nat.le_of_ble_eq_true rfl) ?_
  intro p e s m below meth c A ls hx hb hr hml hown hts hlk hK hE hA hP hD hS hl
  have hl : lv_has ls 3 [(0, .ref (ad 0)), (1, .int a1), (2, .int a2)] := hl
  unfold f_Top_change at hM
  refine lv_iload_n hx hb dX6_change_0 rfl (lv_at hl 2 rfl) ?_
  refine lv_if_lt (tgt := 11) hx hb dX6_change_1 (by decide) (fun c1 => ?_) (fun c1 => ?_)
  · replace hM := if_t c1 hM
    refine lv_iconst (v := (-1)) hx hb dX6_change_11 (by decide) ?_
    cases hM
    exact rt_i hx hb hr hlk hP hD hS rfl dX6_change_12
  · replace hM := if_f c1 hM
    refine lv_iload_n hx hb dX6_change_4 rfl (lv_at hl 2 rfl) ?_
    refine lv_sipush (v := 255) hx hb dX6_change_5 (by decide) ?_
    refine lv_icmp_le (tgt := 13) hx hb dX6_change_8 (by decide) (fun c2 => ?_) (fun c2 => ?_)
    · replace hM := if_t c2 hM
      refine lv_aload_n hx hb dX6_change_13 rfl (lv_at hl 0 rfl) ?_
      refine va_get (D := D) (ci := 6) (v := .ref (ad 1)) (C := RX6) (T := TX6) (N := 7) hx hb hts layX6 hown hK hP 0 rfl rfl 0 (by decide) (hts _ (inA q452)) (fun _ h9 => h9) rfl dX6_change_14 ?_
      refine lv_iload_n hx hb dX6_change_17 rfl (lv_at hl 1 rfl) ?_
      refine lv_iload_n hx hb dX6_change_18 rfl (lv_at hl 2 rfl) ?_
      obtain ⟨r3, hcr3, hM⟩ := ob_use hM
      refine cl_V (As := [.int a1, .int a2]) (rest := []) (w_Top_this_text cI ad r3.2) (.int r3.1 :: []) ⟨hx, hb, hml, hown, hts⟩ (c_Bytes_swap l D cI sd (ad 1) (ad 2) 8192 o_text a1 a2 r3 hcr3) (cwV2 hts q502 mvX0_swap rfl rfl ⟨(Nat.le_of_ble_eq_true rfl), (Nat.le_of_ble_eq_true rfl)⟩) hK hE hA hP hD hS 1 (T := TX0) (N := 2) (ci := 0) rfl rfl [1, 2] rfl (by decide) rfl rfl rfl rfl rfl rfl hl.1 (Nat.le_of_ble_eq_true rfl) dX6_change_19 ⟨Nat.zero_le _, Nat.zero_le _⟩ (fun H locs hP hD hS => ?_)
      cases hM
      exact rt_i hx hb hr hlk hP hD hS rfl dX6_change_22
    · replace hM := if_f c2 hM
      refine lv_iconst (v := (-1)) hx hb dX6_change_11 (by decide) ?_
      cases hM
      exact rt_i hx hb hr hlk hP hD hS rfl dX6_change_12

set_option maxHeartbeats 4000000 in
set_option maxRecDepth 100000 in
theorem c_Top_read (l : Launch) (D : va_G) (cI : ClassId) (sd : Nat → Nat) (ad : Nat → Nat) (o_text : S_Bytes) (o_names : S_Names) (o_tokens : S_Tokens) (o_tree : S_Tree) (o_parser : S_Parser) (res : Int32 × S_Names × S_Tokens × S_Tree × S_Parser) (hM : f_Top_read o_text o_names o_tokens o_tree o_parser = some res) : Ctr l D cI sd yX6_read (wsM yX6_read cX6_read 1 (Option.some Jvm.ClassFile.FieldType.int)) { frames := 462, cells := 0, slots := 0, locals := 11687 } [.ref (ad 0)] (w_Top_this_text_names_tokens_tree_parser cI ad o_text o_names o_tokens o_tree o_parser) (w_Top_this_text_names_tokens_tree_parser cI ad o_text res.2.1 res.2.2.1 res.2.2.2.1 res.2.2.2.2) (some (.int res.1)) := by
  refine Ctr.of (cc := cX6_read) (maxL := 1) (own := RX6) (by decide +kernel) rfl rfl (Nat.le_of_ble_eq_true rfl) ?_
  intro p e s m below meth c A ls hx hb hr hml hown hts hlk hK hE hA hP hD hS hl
  have hl : lv_has ls 1 [(0, .ref (ad 0))] := hl
  unfold f_Top_read at hM
  refine lv_aload_n hx hb dX6_read_0 rfl (lv_at hl 0 rfl) ?_
  refine va_get (D := D) (ci := 6) (v := .ref (ad 10)) (C := RX6) (T := TX6) (N := 7) hx hb hts layX6 hown hK hP 0 rfl rfl 3 (by decide) (hts _ (inA q455)) (fun _ h9 => h9) rfl dX6_read_1 ?_
  obtain ⟨r1, hcr1, hM⟩ := ob_use hM
  refine cl_V (As := []) (rest := []) (w_Top_this_text_names_tokens_tree_parser cI ad o_text r1.2 r1.1 o_tree o_parser) [] ⟨hx, hb, hml, hown, hts⟩ (c_Tokens_scan l D cI sd ad o_tokens o_text o_names r1 hcr1) (cwV2 hts q514 mvX2_scan rfl rfl ⟨(Nat.le_of_ble_eq_true rfl), (Nat.le_of_ble_eq_true rfl)⟩) hK hE hA hP hD hS 8 (T := TX2) (N := 7) (ci := 2) rfl rfl [8, 9, 10, 11, 1, 2, 3, 4, 5, 6, 7] rfl (by decide) rfl rfl rfl rfl rfl rfl hl.1 (Nat.le_of_ble_eq_true rfl) dX6_read_4 ⟨Nat.zero_le _, Nat.zero_le _⟩ (fun H locs hP hD hS => ?_)
  refine lv_aload_n hx hb dX6_read_7 rfl (lv_at hl 0 rfl) ?_
  refine va_get (D := D) (ci := 6) (v := .ref (ad 22)) (C := RX6) (T := TX6) (N := 7) hx hb hts layX6 hown hK hP 0 rfl rfl 5 (by decide) (hts _ (inA q457)) (fun _ h9 => h9) rfl dX6_read_8 ?_
  obtain ⟨r2, hcr2, hM⟩ := ob_use hM
  refine cl_V (As := []) (rest := []) (w_Top_this_text_names_tokens_tree_parser cI ad o_text r1.2 r1.1 r2.2 r2.1) [] ⟨hx, hb, hml, hown, hts⟩ (c_Parser_parse l D cI sd ad o_parser r1.1 o_tree r2 hcr2) (cwV2 hts q610 mvX4_parse rfl rfl ⟨(Nat.le_of_ble_eq_true rfl), (Nat.le_of_ble_eq_true rfl)⟩) hK hE hA hP hD hS 20 (T := TX4) (N := 12) (ci := 4) rfl rfl [20, 8, 9, 10, 11, 12, 13, 14, 15, 16, 17, 18, 19] rfl (by decide) rfl rfl rfl rfl rfl rfl hl.1 (Nat.le_of_ble_eq_true rfl) dX6_read_11 ⟨Nat.zero_le _, Nat.zero_le _⟩ (fun H locs hP hD hS => ?_)
  refine lv_aload_n hx hb dX6_read_14 rfl (lv_at hl 0 rfl) ?_
  refine va_get (D := D) (ci := 6) (v := .ref (ad 22)) (C := RX6) (T := TX6) (N := 7) hx hb hts layX6 hown hK hP 0 rfl rfl 5 (by decide) (hts _ (inA q457)) (fun _ h9 => h9) rfl dX6_read_15 ?_
  refine va_getN (D := D) (ci := 4) (v := .int r2.1.2.2.2.2.2.2.2.2.1) (C := RX4) (T := TX4) (N := 12) hx hb hts layX4 hown hK hP 20 rfl rfl 10 (by decide) (nfE11 hE) (fun _ h9 => h9) rfl dX6_read_18 ?_
  refine lv_if_ne (tgt := 34) hx hb dX6_read_21 (by decide) (fun c3 => ?_) (fun c3 => ?_)
  · replace hM := if_f c3 hM
    refine lv_aload_n hx hb dX6_read_34 rfl (lv_at hl 0 rfl) ?_
    refine va_get (D := D) (ci := 6) (v := .ref (ad 14)) (C := RX6) (T := TX6) (N := 7) hx hb hts layX6 hown hK hP 0 rfl rfl 4 (by decide) (hts _ (inA q456)) (fun _ h9 => h9) rfl dX6_read_35 ?_
    obtain ⟨r4, hcr4, hM⟩ := ob_use hM
    refine cl_V (As := []) (rest := []) (w_Top_this_text_names_tokens_tree_parser cI ad o_text r1.2 r1.1 r4 r2.1) [] ⟨hx, hb, hml, hown, hts⟩ (c_Tree_forget l D cI sd ad r2.2 r4 hcr4) (cwV2 hts q814 mvX3_forget rfl rfl ⟨(Nat.le_of_ble_eq_true rfl), (Nat.le_of_ble_eq_true rfl)⟩) hK hE hA hP hD hS 12 (T := TX3) (N := 8) (ci := 3) rfl rfl [12, 13, 14, 15, 16, 17, 18, 19] rfl (by decide) rfl rfl rfl rfl rfl rfl hl.1 (Nat.le_of_ble_eq_true rfl) dX6_read_38 ⟨Nat.zero_le _, Nat.zero_le _⟩ (fun H locs hP hD hS => ?_)
    refine lv_aload_n hx hb dX6_read_41 rfl (lv_at hl 0 rfl) ?_
    refine va_get (D := D) (ci := 6) (v := .ref (ad 5)) (C := RX6) (T := TX6) (N := 7) hx hb hts layX6 hown hK hP 0 rfl rfl 2 (by decide) (hts _ (inA q454)) (fun _ h9 => h9) rfl dX6_read_42 ?_
    obtain ⟨r5, hcr5, hM⟩ := ob_use hM
    refine cl_V (As := []) (rest := []) (w_Top_this_text_names_tokens_tree_parser cI ad o_text r5 r1.1 r4 r2.1) [] ⟨hx, hb, hml, hown, hts⟩ (c_Names_forget l D cI sd ad r1.2 r5 hcr5) (cwV2 hts q815 mvX1_forget rfl rfl ⟨(Nat.le_of_ble_eq_true rfl), (Nat.le_of_ble_eq_true rfl)⟩) hK hE hA hP hD hS 3 (T := TX1) (N := 6) (ci := 1) rfl rfl [3, 4, 5, 6, 7] rfl (by decide) rfl rfl rfl rfl rfl rfl hl.1 (Nat.le_of_ble_eq_true rfl) dX6_read_45 ⟨Nat.zero_le _, Nat.zero_le _⟩ (fun H locs hP hD hS => ?_)
    refine lv_aload_n hx hb dX6_read_48 rfl (lv_at hl 0 rfl) ?_
    refine va_get (D := D) (ci := 6) (v := .ref (ad 22)) (C := RX6) (T := TX6) (N := 7) hx hb hts layX6 hown hK hP 0 rfl rfl 5 (by decide) (hts _ (inA q457)) (fun _ h9 => h9) rfl dX6_read_49 ?_
    refine va_getN (D := D) (ci := 4) (v := .int r2.1.2.2.2.2.2.2.2.2.1) (C := RX4) (T := TX4) (N := 12) hx hb hts layX4 hown hK hP 20 rfl rfl 10 (by decide) (nfE11 hE) (fun _ h9 => h9) rfl dX6_read_52 ?_
    cases hM
    exact rt_i hx hb hr hlk hP hD hS rfl dX6_read_55
  · replace hM := if_t c3 hM
    refine lv_aload_n hx hb dX6_read_24 rfl (lv_at hl 0 rfl) ?_
    refine va_get (D := D) (ci := 6) (v := .ref (ad 14)) (C := RX6) (T := TX6) (N := 7) hx hb hts layX6 hown hK hP 0 rfl rfl 4 (by decide) (hts _ (inA q456)) (fun _ h9 => h9) rfl dX6_read_25 ?_
    obtain ⟨r6, hcr6, hM⟩ := ob_use hM
    refine cl_V (As := []) (rest := []) (w_Top_this_text_names_tokens_tree_parser cI ad o_text r1.2 r1.1 r6 r2.1) [] ⟨hx, hb, hml, hown, hts⟩ (c_Tree_link l D cI sd ad r2.2 r6 hcr6) (cwV2 hts q806 mvX3_link rfl rfl ⟨(Nat.le_of_ble_eq_true rfl), (Nat.le_of_ble_eq_true rfl)⟩) hK hE hA hP hD hS 12 (T := TX3) (N := 8) (ci := 3) rfl rfl [12, 13, 14, 15, 16, 17, 18, 19] rfl (by decide) rfl rfl rfl rfl rfl rfl hl.1 (Nat.le_of_ble_eq_true rfl) dX6_read_28 ⟨Nat.zero_le _, Nat.zero_le _⟩ (fun H locs hP hD hS => ?_)
    refine lv_goto (tgt := 48) hx hb dX6_read_31 (by decide) ?_
    refine lv_aload_n hx hb dX6_read_48 rfl (lv_at hl 0 rfl) ?_
    refine va_get (D := D) (ci := 6) (v := .ref (ad 22)) (C := RX6) (T := TX6) (N := 7) hx hb hts layX6 hown hK hP 0 rfl rfl 5 (by decide) (hts _ (inA q457)) (fun _ h9 => h9) rfl dX6_read_49 ?_
    refine va_getN (D := D) (ci := 4) (v := .int r2.1.2.2.2.2.2.2.2.2.1) (C := RX4) (T := TX4) (N := 12) hx hb hts layX4 hown hK hP 20 rfl rfl 10 (by decide) (nfE11 hE) (fun _ h9 => h9) rfl dX6_read_52 ?_
    cases hM
    exact rt_i hx hb hr hlk hP hD hS rfl dX6_read_55

set_option maxHeartbeats 4000000 in
set_option maxRecDepth 100000 in
theorem c_Top_count (l : Launch) (D : va_G) (cI : ClassId) (sd : Nat → Nat) (ad : Nat → Nat) (o_text : S_Bytes) (o_written : S_Bytes) (o_names : S_Names) (o_tree : S_Tree) (o_parser : S_Parser) (a1 : Int32) (res : Int32) (hM : f_Top_count o_text o_written o_names o_tree o_parser a1 = some res) : Ctr l D cI sd yX6_count (wsM yX6_count cX6_count 2 (Option.some Jvm.ClassFile.FieldType.int)) { frames := 0, cells := 0, slots := 0, locals := 0 } [.ref (ad 0), .int a1] (w_Top_this_text_written_names_tree_parser cI ad o_text o_written o_names o_tree o_parser) (w_Top_this_text_written_names_tree_parser cI ad o_text o_written o_names o_tree o_parser) (some (.int res)) := by
  refine Ctr.of (cc := cX6_count) (maxL := 2) (own := RX6) (by decide +kernel) rfl rfl (Nat.le_of_ble_eq_true rfl) ?_
  intro p e s m below meth c A ls hx hb hr hml hown hts hlk hK hE hA hP hD hS hl
  have hl : lv_has ls 2 [(0, .ref (ad 0)), (1, .int a1)] := hl
  unfold f_Top_count at hM
  refine lv_iload_n hx hb dX6_count_0 rfl (lv_at hl 1 rfl) ?_
  by_cases c1 : a1 = 0
  · replace hM := if_t c1 hM
    refine lv_tableIn (tgt := 40) hx hb dX6_count_1 (by rw [c1]; decide) (by rw [c1]; decide) (by rw [c1]; rfl) (by decide) ?_
    refine lv_aload_n hx hb dX6_count_40 rfl (lv_at hl 0 rfl) ?_
    refine va_get (D := D) (ci := 6) (v := .ref (ad 22)) (C := RX6) (T := TX6) (N := 7) hx hb hts layX6 hown hK hP 0 rfl rfl 5 (by decide) (hts _ (inA q457)) (fun _ h9 => h9) rfl dX6_count_41 ?_
    refine va_getN (D := D) (ci := 4) (v := .int o_parser.2.2.2.2.2.2.2.2.1) (C := RX4) (T := TX4) (N := 12) hx hb hts layX4 hown hK hP 18 rfl rfl 10 (by decide) (nfE11 hE) (fun _ h9 => h9) rfl dX6_count_44 ?_
    cases hM
    exact rt_i hx hb hr hlk hP hD hS rfl dX6_count_47
  replace hM := if_f c1 hM
  by_cases c2 : a1 = 1
  · replace hM := if_t c2 hM
    refine lv_tableIn (tgt := 48) hx hb dX6_count_1 (by rw [c2]; decide) (by rw [c2]; decide) (by rw [c2]; rfl) (by decide) ?_
    refine lv_aload_n hx hb dX6_count_48 rfl (lv_at hl 0 rfl) ?_
    refine va_get (D := D) (ci := 6) (v := .ref (ad 22)) (C := RX6) (T := TX6) (N := 7) hx hb hts layX6 hown hK hP 0 rfl rfl 5 (by decide) (hts _ (inA q457)) (fun _ h9 => h9) rfl dX6_count_49 ?_
    refine va_getN (D := D) (ci := 4) (v := .int o_parser.2.2.2.2.2.2.2.2.2) (C := RX4) (T := TX4) (N := 12) hx hb hts layX4 hown hK hP 18 rfl rfl 11 (by decide) (nfE12 hE) (fun _ h9 => h9) rfl dX6_count_52 ?_
    cases hM
    exact rt_i hx hb hr hlk hP hD hS rfl dX6_count_55
  replace hM := if_f c2 hM
  by_cases c3 : a1 = 2
  · replace hM := if_t c3 hM
    refine lv_tableIn (tgt := 56) hx hb dX6_count_1 (by rw [c3]; decide) (by rw [c3]; decide) (by rw [c3]; rfl) (by decide) ?_
    refine lv_aload_n hx hb dX6_count_56 rfl (lv_at hl 0 rfl) ?_
    refine va_get (D := D) (ci := 6) (v := .ref (ad 14)) (C := RX6) (T := TX6) (N := 7) hx hb hts layX6 hown hK hP 0 rfl rfl 4 (by decide) (hts _ (inA q456)) (fun _ h9 => h9) rfl dX6_count_57 ?_
    refine va_getN (D := D) (ci := 3) (v := .int o_tree.1) (C := RX3) (T := TX3) (N := 8) hx hb hts layX3 hown hK hP 10 rfl rfl 7 (by decide) (nfE9 hE) (fun _ h9 => h9) rfl dX6_count_60 ?_
    cases hM
    exact rt_i hx hb hr hlk hP hD hS rfl dX6_count_63
  replace hM := if_f c3 hM
  by_cases c4 : a1 = 3
  · replace hM := if_t c4 hM
    refine lv_tableIn (tgt := 64) hx hb dX6_count_1 (by rw [c4]; decide) (by rw [c4]; decide) (by rw [c4]; rfl) (by decide) ?_
    refine lv_aload_n hx hb dX6_count_64 rfl (lv_at hl 0 rfl) ?_
    refine va_get (D := D) (ci := 6) (v := .ref (ad 5)) (C := RX6) (T := TX6) (N := 7) hx hb hts layX6 hown hK hP 0 rfl rfl 2 (by decide) (hts _ (inA q454)) (fun _ h9 => h9) rfl dX6_count_65 ?_
    refine va_getN (D := D) (ci := 1) (v := .int o_names.1) (C := RX1) (T := TX1) (N := 6) hx hb hts layX1 hown hK hP 5 rfl rfl 4 (by decide) (nfE3 hE) (fun _ h9 => h9) rfl dX6_count_68 ?_
    refine lv_bipush (v := 41) hx hb dX6_count_71 (by decide) ?_
    refine lv_isub hx hb dX6_count_73 ?_
    cases hM
    exact rt_i hx hb hr hlk hP hD hS rfl dX6_count_74
  replace hM := if_f c4 hM
  by_cases c5 : a1 = 4
  · replace hM := if_t c5 hM
    refine lv_tableIn (tgt := 75) hx hb dX6_count_1 (by rw [c5]; decide) (by rw [c5]; decide) (by rw [c5]; rfl) (by decide) ?_
    refine lv_aload_n hx hb dX6_count_75 rfl (lv_at hl 0 rfl) ?_
    refine va_get (D := D) (ci := 6) (v := .ref (ad 1)) (C := RX6) (T := TX6) (N := 7) hx hb hts layX6 hown hK hP 0 rfl rfl 0 (by decide) (hts _ (inA q452)) (fun _ h9 => h9) rfl dX6_count_76 ?_
    refine va_getN (D := D) (ci := 0) (v := .int o_text.1) (C := RX0) (T := TX0) (N := 2) hx hb hts layX0 hown hK hP 1 rfl rfl 1 (by decide) (nfE0 hE) (fun _ h9 => h9) rfl dX6_count_79 ?_
    cases hM
    exact rt_i hx hb hr hlk hP hD hS rfl dX6_count_82
  replace hM := if_f c5 hM
  by_cases c6 : a1 = 5
  · replace hM := if_t c6 hM
    refine lv_tableIn (tgt := 83) hx hb dX6_count_1 (by rw [c6]; decide) (by rw [c6]; decide) (by rw [c6]; rfl) (by decide) ?_
    refine lv_aload_n hx hb dX6_count_83 rfl (lv_at hl 0 rfl) ?_
    refine va_get (D := D) (ci := 6) (v := .ref (ad 3)) (C := RX6) (T := TX6) (N := 7) hx hb hts layX6 hown hK hP 0 rfl rfl 1 (by decide) (hts _ (inA q453)) (fun _ h9 => h9) rfl dX6_count_84 ?_
    refine va_getN (D := D) (ci := 0) (v := .int o_written.1) (C := RX0) (T := TX0) (N := 2) hx hb hts layX0 hown hK hP 3 rfl rfl 1 (by decide) (nfE0 hE) (fun _ h9 => h9) rfl dX6_count_87 ?_
    cases hM
    exact rt_i hx hb hr hlk hP hD hS rfl dX6_count_90
  replace hM := if_f c6 hM
  refine lv_tableOut (tgt := 91) hx hb dX6_count_1 (by have := lv_neT c1 (show (0 : Int32).toInt = 0 by decide); have := lv_neT c2 (show (1 : Int32).toInt = 1 by decide); have := lv_neT c3 (show (2 : Int32).toInt = 2 by decide); have := lv_neT c4 (show (3 : Int32).toInt = 3 by decide); have := lv_neT c5 (show (4 : Int32).toInt = 4 by decide); have := lv_neT c6 (show (5 : Int32).toInt = 5 by decide); omega) (by decide) ?_
  refine lv_iconst (v := (-1)) hx hb dX6_count_91 (by decide) ?_
  cases hM
  exact rt_i hx hb hr hlk hP hD hS rfl dX6_count_92

set_option maxHeartbeats 4000000 in
set_option maxRecDepth 100000 in
theorem c_Top_node (l : Launch) (D : va_G) (cI : ClassId) (sd : Nat → Nat) (ad : Nat → Nat) (o_tree : S_Tree) (a1 : Int32) (a2 : Int32) (res : Int32) (hM : f_Top_node o_tree a1 a2 = some res) : Ctr l D cI sd yX6_node (wsM yX6_node cX6_node 3 (Option.some Jvm.ClassFile.FieldType.int)) { frames := 2, cells := 0, slots := 0, locals := 42 } [.ref (ad 0), .int a1, .int a2] (w_Top_this_tree cI ad o_tree) (w_Top_this_tree cI ad o_tree) (some (.int res)) := by
  refine Ctr.of (cc := cX6_node) (maxL := 3) (own := RX6) (by decide +kernel) rfl rfl (Nat.le_of_ble_eq_true rfl) ?_
  intro p e s m below meth c A ls hx hb hr hml hown hts hlk hK hE hA hP hD hS hl
  have hl : lv_has ls 3 [(0, .ref (ad 0)), (1, .int a1), (2, .int a2)] := hl
  unfold f_Top_node at hM
  refine lv_iload_n hx hb dX6_node_0 rfl (lv_at hl 2 rfl) ?_
  by_cases c1 : a2 = 0
  · replace hM := if_t c1 hM
    refine lv_tableIn (tgt := 36) hx hb dX6_node_1 (by rw [c1]; decide) (by rw [c1]; decide) (by rw [c1]; rfl) (by decide) ?_
    refine lv_aload_n hx hb dX6_node_36 rfl (lv_at hl 0 rfl) ?_
    refine va_get (D := D) (ci := 6) (v := .ref (ad 14)) (C := RX6) (T := TX6) (N := 7) hx hb hts layX6 hown hK hP 0 rfl rfl 4 (by decide) (hts _ (inA q456)) (fun _ h9 => h9) rfl dX6_node_37 ?_
    refine lv_iload_n hx hb dX6_node_40 rfl (lv_at hl 1 rfl) ?_
    obtain ⟨r2, hcr2, hM⟩ := ob_use hM
    refine cl_V (As := [.int a1]) (rest := []) (w_Top_this_tree cI ad o_tree) (.int r2 :: []) ⟨hx, hb, hml, hown, hts⟩ (c_Tree_kind l D cI sd ad o_tree a1 r2 hcr2) (cwV2 hts q824 mvX3_kind rfl rfl ⟨(Nat.le_of_ble_eq_true rfl), (Nat.le_of_ble_eq_true rfl)⟩) hK hE hA hP hD hS 1 (T := TX3) (N := 8) (ci := 3) rfl rfl [1, 2, 3, 4, 5, 6, 7, 8] rfl (by decide) rfl rfl rfl rfl rfl rfl hl.1 (Nat.le_of_ble_eq_true rfl) dX6_node_41 ⟨Nat.zero_le _, Nat.zero_le _⟩ (fun H locs hP hD hS => ?_)
    cases hM
    exact rt_i hx hb hr hlk hP hD hS rfl dX6_node_44
  replace hM := if_f c1 hM
  by_cases c3 : a2 = 1
  · replace hM := if_t c3 hM
    refine lv_tableIn (tgt := 45) hx hb dX6_node_1 (by rw [c3]; decide) (by rw [c3]; decide) (by rw [c3]; rfl) (by decide) ?_
    refine lv_aload_n hx hb dX6_node_45 rfl (lv_at hl 0 rfl) ?_
    refine va_get (D := D) (ci := 6) (v := .ref (ad 14)) (C := RX6) (T := TX6) (N := 7) hx hb hts layX6 hown hK hP 0 rfl rfl 4 (by decide) (hts _ (inA q456)) (fun _ h9 => h9) rfl dX6_node_46 ?_
    refine lv_iload_n hx hb dX6_node_49 rfl (lv_at hl 1 rfl) ?_
    obtain ⟨r4, hcr4, hM⟩ := ob_use hM
    refine cl_V (As := [.int a1]) (rest := []) (w_Top_this_tree cI ad o_tree) (.int r4 :: []) ⟨hx, hb, hml, hown, hts⟩ (c_Tree_place l D cI sd ad o_tree a1 r4 hcr4) (cwV2 hts q828 mvX3_place rfl rfl ⟨(Nat.le_of_ble_eq_true rfl), (Nat.le_of_ble_eq_true rfl)⟩) hK hE hA hP hD hS 1 (T := TX3) (N := 8) (ci := 3) rfl rfl [1, 2, 3, 4, 5, 6, 7, 8] rfl (by decide) rfl rfl rfl rfl rfl rfl hl.1 (Nat.le_of_ble_eq_true rfl) dX6_node_50 ⟨Nat.zero_le _, Nat.zero_le _⟩ (fun H locs hP hD hS => ?_)
    cases hM
    exact rt_i hx hb hr hlk hP hD hS rfl dX6_node_53
  replace hM := if_f c3 hM
  by_cases c5 : a2 = 2
  · replace hM := if_t c5 hM
    refine lv_tableIn (tgt := 54) hx hb dX6_node_1 (by rw [c5]; decide) (by rw [c5]; decide) (by rw [c5]; rfl) (by decide) ?_
    refine lv_aload_n hx hb dX6_node_54 rfl (lv_at hl 0 rfl) ?_
    refine va_get (D := D) (ci := 6) (v := .ref (ad 14)) (C := RX6) (T := TX6) (N := 7) hx hb hts layX6 hown hK hP 0 rfl rfl 4 (by decide) (hts _ (inA q456)) (fun _ h9 => h9) rfl dX6_node_55 ?_
    refine lv_iload_n hx hb dX6_node_58 rfl (lv_at hl 1 rfl) ?_
    obtain ⟨r6, hcr6, hM⟩ := ob_use hM
    refine cl_V (As := [.int a1]) (rest := []) (w_Top_this_tree cI ad o_tree) (.int r6 :: []) ⟨hx, hb, hml, hown, hts⟩ (c_Tree_value l D cI sd ad o_tree a1 r6 hcr6) (cwV2 hts q832 mvX3_value rfl rfl ⟨(Nat.le_of_ble_eq_true rfl), (Nat.le_of_ble_eq_true rfl)⟩) hK hE hA hP hD hS 1 (T := TX3) (N := 8) (ci := 3) rfl rfl [1, 2, 3, 4, 5, 6, 7, 8] rfl (by decide) rfl rfl rfl rfl rfl rfl hl.1 (Nat.le_of_ble_eq_true rfl) dX6_node_59 ⟨Nat.zero_le _, Nat.zero_le _⟩ (fun H locs hP hD hS => ?_)
    cases hM
    exact rt_i hx hb hr hlk hP hD hS rfl dX6_node_62
  replace hM := if_f c5 hM
  by_cases c7 : a2 = 3
  · replace hM := if_t c7 hM
    refine lv_tableIn (tgt := 63) hx hb dX6_node_1 (by rw [c7]; decide) (by rw [c7]; decide) (by rw [c7]; rfl) (by decide) ?_
    refine lv_aload_n hx hb dX6_node_63 rfl (lv_at hl 0 rfl) ?_
    refine va_get (D := D) (ci := 6) (v := .ref (ad 14)) (C := RX6) (T := TX6) (N := 7) hx hb hts layX6 hown hK hP 0 rfl rfl 4 (by decide) (hts _ (inA q456)) (fun _ h9 => h9) rfl dX6_node_64 ?_
    refine lv_iload_n hx hb dX6_node_67 rfl (lv_at hl 1 rfl) ?_
    obtain ⟨r8, hcr8, hM⟩ := ob_use hM
    refine cl_V (As := [.int a1]) (rest := []) (w_Top_this_tree cI ad o_tree) (.int r8 :: []) ⟨hx, hb, hml, hown, hts⟩ (c_Tree_parent l D cI sd ad o_tree a1 r8 hcr8) (cwV2 hts q836 mvX3_parent rfl rfl ⟨(Nat.le_of_ble_eq_true rfl), (Nat.le_of_ble_eq_true rfl)⟩) hK hE hA hP hD hS 1 (T := TX3) (N := 8) (ci := 3) rfl rfl [1, 2, 3, 4, 5, 6, 7, 8] rfl (by decide) rfl rfl rfl rfl rfl rfl hl.1 (Nat.le_of_ble_eq_true rfl) dX6_node_68 ⟨Nat.zero_le _, Nat.zero_le _⟩ (fun H locs hP hD hS => ?_)
    cases hM
    exact rt_i hx hb hr hlk hP hD hS rfl dX6_node_71
  replace hM := if_f c7 hM
  by_cases c9 : a2 = 4
  · replace hM := if_t c9 hM
    refine lv_tableIn (tgt := 72) hx hb dX6_node_1 (by rw [c9]; decide) (by rw [c9]; decide) (by rw [c9]; rfl) (by decide) ?_
    refine lv_aload_n hx hb dX6_node_72 rfl (lv_at hl 0 rfl) ?_
    refine va_get (D := D) (ci := 6) (v := .ref (ad 14)) (C := RX6) (T := TX6) (N := 7) hx hb hts layX6 hown hK hP 0 rfl rfl 4 (by decide) (hts _ (inA q456)) (fun _ h9 => h9) rfl dX6_node_73 ?_
    refine lv_iload_n hx hb dX6_node_76 rfl (lv_at hl 1 rfl) ?_
    obtain ⟨r10, hcr10, hM⟩ := ob_use hM
    refine cl_V (As := [.int a1]) (rest := []) (w_Top_this_tree cI ad o_tree) (.int r10 :: []) ⟨hx, hb, hml, hown, hts⟩ (c_Tree_children l D cI sd ad o_tree a1 r10 hcr10) (cwV2 hts q840 mvX3_children rfl rfl ⟨(Nat.le_of_ble_eq_true rfl), (Nat.le_of_ble_eq_true rfl)⟩) hK hE hA hP hD hS 1 (T := TX3) (N := 8) (ci := 3) rfl rfl [1, 2, 3, 4, 5, 6, 7, 8] rfl (by decide) rfl rfl rfl rfl rfl rfl hl.1 (Nat.le_of_ble_eq_true rfl) dX6_node_77 ⟨Nat.zero_le _, Nat.zero_le _⟩ (fun H locs hP hD hS => ?_)
    cases hM
    exact rt_i hx hb hr hlk hP hD hS rfl dX6_node_80
  replace hM := if_f c9 hM
  refine lv_tableOut (tgt := 81) hx hb dX6_node_1 (by have := lv_neT c1 (show (0 : Int32).toInt = 0 by decide); have := lv_neT c3 (show (1 : Int32).toInt = 1 by decide); have := lv_neT c5 (show (2 : Int32).toInt = 2 by decide); have := lv_neT c7 (show (3 : Int32).toInt = 3 by decide); have := lv_neT c9 (show (4 : Int32).toInt = 4 by decide); omega) (by decide) ?_
  refine lv_iconst (v := (-1)) hx hb dX6_node_81 (by decide) ?_
  cases hM
  exact rt_i hx hb hr hlk hP hD hS rfl dX6_node_82

set_option maxHeartbeats 4000000 in
set_option maxRecDepth 100000 in
theorem c_Top_nameByte (l : Launch) (D : va_G) (cI : ClassId) (sd : Nat → Nat) (ad : Nat → Nat) (o_names : S_Names) (a1 : Int32) (a2 : Int32) (res : Int32) (hM : f_Top_nameByte o_names a1 a2 = some res) : Ctr l D cI sd yX6_nameByte (wsM yX6_nameByte cX6_nameByte 3 (Option.some Jvm.ClassFile.FieldType.int)) { frames := 1, cells := 0, slots := 0, locals := 23 } [.ref (ad 0), .int a1, .int a2] (w_Top_this_names cI ad o_names) (w_Top_this_names cI ad o_names) (some (.int res)) := by
  refine Ctr.of (cc := cX6_nameByte) (maxL := 3) (own := RX6) (by decide +kernel) rfl rfl (Nat.le_of_ble_eq_true rfl) ?_
  intro p e s m below meth c A ls hx hb hr hml hown hts hlk hK hE hA hP hD hS hl
  have hl : lv_has ls 3 [(0, .ref (ad 0)), (1, .int a1), (2, .int a2)] := hl
  unfold f_Top_nameByte at hM
  refine lv_iload_n hx hb dX6_nameByte_0 rfl (lv_at hl 1 rfl) ?_
  refine lv_if_lt (tgt := 18) hx hb dX6_nameByte_1 (by decide) (fun c1 => ?_) (fun c1 => ?_)
  · replace hM := if_t c1 hM
    refine lv_iconst (v := (-1)) hx hb dX6_nameByte_18 (by decide) ?_
    cases hM
    exact rt_i hx hb hr hlk hP hD hS rfl dX6_nameByte_19
  · replace hM := if_f c1 hM
    refine lv_iload_n hx hb dX6_nameByte_4 rfl (lv_at hl 1 rfl) ?_
    refine lv_aload_n hx hb dX6_nameByte_5 rfl (lv_at hl 0 rfl) ?_
    refine va_get (D := D) (ci := 6) (v := .ref (ad 5)) (C := RX6) (T := TX6) (N := 7) hx hb hts layX6 hown hK hP 0 rfl rfl 2 (by decide) (hts _ (inA q454)) (fun _ h9 => h9) rfl dX6_nameByte_6 ?_
    refine va_getN (D := D) (ci := 1) (v := .int o_names.1) (C := RX1) (T := TX1) (N := 6) hx hb hts layX1 hown hK hP 1 rfl rfl 4 (by decide) (nfE3 hE) (fun _ h9 => h9) rfl dX6_nameByte_9 ?_
    refine lv_bipush (v := 41) hx hb dX6_nameByte_12 (by decide) ?_
    refine lv_isub hx hb dX6_nameByte_14 ?_
    refine lv_icmp_lt (tgt := 20) hx hb dX6_nameByte_15 (by decide) (fun c2 => ?_) (fun c2 => ?_)
    · replace hM := if_t c2 hM
      refine lv_aload_n hx hb dX6_nameByte_20 rfl (lv_at hl 0 rfl) ?_
      refine va_get (D := D) (ci := 6) (v := .ref (ad 5)) (C := RX6) (T := TX6) (N := 7) hx hb hts layX6 hown hK hP 0 rfl rfl 2 (by decide) (hts _ (inA q454)) (fun _ h9 => h9) rfl dX6_nameByte_21 ?_
      refine lv_bipush (v := 41) hx hb dX6_nameByte_24 (by decide) ?_
      refine lv_iload_n hx hb dX6_nameByte_26 rfl (lv_at hl 1 rfl) ?_
      refine lv_iadd hx hb dX6_nameByte_27 ?_
      refine lv_iload_n hx hb dX6_nameByte_28 rfl (lv_at hl 2 rfl) ?_
      obtain ⟨r3, hcr3, hM⟩ := ob_use hM
      refine cl_V (As := [.int (41 + a1), .int a2]) (rest := []) (w_Top_this_names cI ad o_names) (.int r3 :: []) ⟨hx, hb, hml, hown, hts⟩ (c_Names_letterOf l D cI sd ad o_names (41 + a1) a2 r3 hcr3) (cwV2 hts q848 mvX1_letterOf rfl rfl ⟨(Nat.le_of_ble_eq_true rfl), (Nat.le_of_ble_eq_true rfl)⟩) hK hE hA hP hD hS 1 (T := TX1) (N := 6) (ci := 1) rfl rfl [1, 2, 3, 4, 5] rfl (by decide) rfl rfl rfl rfl rfl rfl hl.1 (Nat.le_of_ble_eq_true rfl) dX6_nameByte_29 ⟨Nat.zero_le _, Nat.zero_le _⟩ (fun H locs hP hD hS => ?_)
      cases hM
      exact rt_i hx hb hr hlk hP hD hS rfl dX6_nameByte_32
    · replace hM := if_f c2 hM
      refine lv_iconst (v := (-1)) hx hb dX6_nameByte_18 (by decide) ?_
      cases hM
      exact rt_i hx hb hr hlk hP hD hS rfl dX6_nameByte_19

set_option maxHeartbeats 4000000 in
set_option maxRecDepth 100000 in
theorem c_Top_write (l : Launch) (D : va_G) (cI : ClassId) (sd : Nat → Nat) (ad : Nat → Nat) (o_written : S_Bytes) (o_names : S_Names) (o_tree : S_Tree) (res : Int32 × S_Bytes) (hM : f_Top_write o_written o_names o_tree = some res) : Ctr l D cI sd yX6_write (wsM yX6_write cX6_write 1 (Option.some Jvm.ClassFile.FieldType.int)) { frames := 7, cells := 0, slots := 0, locals := 153 } [.ref (ad 0)] (w_Top_this_written_names_tree_writer cI ad o_written o_names o_tree) (w_Top_this_written_names_tree_writer cI ad res.2 o_names o_tree) (some (.int res.1)) := by
  refine Ctr.of (cc := cX6_write) (maxL := 1) (own := RX6) (by decide +kernel) rfl rfl (Nat.le_of_ble_eq_true rfl) ?_
  intro p e s m below meth c A ls hx hb hr hml hown hts hlk hK hE hA hP hD hS hl
  have hl : lv_has ls 1 [(0, .ref (ad 0))] := hl
  unfold f_Top_write at hM
  refine lv_aload_n hx hb dX6_write_0 rfl (lv_at hl 0 rfl) ?_
  refine va_get (D := D) (ci := 6) (v := .ref (ad 14)) (C := RX6) (T := TX6) (N := 7) hx hb hts layX6 hown hK hP 0 rfl rfl 4 (by decide) (hts _ (inA q456)) (fun _ h9 => h9) rfl dX6_write_1 ?_
  refine va_getN (D := D) (ci := 3) (v := .int o_tree.1) (C := RX3) (T := TX3) (N := 8) hx hb hts layX3 hown hK hP 8 rfl rfl 7 (by decide) (nfE9 hE) (fun _ h9 => h9) rfl dX6_write_4 ?_
  refine lv_if_ne (tgt := 12) hx hb dX6_write_7 (by decide) (fun c1 => ?_) (fun c1 => ?_)
  · replace hM := if_f c1 hM
    refine lv_aload_n hx hb dX6_write_12 rfl (lv_at hl 0 rfl) ?_
    refine va_get (D := D) (ci := 6) (v := .ref (ad 23)) (C := RX6) (T := TX6) (N := 7) hx hb hts layX6 hown hK hP 0 rfl rfl 6 (by decide) (hts _ (inA q458)) (fun _ h9 => h9) rfl dX6_write_13 ?_
    obtain ⟨r2, hcr2, hM⟩ := ob_use hM
    refine cl_V (As := []) (rest := []) (w_Top_this_written_names_tree_writer cI ad r2 o_names o_tree) [] ⟨hx, hb, hml, hown, hts⟩ (c_Writer_writeTree l D cI sd ad o_tree o_names o_written r2 hcr2) (cwV2 hts q856 mvX5_writeTree rfl rfl ⟨(Nat.le_of_ble_eq_true rfl), (Nat.le_of_ble_eq_true rfl)⟩) hK hE hA hP hD hS 16 (T := TX5) (N := 3) (ci := 5) rfl rfl [16, 8, 9, 10, 11, 12, 13, 14, 15, 3, 4, 5, 6, 7, 1, 2] rfl (by decide) rfl rfl rfl rfl rfl rfl hl.1 (Nat.le_of_ble_eq_true rfl) dX6_write_16 ⟨Nat.zero_le _, Nat.zero_le _⟩ (fun H locs hP hD hS => ?_)
    refine lv_aload_n hx hb dX6_write_19 rfl (lv_at hl 0 rfl) ?_
    refine va_get (D := D) (ci := 6) (v := .ref (ad 3)) (C := RX6) (T := TX6) (N := 7) hx hb hts layX6 hown hK hP 0 rfl rfl 1 (by decide) (hts _ (inA q453)) (fun _ h9 => h9) rfl dX6_write_20 ?_
    refine va_getN (D := D) (ci := 0) (v := .int r2.1) (C := RX0) (T := TX0) (N := 2) hx hb hts layX0 hown hK hP 1 rfl rfl 1 (by decide) (nfE0 hE) (fun _ h9 => h9) rfl dX6_write_23 ?_
    cases hM
    exact rt_i hx hb hr hlk hP hD hS rfl dX6_write_26
  · replace hM := if_t c1 hM
    refine lv_iconst (v := (-1)) hx hb dX6_write_10 (by decide) ?_
    cases hM
    exact rt_i hx hb hr hlk hP hD hS rfl dX6_write_11

set_option maxHeartbeats 4000000 in
set_option maxRecDepth 100000 in
theorem c_Top_byteAt (l : Launch) (D : va_G) (cI : ClassId) (sd : Nat → Nat) (ad : Nat → Nat) (o_written : S_Bytes) (a1 : Int32) (res : Int32) (hM : f_Top_byteAt o_written a1 = some res) : Ctr l D cI sd yX6_byteAt (wsM yX6_byteAt cX6_byteAt 2 (Option.some Jvm.ClassFile.FieldType.int)) { frames := 1, cells := 0, slots := 0, locals := 21 } [.ref (ad 0), .int a1] (w_Top_this_written cI ad o_written) (w_Top_this_written cI ad o_written) (some (.int res)) := by
  refine Ctr.of (cc := cX6_byteAt) (maxL := 2) (own := RX6) (by decide +kernel) rfl rfl (Nat.le_of_ble_eq_true rfl) ?_
  intro p e s m below meth c A ls hx hb hr hml hown hts hlk hK hE hA hP hD hS hl
  have hl : lv_has ls 2 [(0, .ref (ad 0)), (1, .int a1)] := hl
  unfold f_Top_byteAt at hM
  refine lv_aload_n hx hb dX6_byteAt_0 rfl (lv_at hl 0 rfl) ?_
  refine va_get (D := D) (ci := 6) (v := .ref (ad 3)) (C := RX6) (T := TX6) (N := 7) hx hb hts layX6 hown hK hP 0 rfl rfl 1 (by decide) (hts _ (inA q453)) (fun _ h9 => h9) rfl dX6_byteAt_1 ?_
  refine lv_iload_n hx hb dX6_byteAt_4 rfl (lv_at hl 1 rfl) ?_
  obtain ⟨r1, hcr1, hM⟩ := ob_use hM
  refine cl_V (As := [.int a1]) (rest := []) (w_Top_this_written cI ad o_written) (.int r1 :: []) ⟨hx, hb, hml, hown, hts⟩ (c_Bytes_get l D cI sd (ad 3) (ad 4) 16384 o_written a1 r1 hcr1) (cwV2 hts q967 mvX0_get rfl rfl ⟨(Nat.le_of_ble_eq_true rfl), (Nat.le_of_ble_eq_true rfl)⟩) hK hE hA hP hD hS 1 (T := TX0) (N := 2) (ci := 0) rfl rfl [1, 2] rfl (by decide) rfl rfl rfl rfl rfl rfl hl.1 (Nat.le_of_ble_eq_true rfl) dX6_byteAt_5 ⟨Nat.zero_le _, Nat.zero_le _⟩ (fun H locs hP hD hS => ?_)
  cases hM
  exact rt_i hx hb hr hlk hP hD hS rfl dX6_byteAt_8
