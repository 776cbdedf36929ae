set_option maxHeartbeats 4000000 in
set_option maxRecDepth 100000 in
theorem c_Model_nameOf (l : Launch) (D : va_G) (cI : ClassId) (sd : Nat → Nat) (ad : Nat → Nat) (o_C : S_MC) (o_L : S_ML) (o_T : S_MT) (o_U : S_MU) (o_O : S_MO) (o_E : S_ME) (o_Q : S_MQ) (o_V : S_MV) (o_I : S_MI) (o_X : S_MX) (o_N : S_MN) (a1 : Int32) (a2 : Int32) (res : Int32 × S_MN) (hM : f_Model_nameOf o_X o_N a1 a2 = some res) : Ctr l D cI sd yX8_nameOf (wsM yX8_nameOf cX8_nameOf 6 (Option.some Jvm.ClassFile.FieldType.int)) { frames := 1, cells := 0, slots := 0, locals := 20 } [.ref (ad 100), .int a1, .int a2] (wM_XN cI ad o_X o_L o_N o_T o_U o_O o_E o_Q o_V o_I) (wM_XN cI ad o_X o_L res.2 o_T o_U o_O o_E o_Q o_V o_I) (some (.int res.1)) := by
  refine Ctr.of (cc := cX8_nameOf) (maxL := 6) (own := RX8) (by decide +kernel) rfl rfl (Nat.le_of_ble_eq_true rfl) ?_
  intro p e s m below meth c A ls hx hb hr hml hown hts hlk hK hE hA hP hD hS hl
  have hl : lv_has ls 6 [(0, .ref (ad 100)), (1, .int a1), (2, .int a2)] := hl
  unfold f_Model_nameOf at hM
  refine lv_iconst (v := 0) hx hb dX8_nameOf_0 (by decide) ?_
  refine lv_istore_n (lv' := [(3, .int 0), (0, .ref (ad 100)), (1, .int a1), (2, .int a2)]) hx hb dX8_nameOf_1 rfl hl (by decide) rfl (fun ls hl => ?_)
  have lp_L2 : ∀ (w1_L2 : Int32) (w2_L2 : Int32) (n : Nat) (v3_L2 : Int32) (H : Heap) (locs : List Loc) (ls : Array Slot), f_Model_nameOf_L2 o_X o_N w1_L2 w2_L2 n v3_L2 = some res → va_P D vwCl (wM_XN cI ad o_X o_L o_N o_T o_U o_O o_E o_Q o_V o_I) H → va_D A (wM_XN cI ad o_X o_L o_N o_T o_U o_O o_E o_Q o_V o_I) → va_S A s.heap H locs → lv_has ls 6 [(3, .int v3_L2), (0, .ref (ad 100)), (1, .int w1_L2), (2, .int w2_L2)] → W p l e { frames := 1, cells := 0, slots := 0, locals := 20 } s m [.ref (ad 100), .int a1, .int a2].toArray below meth c H locs 0 0 (MQ below (CQ D A (wM_XN cI ad o_X o_L res.2 o_T o_U o_O o_E o_Q o_V o_I) (some (.int res.1))) [.ref (ad 100), .int a1, .int a2].toArray s 0 0 A) (F0 m 2 ls []) := by
    intro w1_L2 w2_L2 n
    induction n with
    | zero => intro v3_L2 H locs ls hM; exact absurd (show none = some _ from hM) (by simp)
    | succ n ih_L2 =>
      intro v3_L2 H locs ls hM hP hD hS hl
      rw [f_Model_nameOf_L2] at hM
      refine lv_iload_n hx hb dX8_nameOf_2 rfl (lv_at hl 0 rfl) ?_
      refine lv_aload_n hx hb dX8_nameOf_3 rfl (lv_at hl 1 rfl) ?_
      refine va_get (D := D) (ci := 8) (v := .int o_N.1) (C := RX8) (T := TX8) (N := 48) hx hb hts layX8 hown hK hP 0 rfl rfl 13 (by decide) (hts _ (inA q991)) (fun _ h9 => h9) rfl dX8_nameOf_4 ?_
      refine lv_icmp_ge (tgt := 105) hx hb dX8_nameOf_7 (by decide) (fun c1121 => ?_) (fun c1121 => ?_)
      · replace hM := if_t c1121 hM
        refine lv_iconst (v := 0) hx hb dX8_nameOf_105 (by decide) ?_
        refine lv_istore_n (lv' := [(3, .int 0), (0, .ref (ad 100)), (1, .int w1_L2), (2, .int w2_L2)]) hx hb dX8_nameOf_106 rfl hl (by decide) rfl (fun ls hl => ?_)
        have lp_L107 : ∀ (w1_L107 : Int32) (w2_L107 : Int32) (o_X_L107 : S_MX) (n : Nat) (v3_L107 : Int32) (o_N_L107 : S_MN) (out_L107 : S_MN) (H : Heap) (locs : List Loc) (ls : Array Slot), f_Model_nameOf_L107 w1_L107 w2_L107 o_X_L107 n v3_L107 o_N_L107 = some out_L107 → va_P D vwCl (wM_XN cI ad o_X_L107 o_L o_N_L107 o_T o_U o_O o_E o_Q o_V o_I) H → va_D A (wM_XN cI ad o_X_L107 o_L o_N_L107 o_T o_U o_O o_E o_Q o_V o_I) → va_S A s.heap H locs → lv_has ls 6 [(3, .int v3_L107), (0, .ref (ad 100)), (1, .int w1_L107), (2, .int w2_L107)] → (∀ (H : Heap) (locs : List Loc) (ls : Array Slot), va_P D vwCl (wM_XN cI ad o_X_L107 o_L out_L107 o_T o_U o_O o_E o_Q o_V o_I) H → va_D A (wM_XN cI ad o_X_L107 o_L out_L107 o_T o_U o_O o_E o_Q o_V o_I) → va_S A s.heap H locs → lv_has ls 6 [(0, .ref (ad 100)), (1, .int w1_L107), (2, .int w2_L107)] → W p l e { frames := 1, cells := 0, slots := 0, locals := 20 } s m [.ref (ad 100), .int a1, .int a2].toArray below meth c H locs 0 0 (MQ below (CQ D A (wM_XN cI ad o_X o_L res.2 o_T o_U o_O o_E o_Q o_V o_I) (some (.int res.1))) [.ref (ad 100), .int a1, .int a2].toArray s 0 0 A) (F0 m 145 ls [])) → W p l e { frames := 1, cells := 0, slots := 0, locals := 20 } s m [.ref (ad 100), .int a1, .int a2].toArray below meth c H locs 0 0 (MQ below (CQ D A (wM_XN cI ad o_X o_L res.2 o_T o_U o_O o_E o_Q o_V o_I) (some (.int res.1))) [.ref (ad 100), .int a1, .int a2].toArray s 0 0 A) (F0 m 107 ls []) := by
          intro w1_L107 w2_L107 o_X_L107 n
          induction n with
          | zero => intro v3_L107 o_N_L107 out_L107 H locs ls hM; exact absurd (show none = some _ from hM) (by simp)
          | succ n ih_L107 =>
            intro v3_L107 o_N_L107 out_L107 H locs ls hM hP hD hS hl kx_L107
            rw [f_Model_nameOf_L107] at hM
            refine lv_iload_n hx hb dX8_nameOf_107 rfl (lv_at hl 0 rfl) ?_
            refine lv_iload_n hx hb dX8_nameOf_108 rfl (lv_at hl 3 rfl) ?_
            refine lv_icmp_ge (tgt := 145) hx hb dX8_nameOf_109 (by decide) (fun c2271 => ?_) (fun c2271 => ?_)
            · replace hM := if_t c2271 hM
              cases hM
              exact kx_L107 _ _ _ hP hD hS (lv_sub hl [1, 2, 3] rfl)
            · replace hM := if_f c2271 hM
              refine lv_aload_n hx hb dX8_nameOf_112 rfl (lv_at hl 1 rfl) ?_
              refine va_get (D := D) (ci := 8) (v := .ref (ad 107)) (C := RX8) (T := TX8) (N := 48) hx hb hts layX8 hown hK hP 0 rfl rfl 15 (by decide) (hts _ (inA q993)) (fun _ h9 => h9) rfl dX8_nameOf_113 ?_
              refine lv_aload_n hx hb dX8_nameOf_116 rfl (lv_at hl 1 rfl) ?_
              refine va_get (D := D) (ci := 8) (v := .ref (ad 106)) (C := RX8) (T := TX8) (N := 48) hx hb hts layX8 hown hK hP 0 rfl rfl 14 (by decide) (hts _ (inA q992)) (fun _ h9 => h9) rfl dX8_nameOf_117 ?_
              refine lv_aload_n hx hb dX8_nameOf_120 rfl (lv_at hl 1 rfl) ?_
              refine va_get (D := D) (ci := 8) (v := .int o_N_L107.1) (C := RX8) (T := TX8) (N := 48) hx hb hts layX8 hown hK hP 0 rfl rfl 13 (by decide) (hts _ (inA q991)) (fun _ h9 => h9) rfl dX8_nameOf_121 ?_
              obtain ⟨b2272, hM⟩ := gd_use hM
              refine va_iald hx hb hK hP 2 0 rfl rfl b2272 dX8_nameOf_124 ?_
              refine lv_iload_n hx hb dX8_nameOf_125 rfl (lv_at hl 0 rfl) ?_
              refine lv_iadd hx hb dX8_nameOf_126 ?_
              refine lv_aload_n hx hb dX8_nameOf_127 rfl (lv_at hl 1 rfl) ?_
              refine va_get (D := D) (ci := 8) (v := .ref (ad 105)) (C := RX8) (T := TX8) (N := 48) hx hb hts layX8 hown hK hP 0 rfl rfl 5 (by decide) (hts _ (inA q983)) (fun _ h9 => h9) rfl dX8_nameOf_128 ?_
              refine lv_iload_n hx hb dX8_nameOf_131 rfl (lv_at hl 2 rfl) ?_
              refine lv_iload_n hx hb dX8_nameOf_132 rfl (lv_at hl 0 rfl) ?_
              refine lv_iadd hx hb dX8_nameOf_133 ?_
              obtain ⟨b2273, hM⟩ := gd_use hM
              refine va_iald hx hb hK hP 1 0 rfl rfl b2273 dX8_nameOf_134 ?_
              obtain ⟨r2274, hcr2274, hM⟩ := ob_use hM
              refine cl_S (As := [.int (o_X_L107.2 (w1_L107 + v3_L107).toNatClampNeg)]) (rest := [.int ((o_N_L107.2.1 o_N_L107.1.toNatClampNeg) + v3_L107), .ref (ad 107)]) (wM_XN cI ad o_X_L107 o_L o_N_L107 o_T o_U o_O o_E o_Q o_V o_I) (.int r2274 :: [.int ((o_N_L107.2.1 o_N_L107.1.toNatClampNeg) + v3_L107), .ref (ad 107)]) ⟨hx, hb, hml, hown, hts⟩ (c_Model_great l D cI sd ad (o_X_L107.2 (w1_L107 + v3_L107).toNatClampNeg) r2274 hcr2274) (cwS2 hts q1178 mvX8_great rfl rfl ⟨(Nat.le_of_ble_eq_true rfl), (Nat.le_of_ble_eq_true rfl)⟩) hK hE hA hP hD hS [] rfl (by decide) rfl rfl rfl rfl rfl rfl hl.1 (Nat.le_of_ble_eq_true rfl) dX8_nameOf_135 ⟨Nat.zero_le _, Nat.zero_le _⟩ (fun H locs hP hD hS => ?_)
              obtain ⟨b2275, hM⟩ := gd_use hM
              refine va_iast hx hb hK hP hD hS 3 0 rfl rfl b2275 dX8_nameOf_138 (fun H locs hP hD hS => ?_)
              have hP : va_P D vwCl (wM_XN cI ad o_X_L107 o_L (o_N_L107.1, o_N_L107.2.1, upd o_N_L107.2.2 ((o_N_L107.2.1 o_N_L107.1.toNatClampNeg) + v3_L107).toNatClampNeg r2274) o_T o_U o_O o_E o_Q o_V o_I) H := hP
              have hD : va_D A (wM_XN cI ad o_X_L107 o_L (o_N_L107.1, o_N_L107.2.1, upd o_N_L107.2.2 ((o_N_L107.2.1 o_N_L107.1.toNatClampNeg) + v3_L107).toNatClampNeg r2274) o_T o_U o_O o_E o_Q o_V o_I) := hD
              obtain ⟨x2276, ex2276⟩ : ∃ y : Int32, y = v3_L107 + 1 := ⟨_, rfl⟩
              replace hM := nm_use ex2276 hM
              refine lv_iinc (v := x2276) (lv' := [(3, .int x2276), (0, .ref (ad 100)), (1, .int w1_L107), (2, .int w2_L107)]) hx hb dX8_nameOf_139 hl (k := 0) rfl (by rw [ex2276]; rfl) (by decide) rfl (fun ls hl => ?_)
              refine lv_goto (tgt := 107) hx hb dX8_nameOf_142 (by decide) ?_
              exact ih_L107 x2276 (o_N_L107.1, o_N_L107.2.1, upd o_N_L107.2.2 ((o_N_L107.2.1 o_N_L107.1.toNatClampNeg) + v3_L107).toNatClampNeg r2274) out_L107 _ _ _ hM hP hD hS (lv_sub hl [0, 1, 2, 3] rfl) kx_L107
        obtain ⟨r1122, hcr1122, hM⟩ := ob_use hM
        refine lp_L107 w1_L2 w2_L2 o_X FU 0 o_N r1122 _ _ _ hcr1122 hP hD hS (lv_sub hl [0, 1, 2, 3] rfl) (fun H locs ls hP hD hS hl => ?_)
        refine lv_aload_n hx hb dX8_nameOf_145 rfl (lv_at hl 0 rfl) ?_
        refine va_get (D := D) (ci := 8) (v := .ref (ad 106)) (C := RX8) (T := TX8) (N := 48) hx hb hts layX8 hown hK hP 0 rfl rfl 14 (by decide) (hts _ (inA q992)) (fun _ h9 => h9) rfl dX8_nameOf_146 ?_
        refine lv_aload_n hx hb dX8_nameOf_149 rfl (lv_at hl 0 rfl) ?_
        refine va_get (D := D) (ci := 8) (v := .int r1122.1) (C := RX8) (T := TX8) (N := 48) hx hb hts layX8 hown hK hP 0 rfl rfl 13 (by decide) (hts _ (inA q991)) (fun _ h9 => h9) rfl dX8_nameOf_150 ?_
        refine lv_iconst (v := 1) hx hb dX8_nameOf_153 (by decide) ?_
        refine lv_iadd hx hb dX8_nameOf_154 ?_
        refine lv_aload_n hx hb dX8_nameOf_155 rfl (lv_at hl 0 rfl) ?_
        refine va_get (D := D) (ci := 8) (v := .ref (ad 106)) (C := RX8) (T := TX8) (N := 48) hx hb hts layX8 hown hK hP 0 rfl rfl 14 (by decide) (hts _ (inA q992)) (fun _ h9 => h9) rfl dX8_nameOf_156 ?_
        refine lv_aload_n hx hb dX8_nameOf_159 rfl (lv_at hl 0 rfl) ?_
        refine va_get (D := D) (ci := 8) (v := .int r1122.1) (C := RX8) (T := TX8) (N := 48) hx hb hts layX8 hown hK hP 0 rfl rfl 13 (by decide) (hts _ (inA q991)) (fun _ h9 => h9) rfl dX8_nameOf_160 ?_
        obtain ⟨b1123, hM⟩ := gd_use hM
        refine va_iald hx hb hK hP 2 0 rfl rfl b1123 dX8_nameOf_163 ?_
        refine lv_iload_n hx hb dX8_nameOf_164 rfl (lv_at hl 2 rfl) ?_
        refine lv_iadd hx hb dX8_nameOf_165 ?_
        refine lv_topi (fun x1125 ex1125 => ?_)
        replace hM := nm_use ex1125 hM
        obtain ⟨b1124, hM⟩ := gd_use hM
        refine va_iast hx hb hK hP hD hS 2 0 rfl rfl b1124 dX8_nameOf_166 (fun H locs hP hD hS => ?_)
        have hP : va_P D vwCl (wM_XN cI ad o_X o_L (r1122.1, upd r1122.2.1 (r1122.1 + 1).toNatClampNeg x1125, r1122.2.2) o_T o_U o_O o_E o_Q o_V o_I) H := hP
        have hD : va_D A (wM_XN cI ad o_X o_L (r1122.1, upd r1122.2.1 (r1122.1 + 1).toNatClampNeg x1125, r1122.2.2) o_T o_U o_O o_E o_Q o_V o_I) := hD
        refine lv_aload_n hx hb dX8_nameOf_167 rfl (lv_at hl 0 rfl) ?_
        refine lv_dup hx hb dX8_nameOf_168 rfl ?_
        refine va_get (D := D) (ci := 8) (v := .int r1122.1) (C := RX8) (T := TX8) (N := 48) hx hb hts layX8 hown hK hP 0 rfl rfl 13 (by decide) (hts _ (inA q991)) (fun _ h9 => h9) rfl dX8_nameOf_169 ?_
        refine lv_iconst (v := 1) hx hb dX8_nameOf_172 (by decide) ?_
        refine lv_iadd hx hb dX8_nameOf_173 ?_
        refine va_put (D := D) (ci := 8) (v := .int (r1122.1 + 1)) (ty := .int) (C := RX8) (T := TX8) (N := 48) hx hb hts layX8 tyX8 tyX8_ok nmX8 hown hK hP hD hS 0 rfl rfl 13 (by decide) (hts _ (inA q991)) (fun _ h9 => h9) rfl (by decide +kernel) rfl rfl (Nat.le_of_ble_eq_true rfl) dX8_nameOf_174 (fun H locs hP hD hS => ?_)
        have hP : va_P D vwCl (wM_XN cI ad o_X o_L (r1122.1 + 1, upd r1122.2.1 (r1122.1 + 1).toNatClampNeg x1125, r1122.2.2) o_T o_U o_O o_E o_Q o_V o_I) H := hP
        have hD : va_D A (wM_XN cI ad o_X o_L (r1122.1 + 1, upd r1122.2.1 (r1122.1 + 1).toNatClampNeg x1125, r1122.2.2) o_T o_U o_O o_E o_Q o_V o_I) := hD
        refine lv_aload_n hx hb dX8_nameOf_177 rfl (lv_at hl 0 rfl) ?_
        refine va_get (D := D) (ci := 8) (v := .int (r1122.1 + 1)) (C := RX8) (T := TX8) (N := 48) hx hb hts layX8 hown hK hP 0 rfl rfl 13 (by decide) (hts _ (inA q991)) (fun _ h9 => h9) rfl dX8_nameOf_178 ?_
        refine lv_iconst (v := 1) hx hb dX8_nameOf_181 (by decide) ?_
        refine lv_isub hx hb dX8_nameOf_182 ?_
        cases hM
        exact rt_i hx hb hr hlk hP hD hS rfl dX8_nameOf_183
      · replace hM := if_f c1121 hM
        refine lv_aload_n hx hb dX8_nameOf_10 rfl (lv_at hl 1 rfl) ?_
        refine va_get (D := D) (ci := 8) (v := .ref (ad 106)) (C := RX8) (T := TX8) (N := 48) hx hb hts layX8 hown hK hP 0 rfl rfl 14 (by decide) (hts _ (inA q992)) (fun _ h9 => h9) rfl dX8_nameOf_11 ?_
        refine lv_iload_n hx hb dX8_nameOf_14 rfl (lv_at hl 0 rfl) ?_
        refine lv_iconst (v := 1) hx hb dX8_nameOf_15 (by decide) ?_
        refine lv_iadd hx hb dX8_nameOf_16 ?_
        obtain ⟨b1126, hM⟩ := gd_use hM
        refine va_iald hx hb hK hP 2 0 rfl rfl b1126 dX8_nameOf_17 ?_
        refine lv_aload_n hx hb dX8_nameOf_18 rfl (lv_at hl 1 rfl) ?_
        refine va_get (D := D) (ci := 8) (v := .ref (ad 106)) (C := RX8) (T := TX8) (N := 48) hx hb hts layX8 hown hK hP 0 rfl rfl 14 (by decide) (hts _ (inA q992)) (fun _ h9 => h9) rfl dX8_nameOf_19 ?_
        refine lv_iload_n hx hb dX8_nameOf_22 rfl (lv_at hl 0 rfl) ?_
        obtain ⟨b1127, hM⟩ := gd_use hM
        refine va_iald hx hb hK hP 2 0 rfl rfl b1127 dX8_nameOf_23 ?_
        refine lv_isub hx hb dX8_nameOf_24 ?_
        refine lv_iload_n hx hb dX8_nameOf_25 rfl (lv_at hl 3 rfl) ?_
        refine lv_icmp_ne (tgt := 33) hx hb dX8_nameOf_26 (by decide) (fun c1128 => ?_) (fun c1128 => ?_)
        · replace hM := if_f c1128 hM
          refine lv_iconst (v := 0) hx hb dX8_nameOf_33 (by decide) ?_
          refine lv_istore (lv' := [(4, .int 0), (3, .int v3_L2), (0, .ref (ad 100)), (1, .int w1_L2), (2, .int w2_L2)]) hx hb dX8_nameOf_34 hl (by decide) rfl (fun ls hl => ?_)
          refine lv_iconst (v := 0) hx hb dX8_nameOf_36 (by decide) ?_
          refine lv_istore (lv' := [(5, .int 0), (4, .int 0), (3, .int v3_L2), (0, .ref (ad 100)), (1, .int w1_L2), (2, .int w2_L2)]) hx hb dX8_nameOf_37 hl (by decide) rfl (fun ls hl => ?_)
          have lp_L39 : ∀ (w3_L39 : Int32) (w1_L39 : Int32) (w2_L39 : Int32) (o_X_L39 : S_MX) (o_N_L39 : S_MN) (n : Nat) (v5_L39 : Int32) (v4_L39 : Int32) (out_L39 : Int32) (H : Heap) (locs : List Loc) (ls : Array Slot), f_Model_nameOf_L39 w3_L39 w1_L39 w2_L39 o_X_L39 o_N_L39 n v5_L39 v4_L39 = some out_L39 → va_P D vwCl (wM_XN cI ad o_X_L39 o_L o_N_L39 o_T o_U o_O o_E o_Q o_V o_I) H → va_D A (wM_XN cI ad o_X_L39 o_L o_N_L39 o_T o_U o_O o_E o_Q o_V o_I) → va_S A s.heap H locs → lv_has ls 6 [(5, .int v5_L39), (4, .int v4_L39), (3, .int w3_L39), (0, .ref (ad 100)), (1, .int w1_L39), (2, .int w2_L39)] → (∀ (H : Heap) (locs : List Loc) (ls : Array Slot), va_P D vwCl (wM_XN cI ad o_X_L39 o_L o_N_L39 o_T o_U o_O o_E o_Q o_V o_I) H → va_D A (wM_XN cI ad o_X_L39 o_L o_N_L39 o_T o_U o_O o_E o_Q o_V o_I) → va_S A s.heap H locs → lv_has ls 6 [(4, .int out_L39), (3, .int w3_L39), (0, .ref (ad 100)), (1, .int w1_L39), (2, .int w2_L39)] → W p l e { frames := 1, cells := 0, slots := 0, locals := 20 } s m [.ref (ad 100), .int a1, .int a2].toArray below meth c H locs 0 0 (MQ below (CQ D A (wM_XN cI ad o_X o_L res.2 o_T o_U o_O o_E o_Q o_V o_I) (some (.int res.1))) [.ref (ad 100), .int a1, .int a2].toArray s 0 0 A) (F0 m 92 ls [])) → W p l e { frames := 1, cells := 0, slots := 0, locals := 20 } s m [.ref (ad 100), .int a1, .int a2].toArray below meth c H locs 0 0 (MQ below (CQ D A (wM_XN cI ad o_X o_L res.2 o_T o_U o_O o_E o_Q o_V o_I) (some (.int res.1))) [.ref (ad 100), .int a1, .int a2].toArray s 0 0 A) (F0 m 39 ls []) := by
            intro w3_L39 w1_L39 w2_L39 o_X_L39 o_N_L39 n
            induction n with
            | zero => intro v5_L39 v4_L39 out_L39 H locs ls hM; exact absurd (show none = some _ from hM) (by simp)
            | succ n ih_L39 =>
              intro v5_L39 v4_L39 out_L39 H locs ls hM hP hD hS hl kx_L39
              rw [f_Model_nameOf_L39] at hM
              refine lv_iload hx hb dX8_nameOf_39 (lv_at hl 0 rfl) ?_
              refine lv_iload_n hx hb dX8_nameOf_41 rfl (lv_at hl 5 rfl) ?_
              refine lv_icmp_ge (tgt := 92) hx hb dX8_nameOf_42 (by decide) (fun c1591 => ?_) (fun c1591 => ?_)
              · replace hM := if_t c1591 hM
                cases hM
                exact kx_L39 _ _ _ hP hD hS (lv_sub hl [1, 2, 3, 4, 5] rfl)
              · replace hM := if_f c1591 hM
                refine lv_iload hx hb dX8_nameOf_45 (lv_at hl 1 rfl) ?_
                refine lv_if_eq (tgt := 92) hx hb dX8_nameOf_47 (by decide) (fun c1592 => ?_) (fun c1592 => ?_)
                · replace hM := if_t c1592 hM
                  cases hM
                  exact kx_L39 _ _ _ hP hD hS (lv_sub hl [1, 2, 3, 4, 5] rfl)
                · replace hM := if_f c1592 hM
                  refine lv_aload_n hx hb dX8_nameOf_50 rfl (lv_at hl 3 rfl) ?_
                  refine va_get (D := D) (ci := 8) (v := .ref (ad 107)) (C := RX8) (T := TX8) (N := 48) hx hb hts layX8 hown hK hP 0 rfl rfl 15 (by decide) (hts _ (inA q993)) (fun _ h9 => h9) rfl dX8_nameOf_51 ?_
                  refine lv_aload_n hx hb dX8_nameOf_54 rfl (lv_at hl 3 rfl) ?_
                  refine va_get (D := D) (ci := 8) (v := .ref (ad 106)) (C := RX8) (T := TX8) (N := 48) hx hb hts layX8 hown hK hP 0 rfl rfl 14 (by decide) (hts _ (inA q992)) (fun _ h9 => h9) rfl dX8_nameOf_55 ?_
                  refine lv_iload_n hx hb dX8_nameOf_58 rfl (lv_at hl 2 rfl) ?_
                  obtain ⟨b1593, hM⟩ := gd_use hM
                  refine va_iald hx hb hK hP 2 0 rfl rfl b1593 dX8_nameOf_59 ?_
                  refine lv_iload hx hb dX8_nameOf_60 (lv_at hl 0 rfl) ?_
                  refine lv_iadd hx hb dX8_nameOf_62 ?_
                  obtain ⟨b1594, hM⟩ := gd_use hM
                  refine va_iald hx hb hK hP 3 0 rfl rfl b1594 dX8_nameOf_63 ?_
                  refine lv_aload_n hx hb dX8_nameOf_64 rfl (lv_at hl 3 rfl) ?_
                  refine va_get (D := D) (ci := 8) (v := .ref (ad 105)) (C := RX8) (T := TX8) (N := 48) hx hb hts layX8 hown hK hP 0 rfl rfl 5 (by decide) (hts _ (inA q983)) (fun _ h9 => h9) rfl dX8_nameOf_65 ?_
                  refine lv_iload_n hx hb dX8_nameOf_68 rfl (lv_at hl 4 rfl) ?_
                  refine lv_iload hx hb dX8_nameOf_69 (lv_at hl 0 rfl) ?_
                  refine lv_iadd hx hb dX8_nameOf_71 ?_
                  obtain ⟨b1595, hM⟩ := gd_use hM
                  refine va_iald hx hb hK hP 1 0 rfl rfl b1595 dX8_nameOf_72 ?_
                  obtain ⟨r1596, hcr1596, hM⟩ := ob_use hM
                  refine cl_S (As := [.int (o_X_L39.2 (w1_L39 + v5_L39).toNatClampNeg)]) (rest := [.int (o_N_L39.2.2 ((o_N_L39.2.1 w3_L39.toNatClampNeg) + v5_L39).toNatClampNeg)]) (wM_XN cI ad o_X_L39 o_L o_N_L39 o_T o_U o_O o_E o_Q o_V o_I) (.int r1596 :: [.int (o_N_L39.2.2 ((o_N_L39.2.1 w3_L39.toNatClampNeg) + v5_L39).toNatClampNeg)]) ⟨hx, hb, hml, hown, hts⟩ (c_Model_great l D cI sd ad (o_X_L39.2 (w1_L39 + v5_L39).toNatClampNeg) r1596 hcr1596) (cwS2 hts q1178 mvX8_great rfl rfl ⟨(Nat.le_of_ble_eq_true rfl), (Nat.le_of_ble_eq_true rfl)⟩) hK hE hA hP hD hS [] rfl (by decide) rfl rfl rfl rfl rfl rfl hl.1 (Nat.le_of_ble_eq_true rfl) dX8_nameOf_73 ⟨Nat.zero_le _, Nat.zero_le _⟩ (fun H locs hP hD hS => ?_)
                  refine lv_icmp_ne (tgt := 83) hx hb dX8_nameOf_76 (by decide) (fun c1597 => ?_) (fun c1597 => ?_)
                  · replace hM := if_f c1597 hM
                    refine lv_iconst (v := 0) hx hb dX8_nameOf_83 (by decide) ?_
                    refine lv_istore (lv' := [(4, .int 0), (5, .int v5_L39), (3, .int w3_L39), (0, .ref (ad 100)), (1, .int w1_L39), (2, .int w2_L39)]) hx hb dX8_nameOf_84 hl (by decide) rfl (fun ls hl => ?_)
                    obtain ⟨x1598, ex1598⟩ : ∃ y : Int32, y = v5_L39 + 1 := ⟨_, rfl⟩
                    replace hM := nm_use ex1598 hM
                    refine lv_iinc (v := x1598) (lv' := [(5, .int x1598), (4, .int 0), (3, .int w3_L39), (0, .ref (ad 100)), (1, .int w1_L39), (2, .int w2_L39)]) hx hb dX8_nameOf_86 hl (k := 1) rfl (by rw [ex1598]; rfl) (by decide) rfl (fun ls hl => ?_)
                    refine lv_goto (tgt := 39) hx hb dX8_nameOf_89 (by decide) ?_
                    exact ih_L39 x1598 0 out_L39 _ _ _ hM hP hD hS (lv_sub hl [0, 1, 2, 3, 4, 5] rfl) kx_L39
                  · replace hM := if_t c1597 hM
                    refine lv_iconst (v := 1) hx hb dX8_nameOf_79 (by decide) ?_
                    refine lv_goto (tgt := 84) hx hb dX8_nameOf_80 (by decide) ?_
                    refine lv_istore (lv' := [(4, .int 1), (5, .int v5_L39), (3, .int w3_L39), (0, .ref (ad 100)), (1, .int w1_L39), (2, .int w2_L39)]) hx hb dX8_nameOf_84 hl (by decide) rfl (fun ls hl => ?_)
                    obtain ⟨x1599, ex1599⟩ : ∃ y : Int32, y = v5_L39 + 1 := ⟨_, rfl⟩
                    replace hM := nm_use ex1599 hM
                    refine lv_iinc (v := x1599) (lv' := [(5, .int x1599), (4, .int 1), (3, .int w3_L39), (0, .ref (ad 100)), (1, .int w1_L39), (2, .int w2_L39)]) hx hb dX8_nameOf_86 hl (k := 1) rfl (by rw [ex1599]; rfl) (by decide) rfl (fun ls hl => ?_)
                    refine lv_goto (tgt := 39) hx hb dX8_nameOf_89 (by decide) ?_
                    exact ih_L39 x1599 1 out_L39 _ _ _ hM hP hD hS (lv_sub hl [0, 1, 2, 3, 4, 5] rfl) kx_L39
          obtain ⟨r1129, hcr1129, hM⟩ := ob_use hM
          refine lp_L39 v3_L2 w1_L2 w2_L2 o_X o_N FU 0 0 r1129 _ _ _ hcr1129 hP hD hS (lv_sub hl [0, 1, 2, 3, 4, 5] rfl) (fun H locs ls hP hD hS hl => ?_)
          refine lv_iload hx hb dX8_nameOf_92 (lv_at hl 0 rfl) ?_
          refine lv_if_eq (tgt := 99) hx hb dX8_nameOf_94 (by decide) (fun c1130 => ?_) (fun c1130 => ?_)
          · replace hM := if_t c1130 hM
            obtain ⟨x1131, ex1131⟩ : ∃ y : Int32, y = v3_L2 + 1 := ⟨_, rfl⟩
            replace hM := nm_use ex1131 hM
            refine lv_iinc (v := x1131) (lv' := [(3, .int x1131), (4, .int r1129), (0, .ref (ad 100)), (1, .int w1_L2), (2, .int w2_L2)]) hx hb dX8_nameOf_99 hl (k := 1) rfl (by rw [ex1131]; rfl) (by decide) rfl (fun ls hl => ?_)
            refine lv_goto (tgt := 2) hx hb dX8_nameOf_102 (by decide) ?_
            exact ih_L2 x1131 _ _ _ hM hP hD hS (lv_sub hl [0, 2, 3, 4] rfl)
          · replace hM := if_f c1130 hM
            refine lv_iload_n hx hb dX8_nameOf_97 rfl (lv_at hl 1 rfl) ?_
            cases hM
            exact rt_i hx hb hr hlk hP hD hS rfl dX8_nameOf_98
        · replace hM := if_t c1128 hM
          refine lv_iconst (v := 1) hx hb dX8_nameOf_29 (by decide) ?_
          refine lv_goto (tgt := 34) hx hb dX8_nameOf_30 (by decide) ?_
          refine lv_istore (lv' := [(4, .int 1), (3, .int v3_L2), (0, .ref (ad 100)), (1, .int w1_L2), (2, .int w2_L2)]) hx hb dX8_nameOf_34 hl (by decide) rfl (fun ls hl => ?_)
          refine lv_iconst (v := 0) hx hb dX8_nameOf_36 (by decide) ?_
          refine lv_istore (lv' := [(5, .int 0), (4, .int 1), (3, .int v3_L2), (0, .ref (ad 100)), (1, .int w1_L2), (2, .int w2_L2)]) hx hb dX8_nameOf_37 hl (by decide) rfl (fun ls hl => ?_)
          have lp_L39 : ∀ (w3_L39 : Int32) (w1_L39 : Int32) (w2_L39 : Int32) (o_X_L39 : S_MX) (o_N_L39 : S_MN) (n : Nat) (v5_L39 : Int32) (v4_L39 : Int32) (out_L39 : Int32) (H : Heap) (locs : List Loc) (ls : Array Slot), f_Model_nameOf_L39 w3_L39 w1_L39 w2_L39 o_X_L39 o_N_L39 n v5_L39 v4_L39 = some out_L39 → va_P D vwCl (wM_XN cI ad o_X_L39 o_L o_N_L39 o_T o_U o_O o_E o_Q o_V o_I) H → va_D A (wM_XN cI ad o_X_L39 o_L o_N_L39 o_T o_U o_O o_E o_Q o_V o_I) → va_S A s.heap H locs → lv_has ls 6 [(5, .int v5_L39), (4, .int v4_L39), (3, .int w3_L39), (0, .ref (ad 100)), (1, .int w1_L39), (2, .int w2_L39)] → (∀ (H : Heap) (locs : List Loc) (ls : Array Slot), va_P D vwCl (wM_XN cI ad o_X_L39 o_L o_N_L39 o_T o_U o_O o_E o_Q o_V o_I) H → va_D A (wM_XN cI ad o_X_L39 o_L o_N_L39 o_T o_U o_O o_E o_Q o_V o_I) → va_S A s.heap H locs → lv_has ls 6 [(4, .int out_L39), (3, .int w3_L39), (0, .ref (ad 100)), (1, .int w1_L39), (2, .int w2_L39)] → W p l e { frames := 1, cells := 0, slots := 0, locals := 20 } s m [.ref (ad 100), .int a1, .int a2].toArray below meth c H locs 0 0 (MQ below (CQ D A (wM_XN cI ad o_X o_L res.2 o_T o_U o_O o_E o_Q o_V o_I) (some (.int res.1))) [.ref (ad 100), .int a1, .int a2].toArray s 0 0 A) (F0 m 92 ls [])) → W p l e { frames := 1, cells := 0, slots := 0, locals := 20 } s m [.ref (ad 100), .int a1, .int a2].toArray below meth c H locs 0 0 (MQ below (CQ D A (wM_XN cI ad o_X o_L res.2 o_T o_U o_O o_E o_Q o_V o_I) (some (.int res.1))) [.ref (ad 100), .int a1, .int a2].toArray s 0 0 A) (F0 m 39 ls []) := by
            intro w3_L39 w1_L39 w2_L39 o_X_L39 o_N_L39 n
            induction n with
            | zero => intro v5_L39 v4_L39 out_L39 H locs ls hM; exact absurd (show none = some _ from hM) (by simp)
            | succ n ih_L39 =>
              intro v5_L39 v4_L39 out_L39 H locs ls hM hP hD hS hl kx_L39
              rw [f_Model_nameOf_L39] at hM
              refine lv_iload hx hb dX8_nameOf_39 (lv_at hl 0 rfl) ?_
              refine lv_iload_n hx hb dX8_nameOf_41 rfl (lv_at hl 5 rfl) ?_
              refine lv_icmp_ge (tgt := 92) hx hb dX8_nameOf_42 (by decide) (fun c1591 => ?_) (fun c1591 => ?_)
              · replace hM := if_t c1591 hM
                cases hM
                exact kx_L39 _ _ _ hP hD hS (lv_sub hl [1, 2, 3, 4, 5] rfl)
              · replace hM := if_f c1591 hM
                refine lv_iload hx hb dX8_nameOf_45 (lv_at hl 1 rfl) ?_
                refine lv_if_eq (tgt := 92) hx hb dX8_nameOf_47 (by decide) (fun c1592 => ?_) (fun c1592 => ?_)
                · replace hM := if_t c1592 hM
                  cases hM
                  exact kx_L39 _ _ _ hP hD hS (lv_sub hl [1, 2, 3, 4, 5] rfl)
                · replace hM := if_f c1592 hM
                  refine lv_aload_n hx hb dX8_nameOf_50 rfl (lv_at hl 3 rfl) ?_
                  refine va_get (D := D) (ci := 8) (v := .ref (ad 107)) (C := RX8) (T := TX8) (N := 48) hx hb hts layX8 hown hK hP 0 rfl rfl 15 (by decide) (hts _ (inA q993)) (fun _ h9 => h9) rfl dX8_nameOf_51 ?_
                  refine lv_aload_n hx hb dX8_nameOf_54 rfl (lv_at hl 3 rfl) ?_
                  refine va_get (D := D) (ci := 8) (v := .ref (ad 106)) (C := RX8) (T := TX8) (N := 48) hx hb hts layX8 hown hK hP 0 rfl rfl 14 (by decide) (hts _ (inA q992)) (fun _ h9 => h9) rfl dX8_nameOf_55 ?_
                  refine lv_iload_n hx hb dX8_nameOf_58 rfl (lv_at hl 2 rfl) ?_
                  obtain ⟨b1593, hM⟩ := gd_use hM
                  refine va_iald hx hb hK hP 2 0 rfl rfl b1593 dX8_nameOf_59 ?_
                  refine lv_iload hx hb dX8_nameOf_60 (lv_at hl 0 rfl) ?_
                  refine lv_iadd hx hb dX8_nameOf_62 ?_
                  obtain ⟨b1594, hM⟩ := gd_use hM
                  refine va_iald hx hb hK hP 3 0 rfl rfl b1594 dX8_nameOf_63 ?_
                  refine lv_aload_n hx hb dX8_nameOf_64 rfl (lv_at hl 3 rfl) ?_
                  refine va_get (D := D) (ci := 8) (v := .ref (ad 105)) (C := RX8) (T := TX8) (N := 48) hx hb hts layX8 hown hK hP 0 rfl rfl 5 (by decide) (hts _ (inA q983)) (fun _ h9 => h9) rfl dX8_nameOf_65 ?_
                  refine lv_iload_n hx hb dX8_nameOf_68 rfl (lv_at hl 4 rfl) ?_
                  refine lv_iload hx hb dX8_nameOf_69 (lv_at hl 0 rfl) ?_
                  refine lv_iadd hx hb dX8_nameOf_71 ?_
                  obtain ⟨b1595, hM⟩ := gd_use hM
                  refine va_iald hx hb hK hP 1 0 rfl rfl b1595 dX8_nameOf_72 ?_
                  obtain ⟨r1596, hcr1596, hM⟩ := ob_use hM
                  refine cl_S (As := [.int (o_X_L39.2 (w1_L39 + v5_L39).toNatClampNeg)]) (rest := [.int (o_N_L39.2.2 ((o_N_L39.2.1 w3_L39.toNatClampNeg) + v5_L39).toNatClampNeg)]) (wM_XN cI ad o_X_L39 o_L o_N_L39 o_T o_U o_O o_E o_Q o_V o_I) (.int r1596 :: [.int (o_N_L39.2.2 ((o_N_L39.2.1 w3_L39.toNatClampNeg) + v5_L39).toNatClampNeg)]) ⟨hx, hb, hml, hown, hts⟩ (c_Model_great l D cI sd ad (o_X_L39.2 (w1_L39 + v5_L39).toNatClampNeg) r1596 hcr1596) (cwS2 hts q1178 mvX8_great rfl rfl ⟨(Nat.le_of_ble_eq_true rfl), (Nat.le_of_ble_eq_true rfl)⟩) hK hE hA hP hD hS [] rfl (by decide) rfl rfl rfl rfl rfl rfl hl.1 (Nat.le_of_ble_eq_true rfl) dX8_nameOf_73 ⟨Nat.zero_le _, Nat.zero_le _⟩ (fun H locs hP hD hS => ?_)
                  refine lv_icmp_ne (tgt := 83) hx hb dX8_nameOf_76 (by decide) (fun c1597 => ?_) (fun c1597 => ?_)
                  · replace hM := if_f c1597 hM
                    refine lv_iconst (v := 0) hx hb dX8_nameOf_83 (by decide) ?_
                    refine lv_istore (lv' := [(4, .int 0), (5, .int v5_L39), (3, .int w3_L39), (0, .ref (ad 100)), (1, .int w1_L39), (2, .int w2_L39)]) hx hb dX8_nameOf_84 hl (by decide) rfl (fun ls hl => ?_)
                    obtain ⟨x1598, ex1598⟩ : ∃ y : Int32, y = v5_L39 + 1 := ⟨_, rfl⟩
                    replace hM := nm_use ex1598 hM
                    refine lv_iinc (v := x1598) (lv' := [(5, .int x1598), (4, .int 0), (3, .int w3_L39), (0, .ref (ad 100)), (1, .int w1_L39), (2, .int w2_L39)]) hx hb dX8_nameOf_86 hl (k := 1) rfl (by rw [ex1598]; rfl) (by decide) rfl (fun ls hl => ?_)
                    refine lv_goto (tgt := 39) hx hb dX8_nameOf_89 (by decide) ?_
                    exact ih_L39 x1598 0 out_L39 _ _ _ hM hP hD hS (lv_sub hl [0, 1, 2, 3, 4, 5] rfl) kx_L39
                  · replace hM := if_t c1597 hM
                    refine lv_iconst (v := 1) hx hb dX8_nameOf_79 (by decide) ?_
                    refine lv_goto (tgt := 84) hx hb dX8_nameOf_80 (by decide) ?_
                    refine lv_istore (lv' := [(4, .int 1), (5, .int v5_L39), (3, .int w3_L39), (0, .ref (ad 100)), (1, .int w1_L39), (2, .int w2_L39)]) hx hb dX8_nameOf_84 hl (by decide) rfl (fun ls hl => ?_)
                    obtain ⟨x1599, ex1599⟩ : ∃ y : Int32, y = v5_L39 + 1 := ⟨_, rfl⟩
                    replace hM := nm_use ex1599 hM
                    refine lv_iinc (v := x1599) (lv' := [(5, .int x1599), (4, .int 1), (3, .int w3_L39), (0, .ref (ad 100)), (1, .int w1_L39), (2, .int w2_L39)]) hx hb dX8_nameOf_86 hl (k := 1) rfl (by rw [ex1599]; rfl) (by decide) rfl (fun ls hl => ?_)
                    refine lv_goto (tgt := 39) hx hb dX8_nameOf_89 (by decide) ?_
                    exact ih_L39 x1599 1 out_L39 _ _ _ hM hP hD hS (lv_sub hl [0, 1, 2, 3, 4, 5] rfl) kx_L39
          obtain ⟨r1132, hcr1132, hM⟩ := ob_use hM
          refine lp_L39 v3_L2 w1_L2 w2_L2 o_X o_N FU 0 1 r1132 _ _ _ hcr1132 hP hD hS (lv_sub hl [0, 1, 2, 3, 4, 5] rfl) (fun H locs ls hP hD hS hl => ?_)
          refine lv_iload hx hb dX8_nameOf_92 (lv_at hl 0 rfl) ?_
          refine lv_if_eq (tgt := 99) hx hb dX8_nameOf_94 (by decide) (fun c1133 => ?_) (fun c1133 => ?_)
          · replace hM := if_t c1133 hM
            obtain ⟨x1134, ex1134⟩ : ∃ y : Int32, y = v3_L2 + 1 := ⟨_, rfl⟩
            replace hM := nm_use ex1134 hM
            refine lv_iinc (v := x1134) (lv' := [(3, .int x1134), (4, .int r1132), (0, .ref (ad 100)), (1, .int w1_L2), (2, .int w2_L2)]) hx hb dX8_nameOf_99 hl (k := 1) rfl (by rw [ex1134]; rfl) (by decide) rfl (fun ls hl => ?_)
            refine lv_goto (tgt := 2) hx hb dX8_nameOf_102 (by decide) ?_
            exact ih_L2 x1134 _ _ _ hM hP hD hS (lv_sub hl [0, 2, 3, 4] rfl)
          · replace hM := if_f c1133 hM
            refine lv_iload_n hx hb dX8_nameOf_97 rfl (lv_at hl 1 rfl) ?_
            cases hM
            exact rt_i hx hb hr hlk hP hD hS rfl dX8_nameOf_98
  exact lp_L2 a1 a2 FU 0 _ _ _ hM hP hD hS (lv_sub hl [0, 1, 2, 3] rfl)

set_option maxHeartbeats 4000000 in
set_option maxRecDepth 100000 in
theorem c_Model_readName (l : Launch) (D : va_G) (cI : ClassId) (sd : Nat → Nat) (ad : Nat → Nat) (o_T : S_MT) (o_U : S_MU) (o_O : S_MO) (o_E : S_ME) (o_Q : S_MQ) (o_V : S_MV) (o_I : S_MI) (o_C : S_MC) (o_X : S_MX) (o_L : S_ML) (o_N : S_MN) (res : S_ML × S_MN) (hM : f_Model_readName o_C o_X o_L o_N = some res) : Ctr l D cI sd yX8_readName (wsM yX8_readName cX8_readName 3 (Option.none : Option Jvm.ClassFile.FieldType)) { frames := 2, cells := 0, slots := 0, locals := 45 } [.ref (ad 100)] (wM_CXLN cI ad o_X o_L o_N o_T o_U o_O o_E o_Q o_V o_I o_C) (wM_CXLN cI ad o_X res.1 res.2 o_T o_U o_O o_E o_Q o_V o_I o_C) none := by
  refine Ctr.of (cc := cX8_readName) (maxL := 3) (own := RX8) (by decide +kernel) rfl rfl (Nat.le_of_ble_eq_true rfl) ?_
  intro p e s m below meth c A ls hx hb hr hml hown hts hlk hK hE hA hP hD hS hl
  have hl : lv_has ls 3 [(0, .ref (ad 100))] := hl
  unfold f_Model_readName at hM
  have lp_L0 : ∀ (o_C_L0 : S_MC) (o_X_L0 : S_MX) (o_N_L0 : S_MN) (n : Nat) (o_L_L0 : S_ML) (out_L0 : S_ML) (H : Heap) (locs : List Loc) (ls : Array Slot), f_Model_readName_L0 o_X_L0 n o_L_L0 = some out_L0 → va_P D vwCl (wM_CXLN cI ad o_X_L0 o_L_L0 o_N_L0 o_T o_U o_O o_E o_Q o_V o_I o_C_L0) H → va_D A (wM_CXLN cI ad o_X_L0 o_L_L0 o_N_L0 o_T o_U o_O o_E o_Q o_V o_I o_C_L0) → va_S A s.heap H locs → lv_has ls 3 [(0, .ref (ad 100))] → (∀ (H : Heap) (locs : List Loc) (ls : Array Slot), va_P D vwCl (wM_CXLN cI ad o_X_L0 out_L0 o_N_L0 o_T o_U o_O o_E o_Q o_V o_I o_C_L0) H → va_D A (wM_CXLN cI ad o_X_L0 out_L0 o_N_L0 o_T o_U o_O o_E o_Q o_V o_I o_C_L0) → va_S A s.heap H locs → lv_has ls 3 [(0, .ref (ad 100))] → W p l e { frames := 2, cells := 0, slots := 0, locals := 45 } s m [.ref (ad 100)].toArray below meth c H locs 0 0 (MQ below (CQ D A (wM_CXLN cI ad o_X res.1 res.2 o_T o_U o_O o_E o_Q o_V o_I o_C) none) [.ref (ad 100)].toArray s 0 0 A) (F0 m 24 ls [])) → W p l e { frames := 2, cells := 0, slots := 0, locals := 45 } s m [.ref (ad 100)].toArray below meth c H locs 0 0 (MQ below (CQ D A (wM_CXLN cI ad o_X res.1 res.2 o_T o_U o_O o_E o_Q o_V o_I o_C) none) [.ref (ad 100)].toArray s 0 0 A) (F0 m 0 ls []) := by
    intro o_C_L0 o_X_L0 o_N_L0 n
    induction n with
    | zero => intro o_L_L0 out_L0 H locs ls hM; exact absurd (show none = some _ from hM) (by simp)
    | succ n ih_L0 =>
      intro o_L_L0 out_L0 H locs ls hM hP hD hS hl kx_L0
      rw [f_Model_readName_L0] at hM
      refine lv_aload_n hx hb dX8_readName_0 rfl (lv_at hl 0 rfl) ?_
      refine lv_aload_n hx hb dX8_readName_1 rfl (lv_at hl 0 rfl) ?_
      refine va_get (D := D) (ci := 8) (v := .int o_L_L0.2.2.2.1) (C := RX8) (T := TX8) (N := 48) hx hb hts layX8 hown hK hP 0 rfl rfl 9 (by decide) (hts _ (inA q987)) (fun _ h9 => h9) rfl dX8_readName_2 ?_
      obtain ⟨r1101, hcr1101, hM⟩ := ob_use hM
      refine cl_V (As := [.int o_L_L0.2.2.2.1]) (rest := []) (wM_CXLN cI ad o_X_L0 o_L_L0 o_N_L0 o_T o_U o_O o_E o_Q o_V o_I o_C_L0) (.int r1101 :: []) ⟨hx, hb, hml, hown, hts⟩ (c_Model_goesOn l D cI sd ad o_C_L0 o_L_L0 o_N_L0 o_T o_U o_O o_E o_Q o_V o_I o_X_L0 o_L_L0.2.2.2.1 r1101 hcr1101) (cwV2 hts q1195 mvX8_goesOn rfl rfl ⟨(Nat.le_of_ble_eq_true rfl), (Nat.le_of_ble_eq_true rfl)⟩) hK hE hA hP hD hS 0 (T := TX8) (N := 48) (ci := 8) rfl rfl [0, 5] rfl (by decide) rfl rfl rfl rfl rfl rfl hl.1 (Nat.le_of_ble_eq_true rfl) dX8_readName_5 ⟨Nat.zero_le _, Nat.zero_le _⟩ (fun H locs hP hD hS => ?_)
      refine lv_if_eq (tgt := 24) hx hb dX8_readName_8 (by decide) (fun c1102 => ?_) (fun c1102 => ?_)
      · replace hM := if_t c1102 hM
        cases hM
        exact kx_L0 _ _ _ hP hD hS (lv_sub hl [0] rfl)
      · replace hM := if_f c1102 hM
        refine lv_aload_n hx hb dX8_readName_11 rfl (lv_at hl 0 rfl) ?_
        refine lv_dup hx hb dX8_readName_12 rfl ?_
        refine va_get (D := D) (ci := 8) (v := .int o_L_L0.2.2.2.1) (C := RX8) (T := TX8) (N := 48) hx hb hts layX8 hown hK hP 0 rfl rfl 9 (by decide) (hts _ (inA q987)) (fun _ h9 => h9) rfl dX8_readName_13 ?_
        refine lv_iconst (v := 1) hx hb dX8_readName_16 (by decide) ?_
        refine lv_iadd hx hb dX8_readName_17 ?_
        refine va_put (D := D) (ci := 8) (v := .int (o_L_L0.2.2.2.1 + 1)) (ty := .int) (C := RX8) (T := TX8) (N := 48) hx hb hts layX8 tyX8 tyX8_ok nmX8 hown hK hP hD hS 0 rfl rfl 9 (by decide) (hts _ (inA q987)) (fun _ h9 => h9) rfl (by decide +kernel) rfl rfl (Nat.le_of_ble_eq_true rfl) dX8_readName_18 (fun H locs hP hD hS => ?_)
        have hP : va_P D vwCl (wM_CXLN cI ad o_X_L0 (o_L_L0.1, o_L_L0.2.1, o_L_L0.2.2.1, o_L_L0.2.2.2.1 + 1, o_L_L0.2.2.2.2) o_N_L0 o_T o_U o_O o_E o_Q o_V o_I o_C_L0) H := hP
        have hD : va_D A (wM_CXLN cI ad o_X_L0 (o_L_L0.1, o_L_L0.2.1, o_L_L0.2.2.1, o_L_L0.2.2.2.1 + 1, o_L_L0.2.2.2.2) o_N_L0 o_T o_U o_O o_E o_Q o_V o_I o_C_L0) := hD
        refine lv_goto (tgt := 0) hx hb dX8_readName_21 (by decide) ?_
        exact ih_L0 (o_L_L0.1, o_L_L0.2.1, o_L_L0.2.2.1, o_L_L0.2.2.2.1 + 1, o_L_L0.2.2.2.2) out_L0 _ _ _ hM hP hD hS (lv_sub hl [0] rfl) kx_L0
  obtain ⟨r1, hcr1, hM⟩ := ob_use hM
  refine lp_L0 o_C o_X o_N FU o_L r1 _ _ _ hcr1 hP hD hS (lv_sub hl [0] rfl) (fun H locs ls hP hD hS hl => ?_)
  refine lv_aload_n hx hb dX8_readName_24 rfl (lv_at hl 0 rfl) ?_
  refine va_get (D := D) (ci := 8) (v := .int r1.2.2.2.1) (C := RX8) (T := TX8) (N := 48) hx hb hts layX8 hown hK hP 0 rfl rfl 9 (by decide) (hts _ (inA q987)) (fun _ h9 => h9) rfl dX8_readName_25 ?_
  refine lv_aload_n hx hb dX8_readName_28 rfl (lv_at hl 0 rfl) ?_
  refine va_get (D := D) (ci := 8) (v := .int r1.1) (C := RX8) (T := TX8) (N := 48) hx hb hts layX8 hown hK hP 0 rfl rfl 6 (by decide) (hts _ (inA q984)) (fun _ h9 => h9) rfl dX8_readName_29 ?_
  refine lv_isub hx hb dX8_readName_32 ?_
  refine lv_istore_n (lv' := [(1, .int (r1.2.2.2.1 - r1.1)), (0, .ref (ad 100))]) hx hb dX8_readName_33 rfl hl (by decide) rfl (fun ls hl => ?_)
  refine lv_iload_n hx hb dX8_readName_34 rfl (lv_at hl 0 rfl) ?_
  refine lv_bipush (v := 32) hx hb dX8_readName_35 (by decide) ?_
  refine lv_icmp_le (tgt := 50) hx hb dX8_readName_37 (by decide) (fun c2 => ?_) (fun c2 => ?_)
  · replace hM := if_t c2 hM
    refine lv_aload_n hx hb dX8_readName_50 rfl (lv_at hl 1 rfl) ?_
    refine lv_aload_n hx hb dX8_readName_51 rfl (lv_at hl 1 rfl) ?_
    refine va_get (D := D) (ci := 8) (v := .int r1.1) (C := RX8) (T := TX8) (N := 48) hx hb hts layX8 hown hK hP 0 rfl rfl 6 (by decide) (hts _ (inA q984)) (fun _ h9 => h9) rfl dX8_readName_52 ?_
    refine lv_iload_n hx hb dX8_readName_55 rfl (lv_at hl 0 rfl) ?_
    obtain ⟨r3, hcr3, hM⟩ := ob_use hM
    refine cl_V (As := [.int r1.1, .int (r1.2.2.2.1 - r1.1)]) (rest := []) (wM_CXLN cI ad o_X r1 o_N o_T o_U o_O o_E o_Q o_V o_I o_C) (.int r3 :: []) ⟨hx, hb, hml, hown, hts⟩ (c_Model_wordOf l D cI sd ad r1 o_N o_T o_U o_O o_E o_Q o_V o_I o_C o_X r1.1 (r1.2.2.2.1 - r1.1) r3 hcr3) (cwV2 hts q1207 mvX8_wordOf rfl rfl ⟨(Nat.le_of_ble_eq_true rfl), (Nat.le_of_ble_eq_true rfl)⟩) hK hE hA hP hD hS 0 (T := TX8) (N := 48) (ci := 8) rfl rfl [0, 1, 2, 3, 4, 5] rfl (by decide) (mrgE rfl rfl) rfl rfl rfl rfl rfl hl.1 (Nat.le_of_ble_eq_true rfl) dX8_readName_56 ⟨Nat.zero_le _, Nat.zero_le _⟩ (fun H locs hP hD hS => ?_)
    refine lv_istore_n (lv' := [(2, .int r3), (1, .int (r1.2.2.2.1 - r1.1)), (0, .ref (ad 100))]) hx hb dX8_readName_59 rfl hl (by decide) rfl (fun ls hl => ?_)
    refine lv_aload_n hx hb dX8_readName_60 rfl (lv_at hl 2 rfl) ?_
    refine lv_iload_n hx hb dX8_readName_61 rfl (lv_at hl 0 rfl) ?_
    refine lv_if_lt (tgt := 69) hx hb dX8_readName_62 (by decide) (fun c4 => ?_) (fun c4 => ?_)
    · replace hM := if_t c4 hM
      refine lv_bipush (v := 80) hx hb dX8_readName_69 (by decide) ?_
      refine va_put (D := D) (ci := 8) (v := .int 80) (ty := .int) (C := RX8) (T := TX8) (N := 48) hx hb hts layX8 tyX8 tyX8_ok nmX8 hown hK hP hD hS 0 rfl rfl 7 (by decide) (hts _ (inA q985)) (fun _ h9 => h9) rfl (by decide +kernel) rfl rfl (Nat.le_of_ble_eq_true rfl) dX8_readName_71 (fun H locs hP hD hS => ?_)
      have hP : va_P D vwCl (wM_CXLN cI ad o_X (r1.1, 80, r1.2.2) o_N o_T o_U o_O o_E o_Q o_V o_I o_C) H := hP
      have hD : va_D A (wM_CXLN cI ad o_X (r1.1, 80, r1.2.2) o_N o_T o_U o_O o_E o_Q o_V o_I o_C) := hD
      refine lv_aload_n hx hb dX8_readName_74 rfl (lv_at hl 2 rfl) ?_
      refine lv_iload_n hx hb dX8_readName_75 rfl (lv_at hl 0 rfl) ?_
      refine lv_if_lt (tgt := 83) hx hb dX8_readName_76 (by decide) (fun c5 => ?_) (fun c5 => ?_)
      · replace hM := if_t c5 hM
        refine lv_aload_n hx hb dX8_readName_83 rfl (lv_at hl 2 rfl) ?_
        refine lv_aload_n hx hb dX8_readName_84 rfl (lv_at hl 2 rfl) ?_
        refine va_get (D := D) (ci := 8) (v := .int r1.1) (C := RX8) (T := TX8) (N := 48) hx hb hts layX8 hown hK hP 0 rfl rfl 6 (by decide) (hts _ (inA q984)) (fun _ h9 => h9) rfl dX8_readName_85 ?_
        refine lv_iload_n hx hb dX8_readName_88 rfl (lv_at hl 1 rfl) ?_
        obtain ⟨r6, hcr6, hM⟩ := ob_use hM
        refine cl_V (As := [.int r1.1, .int (r1.2.2.2.1 - r1.1)]) (rest := [.ref (ad 100)]) (wM_CXLN cI ad o_X (r1.1, 80, r1.2.2) r6.2 o_T o_U o_O o_E o_Q o_V o_I o_C) (.int r6.1 :: [.ref (ad 100)]) ⟨hx, hb, hml, hown, hts⟩ (c_Model_nameOf l D cI sd ad o_C (r1.1, 80, r1.2.2) o_T o_U o_O o_E o_Q o_V o_I o_X o_N r1.1 (r1.2.2.2.1 - r1.1) r6 hcr6) (cwV2 hts q1211 mvX8_nameOf rfl rfl ⟨(Nat.le_of_ble_eq_true rfl), (Nat.le_of_ble_eq_true rfl)⟩) hK hE hA hP hD hS 0 (T := TX8) (N := 48) (ci := 8) rfl rfl [0, 5, 6, 7] rfl (by decide) rfl rfl rfl rfl rfl rfl hl.1 (Nat.le_of_ble_eq_true rfl) dX8_readName_89 ⟨Nat.zero_le _, Nat.zero_le _⟩ (fun H locs hP hD hS => ?_)
        refine va_put (D := D) (ci := 8) (v := .int r6.1) (ty := .int) (C := RX8) (T := TX8) (N := 48) hx hb hts layX8 tyX8 tyX8_ok nmX8 hown hK hP hD hS 0 rfl rfl 8 (by decide) (hts _ (inA q986)) (fun _ h9 => h9) rfl (by decide +kernel) rfl rfl (Nat.le_of_ble_eq_true rfl) dX8_readName_92 (fun H locs hP hD hS => ?_)
        have hP : va_P D vwCl (wM_CXLN cI ad o_X (r1.1, 80, r6.1, r1.2.2.2) r6.2 o_T o_U o_O o_E o_Q o_V o_I o_C) H := hP
        have hD : va_D A (wM_CXLN cI ad o_X (r1.1, 80, r6.1, r1.2.2.2) r6.2 o_T o_U o_O o_E o_Q o_V o_I o_C) := hD
        cases hM
        exact rt_v hx hb hr hlk hP hD hS rfl dX8_readName_95
      · replace hM := if_f c5 hM
        refine lv_iconst (v := 0) hx hb dX8_readName_79 (by decide) ?_
        refine lv_goto (tgt := 92) hx hb dX8_readName_80 (by decide) ?_
        refine va_put (D := D) (ci := 8) (v := .int 0) (ty := .int) (C := RX8) (T := TX8) (N := 48) hx hb hts layX8 tyX8 tyX8_ok nmX8 hown hK hP hD hS 0 rfl rfl 8 (by decide) (hts _ (inA q986)) (fun _ h9 => h9) rfl (by decide +kernel) rfl rfl (Nat.le_of_ble_eq_true rfl) dX8_readName_92 (fun H locs hP hD hS => ?_)
        have hP : va_P D vwCl (wM_CXLN cI ad o_X (r1.1, 80, 0, r1.2.2.2) o_N o_T o_U o_O o_E o_Q o_V o_I o_C) H := hP
        have hD : va_D A (wM_CXLN cI ad o_X (r1.1, 80, 0, r1.2.2.2) o_N o_T o_U o_O o_E o_Q o_V o_I o_C) := hD
        cases hM
        exact rt_v hx hb hr hlk hP hD hS rfl dX8_readName_95
    · replace hM := if_f c4 hM
      refine lv_iload_n hx hb dX8_readName_65 rfl (lv_at hl 0 rfl) ?_
      refine lv_goto (tgt := 71) hx hb dX8_readName_66 (by decide) ?_
      refine va_put (D := D) (ci := 8) (v := .int r3) (ty := .int) (C := RX8) (T := TX8) (N := 48) hx hb hts layX8 tyX8 tyX8_ok nmX8 hown hK hP hD hS 0 rfl rfl 7 (by decide) (hts _ (inA q985)) (fun _ h9 => h9) rfl (by decide +kernel) rfl rfl (Nat.le_of_ble_eq_true rfl) dX8_readName_71 (fun H locs hP hD hS => ?_)
      have hP : va_P D vwCl (wM_CXLN cI ad o_X (r1.1, r3, r1.2.2) o_N o_T o_U o_O o_E o_Q o_V o_I o_C) H := hP
      have hD : va_D A (wM_CXLN cI ad o_X (r1.1, r3, r1.2.2) o_N o_T o_U o_O o_E o_Q o_V o_I o_C) := hD
      refine lv_aload_n hx hb dX8_readName_74 rfl (lv_at hl 2 rfl) ?_
      refine lv_iload_n hx hb dX8_readName_75 rfl (lv_at hl 0 rfl) ?_
      refine lv_if_lt (tgt := 83) hx hb dX8_readName_76 (by decide) (fun c7 => ?_) (fun c7 => ?_)
      · replace hM := if_t c7 hM
        refine lv_aload_n hx hb dX8_readName_83 rfl (lv_at hl 2 rfl) ?_
        refine lv_aload_n hx hb dX8_readName_84 rfl (lv_at hl 2 rfl) ?_
        refine va_get (D := D) (ci := 8) (v := .int r1.1) (C := RX8) (T := TX8) (N := 48) hx hb hts layX8 hown hK hP 0 rfl rfl 6 (by decide) (hts _ (inA q984)) (fun _ h9 => h9) rfl dX8_readName_85 ?_
        refine lv_iload_n hx hb dX8_readName_88 rfl (lv_at hl 1 rfl) ?_
        obtain ⟨r8, hcr8, hM⟩ := ob_use hM
        refine cl_V (As := [.int r1.1, .int (r1.2.2.2.1 - r1.1)]) (rest := [.ref (ad 100)]) (wM_CXLN cI ad o_X (r1.1, r3, r1.2.2) r8.2 o_T o_U o_O o_E o_Q o_V o_I o_C) (.int r8.1 :: [.ref (ad 100)]) ⟨hx, hb, hml, hown, hts⟩ (c_Model_nameOf l D cI sd ad o_C (r1.1, r3, r1.2.2) o_T o_U o_O o_E o_Q o_V o_I o_X o_N r1.1 (r1.2.2.2.1 - r1.1) r8 hcr8) (cwV2 hts q1211 mvX8_nameOf rfl rfl ⟨(Nat.le_of_ble_eq_true rfl), (Nat.le_of_ble_eq_true rfl)⟩) hK hE hA hP hD hS 0 (T := TX8) (N := 48) (ci := 8) rfl rfl [0, 5, 6, 7] rfl (by decide) rfl rfl rfl rfl rfl rfl hl.1 (Nat.le_of_ble_eq_true rfl) dX8_readName_89 ⟨Nat.zero_le _, Nat.zero_le _⟩ (fun H locs hP hD hS => ?_)
        refine va_put (D := D) (ci := 8) (v := .int r8.1) (ty := .int) (C := RX8) (T := TX8) (N := 48) hx hb hts layX8 tyX8 tyX8_ok nmX8 hown hK hP hD hS 0 rfl rfl 8 (by decide) (hts _ (inA q986)) (fun _ h9 => h9) rfl (by decide +kernel) rfl rfl (Nat.le_of_ble_eq_true rfl) dX8_readName_92 (fun H locs hP hD hS => ?_)
        have hP : va_P D vwCl (wM_CXLN cI ad o_X (r1.1, r3, r8.1, r1.2.2.2) r8.2 o_T o_U o_O o_E o_Q o_V o_I o_C) H := hP
        have hD : va_D A (wM_CXLN cI ad o_X (r1.1, r3, r8.1, r1.2.2.2) r8.2 o_T o_U o_O o_E o_Q o_V o_I o_C) := hD
        cases hM
        exact rt_v hx hb hr hlk hP hD hS rfl dX8_readName_95
      · replace hM := if_f c7 hM
        refine lv_iconst (v := 0) hx hb dX8_readName_79 (by decide) ?_
        refine lv_goto (tgt := 92) hx hb dX8_readName_80 (by decide) ?_
        refine va_put (D := D) (ci := 8) (v := .int 0) (ty := .int) (C := RX8) (T := TX8) (N := 48) hx hb hts layX8 tyX8 tyX8_ok nmX8 hown hK hP hD hS 0 rfl rfl 8 (by decide) (hts _ (inA q986)) (fun _ h9 => h9) rfl (by decide +kernel) rfl rfl (Nat.le_of_ble_eq_true rfl) dX8_readName_92 (fun H locs hP hD hS => ?_)
        have hP : va_P D vwCl (wM_CXLN cI ad o_X (r1.1, r3, 0, r1.2.2.2) o_N o_T o_U o_O o_E o_Q o_V o_I o_C) H := hP
        have hD : va_D A (wM_CXLN cI ad o_X (r1.1, r3, 0, r1.2.2.2) o_N o_T o_U o_O o_E o_Q o_V o_I o_C) := hD
        cases hM
        exact rt_v hx hb hr hlk hP hD hS rfl dX8_readName_95
  · replace hM := if_f c2 hM
    refine lv_aload_n hx hb dX8_readName_40 rfl (lv_at hl 1 rfl) ?_
    refine lv_iconst (v := 3) hx hb dX8_readName_41 (by decide) ?_
    refine lv_aload_n hx hb dX8_readName_42 rfl (lv_at hl 1 rfl) ?_
    refine va_get (D := D) (ci := 8) (v := .int r1.1) (C := RX8) (T := TX8) (N := 48) hx hb hts layX8 hown hK hP 0 rfl rfl 6 (by decide) (hts _ (inA q984)) (fun _ h9 => h9) rfl dX8_readName_43 ?_
    obtain ⟨r9, hcr9, hM⟩ := ob_use hM
    refine cl_V (As := [.int 3, .int r1.1]) (rest := []) (wM_CXLN cI ad o_X r9 o_N o_T o_U o_O o_E o_Q o_V o_I o_C) [] ⟨hx, hb, hml, hown, hts⟩ (c_Model_fail l D cI sd ad o_C o_X o_N o_T o_U o_O o_E o_Q o_V o_I r1 3 r1.1 r9 hcr9) (cwV2 hts q1163 mvX8_fail rfl rfl ⟨(Nat.le_of_ble_eq_true rfl), (Nat.le_of_ble_eq_true rfl)⟩) hK hE hA hP hD hS 0 (T := TX8) (N := 48) (ci := 8) rfl rfl [0] rfl (by decide) rfl rfl rfl rfl rfl rfl hl.1 (Nat.le_of_ble_eq_true rfl) dX8_readName_46 ⟨Nat.zero_le _, Nat.zero_le _⟩ (fun H locs hP hD hS => ?_)
    cases hM
    exact rt_v hx hb hr hlk hP hD hS rfl dX8_readName_49

set_option maxHeartbeats 4000000 in
set_option maxRecDepth 100000 in
theorem c_Model_digitOf (l : Launch) (D : va_G) (cI : ClassId) (sd : Nat → Nat) (ad : Nat → Nat) (a1 : Int32) (res : Int32) (hM : f_Model_digitOf a1 = some res) : Ctr l D cI sd yX8_digitOf (wsM yX8_digitOf cX8_digitOf 2 (Option.some Jvm.ClassFile.FieldType.int)) { frames := 1, cells := 0, slots := 0, locals := 20 } [.int a1] (([] : va_W)) (([] : va_W)) (some (.int res)) := by
  refine Ctr.of (cc := cX8_digitOf) (maxL := 2) (own := RX8) (by decide +kernel) rfl rfl (Nat.le_of_ble_eq_true rfl) ?_
  intro p e s m below meth c A ls hx hb hr hml hown hts hlk hK hE hA hP hD hS hl
  have hl : lv_has ls 2 [(0, .int a1)] := hl
  unfold f_Model_digitOf at hM
  refine lv_iload_n hx hb dX8_digitOf_0 rfl (lv_at hl 0 rfl) ?_
  obtain ⟨r1, hcr1, hM⟩ := ob_use hM
  refine cl_S (As := [.int a1]) (rest := []) (([] : va_W)) (.int r1 :: []) ⟨hx, hb, hml, hown, hts⟩ (c_Model_great l D cI sd ad a1 r1 hcr1) (cwS2 hts q1178 mvX8_great rfl rfl ⟨(Nat.le_of_ble_eq_true rfl), (Nat.le_of_ble_eq_true rfl)⟩) hK hE hA hP hD hS [] rfl (by decide) rfl rfl rfl rfl rfl rfl hl.1 (Nat.le_of_ble_eq_true rfl) dX8_digitOf_1 ⟨Nat.zero_le _, Nat.zero_le _⟩ (fun H locs hP hD hS => ?_)
  refine lv_istore_n (lv' := [(1, .int r1), (0, .int a1)]) hx hb dX8_digitOf_4 rfl hl (by decide) rfl (fun ls hl => ?_)
  refine lv_iload_n hx hb dX8_digitOf_5 rfl (lv_at hl 1 rfl) ?_
  obtain ⟨r2, hcr2, hM⟩ := ob_use hM
  refine cl_S (As := [.int a1]) (rest := []) (([] : va_W)) (.int r2 :: []) ⟨hx, hb, hml, hown, hts⟩ (c_Model_isDigit l D cI sd ad a1 r2 hcr2) (cwS2 hts q1181 mvX8_isDigit rfl rfl ⟨(Nat.le_of_ble_eq_true rfl), (Nat.le_of_ble_eq_true rfl)⟩) hK hE hA hP hD hS [] rfl (by decide) rfl rfl rfl rfl rfl rfl hl.1 (Nat.le_of_ble_eq_true rfl) dX8_digitOf_6 ⟨Nat.zero_le _, Nat.zero_le _⟩ (fun H locs hP hD hS => ?_)
  refine lv_if_eq (tgt := 19) hx hb dX8_digitOf_9 (by decide) (fun c3 => ?_) (fun c3 => ?_)
  · replace hM := if_t c3 hM
    refine lv_iload_n hx hb dX8_digitOf_19 rfl (lv_at hl 0 rfl) ?_
    refine lv_bipush (v := 65) hx hb dX8_digitOf_20 (by decide) ?_
    refine lv_icmp_lt (tgt := 41) hx hb dX8_digitOf_22 (by decide) (fun c4 => ?_) (fun c4 => ?_)
    · replace hM := if_t c4 hM
      refine lv_bipush (v := 99) hx hb dX8_digitOf_41 (by decide) ?_
      cases hM
      exact rt_i hx hb hr hlk hP hD hS rfl dX8_digitOf_43
    · replace hM := if_f c4 hM
      refine lv_iload_n hx hb dX8_digitOf_25 rfl (lv_at hl 0 rfl) ?_
      refine lv_bipush (v := 70) hx hb dX8_digitOf_26 (by decide) ?_
      refine lv_icmp_gt (tgt := 41) hx hb dX8_digitOf_28 (by decide) (fun c5 => ?_) (fun c5 => ?_)
      · replace hM := if_t c5 hM
        refine lv_bipush (v := 99) hx hb dX8_digitOf_41 (by decide) ?_
        cases hM
        exact rt_i hx hb hr hlk hP hD hS rfl dX8_digitOf_43
      · replace hM := if_f c5 hM
        refine lv_iload_n hx hb dX8_digitOf_31 rfl (lv_at hl 0 rfl) ?_
        refine lv_bipush (v := 65) hx hb dX8_digitOf_32 (by decide) ?_
        refine lv_isub hx hb dX8_digitOf_34 ?_
        refine lv_bipush (v := 10) hx hb dX8_digitOf_35 (by decide) ?_
        refine lv_iadd hx hb dX8_digitOf_37 ?_
        refine lv_goto (tgt := 43) hx hb dX8_digitOf_38 (by decide) ?_
        cases hM
        exact rt_i hx hb hr hlk hP hD hS rfl dX8_digitOf_43
  · replace hM := if_f c3 hM
    refine lv_iload_n hx hb dX8_digitOf_12 rfl (lv_at hl 1 rfl) ?_
    refine lv_bipush (v := 48) hx hb dX8_digitOf_13 (by decide) ?_
    refine lv_isub hx hb dX8_digitOf_15 ?_
    refine lv_goto (tgt := 43) hx hb dX8_digitOf_16 (by decide) ?_
    cases hM
    exact rt_i hx hb hr hlk hP hD hS rfl dX8_digitOf_43
