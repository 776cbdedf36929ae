set_option maxHeartbeats 4000000 in
set_option maxRecDepth 100000 in
theorem c_Writer_writeTree (l : Launch) (D : va_G) (cI : ClassId) (sd : Nat → Nat) (ad : Nat → Nat) (o_tree : S_Tree) (o_names : S_Names) (o_out : S_Bytes) (res : S_Bytes) (hM : f_Writer_writeTree o_tree o_names o_out = some res) : Ctr l D cI sd yX5_writeTree (wsM yX5_writeTree cX5_writeTree 3 (Option.none : Option Jvm.ClassFile.FieldType)) { frames := 6, cells := 0, slots := 0, locals := 131 } [.ref (ad 23)] (w_Writer_this_tree_names_out cI ad o_tree o_names o_out) (w_Writer_this_tree_names_out cI ad o_tree o_names res) none := by
  refine Ctr.of (cc := cX5_writeTree) (maxL := 3) (own := RX5) (by decide +kernel) rfl rfl (Nat.le_of_ble_eq_true rfl) ?_
  intro p e s m below meth c A ls hx hb hr hml hown hts hlk hK hE hA hP hD hS hl
  have hl : lv_has ls 3 [(0, .ref (ad 23))] := hl
  unfold f_Writer_writeTree at hM
  refine lv_aload_n hx hb dX5_writeTree_0 rfl (lv_at hl 0 rfl) ?_
  refine va_get (D := D) (ci := 5) (v := .ref (ad 3)) (C := RX5) (T := TX5) (N := 3) hx hb hts layX5 hown hK hP 0 rfl rfl 2 (by decide) (hts _ (inA q444)) (fun _ h9 => h9) rfl dX5_writeTree_1 ?_
  refine lv_iconst (v := 0) hx hb dX5_writeTree_4 (by decide) ?_
  obtain ⟨r1, hcr1, hM⟩ := ob_use hM
  refine cl_V (As := [.int 0]) (rest := []) (w_Writer_this_tree_names_out cI ad o_tree o_names r1) [] ⟨hx, hb, hml, hown, hts⟩ (c_Bytes_cut l D cI sd (ad 3) (ad 4) 16384 o_out 0 r1 hcr1) (cwV2 hts q860 mvX0_cut rfl rfl ⟨(Nat.le_of_ble_eq_true rfl), (Nat.le_of_ble_eq_true rfl)⟩) hK hE hA hP hD hS 14 (T := TX0) (N := 2) (ci := 0) rfl rfl [14, 15] rfl (by decide) rfl rfl rfl rfl rfl rfl hl.1 (Nat.le_of_ble_eq_true rfl) dX5_writeTree_5 ⟨Nat.zero_le _, Nat.zero_le _⟩ (fun H locs hP hD hS => ?_)
  refine lv_iconst (v := (-1)) hx hb dX5_writeTree_8 (by decide) ?_
  refine lv_istore_n (lv' := [(1, .int (-1)), (0, .ref (ad 23))]) hx hb dX5_writeTree_9 rfl hl (by decide) rfl (fun ls hl => ?_)
  refine lv_iconst (v := 0) hx hb dX5_writeTree_10 (by decide) ?_
  refine lv_istore_n (lv' := [(2, .int 0), (1, .int (-1)), (0, .ref (ad 23))]) hx hb dX5_writeTree_11 rfl hl (by decide) rfl (fun ls hl => ?_)
  have lp_L12 : ∀ (o_tree_L12 : S_Tree) (o_names_L12 : S_Names) (n : Nat) (v2_L12 : Int32) (v1_L12 : Int32) (o_out_L12 : S_Bytes) (out_L12 : Int32 × S_Bytes) (H : Heap) (locs : List Loc) (ls : Array Slot), f_Writer_writeTree_L12 o_tree_L12 o_names_L12 n v2_L12 v1_L12 o_out_L12 = some out_L12 → va_P D vwCl (w_Writer_this_tree_names_out cI ad o_tree_L12 o_names_L12 o_out_L12) H → va_D A (w_Writer_this_tree_names_out cI ad o_tree_L12 o_names_L12 o_out_L12) → va_S A s.heap H locs → lv_has ls 3 [(2, .int v2_L12), (1, .int v1_L12), (0, .ref (ad 23))] → (∀ (H : Heap) (locs : List Loc) (ls : Array Slot), va_P D vwCl (w_Writer_this_tree_names_out cI ad o_tree_L12 o_names_L12 out_L12.2) H → va_D A (w_Writer_this_tree_names_out cI ad o_tree_L12 o_names_L12 out_L12.2) → va_S A s.heap H locs → lv_has ls 3 [(1, .int out_L12.1), (0, .ref (ad 23))] → W p l e { frames := 6, cells := 0, slots := 0, locals := 131 } s m [.ref (ad 23)].toArray below meth c H locs 0 0 (MQ below (CQ D A (w_Writer_this_tree_names_out cI ad o_tree o_names res) none) [.ref (ad 23)].toArray s 0 0 A) (F0 m 54 ls [])) → W p l e { frames := 6, cells := 0, slots := 0, locals := 131 } s m [.ref (ad 23)].toArray below meth c H locs 0 0 (MQ below (CQ D A (w_Writer_this_tree_names_out cI ad o_tree o_names res) none) [.ref (ad 23)].toArray s 0 0 A) (F0 m 12 ls []) := by
    intro o_tree_L12 o_names_L12 n
    induction n with
    | zero => intro v2_L12 v1_L12 o_out_L12 out_L12 H locs ls hM; exact absurd (show none = some _ from hM) (by simp)
    | succ n ih_L12 =>
      intro v2_L12 v1_L12 o_out_L12 out_L12 H locs ls hM hP hD hS hl kx_L12
      rw [f_Writer_writeTree_L12] at hM
      refine lv_iload_n hx hb dX5_writeTree_12 rfl (lv_at hl 0 rfl) ?_
      refine lv_aload_n hx hb dX5_writeTree_13 rfl (lv_at hl 2 rfl) ?_
      refine va_get (D := D) (ci := 5) (v := .ref (ad 14)) (C := RX5) (T := TX5) (N := 3) hx hb hts layX5 hown hK hP 0 rfl rfl 0 (by decide) (hts _ (inA q442)) (fun _ h9 => h9) rfl dX5_writeTree_14 ?_
      refine va_getN (D := D) (ci := 3) (v := .int o_tree_L12.1) (C := RX3) (T := TX3) (N := 8) hx hb hts layX3 hown hK hP 1 rfl rfl 7 (by decide) (nfE8 hE) (fun _ h9 => h9) rfl dX5_writeTree_17 ?_
      refine lv_icmp_ge (tgt := 54) hx hb dX5_writeTree_20 (by decide) (fun c1221 => ?_) (fun c1221 => ?_)
      · replace hM := if_t c1221 hM
        cases hM
        exact kx_L12 _ _ _ hP hD hS (lv_sub hl [1, 2] rfl)
      · replace hM := if_f c1221 hM
        refine lv_aload_n hx hb dX5_writeTree_23 rfl (lv_at hl 2 rfl) ?_
        refine lv_iload_n hx hb dX5_writeTree_24 rfl (lv_at hl 1 rfl) ?_
        refine lv_aload_n hx hb dX5_writeTree_25 rfl (lv_at hl 2 rfl) ?_
        refine va_get (D := D) (ci := 5) (v := .ref (ad 14)) (C := RX5) (T := TX5) (N := 3) hx hb hts layX5 hown hK hP 0 rfl rfl 0 (by decide) (hts _ (inA q442)) (fun _ h9 => h9) rfl dX5_writeTree_26 ?_
        refine lv_iload_n hx hb dX5_writeTree_29 rfl (lv_at hl 0 rfl) ?_
        obtain ⟨r1222, hcr1222, hM⟩ := ob_use hM
        refine cl_V (As := [.int v2_L12]) (rest := [.int v1_L12, .ref (ad 23)]) (w_Writer_this_tree_names_out cI ad o_tree_L12 o_names_L12 o_out_L12) (.int r1222 :: [.int v1_L12, .ref (ad 23)]) ⟨hx, hb, hml, hown, hts⟩ (c_Tree_parent l D cI sd ad o_tree_L12 v2_L12 r1222 hcr1222) (cwV2 hts q861 mvX3_parent rfl rfl ⟨(Nat.le_of_ble_eq_true rfl), (Nat.le_of_ble_eq_true rfl)⟩) hK hE hA hP hD hS 1 (T := TX3) (N := 8) (ci := 3) rfl rfl [1, 2, 3, 4, 5, 6, 7, 8] rfl (by decide) rfl rfl rfl rfl rfl rfl hl.1 (Nat.le_of_ble_eq_true rfl) dX5_writeTree_30 ⟨Nat.zero_le _, Nat.zero_le _⟩ (fun H locs hP hD hS => ?_)
        obtain ⟨r1223, hcr1223, hM⟩ := ob_use hM
        refine cl_V (As := [.int v1_L12, .int r1222]) (rest := []) (w_Writer_this_tree_names_out cI ad o_tree_L12 o_names_L12 r1223) [] ⟨hx, hb, hml, hown, hts⟩ (c_Writer_finishUpTo l D cI sd ad o_tree_L12 o_names_L12 o_out_L12 v1_L12 r1222 r1223 hcr1223) (cwV2 hts q862 mvX5_finishUpTo rfl rfl ⟨(Nat.le_of_ble_eq_true rfl), (Nat.le_of_ble_eq_true rfl)⟩) hK hE hA hP hD hS 0 (T := TX5) (N := 3) (ci := 5) rfl rfl [0, 1, 2, 3, 4, 5, 6, 7, 8, 9, 10, 11, 12, 13, 14, 15] rfl (by decide) rfl rfl rfl rfl rfl rfl hl.1 (Nat.le_of_ble_eq_true rfl) dX5_writeTree_33 ⟨Nat.zero_le _, Nat.zero_le _⟩ (fun H locs hP hD hS => ?_)
        refine lv_aload_n hx hb dX5_writeTree_36 rfl (lv_at hl 2 rfl) ?_
        refine lv_iload_n hx hb dX5_writeTree_37 rfl (lv_at hl 0 rfl) ?_
        obtain ⟨r1224, hcr1224, hM⟩ := ob_use hM
        refine cl_V (As := [.int v2_L12]) (rest := []) (w_Writer_this_tree_names_out cI ad o_tree_L12 o_names_L12 r1224) [] ⟨hx, hb, hml, hown, hts⟩ (c_Writer_separate l D cI sd ad o_tree_L12 o_names_L12 r1223 v2_L12 r1224 hcr1224) (cwV2 hts q904 mvX5_separate rfl rfl ⟨(Nat.le_of_ble_eq_true rfl), (Nat.le_of_ble_eq_true rfl)⟩) hK hE hA hP hD hS 0 (T := TX5) (N := 3) (ci := 5) rfl rfl [0, 1, 2, 3, 4, 5, 6, 7, 8, 9, 10, 11, 12, 13, 14, 15] rfl (by decide) rfl rfl rfl rfl rfl rfl hl.1 (Nat.le_of_ble_eq_true rfl) dX5_writeTree_38 ⟨Nat.zero_le _, Nat.zero_le _⟩ (fun H locs hP hD hS => ?_)
        refine lv_aload_n hx hb dX5_writeTree_41 rfl (lv_at hl 2 rfl) ?_
        refine lv_iload_n hx hb dX5_writeTree_42 rfl (lv_at hl 0 rfl) ?_
        obtain ⟨r1225, hcr1225, hM⟩ := ob_use hM
        refine cl_V (As := [.int v2_L12]) (rest := []) (w_Writer_this_tree_names_out cI ad o_tree_L12 o_names_L12 r1225) [] ⟨hx, hb, hml, hown, hts⟩ (c_Writer_begin l D cI sd ad o_tree_L12 o_names_L12 r1224 v2_L12 r1225 hcr1225) (cwV2 hts q928 mvX5_begin rfl rfl ⟨(Nat.le_of_ble_eq_true rfl), (Nat.le_of_ble_eq_true rfl)⟩) hK hE hA hP hD hS 0 (T := TX5) (N := 3) (ci := 5) rfl rfl [0, 1, 2, 3, 4, 5, 6, 7, 8, 9, 10, 11, 12, 13, 14, 15] rfl (by decide) rfl rfl rfl rfl rfl rfl hl.1 (Nat.le_of_ble_eq_true rfl) dX5_writeTree_43 ⟨Nat.zero_le _, Nat.zero_le _⟩ (fun H locs hP hD hS => ?_)
        refine lv_iload_n hx hb dX5_writeTree_46 rfl (lv_at hl 0 rfl) ?_
        refine lv_istore_n (lv' := [(1, .int v2_L12), (2, .int v2_L12), (0, .ref (ad 23))]) hx hb dX5_writeTree_47 rfl hl (by decide) rfl (fun ls hl => ?_)
        obtain ⟨x1226, ex1226⟩ : ∃ y : Int32, y = v2_L12 + 1 := ⟨_, rfl⟩
        replace hM := nm_use ex1226 hM
        refine lv_iinc (v := x1226) (lv' := [(2, .int x1226), (1, .int v2_L12), (0, .ref (ad 23))]) hx hb dX5_writeTree_48 hl (k := 1) rfl (by rw [ex1226]; rfl) (by decide) rfl (fun ls hl => ?_)
        refine lv_goto (tgt := 12) hx hb dX5_writeTree_51 (by decide) ?_
        exact ih_L12 x1226 v2_L12 r1225 out_L12 _ _ _ hM hP hD hS (lv_sub hl [0, 1, 2] rfl) kx_L12
  obtain ⟨r2, hcr2, hM⟩ := ob_use hM
  refine lp_L12 o_tree o_names FU 0 (-1) r1 r2 _ _ _ hcr2 hP hD hS (lv_sub hl [0, 1, 2] rfl) (fun H locs ls hP hD hS hl => ?_)
  refine lv_aload_n hx hb dX5_writeTree_54 rfl (lv_at hl 1 rfl) ?_
  refine lv_iload_n hx hb dX5_writeTree_55 rfl (lv_at hl 0 rfl) ?_
  refine lv_iconst (v := (-1)) hx hb dX5_writeTree_56 (by decide) ?_
  obtain ⟨r3, hcr3, hM⟩ := ob_use hM
  refine cl_V (As := [.int r2.1, .int (-1)]) (rest := []) (w_Writer_this_tree_names_out cI ad o_tree o_names r3) [] ⟨hx, hb, hml, hown, hts⟩ (c_Writer_finishUpTo l D cI sd ad o_tree o_names r2.2 r2.1 (-1) r3 hcr3) (cwV2 hts q862 mvX5_finishUpTo rfl rfl ⟨(Nat.le_of_ble_eq_true rfl), (Nat.le_of_ble_eq_true rfl)⟩) hK hE hA hP hD hS 0 (T := TX5) (N := 3) (ci := 5) rfl rfl [0, 1, 2, 3, 4, 5, 6, 7, 8, 9, 10, 11, 12, 13, 14, 15] rfl (by decide) rfl rfl rfl rfl rfl rfl hl.1 (Nat.le_of_ble_eq_true rfl) dX5_writeTree_57 ⟨Nat.zero_le _, Nat.zero_le _⟩ (fun H locs hP hD hS => ?_)
  cases hM
  exact rt_v hx hb hr hlk hP hD hS rfl dX5_writeTree_60
