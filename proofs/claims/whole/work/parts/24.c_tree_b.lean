set_option maxHeartbeats 4000000 in
set_option maxRecDepth 100000 in
theorem c_Tree_link (l : Launch) (D : va_G) (cI : ClassId) (sd : Nat → Nat) (ad : Nat → Nat) (o_this : S_Tree) (res : S_Tree) (hM : f_Tree_link o_this = some res) : Ctr l D cI sd yX3_link (wsM yX3_link cX3_link 3 (Option.none : Option Jvm.ClassFile.FieldType)) { frames := 2, cells := 0, slots := 0, locals := 44 } [.ref (ad 14)] (wT cI ad o_this) (wT cI ad res) none := by
  refine Ctr.of (cc := cX3_link) (maxL := 3) (own := RX3) (by decide +kernel) rfl rfl (Nat.le_of_ble_eq_true rfl) ?_
  intro p e s m below meth c A ls hx hb hr hml hown hts hlk hK hE hA hP hD hS hl
  have hl : lv_has ls 3 [(0, .ref (ad 14))] := hl
  unfold f_Tree_link at hM
  refine lv_iconst (v := (-1)) hx hb dX3_link_0 (by decide) ?_
  refine lv_istore_n (lv' := [(1, .int (-1)), (0, .ref (ad 14))]) hx hb dX3_link_1 rfl hl (by decide) rfl (fun ls hl => ?_)
  refine lv_iconst (v := 0) hx hb dX3_link_2 (by decide) ?_
  refine lv_istore_n (lv' := [(2, .int 0), (1, .int (-1)), (0, .ref (ad 14))]) hx hb dX3_link_3 rfl hl (by decide) rfl (fun ls hl => ?_)
  have lp_L4 : ∀ (n : Nat) (v2_L4 : Int32) (v1_L4 : Int32) (o_this_L4 : S_Tree) (out_L4 : S_Tree) (H : Heap) (locs : List Loc) (ls : Array Slot), f_Tree_link_L4 n v2_L4 v1_L4 o_this_L4 = some out_L4 → va_P D vwCl (wT cI ad o_this_L4) H → va_D A (wT cI ad o_this_L4) → va_S A s.heap H locs → lv_has ls 3 [(2, .int v2_L4), (1, .int v1_L4), (0, .ref (ad 14))] → (∀ (H : Heap) (locs : List Loc) (ls : Array Slot), va_P D vwCl (wT cI ad out_L4) H → va_D A (wT cI ad out_L4) → va_S A s.heap H locs → lv_has ls 3 [(0, .ref (ad 14))] → W p l e { frames := 2, cells := 0, slots := 0, locals := 44 } s m [.ref (ad 14)].toArray below meth c H locs 0 0 (MQ below (CQ D A (wT cI ad res) none) [.ref (ad 14)].toArray s 0 0 A) (F0 m 76 ls [])) → W p l e { frames := 2, cells := 0, slots := 0, locals := 44 } s m [.ref (ad 14)].toArray below meth c H locs 0 0 (MQ below (CQ D A (wT cI ad res) none) [.ref (ad 14)].toArray s 0 0 A) (F0 m 4 ls []) := by
    intro  n
    induction n with
    | zero => intro v2_L4 v1_L4 o_this_L4 out_L4 H locs ls hM; exact absurd (show none = some _ from hM) (by simp)
    | succ n ih_L4 =>
      intro v2_L4 v1_L4 o_this_L4 out_L4 H locs ls hM hP hD hS hl kx_L4
      rw [f_Tree_link_L4] at hM
      refine lv_iload_n hx hb dX3_link_4 rfl (lv_at hl 0 rfl) ?_
      refine lv_aload_n hx hb dX3_link_5 rfl (lv_at hl 2 rfl) ?_
      refine va_get (D := D) (ci := 3) (v := .int o_this_L4.1) (C := RX3) (T := TX3) (N := 8) hx hb hts layX3 hown hK hP 0 rfl rfl 7 (by decide) (hts _ (inA q370)) (fun _ h9 => h9) rfl dX3_link_6 ?_
      refine lv_icmp_ge (tgt := 76) hx hb dX3_link_9 (by decide) (fun c1141 => ?_) (fun c1141 => ?_)
      · replace hM := if_t c1141 hM
        cases hM
        exact kx_L4 _ _ _ hP hD hS (lv_sub hl [2] rfl)
      · replace hM := if_f c1141 hM
        refine lv_iload_n hx hb dX3_link_12 rfl (lv_at hl 0 rfl) ?_
        refine lv_sipush (v := 16384) hx hb dX3_link_13 (by decide) ?_
        refine lv_icmp_ge (tgt := 76) hx hb dX3_link_16 (by decide) (fun c1142 => ?_) (fun c1142 => ?_)
        · replace hM := if_t c1142 hM
          cases hM
          exact kx_L4 _ _ _ hP hD hS (lv_sub hl [2] rfl)
        · replace hM := if_f c1142 hM
          refine lv_aload_n hx hb dX3_link_19 rfl (lv_at hl 2 rfl) ?_
          refine lv_iload_n hx hb dX3_link_20 rfl (lv_at hl 1 rfl) ?_
          obtain ⟨r1143, hcr1143, hM⟩ := ob_use hM
          refine cl_V (As := [.int v1_L4]) (rest := []) (wT cI ad o_this_L4) (.int r1143 :: []) ⟨hx, hb, hml, hown, hts⟩ (c_Tree_firstUnfilled l D cI sd ad o_this_L4 v1_L4 r1143 hcr1143) (cwV2 hts q810 mvX3_firstUnfilled rfl rfl ⟨(Nat.le_of_ble_eq_true rfl), (Nat.le_of_ble_eq_true rfl)⟩) hK hE hA hP hD hS 0 (T := TX3) (N := 8) (ci := 3) rfl rfl [0, 1, 2, 3, 4, 5, 6, 7] rfl (by decide) rfl rfl rfl rfl rfl rfl hl.1 (Nat.le_of_ble_eq_true rfl) dX3_link_21 ⟨Nat.zero_le _, Nat.zero_le _⟩ (fun H locs hP hD hS => ?_)
          refine lv_istore_n (lv' := [(1, .int r1143), (2, .int v2_L4), (0, .ref (ad 14))]) hx hb dX3_link_24 rfl hl (by decide) rfl (fun ls hl => ?_)
          refine lv_aload_n hx hb dX3_link_25 rfl (lv_at hl 2 rfl) ?_
          refine va_get (D := D) (ci := 3) (v := .ref (ad 19)) (C := RX3) (T := TX3) (N := 8) hx hb hts layX3 hown hK hP 0 rfl rfl 4 (by decide) (hts _ (inA q367)) (fun _ h9 => h9) rfl dX3_link_26 ?_
          refine lv_iload_n hx hb dX3_link_29 rfl (lv_at hl 1 rfl) ?_
          refine lv_iload_n hx hb dX3_link_30 rfl (lv_at hl 0 rfl) ?_
          obtain ⟨b1144, hM⟩ := gd_use hM
          refine va_iast hx hb hK hP hD hS 5 0 rfl rfl b1144 dX3_link_31 (fun H locs hP hD hS => ?_)
          have hP : va_P D vwCl (wT cI ad (o_this_L4.1, o_this_L4.2.1, o_this_L4.2.2.1, o_this_L4.2.2.2.1, o_this_L4.2.2.2.2.1, upd o_this_L4.2.2.2.2.2.1 v2_L4.toNatClampNeg r1143, o_this_L4.2.2.2.2.2.2)) H := hP
          have hD : va_D A (wT cI ad (o_this_L4.1, o_this_L4.2.1, o_this_L4.2.2.1, o_this_L4.2.2.2.1, o_this_L4.2.2.2.2.1, upd o_this_L4.2.2.2.2.2.1 v2_L4.toNatClampNeg r1143, o_this_L4.2.2.2.2.2.2)) := hD
          refine lv_aload_n hx hb dX3_link_32 rfl (lv_at hl 2 rfl) ?_
          refine va_get (D := D) (ci := 3) (v := .ref (ad 20)) (C := RX3) (T := TX3) (N := 8) hx hb hts layX3 hown hK hP 0 rfl rfl 5 (by decide) (hts _ (inA q368)) (fun _ h9 => h9) rfl dX3_link_33 ?_
          refine lv_iload_n hx hb dX3_link_36 rfl (lv_at hl 1 rfl) ?_
          refine lv_aload_n hx hb dX3_link_37 rfl (lv_at hl 2 rfl) ?_
          refine lv_iload_n hx hb dX3_link_38 rfl (lv_at hl 0 rfl) ?_
          obtain ⟨r1145, hcr1145, hM⟩ := ob_use hM
          refine cl_V (As := [.int r1143]) (rest := [.int v2_L4, .ref (ad 20)]) (wT cI ad (o_this_L4.1, o_this_L4.2.1, o_this_L4.2.2.1, o_this_L4.2.2.2.1, o_this_L4.2.2.2.2.1, upd o_this_L4.2.2.2.2.2.1 v2_L4.toNatClampNeg r1143, o_this_L4.2.2.2.2.2.2)) (.int r1145 :: [.int v2_L4, .ref (ad 20)]) ⟨hx, hb, hml, hown, hts⟩ (c_Tree_has l D cI sd ad (o_this_L4.1, o_this_L4.2.1, o_this_L4.2.2.1, o_this_L4.2.2.2.1, o_this_L4.2.2.2.2.1, upd o_this_L4.2.2.2.2.2.1 v2_L4.toNatClampNeg r1143, o_this_L4.2.2.2.2.2.2) r1143 r1145 hcr1145) (cwV2 hts q759 mvX3_has rfl rfl ⟨(Nat.le_of_ble_eq_true rfl), (Nat.le_of_ble_eq_true rfl)⟩) hK hE hA hP hD hS 0 (T := TX3) (N := 8) (ci := 3) rfl rfl [0, 1, 2, 3, 4, 5, 6, 7] rfl (by decide) rfl rfl rfl rfl rfl rfl hl.1 (Nat.le_of_ble_eq_true rfl) dX3_link_39 ⟨Nat.zero_le _, Nat.zero_le _⟩ (fun H locs hP hD hS => ?_)
          refine lv_if_eq (tgt := 59) hx hb dX3_link_42 (by decide) (fun c1146 => ?_) (fun c1146 => ?_)
          · replace hM := if_t c1146 hM
            refine lv_iconst (v := 0) hx hb dX3_link_59 (by decide) ?_
            obtain ⟨b1147, hM⟩ := gd_use hM
            refine va_iast hx hb hK hP hD hS 6 0 rfl rfl b1147 dX3_link_60 (fun H locs hP hD hS => ?_)
            have hP : va_P D vwCl (wT cI ad (o_this_L4.1, o_this_L4.2.1, o_this_L4.2.2.1, o_this_L4.2.2.2.1, o_this_L4.2.2.2.2.1, upd o_this_L4.2.2.2.2.2.1 v2_L4.toNatClampNeg r1143, upd o_this_L4.2.2.2.2.2.2.1 v2_L4.toNatClampNeg 0, o_this_L4.2.2.2.2.2.2.2)) H := hP
            have hD : va_D A (wT cI ad (o_this_L4.1, o_this_L4.2.1, o_this_L4.2.2.1, o_this_L4.2.2.2.1, o_this_L4.2.2.2.2.1, upd o_this_L4.2.2.2.2.2.1 v2_L4.toNatClampNeg r1143, upd o_this_L4.2.2.2.2.2.2.1 v2_L4.toNatClampNeg 0, o_this_L4.2.2.2.2.2.2.2)) := hD
            refine lv_aload_n hx hb dX3_link_61 rfl (lv_at hl 2 rfl) ?_
            refine va_get (D := D) (ci := 3) (v := .ref (ad 21)) (C := RX3) (T := TX3) (N := 8) hx hb hts layX3 hown hK hP 0 rfl rfl 6 (by decide) (hts _ (inA q369)) (fun _ h9 => h9) rfl dX3_link_62 ?_
            refine lv_iload_n hx hb dX3_link_65 rfl (lv_at hl 1 rfl) ?_
            refine lv_iconst (v := 0) hx hb dX3_link_66 (by decide) ?_
            obtain ⟨b1148, hM⟩ := gd_use hM
            refine va_iast hx hb hK hP hD hS 7 0 rfl rfl b1148 dX3_link_67 (fun H locs hP hD hS => ?_)
            have hP : va_P D vwCl (wT cI ad (o_this_L4.1, o_this_L4.2.1, o_this_L4.2.2.1, o_this_L4.2.2.2.1, o_this_L4.2.2.2.2.1, upd o_this_L4.2.2.2.2.2.1 v2_L4.toNatClampNeg r1143, upd o_this_L4.2.2.2.2.2.2.1 v2_L4.toNatClampNeg 0, upd o_this_L4.2.2.2.2.2.2.2 v2_L4.toNatClampNeg 0)) H := hP
            have hD : va_D A (wT cI ad (o_this_L4.1, o_this_L4.2.1, o_this_L4.2.2.1, o_this_L4.2.2.2.1, o_this_L4.2.2.2.2.1, upd o_this_L4.2.2.2.2.2.1 v2_L4.toNatClampNeg r1143, upd o_this_L4.2.2.2.2.2.2.1 v2_L4.toNatClampNeg 0, upd o_this_L4.2.2.2.2.2.2.2 v2_L4.toNatClampNeg 0)) := hD
            refine lv_iload_n hx hb dX3_link_68 rfl (lv_at hl 1 rfl) ?_
            refine lv_istore_n (lv' := [(1, .int v2_L4), (2, .int v2_L4), (0, .ref (ad 14))]) hx hb dX3_link_69 rfl hl (by decide) rfl (fun ls hl => ?_)
            obtain ⟨x1149, ex1149⟩ : ∃ y : Int32, y = v2_L4 + 1 := ⟨_, rfl⟩
            replace hM := nm_use ex1149 hM
            refine lv_iinc (v := x1149) (lv' := [(2, .int x1149), (1, .int v2_L4), (0, .ref (ad 14))]) hx hb dX3_link_70 hl (k := 1) rfl (by rw [ex1149]; rfl) (by decide) rfl (fun ls hl => ?_)
            refine lv_goto (tgt := 4) hx hb dX3_link_73 (by decide) ?_
            exact ih_L4 x1149 v2_L4 (o_this_L4.1, o_this_L4.2.1, o_this_L4.2.2.1, o_this_L4.2.2.2.1, o_this_L4.2.2.2.2.1, upd o_this_L4.2.2.2.2.2.1 v2_L4.toNatClampNeg r1143, upd o_this_L4.2.2.2.2.2.2.1 v2_L4.toNatClampNeg 0, upd o_this_L4.2.2.2.2.2.2.2 v2_L4.toNatClampNeg 0) out_L4 _ _ _ hM hP hD hS (lv_sub hl [0, 1, 2] rfl) kx_L4
          · replace hM := if_f c1146 hM
            refine lv_aload_n hx hb dX3_link_45 rfl (lv_at hl 2 rfl) ?_
            refine va_get (D := D) (ci := 3) (v := .ref (ad 21)) (C := RX3) (T := TX3) (N := 8) hx hb hts layX3 hown hK hP 0 rfl rfl 6 (by decide) (hts _ (inA q369)) (fun _ h9 => h9) rfl dX3_link_46 ?_
            refine lv_iload_n hx hb dX3_link_49 rfl (lv_at hl 0 rfl) ?_
            refine lv_dup2_11 hx hb dX3_link_50 rfl rfl ?_
            obtain ⟨b1150, hM⟩ := gd_use hM
            refine va_iald hx hb hK hP 7 0 rfl rfl b1150 dX3_link_51 ?_
            refine lv_dup_x2 hx hb dX3_link_52 rfl rfl rfl ?_
            refine lv_iconst (v := 1) hx hb dX3_link_53 (by decide) ?_
            refine lv_iadd hx hb dX3_link_54 ?_
            refine lv_topi (fun x1152 ex1152 => ?_)
            replace hM := nm_use ex1152 hM
            obtain ⟨b1151, hM⟩ := gd_use hM
            refine va_iast hx hb hK hP hD hS 7 0 rfl rfl b1151 dX3_link_55 (fun H locs hP hD hS => ?_)
            have hP : va_P D vwCl (wT cI ad (o_this_L4.1, o_this_L4.2.1, o_this_L4.2.2.1, o_this_L4.2.2.2.1, o_this_L4.2.2.2.2.1, upd o_this_L4.2.2.2.2.2.1 v2_L4.toNatClampNeg r1143, o_this_L4.2.2.2.2.2.2.1, upd o_this_L4.2.2.2.2.2.2.2 r1143.toNatClampNeg x1152)) H := hP
            have hD : va_D A (wT cI ad (o_this_L4.1, o_this_L4.2.1, o_this_L4.2.2.1, o_this_L4.2.2.2.1, o_this_L4.2.2.2.2.1, upd o_this_L4.2.2.2.2.2.1 v2_L4.toNatClampNeg r1143, o_this_L4.2.2.2.2.2.2.1, upd o_this_L4.2.2.2.2.2.2.2 r1143.toNatClampNeg x1152)) := hD
            refine lv_goto (tgt := 60) hx hb dX3_link_56 (by decide) ?_
            refine lv_topi (fun x1154 ex1154 => ?_)
            replace hM := nm_use ex1154 hM
            obtain ⟨b1153, hM⟩ := gd_use hM
            refine va_iast hx hb hK hP hD hS 6 0 rfl rfl b1153 dX3_link_60 (fun H locs hP hD hS => ?_)
            have hP : va_P D vwCl (wT cI ad (o_this_L4.1, o_this_L4.2.1, o_this_L4.2.2.1, o_this_L4.2.2.2.1, o_this_L4.2.2.2.2.1, upd o_this_L4.2.2.2.2.2.1 v2_L4.toNatClampNeg r1143, upd o_this_L4.2.2.2.2.2.2.1 v2_L4.toNatClampNeg x1154, upd o_this_L4.2.2.2.2.2.2.2 r1143.toNatClampNeg x1152)) H := hP
            have hD : va_D A (wT cI ad (o_this_L4.1, o_this_L4.2.1, o_this_L4.2.2.1, o_this_L4.2.2.2.1, o_this_L4.2.2.2.2.1, upd o_this_L4.2.2.2.2.2.1 v2_L4.toNatClampNeg r1143, upd o_this_L4.2.2.2.2.2.2.1 v2_L4.toNatClampNeg x1154, upd o_this_L4.2.2.2.2.2.2.2 r1143.toNatClampNeg x1152)) := hD
            refine lv_aload_n hx hb dX3_link_61 rfl (lv_at hl 2 rfl) ?_
            refine va_get (D := D) (ci := 3) (v := .ref (ad 21)) (C := RX3) (T := TX3) (N := 8) hx hb hts layX3 hown hK hP 0 rfl rfl 6 (by decide) (hts _ (inA q369)) (fun _ h9 => h9) rfl dX3_link_62 ?_
            refine lv_iload_n hx hb dX3_link_65 rfl (lv_at hl 1 rfl) ?_
            refine lv_iconst (v := 0) hx hb dX3_link_66 (by decide) ?_
            obtain ⟨b1155, hM⟩ := gd_use hM
            refine va_iast hx hb hK hP hD hS 7 0 rfl rfl b1155 dX3_link_67 (fun H locs hP hD hS => ?_)
            have hP : va_P D vwCl (wT cI ad (o_this_L4.1, o_this_L4.2.1, o_this_L4.2.2.1, o_this_L4.2.2.2.1, o_this_L4.2.2.2.2.1, upd o_this_L4.2.2.2.2.2.1 v2_L4.toNatClampNeg r1143, upd o_this_L4.2.2.2.2.2.2.1 v2_L4.toNatClampNeg x1154, upd (upd o_this_L4.2.2.2.2.2.2.2 r1143.toNatClampNeg x1152) v2_L4.toNatClampNeg 0)) H := hP
            have hD : va_D A (wT cI ad (o_this_L4.1, o_this_L4.2.1, o_this_L4.2.2.1, o_this_L4.2.2.2.1, o_this_L4.2.2.2.2.1, upd o_this_L4.2.2.2.2.2.1 v2_L4.toNatClampNeg r1143, upd o_this_L4.2.2.2.2.2.2.1 v2_L4.toNatClampNeg x1154, upd (upd o_this_L4.2.2.2.2.2.2.2 r1143.toNatClampNeg x1152) v2_L4.toNatClampNeg 0)) := hD
            refine lv_iload_n hx hb dX3_link_68 rfl (lv_at hl 1 rfl) ?_
            refine lv_istore_n (lv' := [(1, .int v2_L4), (2, .int v2_L4), (0, .ref (ad 14))]) hx hb dX3_link_69 rfl hl (by decide) rfl (fun ls hl => ?_)
            obtain ⟨x1156, ex1156⟩ : ∃ y : Int32, y = v2_L4 + 1 := ⟨_, rfl⟩
            replace hM := nm_use ex1156 hM
            refine lv_iinc (v := x1156) (lv' := [(2, .int x1156), (1, .int v2_L4), (0, .ref (ad 14))]) hx hb dX3_link_70 hl (k := 1) rfl (by rw [ex1156]; rfl) (by decide) rfl (fun ls hl => ?_)
            refine lv_goto (tgt := 4) hx hb dX3_link_73 (by decide) ?_
            exact ih_L4 x1156 v2_L4 (o_this_L4.1, o_this_L4.2.1, o_this_L4.2.2.1, o_this_L4.2.2.2.1, o_this_L4.2.2.2.2.1, upd o_this_L4.2.2.2.2.2.1 v2_L4.toNatClampNeg r1143, upd o_this_L4.2.2.2.2.2.2.1 v2_L4.toNatClampNeg x1154, upd (upd o_this_L4.2.2.2.2.2.2.2 r1143.toNatClampNeg x1152) v2_L4.toNatClampNeg 0) out_L4 _ _ _ hM hP hD hS (lv_sub hl [0, 1, 2] rfl) kx_L4
  obtain ⟨r1, hcr1, hM⟩ := ob_use hM
  refine lp_L4 FU 0 (-1) o_this r1 _ _ _ hcr1 hP hD hS (lv_sub hl [0, 1, 2] rfl) (fun H locs ls hP hD hS hl => ?_)
  cases hM
  exact rt_v hx hb hr hlk hP hD hS rfl dX3_link_76

set_option maxHeartbeats 4000000 in
set_option maxRecDepth 100000 in
theorem c_Tree_children (l : Launch) (D : va_G) (cI : ClassId) (sd : Nat → Nat) (ad : Nat → Nat) (o_this : S_Tree) (a1 : Int32) (res : Int32) (hM : f_Tree_children o_this a1 = some res) : Ctr l D cI sd yX3_children (wsM yX3_children cX3_children 2 (Option.some Jvm.ClassFile.FieldType.int)) { frames := 1, cells := 0, slots := 0, locals := 21 } [.ref (ad 14), .int a1] (wT cI ad o_this) (wT cI ad o_this) (some (.int res)) := by
  refine Ctr.of (cc := cX3_children) (maxL := 2) (own := RX3) (by decide +kernel) rfl rfl (Nat.le_of_ble_eq_true rfl) ?_
  intro p e s m below meth c A ls hx hb hr hml hown hts hlk hK hE hA hP hD hS hl
  have hl : lv_has ls 2 [(0, .ref (ad 14)), (1, .int a1)] := hl
  unfold f_Tree_children at hM
  refine lv_aload_n hx hb dX3_children_0 rfl (lv_at hl 0 rfl) ?_
  refine lv_iload_n hx hb dX3_children_1 rfl (lv_at hl 1 rfl) ?_
  obtain ⟨r1, hcr1, hM⟩ := ob_use hM
  refine cl_V (As := [.int a1]) (rest := []) (wT cI ad o_this) (.int r1 :: []) ⟨hx, hb, hml, hown, hts⟩ (c_Tree_has l D cI sd ad o_this a1 r1 hcr1) (cwV2 hts q759 mvX3_has rfl rfl ⟨(Nat.le_of_ble_eq_true rfl), (Nat.le_of_ble_eq_true rfl)⟩) hK hE hA hP hD hS 0 (T := TX3) (N := 8) (ci := 3) rfl rfl [0, 1, 2, 3, 4, 5, 6, 7] rfl (by decide) rfl rfl rfl rfl rfl rfl hl.1 (Nat.le_of_ble_eq_true rfl) dX3_children_2 ⟨Nat.zero_le _, Nat.zero_le _⟩ (fun H locs hP hD hS => ?_)
  refine lv_if_eq (tgt := 17) hx hb dX3_children_5 (by decide) (fun c2 => ?_) (fun c2 => ?_)
  · replace hM := if_t c2 hM
    refine lv_iconst (v := (-1)) hx hb dX3_children_17 (by decide) ?_
    cases hM
    exact rt_i hx hb hr hlk hP hD hS rfl dX3_children_18
  · replace hM := if_f c2 hM
    refine lv_aload_n hx hb dX3_children_8 rfl (lv_at hl 0 rfl) ?_
    refine va_get (D := D) (ci := 3) (v := .ref (ad 18)) (C := RX3) (T := TX3) (N := 8) hx hb hts layX3 hown hK hP 0 rfl rfl 3 (by decide) (hts _ (inA q366)) (fun _ h9 => h9) rfl dX3_children_9 ?_
    refine lv_iload_n hx hb dX3_children_12 rfl (lv_at hl 1 rfl) ?_
    obtain ⟨b3, hM⟩ := gd_use hM
    refine va_iald hx hb hK hP 4 0 rfl rfl b3 dX3_children_13 ?_
    refine lv_goto (tgt := 18) hx hb dX3_children_14 (by decide) ?_
    cases hM
    exact rt_i hx hb hr hlk hP hD hS rfl dX3_children_18

set_option maxHeartbeats 4000000 in
set_option maxRecDepth 100000 in
theorem c_Tree_kind (l : Launch) (D : va_G) (cI : ClassId) (sd : Nat → Nat) (ad : Nat → Nat) (o_this : S_Tree) (a1 : Int32) (res : Int32) (hM : f_Tree_kind o_this a1 = some res) : Ctr l D cI sd yX3_kind (wsM yX3_kind cX3_kind 2 (Option.some Jvm.ClassFile.FieldType.int)) { frames := 1, cells := 0, slots := 0, locals := 21 } [.ref (ad 14), .int a1] (wT cI ad o_this) (wT cI ad o_this) (some (.int res)) := by
  refine Ctr.of (cc := cX3_kind) (maxL := 2) (own := RX3) (by decide +kernel) rfl rfl (Nat.le_of_ble_eq_true rfl) ?_
  intro p e s m below meth c A ls hx hb hr hml hown hts hlk hK hE hA hP hD hS hl
  have hl : lv_has ls 2 [(0, .ref (ad 14)), (1, .int a1)] := hl
  unfold f_Tree_kind at hM
  refine lv_aload_n hx hb dX3_kind_0 rfl (lv_at hl 0 rfl) ?_
  refine lv_iload_n hx hb dX3_kind_1 rfl (lv_at hl 1 rfl) ?_
  obtain ⟨r1, hcr1, hM⟩ := ob_use hM
  refine cl_V (As := [.int a1]) (rest := []) (wT cI ad o_this) (.int r1 :: []) ⟨hx, hb, hml, hown, hts⟩ (c_Tree_has l D cI sd ad o_this a1 r1 hcr1) (cwV2 hts q759 mvX3_has rfl rfl ⟨(Nat.le_of_ble_eq_true rfl), (Nat.le_of_ble_eq_true rfl)⟩) hK hE hA hP hD hS 0 (T := TX3) (N := 8) (ci := 3) rfl rfl [0, 1, 2, 3, 4, 5, 6, 7] rfl (by decide) rfl rfl rfl rfl rfl rfl hl.1 (Nat.le_of_ble_eq_true rfl) dX3_kind_2 ⟨Nat.zero_le _, Nat.zero_le _⟩ (fun H locs hP hD hS => ?_)
  refine lv_if_eq (tgt := 17) hx hb dX3_kind_5 (by decide) (fun c2 => ?_) (fun c2 => ?_)
  · replace hM := if_t c2 hM
    refine lv_iconst (v := (-1)) hx hb dX3_kind_17 (by decide) ?_
    cases hM
    exact rt_i hx hb hr hlk hP hD hS rfl dX3_kind_18
  · replace hM := if_f c2 hM
    refine lv_aload_n hx hb dX3_kind_8 rfl (lv_at hl 0 rfl) ?_
    refine va_get (D := D) (ci := 3) (v := .ref (ad 15)) (C := RX3) (T := TX3) (N := 8) hx hb hts layX3 hown hK hP 0 rfl rfl 0 (by decide) (hts _ (inA q363)) (fun _ h9 => h9) rfl dX3_kind_9 ?_
    refine lv_iload_n hx hb dX3_kind_12 rfl (lv_at hl 1 rfl) ?_
    obtain ⟨b3, hM⟩ := gd_use hM
    refine va_iald hx hb hK hP 1 0 rfl rfl b3 dX3_kind_13 ?_
    refine lv_goto (tgt := 18) hx hb dX3_kind_14 (by decide) ?_
    cases hM
    exact rt_i hx hb hr hlk hP hD hS rfl dX3_kind_18

set_option maxHeartbeats 4000000 in
set_option maxRecDepth 100000 in
theorem c_Tree_parent (l : Launch) (D : va_G) (cI : ClassId) (sd : Nat → Nat) (ad : Nat → Nat) (o_this : S_Tree) (a1 : Int32) (res : Int32) (hM : f_Tree_parent o_this a1 = some res) : Ctr l D cI sd yX3_parent (wsM yX3_parent cX3_parent 2 (Option.some Jvm.ClassFile.FieldType.int)) { frames := 1, cells := 0, slots := 0, locals := 21 } [.ref (ad 14), .int a1] (wT cI ad o_this) (wT cI ad o_this) (some (.int res)) := by
  refine Ctr.of (cc := cX3_parent) (maxL := 2) (own := RX3) (by decide +kernel) rfl rfl (Nat.le_of_ble_eq_true rfl) ?_
  intro p e s m below meth c A ls hx hb hr hml hown hts hlk hK hE hA hP hD hS hl
  have hl : lv_has ls 2 [(0, .ref (ad 14)), (1, .int a1)] := hl
  unfold f_Tree_parent at hM
  refine lv_aload_n hx hb dX3_parent_0 rfl (lv_at hl 0 rfl) ?_
  refine lv_iload_n hx hb dX3_parent_1 rfl (lv_at hl 1 rfl) ?_
  obtain ⟨r1, hcr1, hM⟩ := ob_use hM
  refine cl_V (As := [.int a1]) (rest := []) (wT cI ad o_this) (.int r1 :: []) ⟨hx, hb, hml, hown, hts⟩ (c_Tree_has l D cI sd ad o_this a1 r1 hcr1) (cwV2 hts q759 mvX3_has rfl rfl ⟨(Nat.le_of_ble_eq_true rfl), (Nat.le_of_ble_eq_true rfl)⟩) hK hE hA hP hD hS 0 (T := TX3) (N := 8) (ci := 3) rfl rfl [0, 1, 2, 3, 4, 5, 6, 7] rfl (by decide) rfl rfl rfl rfl rfl rfl hl.1 (Nat.le_of_ble_eq_true rfl) dX3_parent_2 ⟨Nat.zero_le _, Nat.zero_le _⟩ (fun H locs hP hD hS => ?_)
  refine lv_if_eq (tgt := 17) hx hb dX3_parent_5 (by decide) (fun c2 => ?_) (fun c2 => ?_)
  · replace hM := if_t c2 hM
    refine lv_iconst (v := (-1)) hx hb dX3_parent_17 (by decide) ?_
    cases hM
    exact rt_i hx hb hr hlk hP hD hS rfl dX3_parent_18
  · replace hM := if_f c2 hM
    refine lv_aload_n hx hb dX3_parent_8 rfl (lv_at hl 0 rfl) ?_
    refine va_get (D := D) (ci := 3) (v := .ref (ad 19)) (C := RX3) (T := TX3) (N := 8) hx hb hts layX3 hown hK hP 0 rfl rfl 4 (by decide) (hts _ (inA q367)) (fun _ h9 => h9) rfl dX3_parent_9 ?_
    refine lv_iload_n hx hb dX3_parent_12 rfl (lv_at hl 1 rfl) ?_
    obtain ⟨b3, hM⟩ := gd_use hM
    refine va_iald hx hb hK hP 5 0 rfl rfl b3 dX3_parent_13 ?_
    refine lv_goto (tgt := 18) hx hb dX3_parent_14 (by decide) ?_
    cases hM
    exact rt_i hx hb hr hlk hP hD hS rfl dX3_parent_18

set_option maxHeartbeats 4000000 in
set_option maxRecDepth 100000 in
theorem c_Tree_place (l : Launch) (D : va_G) (cI : ClassId) (sd : Nat → Nat) (ad : Nat → Nat) (o_this : S_Tree) (a1 : Int32) (res : Int32) (hM : f_Tree_place o_this a1 = some res) : Ctr l D cI sd yX3_place (wsM yX3_place cX3_place 2 (Option.some Jvm.ClassFile.FieldType.int)) { frames := 1, cells := 0, slots := 0, locals := 21 } [.ref (ad 14), .int a1] (wT cI ad o_this) (wT cI ad o_this) (some (.int res)) := by
  refine Ctr.of (cc := cX3_place) (maxL := 2) (own := RX3) (by decide +kernel) rfl rfl (Nat.le_of_ble_eq_true rfl) ?_
  intro p e s m below meth c A ls hx hb hr hml hown hts hlk hK hE hA hP hD hS hl
  have hl : lv_has ls 2 [(0, .ref (ad 14)), (1, .int a1)] := hl
  unfold f_Tree_place at hM
  refine lv_aload_n hx hb dX3_place_0 rfl (lv_at hl 0 rfl) ?_
  refine lv_iload_n hx hb dX3_place_1 rfl (lv_at hl 1 rfl) ?_
  obtain ⟨r1, hcr1, hM⟩ := ob_use hM
  refine cl_V (As := [.int a1]) (rest := []) (wT cI ad o_this) (.int r1 :: []) ⟨hx, hb, hml, hown, hts⟩ (c_Tree_has l D cI sd ad o_this a1 r1 hcr1) (cwV2 hts q759 mvX3_has rfl rfl ⟨(Nat.le_of_ble_eq_true rfl), (Nat.le_of_ble_eq_true rfl)⟩) hK hE hA hP hD hS 0 (T := TX3) (N := 8) (ci := 3) rfl rfl [0, 1, 2, 3, 4, 5, 6, 7] rfl (by decide) rfl rfl rfl rfl rfl rfl hl.1 (Nat.le_of_ble_eq_true rfl) dX3_place_2 ⟨Nat.zero_le _, Nat.zero_le _⟩ (fun H locs hP hD hS => ?_)
  refine lv_if_eq (tgt := 17) hx hb dX3_place_5 (by decide) (fun c2 => ?_) (fun c2 => ?_)
  · replace hM := if_t c2 hM
    refine lv_iconst (v := (-1)) hx hb dX3_place_17 (by decide) ?_
    cases hM
    exact rt_i hx hb hr hlk hP hD hS rfl dX3_place_18
  · replace hM := if_f c2 hM
    refine lv_aload_n hx hb dX3_place_8 rfl (lv_at hl 0 rfl) ?_
    refine va_get (D := D) (ci := 3) (v := .ref (ad 16)) (C := RX3) (T := TX3) (N := 8) hx hb hts layX3 hown hK hP 0 rfl rfl 1 (by decide) (hts _ (inA q364)) (fun _ h9 => h9) rfl dX3_place_9 ?_
    refine lv_iload_n hx hb dX3_place_12 rfl (lv_at hl 1 rfl) ?_
    obtain ⟨b3, hM⟩ := gd_use hM
    refine va_iald hx hb hK hP 2 0 rfl rfl b3 dX3_place_13 ?_
    refine lv_goto (tgt := 18) hx hb dX3_place_14 (by decide) ?_
    cases hM
    exact rt_i hx hb hr hlk hP hD hS rfl dX3_place_18

set_option maxHeartbeats 4000000 in
set_option maxRecDepth 100000 in
theorem c_Tree_value (l : Launch) (D : va_G) (cI : ClassId) (sd : Nat → Nat) (ad : Nat → Nat) (o_this : S_Tree) (a1 : Int32) (res : Int32) (hM : f_Tree_value o_this a1 = some res) : Ctr l D cI sd yX3_value (wsM yX3_value cX3_value 2 (Option.some Jvm.ClassFile.FieldType.int)) { frames := 1, cells := 0, slots := 0, locals := 21 } [.ref (ad 14), .int a1] (wT cI ad o_this) (wT cI ad o_this) (some (.int res)) := by
  refine Ctr.of (cc := cX3_value) (maxL := 2) (own := RX3) (by decide +kernel) rfl rfl (Nat.le_of_ble_eq_true rfl) ?_
  intro p e s m below meth c A ls hx hb hr hml hown hts hlk hK hE hA hP hD hS hl
  have hl : lv_has ls 2 [(0, .ref (ad 14)), (1, .int a1)] := hl
  unfold f_Tree_value at hM
  refine lv_aload_n hx hb dX3_value_0 rfl (lv_at hl 0 rfl) ?_
  refine lv_iload_n hx hb dX3_value_1 rfl (lv_at hl 1 rfl) ?_
  obtain ⟨r1, hcr1, hM⟩ := ob_use hM
  refine cl_V (As := [.int a1]) (rest := []) (wT cI ad o_this) (.int r1 :: []) ⟨hx, hb, hml, hown, hts⟩ (c_Tree_has l D cI sd ad o_this a1 r1 hcr1) (cwV2 hts q759 mvX3_has rfl rfl ⟨(Nat.le_of_ble_eq_true rfl), (Nat.le_of_ble_eq_true rfl)⟩) hK hE hA hP hD hS 0 (T := TX3) (N := 8) (ci := 3) rfl rfl [0, 1, 2, 3, 4, 5, 6, 7] rfl (by decide) rfl rfl rfl rfl rfl rfl hl.1 (Nat.le_of_ble_eq_true rfl) dX3_value_2 ⟨Nat.zero_le _, Nat.zero_le _⟩ (fun H locs hP hD hS => ?_)
  refine lv_if_eq (tgt := 17) hx hb dX3_value_5 (by decide) (fun c2 => ?_) (fun c2 => ?_)
  · replace hM := if_t c2 hM
    refine lv_iconst (v := (-1)) hx hb dX3_value_17 (by decide) ?_
    cases hM
    exact rt_i hx hb hr hlk hP hD hS rfl dX3_value_18
  · replace hM := if_f c2 hM
    refine lv_aload_n hx hb dX3_value_8 rfl (lv_at hl 0 rfl) ?_
    refine va_get (D := D) (ci := 3) (v := .ref (ad 17)) (C := RX3) (T := TX3) (N := 8) hx hb hts layX3 hown hK hP 0 rfl rfl 2 (by decide) (hts _ (inA q365)) (fun _ h9 => h9) rfl dX3_value_9 ?_
    refine lv_iload_n hx hb dX3_value_12 rfl (lv_at hl 1 rfl) ?_
    obtain ⟨b3, hM⟩ := gd_use hM
    refine va_iald hx hb hK hP 3 0 rfl rfl b3 dX3_value_13 ?_
    refine lv_goto (tgt := 18) hx hb dX3_value_14 (by decide) ?_
    cases hM
    exact rt_i hx hb hr hlk hP hD hS rfl dX3_value_18

set_option maxHeartbeats 4000000 in
set_option maxRecDepth 100000 in
theorem c_Tree_rank (l : Launch) (D : va_G) (cI : ClassId) (sd : Nat → Nat) (ad : Nat → Nat) (o_this : S_Tree) (a1 : Int32) (res : Int32) (hM : f_Tree_rank o_this a1 = some res) : Ctr l D cI sd yX3_rank (wsM yX3_rank cX3_rank 2 (Option.some Jvm.ClassFile.FieldType.int)) { frames := 1, cells := 0, slots := 0, locals := 21 } [.ref (ad 14), .int a1] (wT cI ad o_this) (wT cI ad o_this) (some (.int res)) := by
  refine Ctr.of (cc := cX3_rank) (maxL := 2) (own := RX3) (by decide +kernel) rfl rfl (Nat.le_of_ble_eq_true rfl) ?_
  intro p e s m below meth c A ls hx hb hr hml hown hts hlk hK hE hA hP hD hS hl
  have hl : lv_has ls 2 [(0, .ref (ad 14)), (1, .int a1)] := hl
  unfold f_Tree_rank at hM
  refine lv_aload_n hx hb dX3_rank_0 rfl (lv_at hl 0 rfl) ?_
  refine lv_iload_n hx hb dX3_rank_1 rfl (lv_at hl 1 rfl) ?_
  obtain ⟨r1, hcr1, hM⟩ := ob_use hM
  refine cl_V (As := [.int a1]) (rest := []) (wT cI ad o_this) (.int r1 :: []) ⟨hx, hb, hml, hown, hts⟩ (c_Tree_has l D cI sd ad o_this a1 r1 hcr1) (cwV2 hts q759 mvX3_has rfl rfl ⟨(Nat.le_of_ble_eq_true rfl), (Nat.le_of_ble_eq_true rfl)⟩) hK hE hA hP hD hS 0 (T := TX3) (N := 8) (ci := 3) rfl rfl [0, 1, 2, 3, 4, 5, 6, 7] rfl (by decide) rfl rfl rfl rfl rfl rfl hl.1 (Nat.le_of_ble_eq_true rfl) dX3_rank_2 ⟨Nat.zero_le _, Nat.zero_le _⟩ (fun H locs hP hD hS => ?_)
  refine lv_if_eq (tgt := 17) hx hb dX3_rank_5 (by decide) (fun c2 => ?_) (fun c2 => ?_)
  · replace hM := if_t c2 hM
    refine lv_iconst (v := (-1)) hx hb dX3_rank_17 (by decide) ?_
    cases hM
    exact rt_i hx hb hr hlk hP hD hS rfl dX3_rank_18
  · replace hM := if_f c2 hM
    refine lv_aload_n hx hb dX3_rank_8 rfl (lv_at hl 0 rfl) ?_
    refine va_get (D := D) (ci := 3) (v := .ref (ad 20)) (C := RX3) (T := TX3) (N := 8) hx hb hts layX3 hown hK hP 0 rfl rfl 5 (by decide) (hts _ (inA q368)) (fun _ h9 => h9) rfl dX3_rank_9 ?_
    refine lv_iload_n hx hb dX3_rank_12 rfl (lv_at hl 1 rfl) ?_
    obtain ⟨b3, hM⟩ := gd_use hM
    refine va_iald hx hb hK hP 6 0 rfl rfl b3 dX3_rank_13 ?_
    refine lv_goto (tgt := 18) hx hb dX3_rank_14 (by decide) ?_
    cases hM
    exact rt_i hx hb hr hlk hP hD hS rfl dX3_rank_18
