section LAW
variable {p : Program} {l : Launch} {e : Env} {s : State} {m : MethodId} {below : List Frame} {meth : Method} {c : Code} {D : va_G} {cI : ClassId} {sd ad am : Nat → Nat} {b L i : Nat} {xs : Nat → Int32} {Q : State → Prop} {A : Nat → Prop} {c0 : Cond} {H : Heap} {locs : List Loc} {ls : Array Slot}
variable {x_text : S_Bytes} {x_written : S_Bytes} {x_names : S_Names} {x_tokens : S_Tokens} {x_tree : S_Tree} {x_parser : S_Parser} {xC : S_MC} {xX : S_MX} {xL : S_ML} {xN : S_MN} {xT : S_MT} {xU : S_MU} {xO : S_MO} {xE : S_ME} {xQ : S_MQ} {xV : S_MV} {xI : S_MI}
set_option maxHeartbeats 1000000 in
set_option maxRecDepth 100000 in
theorem lo_node (hx : p.tables.exec = Jvm.exec) (hb : c.code = code) (hml : c.maxLocals = 4) (hown : s.vm.findClass RX9 = some m.cls) (hts : ∀ w ∈ c0 :: ALL, w.before #[Value.ref b] s = true) (hK : va_K D vwCl [(cI, .int)] s) (hE : Ev cI sd A s) (hA : ∀ q : Nat, s.heap.size ≤ q → A q) (hX : va_X b L xs s s.heap) (hbl : b < s.heap.size) (hbA : ¬ A b) (hi : i + 6 ≤ L) (hL : L ≤ 3072) (hSim : SIM x_text x_written x_names x_tree x_parser xC xX xL xN xT xQ xV) (hP : va_P D vwCl (wLW cI ad am x_text x_written x_names x_tokens x_tree x_parser xC xX xL xN xT xU xO xE xQ xV xI) H) (hD : va_D A (wLW cI ad am x_text x_written x_names x_tokens x_tree x_parser xC xX xL xN xT xU xO xE xQ xV xI)) (hS : va_S A s.heap H locs) (hl : lv_has ls 4 [(3, .int (Jn i)), (2, .ref (am 100)), (1, .ref (ad 0)), (0, .ref b)]) (kk : ∀ (x_text : S_Bytes) (x_written : S_Bytes) (x_names : S_Names) (x_tokens : S_Tokens) (x_tree : S_Tree) (x_parser : S_Parser) (xC : S_MC) (xX : S_MX) (xL : S_ML) (xN : S_MN) (xT : S_MT) (xU : S_MU) (xO : S_MO) (xE : S_ME) (xQ : S_MQ) (xV : S_MV) (xI : S_MI) (H : Heap) (locs : List Loc), SIM x_text x_written x_names x_tree x_parser xC xX xL xN xT xQ xV → va_P D vwCl (wLW cI ad am x_text x_written x_names x_tokens x_tree x_parser xC xX xL xN xT xU xO xE xQ xV xI) H → va_D A (wLW cI ad am x_text x_written x_names x_tokens x_tree x_parser xC xX xL xN xT xU xO xE xQ xV xI) → va_S A s.heap H locs → W p l e room_1 s m #[Value.ref b] below meth c H locs 49 431654 Q (F0 m 375 ls [])) : W p l e room_1 s m #[Value.ref b] below meth c H locs 49 431654 Q (F0 m 260 ls []) := by
  have hnn : ∀ j : Nat, j < 6 → vp_in (Jn (i + j)) L := fun j hj => in_Jn (by omega) (by omega)
  obtain ⟨r, e1, e2⟩ := node_ok hSim (xs (Jn i + 1).toNatClampNeg) (xs (Jn i + 2).toNatClampNeg)
  refine lv_aload_n hx hb dlaw_260 rfl (lv_at hl 2 rfl) ?_
  refine lv_aload_n hx hb dlaw_261 rfl (lv_at hl 3 rfl) ?_
  refine lv_iload_n hx hb dlaw_262 rfl (lv_at hl 0 rfl) ?_
  refine lv_iconst (v := 1) hx hb dlaw_263 (by decide) ?_
  refine lv_iadd hx hb dlaw_264 ?_
  refine va_sld hx hb hX hbl hbA hS (show vp_in (Jn i + 1) L by rw [addL i 1]; exact hnn 1 (by decide)) dlaw_265 ?_
  refine lv_aload_n hx hb dlaw_266 rfl (lv_at hl 3 rfl) ?_
  refine lv_iload_n hx hb dlaw_267 rfl (lv_at hl 0 rfl) ?_
  refine lv_iconst (v := 2) hx hb dlaw_268 (by decide) ?_
  refine lv_iadd hx hb dlaw_269 ?_
  refine va_sld hx hb hX hbl hbA hS (show vp_in (Jn i + 2) L by rw [addL i 2]; exact hnn 2 (by decide)) dlaw_270 ?_
  have hC0 : Ctr l D cI sd yX6_node (wsM yX6_node cX6_node 3 (Option.some Jvm.ClassFile.FieldType.int)) { frames := 2, cells := 0, slots := 0, locals := 42 } [.ref (ad 0), .int (xs (Jn i + 1).toNatClampNeg), .int (xs (Jn i + 2).toNatClampNeg)] (w_Top_this_tree cI ad x_tree) (w_Top_this_tree cI ad x_tree) (some (.int r)) := c_Top_node l D cI sd ad x_tree (xs (Jn i + 1).toNatClampNeg) (xs (Jn i + 2).toNatClampNeg) r e1
  refine cl_V (As := [.int (xs (Jn i + 1).toNatClampNeg), .int (xs (Jn i + 2).toNatClampNeg)]) (rest := []) (wLW cI ad am x_text x_written x_names x_tokens x_tree x_parser xC xX xL xN xT xU xO xE xQ xV xI) [.int r] ⟨hx, hb, hml, hown, hts⟩ hC0 (cwV2 hts q820 mvX6_node rfl rfl ⟨(Nat.le_of_ble_eq_true rfl), (Nat.le_of_ble_eq_true rfl)⟩) hK hE hA hP hD hS 0 (T := TX6) (N := 7) (ci := 6) rfl rfl [0, 14, 15, 16, 17, 18, 19, 20, 21] rfl (by decide) (mrgE rfl rfl) rfl rfl rfl rfl rfl hl.1 (Nat.le_of_ble_eq_true rfl) dlaw_271 ⟨(Nat.le_of_ble_eq_true rfl), (Nat.le_of_ble_eq_true rfl)⟩ (fun H locs hP hD hS => ?_)
  refine lv_aload_n hx hb dlaw_274 rfl (lv_at hl 1 rfl) ?_
  refine lv_aload_n hx hb dlaw_275 rfl (lv_at hl 3 rfl) ?_
  refine lv_iload_n hx hb dlaw_276 rfl (lv_at hl 0 rfl) ?_
  refine lv_iconst (v := 1) hx hb dlaw_277 (by decide) ?_
  refine lv_iadd hx hb dlaw_278 ?_
  refine va_sld hx hb hX hbl hbA hS (show vp_in (Jn i + 1) L by rw [addL i 1]; exact hnn 1 (by decide)) dlaw_279 ?_
  refine lv_aload_n hx hb dlaw_280 rfl (lv_at hl 3 rfl) ?_
  refine lv_iload_n hx hb dlaw_281 rfl (lv_at hl 0 rfl) ?_
  refine lv_iconst (v := 2) hx hb dlaw_282 (by decide) ?_
  refine lv_iadd hx hb dlaw_283 ?_
  refine va_sld hx hb hX hbl hbA hS (show vp_in (Jn i + 2) L by rw [addL i 2]; exact hnn 2 (by decide)) dlaw_284 ?_
  have hC1 : Ctr l D cI sd yX8_node (wsM yX8_node cX8_node 4 (Option.some Jvm.ClassFile.FieldType.int)) { frames := 1, cells := 0, slots := 0, locals := 23 } [.ref (am 100), .int (xs (Jn i + 1).toNatClampNeg), .int (xs (Jn i + 2).toNatClampNeg)] (wM_TQ cI am xX xL xN xT xU xO xE xQ xV xI) (wM_TQ cI am xX xL xN xT xU xO xE xQ xV xI) (some (.int r)) := c_Model_node l D cI sd am xC xX xL xN xU xO xE xV xI xT xQ (xs (Jn i + 1).toNatClampNeg) (xs (Jn i + 2).toNatClampNeg) r e2
  refine cl_V (As := [.int (xs (Jn i + 1).toNatClampNeg), .int (xs (Jn i + 2).toNatClampNeg)]) (rest := [.int r]) (wLW cI ad am x_text x_written x_names x_tokens x_tree x_parser xC xX xL xN xT xU xO xE xQ xV xI) [.int r, .int r] ⟨hx, hb, hml, hown, hts⟩ hC1 (cwV2 hts q1496 mvX8_node rfl rfl ⟨(Nat.le_of_ble_eq_true rfl), (Nat.le_of_ble_eq_true rfl)⟩) hK hE hA hP hD hS 24 (T := TX8) (N := 48) (ci := 8) rfl rfl [24, 32, 33, 34, 35, 36, 37, 38, 44, 45] rfl (by decide) (mrgE rfl rfl) rfl rfl rfl rfl rfl hl.1 (Nat.le_of_ble_eq_true rfl) dlaw_285 ⟨(Nat.le_of_ble_eq_true rfl), (Nat.le_of_ble_eq_true rfl)⟩ (fun H locs hP hD hS => ?_)
  refine lv_icmp_eq (tgt := 375) hx hb dlaw_288 (by decide) (fun _ => ?_) (fun h9 => absurd rfl h9)
  exact kk x_text x_written x_names x_tokens x_tree x_parser xC xX xL xN xT xU xO xE xQ xV xI H locs hSim hP hD hS
end LAW
