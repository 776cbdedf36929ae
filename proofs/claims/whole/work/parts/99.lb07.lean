section LAW
variable {p : Program} {l : Launch} {e : Env} {s : State} {m : MethodId} {below : List Frame} {meth : Method} {c : Code} {D : va_G} {cI : ClassId} {sd ad am : Nat → Nat} {b L i : Nat} {xs : Nat → Int32} {Q : State → Prop} {A : Nat → Prop} {c0 : Cond} {H : Heap} {locs : List Loc} {ls : Array Slot}
variable {x_text : S_Bytes} {x_written : S_Bytes} {x_names : S_Names} {x_tokens : S_Tokens} {x_tree : S_Tree} {x_parser : S_Parser} {xC : S_MC} {xX : S_MX} {xL : S_ML} {xN : S_MN} {xT : S_MT} {xU : S_MU} {xO : S_MO} {xE : S_ME} {xQ : S_MQ} {xV : S_MV} {xI : S_MI}
set_option maxHeartbeats 1000000 in
set_option maxRecDepth 100000 in
theorem lo_nameByte (hx : p.tables.exec = Jvm.exec) (hb : c.code = code) (hml : c.maxLocals = 4) (hown : s.vm.findClass RX9 = some m.cls) (hts : ∀ w ∈ c0 :: ALL, w.before #[Value.ref b] s = true) (hK : va_K D vwCl [(cI, .int)] s) (hE : Ev cI sd A s) (hA : ∀ q : Nat, s.heap.size ≤ q → A q) (hX : va_X b L xs s s.heap) (hbl : b < s.heap.size) (hbA : ¬ A b) (hi : i + 6 ≤ L) (hL : L ≤ 3072) (hSim : SIM x_text x_written x_names x_tree x_parser xC xX xL xN xT xQ xV) (hP : va_P D vwCl (wLW cI ad am x_text x_written x_names x_tokens x_tree x_parser xC xX xL xN xT xU xO xE xQ xV xI) H) (hD : va_D A (wLW cI ad am x_text x_written x_names x_tokens x_tree x_parser xC xX xL xN xT xU xO xE xQ xV xI)) (hS : va_S A s.heap H locs) (hl : lv_has ls 4 [(3, .int (Jn i)), (2, .ref (am 100)), (1, .ref (ad 0)), (0, .ref b)]) (kk : ∀ (x_text : S_Bytes) (x_written : S_Bytes) (x_names : S_Names) (x_tokens : S_Tokens) (x_tree : S_Tree) (x_parser : S_Parser) (xC : S_MC) (xX : S_MX) (xL : S_ML) (xN : S_MN) (xT : S_MT) (xU : S_MU) (xO : S_MO) (xE : S_ME) (xQ : S_MQ) (xV : S_MV) (xI : S_MI) (H : Heap) (locs : List Loc), SIM x_text x_written x_names x_tree x_parser xC xX xL xN xT xQ xV → va_P D vwCl (wLW cI ad am x_text x_written x_names x_tokens x_tree x_parser xC xX xL xN xT xU xO xE xQ xV xI) H → va_D A (wLW cI ad am x_text x_written x_names x_tokens x_tree x_parser xC xX xL xN xT xU xO xE xQ xV xI) → va_S A s.heap H locs → W p l e room_1 s m #[Value.ref b] below meth c H locs 49 431654 Q (F0 m 375 ls [])) : W p l e room_1 s m #[Value.ref b] below meth c H locs 49 431654 Q (F0 m 293 ls []) := by
  have hnn : ∀ j : Nat, j < 6 → vp_in (Jn (i + j)) L := fun j hj => in_Jn (by omega) (by omega)
  obtain ⟨r, e1, e2⟩ := nameByte_ok hSim (xs (Jn i + 1).toNatClampNeg) (xs (Jn i + 2).toNatClampNeg)
  refine lv_aload_n hx hb dlaw_293 rfl (lv_at hl 2 rfl) ?_
  refine lv_aload_n hx hb dlaw_294 rfl (lv_at hl 3 rfl) ?_
  refine lv_iload_n hx hb dlaw_295 rfl (lv_at hl 0 rfl) ?_
  refine lv_iconst (v := 1) hx hb dlaw_296 (by decide) ?_
  refine lv_iadd hx hb dlaw_297 ?_
  refine va_sld hx hb hX hbl hbA hS (show vp_in (Jn i + 1) L by rw [addL i 1]; exact hnn 1 (by decide)) dlaw_298 ?_
  refine lv_aload_n hx hb dlaw_299 rfl (lv_at hl 3 rfl) ?_
  refine lv_iload_n hx hb dlaw_300 rfl (lv_at hl 0 rfl) ?_
  refine lv_iconst (v := 2) hx hb dlaw_301 (by decide) ?_
  refine lv_iadd hx hb dlaw_302 ?_
  refine va_sld hx hb hX hbl hbA hS (show vp_in (Jn i + 2) L by rw [addL i 2]; exact hnn 2 (by decide)) dlaw_303 ?_
  have hC0 : Ctr l D cI sd yX6_nameByte (wsM yX6_nameByte cX6_nameByte 3 (Option.some Jvm.ClassFile.FieldType.int)) { frames := 1, cells := 0, slots := 0, locals := 23 } [.ref (ad 0), .int (xs (Jn i + 1).toNatClampNeg), .int (xs (Jn i + 2).toNatClampNeg)] (w_Top_this_names cI ad x_names) (w_Top_this_names cI ad x_names) (some (.int r)) := c_Top_nameByte l D cI sd ad x_names (xs (Jn i + 1).toNatClampNeg) (xs (Jn i + 2).toNatClampNeg) r e1
  refine cl_V (As := [.int (xs (Jn i + 1).toNatClampNeg), .int (xs (Jn i + 2).toNatClampNeg)]) (rest := []) (wLW cI ad am x_text x_written x_names x_tokens x_tree x_parser xC xX xL xN xT xU xO xE xQ xV xI) [.int r] ⟨hx, hb, hml, hown, hts⟩ hC0 (cwV2 hts q844 mvX6_nameByte rfl rfl ⟨(Nat.le_of_ble_eq_true rfl), (Nat.le_of_ble_eq_true rfl)⟩) hK hE hA hP hD hS 0 (T := TX6) (N := 7) (ci := 6) rfl rfl [0, 5, 6, 7, 8, 9] rfl (by decide) (mrgE rfl rfl) rfl rfl rfl rfl rfl hl.1 (Nat.le_of_ble_eq_true rfl) dlaw_304 ⟨(Nat.le_of_ble_eq_true rfl), (Nat.le_of_ble_eq_true rfl)⟩ (fun H locs hP hD hS => ?_)
  refine lv_aload_n hx hb dlaw_307 rfl (lv_at hl 1 rfl) ?_
  refine lv_aload_n hx hb dlaw_308 rfl (lv_at hl 3 rfl) ?_
  refine lv_iload_n hx hb dlaw_309 rfl (lv_at hl 0 rfl) ?_
  refine lv_iconst (v := 1) hx hb dlaw_310 (by decide) ?_
  refine lv_iadd hx hb dlaw_311 ?_
  refine va_sld hx hb hX hbl hbA hS (show vp_in (Jn i + 1) L by rw [addL i 1]; exact hnn 1 (by decide)) dlaw_312 ?_
  refine lv_aload_n hx hb dlaw_313 rfl (lv_at hl 3 rfl) ?_
  refine lv_iload_n hx hb dlaw_314 rfl (lv_at hl 0 rfl) ?_
  refine lv_iconst (v := 2) hx hb dlaw_315 (by decide) ?_
  refine lv_iadd hx hb dlaw_316 ?_
  refine va_sld hx hb hX hbl hbA hS (show vp_in (Jn i + 2) L by rw [addL i 2]; exact hnn 2 (by decide)) dlaw_317 ?_
  have hC1 : Ctr l D cI sd yX8_nameByte (wsM yX8_nameByte cX8_nameByte 3 (Option.some Jvm.ClassFile.FieldType.int)) { frames := 0, cells := 0, slots := 0, locals := 0 } [.ref (am 100), .int (xs (Jn i + 1).toNatClampNeg), .int (xs (Jn i + 2).toNatClampNeg)] (wM_N cI am xX xL xN xT xU xO xE xQ xV xI) (wM_N cI am xX xL xN xT xU xO xE xQ xV xI) (some (.int r)) := c_Model_nameByte l D cI sd am xC xX xL xT xU xO xE xQ xV xI xN (xs (Jn i + 1).toNatClampNeg) (xs (Jn i + 2).toNatClampNeg) r e2
  refine cl_V (As := [.int (xs (Jn i + 1).toNatClampNeg), .int (xs (Jn i + 2).toNatClampNeg)]) (rest := [.int r]) (wLW cI ad am x_text x_written x_names x_tokens x_tree x_parser xC xX xL xN xT xU xO xE xQ xV xI) [.int r, .int r] ⟨hx, hb, hml, hown, hts⟩ hC1 (cwV2 hts q1504 mvX8_nameByte rfl rfl ⟨(Nat.le_of_ble_eq_true rfl), (Nat.le_of_ble_eq_true rfl)⟩) hK hE hA hP hD hS 24 (T := TX8) (N := 48) (ci := 8) rfl rfl [24, 30, 31] rfl (by decide) rfl rfl rfl rfl rfl rfl hl.1 (Nat.le_of_ble_eq_true rfl) dlaw_318 ⟨(Nat.le_of_ble_eq_true rfl), (Nat.le_of_ble_eq_true rfl)⟩ (fun H locs hP hD hS => ?_)
  refine lv_icmp_eq (tgt := 375) hx hb dlaw_321 (by decide) (fun _ => ?_) (fun h9 => absurd rfl h9)
  exact kk x_text x_written x_names x_tokens x_tree x_parser xC xX xL xN xT xU xO xE xQ xV xI H locs hSim hP hD hS
end LAW
