section LAW
variable {p : Program} {l : Launch} {e : Env} {s : State} {m : MethodId} {below : List Frame} {meth : Method} {c : Code} {D : va_G} {cI : ClassId} {sd ad am : Nat → Nat} {b L i : Nat} {xs : Nat → Int32} {Q : State → Prop} {A : Nat → Prop} {c0 : Cond} {H : Heap} {locs : List Loc} {ls : Array Slot}
variable {x_text : S_Bytes} {x_written : S_Bytes} {x_names : S_Names} {x_tokens : S_Tokens} {x_tree : S_Tree} {x_parser : S_Parser} {xC : S_MC} {xX : S_MX} {xL : S_ML} {xN : S_MN} {xT : S_MT} {xU : S_MU} {xO : S_MO} {xE : S_ME} {xQ : S_MQ} {xV : S_MV} {xI : S_MI}
set_option maxHeartbeats 1000000 in
set_option maxRecDepth 100000 in
theorem lo_feed (hx : p.tables.exec = Jvm.exec) (hb : c.code = code) (hml : c.maxLocals = 4) (hown : s.vm.findClass RX9 = some m.cls) (hts : ∀ w ∈ c0 :: ALL, w.before #[Value.ref b] s = true) (hK : va_K D vwCl [(cI, .int)] s) (hE : Ev cI sd A s) (hA : ∀ q : Nat, s.heap.size ≤ q → A q) (hX : va_X b L xs s s.heap) (hbl : b < s.heap.size) (hbA : ¬ A b) (hi : i + 6 ≤ L) (hL : L ≤ 3072) (hSim : SIM x_text x_written x_names x_tree x_parser xC xX xL xN xT xQ xV) (hP : va_P D vwCl (wLW cI ad am x_text x_written x_names x_tokens x_tree x_parser xC xX xL xN xT xU xO xE xQ xV xI) H) (hD : va_D A (wLW cI ad am x_text x_written x_names x_tokens x_tree x_parser xC xX xL xN xT xU xO xE xQ xV xI)) (hS : va_S A s.heap H locs) (hl : lv_has ls 4 [(3, .int (Jn i)), (2, .ref (am 100)), (1, .ref (ad 0)), (0, .ref b)]) (kk : ∀ (x_text : S_Bytes) (x_written : S_Bytes) (x_names : S_Names) (x_tokens : S_Tokens) (x_tree : S_Tree) (x_parser : S_Parser) (xC : S_MC) (xX : S_MX) (xL : S_ML) (xN : S_MN) (xT : S_MT) (xU : S_MU) (xO : S_MO) (xE : S_ME) (xQ : S_MQ) (xV : S_MV) (xI : S_MI) (H : Heap) (locs : List Loc), SIM x_text x_written x_names x_tree x_parser xC xX xL xN xT xQ xV → va_P D vwCl (wLW cI ad am x_text x_written x_names x_tokens x_tree x_parser xC xX xL xN xT xU xO xE xQ xV xI) H → va_D A (wLW cI ad am x_text x_written x_names x_tokens x_tree x_parser xC xX xL xN xT xU xO xE xQ xV xI) → va_S A s.heap H locs → W p l e room_1 s m #[Value.ref b] below meth c H locs 49 431654 Q (F0 m 375 ls [])) : W p l e room_1 s m #[Value.ref b] below meth c H locs 49 431654 Q (F0 m 105 ls []) := by
  have hnn : ∀ j : Nat, j < 6 → vp_in (Jn (i + j)) L := fun j hj => in_Jn (by omega) (by omega)
  obtain ⟨n, hx0⟩ := hSim.txt
  obtain ⟨r, t', q', n', e1, e2, h3⟩ := feed_ok hx0 (xs (Jn i + 1).toNatClampNeg) (xs (Jn i + 2).toNatClampNeg) (xs (Jn i + 3).toNatClampNeg) (xs (Jn i + 4).toNatClampNeg) (xs (Jn i + 5).toNatClampNeg)
  refine lv_aload_n hx hb dlaw_105 rfl (lv_at hl 2 rfl) ?_
  refine lv_aload_n hx hb dlaw_106 rfl (lv_at hl 3 rfl) ?_
  refine lv_iload_n hx hb dlaw_107 rfl (lv_at hl 0 rfl) ?_
  refine lv_iconst (v := 1) hx hb dlaw_108 (by decide) ?_
  refine lv_iadd hx hb dlaw_109 ?_
  refine va_sld hx hb hX hbl hbA hS (show vp_in (Jn i + 1) L by rw [addL i 1]; exact hnn 1 (by decide)) dlaw_110 ?_
  refine lv_aload_n hx hb dlaw_111 rfl (lv_at hl 3 rfl) ?_
  refine lv_iload_n hx hb dlaw_112 rfl (lv_at hl 0 rfl) ?_
  refine lv_iconst (v := 2) hx hb dlaw_113 (by decide) ?_
  refine lv_iadd hx hb dlaw_114 ?_
  refine va_sld hx hb hX hbl hbA hS (show vp_in (Jn i + 2) L by rw [addL i 2]; exact hnn 2 (by decide)) dlaw_115 ?_
  refine lv_aload_n hx hb dlaw_116 rfl (lv_at hl 3 rfl) ?_
  refine lv_iload_n hx hb dlaw_117 rfl (lv_at hl 0 rfl) ?_
  refine lv_iconst (v := 3) hx hb dlaw_118 (by decide) ?_
  refine lv_iadd hx hb dlaw_119 ?_
  refine va_sld hx hb hX hbl hbA hS (show vp_in (Jn i + 3) L by rw [addL i 3]; exact hnn 3 (by decide)) dlaw_120 ?_
  refine lv_aload_n hx hb dlaw_121 rfl (lv_at hl 3 rfl) ?_
  refine lv_iload_n hx hb dlaw_122 rfl (lv_at hl 0 rfl) ?_
  refine lv_iconst (v := 4) hx hb dlaw_123 (by decide) ?_
  refine lv_iadd hx hb dlaw_124 ?_
  refine va_sld hx hb hX hbl hbA hS (show vp_in (Jn i + 4) L by rw [addL i 4]; exact hnn 4 (by decide)) dlaw_125 ?_
  refine lv_aload_n hx hb dlaw_126 rfl (lv_at hl 3 rfl) ?_
  refine lv_iload_n hx hb dlaw_127 rfl (lv_at hl 0 rfl) ?_
  refine lv_iconst (v := 5) hx hb dlaw_128 (by decide) ?_
  refine lv_iadd hx hb dlaw_129 ?_
  refine va_sld hx hb hX hbl hbA hS (show vp_in (Jn i + 5) L by rw [addL i 5]; exact hnn 5 (by decide)) dlaw_130 ?_
  have hC0 : Ctr l D cI sd yX6_feed (wsM yX6_feed cX6_feed 6 (Option.some Jvm.ClassFile.FieldType.int)) { frames := 2, cells := 0, slots := 0, locals := 43 } [.ref (ad 0), .int (xs (Jn i + 1).toNatClampNeg), .int (xs (Jn i + 2).toNatClampNeg), .int (xs (Jn i + 3).toNatClampNeg), .int (xs (Jn i + 4).toNatClampNeg), .int (xs (Jn i + 5).toNatClampNeg)] (w_Top_this_text cI ad x_text) (w_Top_this_text cI ad t') (some (.int r)) := c_Top_feed l D cI sd ad x_text (xs (Jn i + 1).toNatClampNeg) (xs (Jn i + 2).toNatClampNeg) (xs (Jn i + 3).toNatClampNeg) (xs (Jn i + 4).toNatClampNeg) (xs (Jn i + 5).toNatClampNeg) (r, t') e1
  refine cl_V (As := [.int (xs (Jn i + 1).toNatClampNeg), .int (xs (Jn i + 2).toNatClampNeg), .int (xs (Jn i + 3).toNatClampNeg), .int (xs (Jn i + 4).toNatClampNeg), .int (xs (Jn i + 5).toNatClampNeg)]) (rest := []) (wLW cI ad am t' x_written x_names x_tokens x_tree x_parser xC xX xL xN xT xU xO xE xQ xV xI) [.int r] ⟨hx, hb, hml, hown, hts⟩ hC0 (cwV2 hts q482 mvX6_feed rfl rfl ⟨(Nat.le_of_ble_eq_true rfl), (Nat.le_of_ble_eq_true rfl)⟩) hK hE hA hP hD hS 0 (T := TX6) (N := 7) (ci := 6) rfl rfl [0, 1, 2] rfl (by decide) rfl rfl rfl rfl rfl rfl hl.1 (Nat.le_of_ble_eq_true rfl) dlaw_131 ⟨(Nat.le_of_ble_eq_true rfl), (Nat.le_of_ble_eq_true rfl)⟩ (fun H locs hP hD hS => ?_)
  refine lv_aload_n hx hb dlaw_134 rfl (lv_at hl 1 rfl) ?_
  refine lv_aload_n hx hb dlaw_135 rfl (lv_at hl 3 rfl) ?_
  refine lv_iload_n hx hb dlaw_136 rfl (lv_at hl 0 rfl) ?_
  refine lv_iconst (v := 1) hx hb dlaw_137 (by decide) ?_
  refine lv_iadd hx hb dlaw_138 ?_
  refine va_sld hx hb hX hbl hbA hS (show vp_in (Jn i + 1) L by rw [addL i 1]; exact hnn 1 (by decide)) dlaw_139 ?_
  refine lv_aload_n hx hb dlaw_140 rfl (lv_at hl 3 rfl) ?_
  refine lv_iload_n hx hb dlaw_141 rfl (lv_at hl 0 rfl) ?_
  refine lv_iconst (v := 2) hx hb dlaw_142 (by decide) ?_
  refine lv_iadd hx hb dlaw_143 ?_
  refine va_sld hx hb hX hbl hbA hS (show vp_in (Jn i + 2) L by rw [addL i 2]; exact hnn 2 (by decide)) dlaw_144 ?_
  refine lv_aload_n hx hb dlaw_145 rfl (lv_at hl 3 rfl) ?_
  refine lv_iload_n hx hb dlaw_146 rfl (lv_at hl 0 rfl) ?_
  refine lv_iconst (v := 3) hx hb dlaw_147 (by decide) ?_
  refine lv_iadd hx hb dlaw_148 ?_
  refine va_sld hx hb hX hbl hbA hS (show vp_in (Jn i + 3) L by rw [addL i 3]; exact hnn 3 (by decide)) dlaw_149 ?_
  refine lv_aload_n hx hb dlaw_150 rfl (lv_at hl 3 rfl) ?_
  refine lv_iload_n hx hb dlaw_151 rfl (lv_at hl 0 rfl) ?_
  refine lv_iconst (v := 4) hx hb dlaw_152 (by decide) ?_
  refine lv_iadd hx hb dlaw_153 ?_
  refine va_sld hx hb hX hbl hbA hS (show vp_in (Jn i + 4) L by rw [addL i 4]; exact hnn 4 (by decide)) dlaw_154 ?_
  refine lv_aload_n hx hb dlaw_155 rfl (lv_at hl 3 rfl) ?_
  refine lv_iload_n hx hb dlaw_156 rfl (lv_at hl 0 rfl) ?_
  refine lv_iconst (v := 5) hx hb dlaw_157 (by decide) ?_
  refine lv_iadd hx hb dlaw_158 ?_
  refine va_sld hx hb hX hbl hbA hS (show vp_in (Jn i + 5) L by rw [addL i 5]; exact hnn 5 (by decide)) dlaw_159 ?_
  have hC1 : Ctr l D cI sd yX8_feed (wsM yX8_feed cX8_feed 8 (Option.some Jvm.ClassFile.FieldType.int)) { frames := 0, cells := 0, slots := 0, locals := 0 } [.ref (am 100), .int (xs (Jn i + 1).toNatClampNeg), .int (xs (Jn i + 2).toNatClampNeg), .int (xs (Jn i + 3).toNatClampNeg), .int (xs (Jn i + 4).toNatClampNeg), .int (xs (Jn i + 5).toNatClampNeg)] (wM_X cI am xX xL xN xT xU xO xE xQ xV xI) (wM_X cI am q' xL xN xT xU xO xE xQ xV xI) (some (.int r)) := c_Model_feed l D cI sd am xC xL xN xT xU xO xE xQ xV xI xX (xs (Jn i + 1).toNatClampNeg) (xs (Jn i + 2).toNatClampNeg) (xs (Jn i + 3).toNatClampNeg) (xs (Jn i + 4).toNatClampNeg) (xs (Jn i + 5).toNatClampNeg) (r, q') e2
  refine cl_V (As := [.int (xs (Jn i + 1).toNatClampNeg), .int (xs (Jn i + 2).toNatClampNeg), .int (xs (Jn i + 3).toNatClampNeg), .int (xs (Jn i + 4).toNatClampNeg), .int (xs (Jn i + 5).toNatClampNeg)]) (rest := [.int r]) (wLW cI ad am t' x_written x_names x_tokens x_tree x_parser xC q' xL xN xT xU xO xE xQ xV xI) [.int r, .int r] ⟨hx, hb, hml, hown, hts⟩ hC1 (cwV2 hts q1127 mvX8_feed rfl rfl ⟨(Nat.le_of_ble_eq_true rfl), (Nat.le_of_ble_eq_true rfl)⟩) hK hE hA hP hD hS 24 (T := TX8) (N := 48) (ci := 8) rfl rfl [24, 29] rfl (by decide) rfl rfl rfl rfl rfl rfl hl.1 (Nat.le_of_ble_eq_true rfl) dlaw_160 ⟨(Nat.le_of_ble_eq_true rfl), (Nat.le_of_ble_eq_true rfl)⟩ (fun H locs hP hD hS => ?_)
  refine lv_icmp_eq (tgt := 375) hx hb dlaw_163 (by decide) (fun _ => ?_) (fun h9 => absurd rfl h9)
  exact kk t' x_written x_names x_tokens x_tree x_parser xC q' xL xN xT xU xO xE xQ xV xI H locs ⟨hSim.mc, ⟨_, h3⟩, hSim.wri, hSim.fau, hSim.tree⟩ hP hD hS
end LAW
