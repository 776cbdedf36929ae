theorem mvX6_init : MI yX6_init cX6_init 1 0 := ⟨q191, q173, q192, by decide +kernel, by decide +kernel, by decide +kernel, rfl⟩
theorem mvX8_init : MI yX8_init cX8_init 3 0 := ⟨q975, q184, q976, by decide +kernel, by decide +kernel, by decide +kernel, rfl⟩
theorem sim0 {res : S_Names} (h : CN res WS []) : SIM (0, fun _ => 0) (0, fun _ => 0) res (0, fun _ => 0, fun _ => 0, fun _ => 0, fun _ => 0, fun _ => 0, fun _ => 0, fun _ => 0) (0, 0, 0, 0, 0, 0, 0, 0, 0, (-1)) mC0 (0, (fun _ => 0)) (0, 0, 0, 0, 0, 0, (-1)) (0, (fun _ => 0), (fun _ => 0)) (0, 0, (fun _ => 0), (fun _ => 0), (fun _ => 0), (fun _ => 0), (fun _ => 0), (fun _ => 0), (fun _ => 0)) (0, (fun _ => 0), (fun _ => 0)) (0, (fun _ => 0)) := by
  refine ⟨MC0, ⟨0, Nat.zero_le _, rfl, rfl, fun k hk => absurd hk (Nat.not_lt_zero k)⟩, ⟨[], ⟨rfl, Nat.zero_le _, fun k hk => absurd hk (Nat.not_lt_zero k)⟩, ⟨rfl, Nat.zero_le _, fun k hk => absurd hk (Nat.not_lt_zero k)⟩, fun c hc => absurd hc List.not_mem_nil⟩, rfl, Or.inl ⟨h, rfl, rfl, rfl⟩⟩
set_option maxHeartbeats 4000000 in
set_option maxRecDepth 100000 in
theorem whole_start {p : Program} {e : Env} {s : State} {m : MethodId} {below : List Frame} {meth : Method} {c : Code} (l : Launch) {b L : Nat} {xs : Nat → Int32} (hL : L ≤ 3072) (C0 : lw_At p s m meth c b L xs) : W p l e room_1 s m #[Value.ref b] below meth c s.heap [] 0 0 (lw_Z below #[Value.ref b] s) (entryFrame m ([Value.ref b] : List Value).toArray 4) := by
  obtain ⟨hx, hb, hr, hml, hown, hts0, hX, hbl, hlocks, hgv⟩ := id C0
  have hown : s.vm.findClass RX9 = some m.cls := hown
  have hts : ∀ w ∈ (Cond.selects "ControlText$Names" yX1_addWords yX1_addWords) :: ALL, w.before #[Value.ref b] s = true := fun w hw => by
    rcases List.mem_cons.mp hw with h | h
    · rw [h]; exact hts0 _ (ALL_ok q0).1
    · exact hts0 _ (ALL_ok h).1
  obtain ⟨res, hNi, hCN⟩ := names_init
  obtain ⟨D, cI, hK⟩ := sf_K hts
  obtain ⟨sd, hE⟩ := sf_E hts0 hgv cI
  obtain ⟨v, ss, sv, hv, hE2⟩ := sf_N hts0 hgv
  have hA : ∀ q : Nat, s.heap.size ≤ q → (fun q : Nat => s.heap.size ≤ q) q := fun _ h => h
  have hS : va_S (fun q : Nat => s.heap.size ≤ q) s.heap s.heap [] := va_S.rf
  have hP : va_P D vwCl [] s.heap := fun k q h => by simp at h
  have hD : va_D (fun q : Nat => s.heap.size ≤ q) [] := ⟨fun i j p q h => by simp at h, fun k q h => by simp at h⟩
  have hl := lv_entry ([.ref b]) (n := 4) (Nat.le_of_ble_eq_true rfl)
  rw [lg_entry_eq]
  generalize (lg_sl ([.ref b]) ++ List.replicate (4 - (lg_sl ([.ref b])).length) Slot.unset).toArray = ls at hl ⊢
  have hl : lv_has ls 4 [(0, .ref b)] := hl
  refine va_new (ci := 6) (fs := [.null, .null, .null, .null, .null, .null, .null]) (C := RX6) (T := TX6) (N := 7) hx hb hts layX6 tyX6 tyX6_ok hown (hts _ (inA q188)) (hts _ (inA q189)) (hts _ (inA q173)) hK hP hD hS hA rfl (fun j hj => match j, hj with | 0, _ => rfl | 1, _ => rfl | 2, _ => rfl | 3, _ => rfl | 4, _ => rfl | 5, _ => rfl | 6, _ => rfl | j + 7, hj => absurd hj (by omega)) (Nat.le_of_ble_eq_true rfl) (Nat.le_of_ble_eq_true rfl) dlaw_0 (fun h0 H hP hD hS => ?_)
  have hP : va_P D vwCl [(h0, .inr (6, [.null, .null, .null, .null, .null, .null, .null]))] H := hP
  have hD : va_D (fun q : Nat => s.heap.size ≤ q) [(h0, .inr (6, [.null, .null, .null, .null, .null, .null, .null]))] := hD
  refine lv_dup hx hb dlaw_3 rfl ?_
  refine cl_M (As := []) (rest := [.ref h0]) [] ⟨hx, hb, hml, hown, hts⟩ (ENm.ok v ss sv) (c_Top_init l D cI sd h0 v hv ss sv res hNi) (cwI2 hts q190 mvX6_init rfl rfl ⟨Nat.le_of_ble_eq_true rfl, Nat.le_of_ble_eq_true rfl⟩) hK hE hE2 hA hP hD hS [0] [] rfl (by decide) rfl (by decide) (by decide) rfl rfl hl.1 (Nat.le_of_ble_eq_true rfl) dlaw_4 ⟨Nat.le_of_ble_eq_true rfl, Nat.le_of_ble_eq_true rfl⟩ (fun ad H locs e0 hP hD hS => ?_)
  have hP2 : va_P D vwCl (wCT cI ad (0, fun _ => 0) (0, fun _ => 0) res (0, 0, fun _ => 0, fun _ => 0, fun _ => 0) (0, fun _ => 0, fun _ => 0, fun _ => 0, fun _ => 0, fun _ => 0, fun _ => 0, fun _ => 0) (0, 0, 0, 0, 0, 0, 0, 0, 0, (-1))) H := hP
  have hD2 : va_D (fun q : Nat => s.heap.size ≤ q) (wCT cI ad (0, fun _ => 0) (0, fun _ => 0) res (0, 0, fun _ => 0, fun _ => 0, fun _ => 0) (0, fun _ => 0, fun _ => 0, fun _ => 0, fun _ => 0, fun _ => 0, fun _ => 0, fun _ => 0) (0, 0, 0, 0, 0, 0, 0, 0, 0, (-1))) := hD
  have hS2 := hS
  subst e0
  have hP := hP2
  have hD := hD2
  have hS := hS2
  refine lv_astore_n (lv' := [(1, .ref (ad 0)), (0, .ref b)]) hx hb dlaw_7 rfl hl (by decide) rfl (fun ls hl => ?_)
  refine va_new (ci := 8) (fs := [.null, .null, .null, .null, .int 0, .null, .int 0, .int 0, .int 0, .int 0, .int 0, .int 0, .int 0, .int 0, .null, .null, .int 0, .null, .null, .null, .null, .null, .null, .null, .int 0, .int 0, .null, .int 0, .int 0, .int 0, .int 0, .int 0, .int 0, .int 0, .null, .int 0, .null, .null, .int 0, .null, .int 0, .null, .null, .int 0, .null, .int 0, .null, .null]) (C := RX8) (T := TX8) (N := 48) hx hb hts layX8 tyX8 tyX8_ok hown (hts _ (inA q972)) (hts _ (inA q973)) (hts _ (inA q184)) hK hP hD hS hA rfl (fun j hj => match j, hj with | 0, _ => rfl | 1, _ => rfl | 2, _ => rfl | 3, _ => rfl | 4, _ => rfl | 5, _ => rfl | 6, _ => rfl | 7, _ => rfl | 8, _ => rfl | 9, _ => rfl | 10, _ => rfl | 11, _ => rfl | 12, _ => rfl | 13, _ => rfl | 14, _ => rfl | 15, _ => rfl | 16, _ => rfl | 17, _ => rfl | 18, _ => rfl | 19, _ => rfl | 20, _ => rfl | 21, _ => rfl | 22, _ => rfl | 23, _ => rfl | 24, _ => rfl | 25, _ => rfl | 26, _ => rfl | 27, _ => rfl | 28, _ => rfl | 29, _ => rfl | 30, _ => rfl | 31, _ => rfl | 32, _ => rfl | 33, _ => rfl | 34, _ => rfl | 35, _ => rfl | 36, _ => rfl | 37, _ => rfl | 38, _ => rfl | 39, _ => rfl | 40, _ => rfl | 41, _ => rfl | 42, _ => rfl | 43, _ => rfl | 44, _ => rfl | 45, _ => rfl | 46, _ => rfl | 47, _ => rfl | j + 48, hj => absurd hj (by omega)) (Nat.le_of_ble_eq_true rfl) (Nat.le_of_ble_eq_true rfl) dlaw_8 (fun h1 H hP hD hS => ?_)
  refine lv_dup hx hb dlaw_11 rfl ?_
  refine cl_M (As := []) (rest := [.ref h1]) (wCT cI ad (0, fun _ => 0) (0, fun _ => 0) res (0, 0, fun _ => 0, fun _ => 0, fun _ => 0) (0, fun _ => 0, fun _ => 0, fun _ => 0, fun _ => 0, fun _ => 0, fun _ => 0, fun _ => 0) (0, 0, 0, 0, 0, 0, 0, 0, 0, (-1))) ⟨hx, hb, hml, hown, hts⟩ EvOk.none (c_Model_init l D cI sd h1) (cwI2 hts q974 mvX8_init rfl rfl ⟨Nat.le_of_ble_eq_true rfl, Nat.le_of_ble_eq_true rfl⟩) hK hE trivial hA hP hD hS [24] [0, 1, 2, 3, 4, 5, 6, 7, 8, 9, 10, 11, 12, 13, 14, 15, 16, 17, 18, 19, 20, 21, 22, 23] rfl (by decide) rfl (by decide) (by decide) rfl rfl hl.1 (Nat.le_of_ble_eq_true rfl) dlaw_12 ⟨Nat.le_of_ble_eq_true rfl, Nat.le_of_ble_eq_true rfl⟩ (fun am H locs e1 hP hD hS => ?_)
  have hP3 : va_P D vwCl (wLW cI ad am (0, fun _ => 0) (0, fun _ => 0) res (0, 0, fun _ => 0, fun _ => 0, fun _ => 0) (0, fun _ => 0, fun _ => 0, fun _ => 0, fun _ => 0, fun _ => 0, fun _ => 0, fun _ => 0) (0, 0, 0, 0, 0, 0, 0, 0, 0, (-1)) mC0 (0, (fun _ => 0)) (0, 0, 0, 0, 0, 0, (-1)) (0, (fun _ => 0), (fun _ => 0)) (0, 0, (fun _ => 0), (fun _ => 0), (fun _ => 0), (fun _ => 0), (fun _ => 0), (fun _ => 0), (fun _ => 0)) (0, (fun _ => 0)) (0, 0, 0, 0, 0, 0) (0, 0, 0, (fun _ => 0), (fun _ => 0), (fun _ => 0), (fun _ => 0)) (0, (fun _ => 0), (fun _ => 0)) (0, (fun _ => 0)) (0, (fun _ => 0), (fun _ => 0))) H := hP
  have hD3 : va_D (fun q : Nat => s.heap.size ≤ q) (wLW cI ad am (0, fun _ => 0) (0, fun _ => 0) res (0, 0, fun _ => 0, fun _ => 0, fun _ => 0) (0, fun _ => 0, fun _ => 0, fun _ => 0, fun _ => 0, fun _ => 0, fun _ => 0, fun _ => 0) (0, 0, 0, 0, 0, 0, 0, 0, 0, (-1)) mC0 (0, (fun _ => 0)) (0, 0, 0, 0, 0, 0, (-1)) (0, (fun _ => 0), (fun _ => 0)) (0, 0, (fun _ => 0), (fun _ => 0), (fun _ => 0), (fun _ => 0), (fun _ => 0), (fun _ => 0), (fun _ => 0)) (0, (fun _ => 0)) (0, 0, 0, 0, 0, 0) (0, 0, 0, (fun _ => 0), (fun _ => 0), (fun _ => 0), (fun _ => 0)) (0, (fun _ => 0), (fun _ => 0)) (0, (fun _ => 0)) (0, (fun _ => 0), (fun _ => 0))) := hD
  have hS3 := hS
  subst e1
  have hP := hP3
  have hD := hD3
  have hS := hS3
  refine lv_astore_n (lv' := [(2, .ref (am 100)), (1, .ref (ad 0)), (0, .ref b)]) hx hb dlaw_15 rfl hl (by decide) rfl (fun ls hl => ?_)
  refine lv_iconst (v := 0) hx hb dlaw_16 (by decide) ?_
  refine lv_istore_n (lv' := [(3, .int 0), (2, .ref (am 100)), (1, .ref (ad 0)), (0, .ref b)]) hx hb dlaw_17 rfl hl (by decide) rfl (fun ls hl => ?_)
  refine W.widen (k := 49) (n := 431654) (Nat.le_of_ble_eq_true rfl) (Nat.le_of_ble_eq_true rfl) ?_
  exact law_loop hx hb hml hown hts hK hE hr hlocks hX hbl hL (L + 7) 0 (0, fun _ => 0) (0, fun _ => 0) res (0, 0, fun _ => 0, fun _ => 0, fun _ => 0) (0, fun _ => 0, fun _ => 0, fun _ => 0, fun _ => 0, fun _ => 0, fun _ => 0, fun _ => 0) (0, 0, 0, 0, 0, 0, 0, 0, 0, (-1)) mC0 (0, (fun _ => 0)) (0, 0, 0, 0, 0, 0, (-1)) (0, (fun _ => 0), (fun _ => 0)) (0, 0, (fun _ => 0), (fun _ => 0), (fun _ => 0), (fun _ => 0), (fun _ => 0), (fun _ => 0), (fun _ => 0)) (0, (fun _ => 0)) (0, 0, 0, 0, 0, 0) (0, 0, 0, (fun _ => 0), (fun _ => 0), (fun _ => 0), (fun _ => 0)) (0, (fun _ => 0), (fun _ => 0)) (0, (fun _ => 0)) (0, (fun _ => 0), (fun _ => 0)) H locs ls (Nat.zero_le _) (by omega) (sim0 hCN) hP hD hS hl
