/-! Words into the names: addWords. -/
def f_Names_awL : List Int32 → S_Names → Option S_Names
  | [], o => some o
  | x :: xs, o => if x = 32 then (f_Names_number o).bind fun r => f_Names_awL xs r.2 else (f_Names_addLetter o x).bind fun r => f_Names_awL xs r
def f_Names_addWords (bs : List Int32) (o : S_Names) : Option S_Names := (f_Names_awL bs o).bind fun r => (f_Names_number r).bind fun q => some q.2
theorem mvX1_addWords : MV yX1_addWords cX1_addWords 3 (Option.none : Option Jvm.ClassFile.FieldType) 1 := ⟨q222, q0, q175, q223, by decide +kernel, by decide +kernel, by decide +kernel⟩
theorem dX1_addWords_0 : decode cX1_addWords 0 = .ok (.iconst 0, 1) := by decide +kernel
theorem dX1_addWords_1 : decode cX1_addWords 1 = .ok (.istore_n 2, 1) := by decide +kernel
theorem dX1_addWords_2 : decode cX1_addWords 2 = .ok (.iload_n 2, 1) := by decide +kernel
theorem dX1_addWords_3 : decode cX1_addWords 3 = .ok (.aload_n 1, 1) := by decide +kernel
theorem dX1_addWords_4 : decode cX1_addWords 4 = .ok (.invokevirtual 42, 3) := by decide +kernel
theorem dX1_addWords_7 : decode cX1_addWords 7 = .ok (.if_icmp .ge 36, 3) := by decide +kernel
theorem dX1_addWords_10 : decode cX1_addWords 10 = .ok (.aload_n 1, 1) := by decide +kernel
theorem dX1_addWords_11 : decode cX1_addWords 11 = .ok (.iload_n 2, 1) := by decide +kernel
theorem dX1_addWords_12 : decode cX1_addWords 12 = .ok (.invokevirtual 48, 3) := by decide +kernel
theorem dX1_addWords_15 : decode cX1_addWords 15 = .ok (.bipush 32, 2) := by decide +kernel
theorem dX1_addWords_17 : decode cX1_addWords 17 = .ok (.if_icmp .ne 11, 3) := by decide +kernel
theorem dX1_addWords_20 : decode cX1_addWords 20 = .ok (.aload_n 0, 1) := by decide +kernel
theorem dX1_addWords_21 : decode cX1_addWords 21 = .ok (.invokevirtual 52, 3) := by decide +kernel
theorem dX1_addWords_24 : decode cX1_addWords 24 = .ok (.pop, 1) := by decide +kernel
theorem dX1_addWords_25 : decode cX1_addWords 25 = .ok (.goto 12, 3) := by decide +kernel
theorem dX1_addWords_28 : decode cX1_addWords 28 = .ok (.aload_n 0, 1) := by decide +kernel
theorem dX1_addWords_29 : decode cX1_addWords 29 = .ok (.aload_n 1, 1) := by decide +kernel
theorem dX1_addWords_30 : decode cX1_addWords 30 = .ok (.iload_n 2, 1) := by decide +kernel
theorem dX1_addWords_31 : decode cX1_addWords 31 = .ok (.invokevirtual 48, 3) := by decide +kernel
theorem dX1_addWords_34 : decode cX1_addWords 34 = .ok (.invokevirtual 55, 3) := by decide +kernel
theorem dX1_addWords_37 : decode cX1_addWords 37 = .ok (.iinc 2 1, 3) := by decide +kernel
theorem dX1_addWords_40 : decode cX1_addWords 40 = .ok (.goto (-38), 3) := by decide +kernel
theorem dX1_addWords_43 : decode cX1_addWords 43 = .ok (.aload_n 0, 1) := by decide +kernel
theorem dX1_addWords_44 : decode cX1_addWords 44 = .ok (.invokevirtual 52, 3) := by decide +kernel
theorem dX1_addWords_47 : decode cX1_addWords 47 = .ok (.pop, 1) := by decide +kernel
theorem dX1_addWords_48 : decode cX1_addWords 48 = .ok (.return_, 1) := by decide +kernel
theorem in_Jn {a n : Nat} (h : a < n) (hn : n < 2147483648) : vp_in (Jn a) n := by
  rintro (h1 | h1)
  · exact J_nneg (by omega) h1
  · rw [Jn_cl (by omega)] at h1; omega
set_option maxHeartbeats 4000000 in
set_option maxRecDepth 100000 in
theorem c_Names_addWords (l : Launch) (D : va_G) (cI : ClassId) (sd : Nat → Nat) (v : Value) (q qv : Nat) (bs : List Int32) (ad : Nat → Nat) (o_this res : S_Names) (hv : v = .null ∨ ∃ a, v = .ref a) (hbl : bs.length < 2147483648) (hasc : ∀ x, x ∈ bs → ∃ k : Nat, k < 128 ∧ x = Int32.ofNat k) (hM : f_Names_addWords bs o_this = some res) : CtrE l D cI sd (ESt v q qv bs) yX1_addWords (wsM yX1_addWords cX1_addWords 3 (Option.none : Option Jvm.ClassFile.FieldType)) { frames := 4, cells := 0, slots := 0, locals := 85 } [.ref (ad 5), .ref q] (wN cI ad o_this) (wN cI ad res) none := by
  refine CtrE.of (cc := cX1_addWords) (maxL := 3) (own := RX1) (by decide +kernel) rfl rfl (Nat.le_of_ble_eq_true rfl) ?_
  intro p e s m below meth c A ls hx hb hr hml hown hts hlk hK hE hE2 hA hP hD hS hl
  have hl : lv_has ls 3 [(0, .ref (ad 5)), (1, .ref q)] := hl
  unfold f_Names_addWords at hM
  refine lv_iconst (v := 0) hx hb dX1_addWords_0 (by decide) ?_
  refine lv_istore_n (lv' := [(2, .int 0), (0, .ref (ad 5)), (1, .ref q)]) hx hb dX1_addWords_1 rfl hl (by decide) rfl (fun ls hl => ?_)
  have lp : ∀ (xs pre : List Int32) (o out : S_Names) (H : Heap) (locs : List Loc) (ls : Array Slot), bs = pre ++ xs → f_Names_awL xs o = some out → va_P D vwCl (wN cI ad o) H → va_D A (wN cI ad o) → va_S A s.heap H locs → lv_has ls 3 [(2, .int (Jn pre.length)), (0, .ref (ad 5)), (1, .ref q)] →
      (∀ (H : Heap) (locs : List Loc) (ls : Array Slot), va_P D vwCl (wN cI ad out) H → va_D A (wN cI ad out) → va_S A s.heap H locs → lv_has ls 3 [(0, .ref (ad 5)), (1, .ref q)] → W p l e { frames := 4, cells := 0, slots := 0, locals := 85 } s m [.ref (ad 5), .ref q].toArray below meth c H locs 0 0 (MQ below (CQ D A (wN cI ad res) none) [.ref (ad 5), .ref q].toArray s 0 0 A) (F0 m 43 ls [])) →
      W p l e { frames := 4, cells := 0, slots := 0, locals := 85 } s m [.ref (ad 5), .ref q].toArray below meth c H locs 0 0 (MQ below (CQ D A (wN cI ad res) none) [.ref (ad 5), .ref q].toArray s 0 0 A) (F0 m 2 ls []) := by
    intro xs
    induction xs with
    | nil =>
      intro pre o out H locs ls hpre hM hP hD hS hl kx
      rw [List.append_nil] at hpre
      cases hM
      refine lv_iload_n hx hb dX1_addWords_2 rfl (lv_at hl 0 rfl) ?_
      refine lv_aload_n hx hb dX1_addWords_3 rfl (lv_at hl 2 rfl) ?_
      refine cl_VE (As := []) (rest := [.int (Jn pre.length)]) (wN cI ad o) [.int (Int32.ofNat bs.length), .int (Jn pre.length)] ⟨hx, hb, hml, hown, hts⟩ (ESt.ok v q qv bs) (c_Slen l D cI sd v q qv bs) (cwV2 hts q224 mvSlen rfl rfl ⟨(Nat.le_of_ble_eq_true rfl), (Nat.le_of_ble_eq_true rfl)⟩) hK hE hE2 hA hP hD hS (hE2.recv hS) [] rfl rfl rfl rfl rfl rfl rfl rfl hl.1 (Nat.le_of_ble_eq_true rfl) dX1_addWords_4 ⟨Nat.zero_le _, Nat.zero_le _⟩ (fun H locs hP hD hS => ?_)
      refine lv_icmp_ge (tgt := 43) hx hb dX1_addWords_7 (by decide) (fun c1 => ?_) (fun c1 => absurd (show Jn bs.length ≤ Jn pre.length by rw [hpre]; exact Int32.le_refl _) c1)
      exact kx _ _ _ hP hD hS (lv_sub hl [1, 2] rfl)
    | cons x xs ih =>
      intro pre o out H locs ls hpre hM hP hD hS hl kx
      have hlen : bs.length = pre.length + (xs.length + 1) := by rw [hpre, List.length_append, List.length_cons]
      have hgx : bs.getD (Jn pre.length).toNatClampNeg 0 = x := by
        rw [Jn_cl (by omega), hpre, List.getD_eq_getElem?_getD, List.getElem?_append_right (Nat.le_refl _), Nat.sub_self]
        rfl
      have hax : ∃ k : Nat, k < 128 ∧ x = Int32.ofNat k := hasc x (by rw [hpre]; exact List.mem_append_right _ List.mem_cons_self)
      have h0 : ¬ Jn pre.length < 0 := J_nneg (by omega)
      have h1 : Jn pre.length < Int32.ofNat bs.length := J_lt (by omega) hbl
      have hin : vp_in (Jn pre.length) bs.length := in_Jn (by omega) hbl
      refine lv_iload_n hx hb dX1_addWords_2 rfl (lv_at hl 0 rfl) ?_
      refine lv_aload_n hx hb dX1_addWords_3 rfl (lv_at hl 2 rfl) ?_
      refine cl_VE (As := []) (rest := [.int (Jn pre.length)]) (wN cI ad o) [.int (Int32.ofNat bs.length), .int (Jn pre.length)] ⟨hx, hb, hml, hown, hts⟩ (ESt.ok v q qv bs) (c_Slen l D cI sd v q qv bs) (cwV2 hts q224 mvSlen rfl rfl ⟨(Nat.le_of_ble_eq_true rfl), (Nat.le_of_ble_eq_true rfl)⟩) hK hE hE2 hA hP hD hS (hE2.recv hS) [] rfl rfl rfl rfl rfl rfl rfl rfl hl.1 (Nat.le_of_ble_eq_true rfl) dX1_addWords_4 ⟨Nat.zero_le _, Nat.zero_le _⟩ (fun H locs hP hD hS => ?_)
      refine lv_icmp_ge (tgt := 43) hx hb dX1_addWords_7 (by decide) (fun c1 => absurd c1 (show ¬ Jn bs.length ≤ Jn pre.length from J_nle (by omega) hbl)) (fun c1 => ?_)
      refine lv_aload_n hx hb dX1_addWords_10 rfl (lv_at hl 2 rfl) ?_
      refine lv_iload_n hx hb dX1_addWords_11 rfl (lv_at hl 0 rfl) ?_
      refine cl_VE (As := [.int (Jn pre.length)]) (rest := []) (wN cI ad o) [.int x] ⟨hx, hb, hml, hown, hts⟩ (ESt.ok v q qv bs) (c_Scha l D cI sd v q qv bs (Jn pre.length) x hv h0 h1 hin hgx hax) (cwV2 hts q234 mvScha rfl rfl ⟨(Nat.le_of_ble_eq_true rfl), (Nat.le_of_ble_eq_true rfl)⟩) hK hE hE2 hA hP hD hS (hE2.recv hS) [] rfl rfl rfl rfl rfl rfl rfl rfl hl.1 (Nat.le_of_ble_eq_true rfl) dX1_addWords_12 ⟨Nat.zero_le _, Nat.zero_le _⟩ (fun H locs hP hD hS => ?_)
      refine lv_bipush (v := 32) hx hb dX1_addWords_15 (by decide) ?_
      rw [f_Names_awL] at hM
      refine lv_icmp_ne (tgt := 28) hx hb dX1_addWords_17 (by decide) (fun c2 => ?_) (fun c2 => ?_)
      · replace hM := if_f c2 hM
        refine lv_aload_n hx hb dX1_addWords_28 rfl (lv_at hl 1 rfl) ?_
        refine lv_aload_n hx hb dX1_addWords_29 rfl (lv_at hl 2 rfl) ?_
        refine lv_iload_n hx hb dX1_addWords_30 rfl (lv_at hl 0 rfl) ?_
        refine cl_VE (As := [.int (Jn pre.length)]) (rest := [.ref (ad 5)]) (wN cI ad o) [.int x, .ref (ad 5)] ⟨hx, hb, hml, hown, hts⟩ (ESt.ok v q qv bs) (c_Scha l D cI sd v q qv bs (Jn pre.length) x hv h0 h1 hin hgx hax) (cwV2 hts q234 mvScha rfl rfl ⟨(Nat.le_of_ble_eq_true rfl), (Nat.le_of_ble_eq_true rfl)⟩) hK hE hE2 hA hP hD hS (hE2.recv hS) [] rfl rfl rfl rfl rfl rfl rfl rfl hl.1 (Nat.le_of_ble_eq_true rfl) dX1_addWords_31 ⟨Nat.zero_le _, Nat.zero_le _⟩ (fun H locs hP hD hS => ?_)
        obtain ⟨r1, hcr1, hM⟩ := ob_use hM
        refine cl_V (As := [.int x]) (rest := []) (wN cI ad r1) [] ⟨hx, hb, hml, hown, hts⟩ (c_Names_addLetter l D cI sd ad o x r1 hcr1) (cwV2 hts q292 mvX1_addLetter rfl rfl ⟨(Nat.le_of_ble_eq_true rfl), (Nat.le_of_ble_eq_true rfl)⟩) hK hE hA hP hD hS 0 (T := TX1) (N := 6) (ci := 1) rfl rfl [0, 1, 2, 3, 4] rfl (by decide) rfl rfl rfl rfl rfl rfl hl.1 (Nat.le_of_ble_eq_true rfl) dX1_addWords_34 ⟨Nat.zero_le _, Nat.zero_le _⟩ (fun H locs hP hD hS => ?_)
        refine lv_iinc (v := Jn (pre ++ [x]).length) (lv' := [(2, .int (Jn (pre ++ [x]).length)), (0, .ref (ad 5)), (1, .ref q)]) hx hb dX1_addWords_37 hl (k := 0) rfl (by rw [List.length_append]; exact Jn_add pre.length 1) (by decide) rfl (fun ls hl => ?_)
        refine lv_goto (tgt := 2) hx hb dX1_addWords_40 (by decide) ?_
        exact ih (pre ++ [x]) r1 out _ _ _ (by rw [hpre, List.append_assoc]; rfl) hM hP hD hS (lv_sub hl [0, 1, 2] rfl) kx
      · replace hM := if_t c2 hM
        refine lv_aload_n hx hb dX1_addWords_20 rfl (lv_at hl 1 rfl) ?_
        obtain ⟨r1, hcr1, hM⟩ := ob_use hM
        refine cl_V (As := []) (rest := []) (wN cI ad r1.2) [.int r1.1] ⟨hx, hb, hml, hown, hts⟩ (c_Names_number l D cI sd ad o r1 hcr1) (cwV2 hts q272 mvX1_number rfl rfl ⟨(Nat.le_of_ble_eq_true rfl), (Nat.le_of_ble_eq_true rfl)⟩) hK hE hA hP hD hS 0 (T := TX1) (N := 6) (ci := 1) rfl rfl [0, 1, 2, 3, 4] rfl (by decide) rfl rfl rfl rfl rfl rfl hl.1 (Nat.le_of_ble_eq_true rfl) dX1_addWords_21 ⟨Nat.zero_le _, Nat.zero_le _⟩ (fun H locs hP hD hS => ?_)
        refine lv_pop hx hb dX1_addWords_24 rfl ?_
        refine lv_goto (tgt := 37) hx hb dX1_addWords_25 (by decide) ?_
        refine lv_iinc (v := Jn (pre ++ [x]).length) (lv' := [(2, .int (Jn (pre ++ [x]).length)), (0, .ref (ad 5)), (1, .ref q)]) hx hb dX1_addWords_37 hl (k := 0) rfl (by rw [List.length_append]; exact Jn_add pre.length 1) (by decide) rfl (fun ls hl => ?_)
        refine lv_goto (tgt := 2) hx hb dX1_addWords_40 (by decide) ?_
        exact ih (pre ++ [x]) r1.2 out _ _ _ (by rw [hpre, List.append_assoc]; rfl) hM hP hD hS (lv_sub hl [0, 1, 2] rfl) kx
  obtain ⟨r1, hcr1, hM⟩ := ob_use hM
  refine lp bs [] o_this r1 _ _ _ rfl hcr1 hP hD hS (lv_sub hl [0, 1, 2] rfl) (fun H locs ls hP hD hS hl => ?_)
  refine lv_aload_n hx hb dX1_addWords_43 rfl (lv_at hl 0 rfl) ?_
  obtain ⟨r2, hcr2, hM⟩ := ob_use hM
  refine cl_V (As := []) (rest := []) (wN cI ad r2.2) [.int r2.1] ⟨hx, hb, hml, hown, hts⟩ (c_Names_number l D cI sd ad r1 r2 hcr2) (cwV2 hts q272 mvX1_number rfl rfl ⟨(Nat.le_of_ble_eq_true rfl), (Nat.le_of_ble_eq_true rfl)⟩) hK hE hA hP hD hS 0 (T := TX1) (N := 6) (ci := 1) rfl rfl [0, 1, 2, 3, 4] rfl (by decide) rfl rfl rfl rfl rfl rfl hl.1 (Nat.le_of_ble_eq_true rfl) dX1_addWords_44 ⟨Nat.zero_le _, Nat.zero_le _⟩ (fun H locs hP hD hS => ?_)
  refine lv_pop hx hb dX1_addWords_47 rfl ?_
  cases hM
  exact rt_v hx hb hr hlk hP hD hS rfl dX1_addWords_48
