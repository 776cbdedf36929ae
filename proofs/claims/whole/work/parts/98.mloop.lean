abbrev wMT (cI : ClassId) (ad : Nat → Nat) (xC : S_MC) (xX : S_MX) (xL : S_ML) (xN : S_MN) (xT : S_MT) (xU : S_MU) (xO : S_MO) (xE : S_ME) (xQ : S_MQ) (xV : S_MV) (xI : S_MI) : va_W := [(ad 100, .inr (8, [.ref (ad 101), .ref (ad 102), .ref (ad 103), .ref (ad 104), .int xX.1, .ref (ad 105), .int xL.1, .int xL.2.1, .int xL.2.2.1, .int xL.2.2.2.1, .int xL.2.2.2.2.1, .int xL.2.2.2.2.2.1, .int xL.2.2.2.2.2.2, .int xN.1, .ref (ad 106), .ref (ad 107), .int xT.1, .ref (ad 108), .ref (ad 109), .ref (ad 110), .ref (ad 111), .ref (ad 112), .ref (ad 113), .ref (ad 114), .int xT.2.1, .int xU.1, .ref (ad 115), .int xO.1, .int xO.2.1, .int xO.2.2.1, .int xO.2.2.2.1, .int xO.2.2.2.2.1, .int xO.2.2.2.2.2, .int xE.1, .ref (ad 116), .int xE.2.1, .ref (ad 117), .ref (ad 118), .int xE.2.2.1, .ref (ad 119), .int xQ.1, .ref (ad 120), .ref (ad 121), .int xV.1, .ref (ad 122), .int xI.1, .ref (ad 123), .ref (ad 124)])), (ad 101, .inl (cI, 270, .inl xC.1)), (ad 102, .inl (cI, 42, .inl xC.2.1)), (ad 103, .inl (cI, 44, .inl xC.2.2.1)), (ad 104, .inl (cI, 12, .inl xC.2.2.2)), (ad 105, .inl (cI, 8192, .inl xX.2)), (ad 106, .inl (cI, 8193, .inl xN.2.1)), (ad 107, .inl (cI, 8192, .inl xN.2.2)), (ad 108, .inl (cI, 20000, .inl xT.2.2.1)), (ad 109, .inl (cI, 20000, .inl xT.2.2.2.1)), (ad 110, .inl (cI, 20000, .inl xT.2.2.2.2.1)), (ad 111, .inl (cI, 20000, .inl xT.2.2.2.2.2.1)), (ad 112, .inl (cI, 20000, .inl xT.2.2.2.2.2.2.1)), (ad 113, .inl (cI, 20000, .inl xT.2.2.2.2.2.2.2.1)), (ad 114, .inl (cI, 20000, .inl xT.2.2.2.2.2.2.2.2)), (ad 115, .inl (cI, 4000, .inl xU.2)), (ad 116, .inl (cI, 400, .inl xE.2.2.2.1)), (ad 117, .inl (cI, 400, .inl xE.2.2.2.2.1)), (ad 118, .inl (cI, 400, .inl xE.2.2.2.2.2.1)), (ad 119, .inl (cI, 400, .inl xE.2.2.2.2.2.2)), (ad 120, .inl (cI, 20000, .inl xQ.2.1)), (ad 121, .inl (cI, 20000, .inl xQ.2.2)), (ad 122, .inl (cI, 24000, .inl xV.2)), (ad 123, .inl (cI, 4000, .inl xI.2.1)), (ad 124, .inl (cI, 4000, .inl xI.2.2))]
section MLO
variable {p : Program} {l : Launch} {e : Env} {R : Room} {s : State} {m : MethodId} {args : Array Value} {below : List Frame} {meth : Method} {c : Code} {cells slots : Nat} {Q : State → Prop} {D : va_G} {cI : ClassId} {A : Nat → Prop} {c0 : Cond}
set_option maxHeartbeats 4000000 in
set_option maxRecDepth 100000 in
theorem minit_loop (hx : p.tables.exec = Jvm.exec) (hb : c.code = cX8_init) (hts : ∀ w ∈ c0 :: ALL, w.before args s = true) (hown : s.vm.findClass RX8 = some m.cls) (hK : va_K D vwCl [(cI, .int)] s) (ad : Nat → Nat) :
    ∀ (xs pre : List Int32) (w : Nat) (wa : Nat → Int32) (H : Heap) (locs : List Loc) (ls : Array Slot), LTL = pre ++ xs → w + nz0 xs ≤ 41 → va_P D vwCl (wMT cI ad (fil LTL 270, wa, fil SG 44, fil PL 12) (0, (fun _ => 0)) (0, 0, 0, 0, 0, 0, (-1)) (0, (fun _ => 0), (fun _ => 0)) (0, 0, (fun _ => 0), (fun _ => 0), (fun _ => 0), (fun _ => 0), (fun _ => 0), (fun _ => 0), (fun _ => 0)) (0, (fun _ => 0)) (0, 0, 0, 0, 0, 0) (0, 0, 0, (fun _ => 0), (fun _ => 0), (fun _ => 0), (fun _ => 0)) (0, (fun _ => 0), (fun _ => 0)) (0, (fun _ => 0)) (0, (fun _ => 0), (fun _ => 0))) H → va_D A (wMT cI ad (fil LTL 270, wa, fil SG 44, fil PL 12) (0, (fun _ => 0)) (0, 0, 0, 0, 0, 0, (-1)) (0, (fun _ => 0), (fun _ => 0)) (0, 0, (fun _ => 0), (fun _ => 0), (fun _ => 0), (fun _ => 0), (fun _ => 0), (fun _ => 0), (fun _ => 0)) (0, (fun _ => 0)) (0, 0, 0, 0, 0, 0) (0, 0, 0, (fun _ => 0), (fun _ => 0), (fun _ => 0), (fun _ => 0)) (0, (fun _ => 0), (fun _ => 0)) (0, (fun _ => 0)) (0, (fun _ => 0), (fun _ => 0))) → va_S A s.heap H locs → lv_has ls 3 [(2, .int (Jn pre.length)), (1, .int (Jn w)), (0, .ref (ad 100))] →
    (∀ (H : Heap) (locs : List Loc) (ls : Array Slot), va_P D vwCl (wMT cI ad (fil LTL 270, waL xs w pre.length wa, fil SG 44, fil PL 12) (0, (fun _ => 0)) (0, 0, 0, 0, 0, 0, (-1)) (0, (fun _ => 0), (fun _ => 0)) (0, 0, (fun _ => 0), (fun _ => 0), (fun _ => 0), (fun _ => 0), (fun _ => 0), (fun _ => 0), (fun _ => 0)) (0, (fun _ => 0)) (0, 0, 0, 0, 0, 0) (0, 0, 0, (fun _ => 0), (fun _ => 0), (fun _ => 0), (fun _ => 0)) (0, (fun _ => 0), (fun _ => 0)) (0, (fun _ => 0)) (0, (fun _ => 0), (fun _ => 0))) H → va_D A (wMT cI ad (fil LTL 270, waL xs w pre.length wa, fil SG 44, fil PL 12) (0, (fun _ => 0)) (0, 0, 0, 0, 0, 0, (-1)) (0, (fun _ => 0), (fun _ => 0)) (0, 0, (fun _ => 0), (fun _ => 0), (fun _ => 0), (fun _ => 0), (fun _ => 0), (fun _ => 0), (fun _ => 0)) (0, (fun _ => 0)) (0, 0, 0, 0, 0, 0) (0, 0, 0, (fun _ => 0), (fun _ => 0), (fun _ => 0), (fun _ => 0)) (0, (fun _ => 0), (fun _ => 0)) (0, (fun _ => 0)) (0, (fun _ => 0), (fun _ => 0))) → va_S A s.heap H locs → W p l e R s m args below meth c H locs cells slots Q (F0 m 2284 ls [])) →
    W p l e R s m args below meth c H locs cells slots Q (F0 m 2248 ls [])
  | [], pre, w, wa, H, locs, ls, hpre, hw, hP, hD, hS, hl, kx => by
    rw [List.append_nil] at hpre
    have hlen : pre.length = 270 := by rw [← hpre]; rfl
    refine lv_iload_n hx hb dX8_init_2248 rfl (lv_at hl 0 rfl) ?_
    refine lv_aload_n hx hb dX8_init_2249 rfl (lv_at hl 2 rfl) ?_
    refine va_get (D := D) (ci := 8) (v := .ref (ad 101)) (C := RX8) (T := TX8) (N := 48) hx hb hts layX8 hown hK hP 0 rfl rfl 0 (by decide) (hts _ (inA q978)) (fun _ h9 => h9) rfl dX8_init_2250 ?_
    refine va_alen hx hb hK hP 1 0 rfl rfl (v := 270) rfl dX8_init_2253 ?_
    refine lv_icmp_ge (tgt := 2284) hx hb dX8_init_2254 (by decide) (fun c1 => ?_) (fun c1 => absurd (show (270 : Int32) ≤ Jn pre.length by rw [hlen]; decide) c1)
    exact kx _ _ _ hP hD hS
  | x :: xs, pre, w, wa, H, locs, ls, hpre, hw, hP, hD, hS, hl, kx => by
    have hlen : 270 = pre.length + (xs.length + 1) := by
      have := congrArg List.length hpre
      rw [List.length_append, List.length_cons] at this
      exact this
    have hgx : fil LTL 270 (Jn pre.length).toNatClampNeg = x := by
      rw [Jn_cl (by omega)]
      unfold fil
      rw [if_pos (by omega), hpre, List.getD_eq_getElem?_getD, List.getElem?_append_right (Nat.le_refl _), Nat.sub_self]
      rfl
    refine lv_iload_n hx hb dX8_init_2248 rfl (lv_at hl 0 rfl) ?_
    refine lv_aload_n hx hb dX8_init_2249 rfl (lv_at hl 2 rfl) ?_
    refine va_get (D := D) (ci := 8) (v := .ref (ad 101)) (C := RX8) (T := TX8) (N := 48) hx hb hts layX8 hown hK hP 0 rfl rfl 0 (by decide) (hts _ (inA q978)) (fun _ h9 => h9) rfl dX8_init_2250 ?_
    refine va_alen hx hb hK hP 1 0 rfl rfl (v := 270) rfl dX8_init_2253 ?_
    refine lv_icmp_ge (tgt := 2284) hx hb dX8_init_2254 (by decide) (fun c1 => absurd c1 (show ¬ (270 : Int32) ≤ Jn pre.length from nleL 270 (by omega))) (fun c1 => ?_)
    refine lv_aload_n hx hb dX8_init_2257 rfl (lv_at hl 2 rfl) ?_
    refine va_get (D := D) (ci := 8) (v := .ref (ad 101)) (C := RX8) (T := TX8) (N := 48) hx hb hts layX8 hown hK hP 0 rfl rfl 0 (by decide) (hts _ (inA q978)) (fun _ h9 => h9) rfl dX8_init_2258 ?_
    refine lv_iload_n hx hb dX8_init_2261 rfl (lv_at hl 0 rfl) ?_
    refine va_iald hx hb hK hP 1 0 rfl rfl (in_Jn (by omega) (by decide)) dX8_init_2262 ?_
    show W p l e R s m args below meth c H locs cells slots Q (F0 m 2263 ls [.int (fil LTL 270 (Jn pre.length).toNatClampNeg)])
    rw [hgx]
    refine lv_if_ne (tgt := 2278) hx hb dX8_init_2263 (by decide) (fun c2 => ?_) (fun c2 => ?_)
    · have hw2 : w + nz0 xs ≤ 41 := by
        rw [nz0, if_neg c2] at hw
        exact hw
      refine lv_iinc (v := Jn (pre ++ [x]).length) (lv' := [(2, .int (Jn (pre ++ [x]).length)), (1, .int (Jn w)), (0, .ref (ad 100))]) hx hb dX8_init_2278 hl (k := 0) rfl (by rw [List.length_append]; exact Jn_add pre.length 1) (by decide) rfl (fun ls hl => ?_)
      refine lv_goto (tgt := 2248) hx hb dX8_init_2281 (by decide) ?_
      refine minit_loop hx hb hts hown hK ad xs (pre ++ [x]) w wa H locs ls (by rw [hpre, List.append_assoc]; rfl) hw2 hP hD hS hl ?_
      have ew : waL (x :: xs) w pre.length wa = waL xs w (pre ++ [x]).length wa := by
        rw [waL, if_neg c2, List.length_append]
        rfl
      rw [ew] at kx
      exact kx
    · have hw2 : w + 1 + nz0 xs ≤ 41 := by
        rw [nz0, if_pos c2] at hw
        omega
      refine lv_iinc (v := Jn (w + 1)) (lv' := [(1, .int (Jn (w + 1))), (2, .int (Jn pre.length)), (0, .ref (ad 100))]) hx hb dX8_init_2266 hl (k := 1) rfl (Jn_add w 1) (by decide) rfl (fun ls hl => ?_)
      refine lv_aload_n hx hb dX8_init_2269 rfl (lv_at hl 2 rfl) ?_
      refine va_get (D := D) (ci := 8) (v := .ref (ad 102)) (C := RX8) (T := TX8) (N := 48) hx hb hts layX8 hown hK hP 0 rfl rfl 1 (by decide) (hts _ (inA q979)) (fun _ h9 => h9) rfl dX8_init_2270 ?_
      refine lv_iload_n hx hb dX8_init_2273 rfl (lv_at hl 0 rfl) ?_
      refine lv_iload_n hx hb dX8_init_2274 rfl (lv_at hl 1 rfl) ?_
      refine lv_iconst (v := 1) hx hb dX8_init_2275 (by decide) ?_
      refine lv_iadd hx hb dX8_init_2276 ?_
      refine va_iast hx hb hK hP hD hS 2 0 rfl rfl (in_Jn (by omega) (by decide)) dX8_init_2277 (fun H locs hP hD hS => ?_)
      have eu : upd wa (Jn (w + 1)).toNatClampNeg (Jn pre.length + 1) = upd wa (w + 1) (Jn (pre.length + 1)) := by rw [Jn_cl (by omega), addL]
      have hP : va_P D vwCl (wMT cI ad (fil LTL 270, upd wa (w + 1) (Jn (pre.length + 1)), fil SG 44, fil PL 12) (0, (fun _ => 0)) (0, 0, 0, 0, 0, 0, (-1)) (0, (fun _ => 0), (fun _ => 0)) (0, 0, (fun _ => 0), (fun _ => 0), (fun _ => 0), (fun _ => 0), (fun _ => 0), (fun _ => 0), (fun _ => 0)) (0, (fun _ => 0)) (0, 0, 0, 0, 0, 0) (0, 0, 0, (fun _ => 0), (fun _ => 0), (fun _ => 0), (fun _ => 0)) (0, (fun _ => 0), (fun _ => 0)) (0, (fun _ => 0)) (0, (fun _ => 0), (fun _ => 0))) H := by rw [← eu]; exact hP
      have hD : va_D A (wMT cI ad (fil LTL 270, upd wa (w + 1) (Jn (pre.length + 1)), fil SG 44, fil PL 12) (0, (fun _ => 0)) (0, 0, 0, 0, 0, 0, (-1)) (0, (fun _ => 0), (fun _ => 0)) (0, 0, (fun _ => 0), (fun _ => 0), (fun _ => 0), (fun _ => 0), (fun _ => 0), (fun _ => 0), (fun _ => 0)) (0, (fun _ => 0)) (0, 0, 0, 0, 0, 0) (0, 0, 0, (fun _ => 0), (fun _ => 0), (fun _ => 0), (fun _ => 0)) (0, (fun _ => 0), (fun _ => 0)) (0, (fun _ => 0)) (0, (fun _ => 0), (fun _ => 0))) := by rw [← eu]; exact hD
      refine lv_iinc (v := Jn (pre ++ [x]).length) (lv' := [(2, .int (Jn (pre ++ [x]).length)), (1, .int (Jn (w + 1))), (0, .ref (ad 100))]) hx hb dX8_init_2278 hl (k := 1) rfl (by rw [List.length_append]; exact Jn_add pre.length 1) (by decide) rfl (fun ls hl => ?_)
      refine lv_goto (tgt := 2248) hx hb dX8_init_2281 (by decide) ?_
      refine minit_loop hx hb hts hown hK ad xs (pre ++ [x]) (w + 1) (upd wa (w + 1) (Jn (pre.length + 1))) H locs ls (by rw [hpre, List.append_assoc]; rfl) hw2 hP hD hS hl ?_
      have ew : waL (x :: xs) w pre.length wa = waL xs (w + 1) (pre ++ [x]).length (upd wa (w + 1) (Jn (pre.length + 1))) := by
        rw [waL, if_pos c2, List.length_append]
        rfl
      rw [ew] at kx
      exact kx
end MLO
