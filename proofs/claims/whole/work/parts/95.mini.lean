/-! The reference's constructor: rows of numbers laid one by one, checked by a program. -/
def fil (L : List Int32) (k : Nat) : Nat → Int32 := fun j => if j < k then L.getD j 0 else 0
theorem fil_zero (L : List Int32) : (fun _ => 0 : Nat → Int32) = fil L 0 := by
  funext j
  unfold fil
  rw [if_neg (Nat.not_lt_zero j)]
theorem fil_step {L : List Int32} {k : Nat} {x : Int32} (h : L.getD k 0 = x) : upd (fil L k) k x = fil L (k + 1) := by
  funext j
  unfold fil upd
  by_cases e : j = k
  · rw [if_pos e, if_pos (by omega), e, h]
  · by_cases c : j < k
    · rw [if_neg e]
      dsimp only
      rw [if_pos c, if_pos (by omega)]
    · rw [if_neg e]
      dsimp only
      rw [if_neg c, if_neg (by omega)]
theorem u1_at {cc : ByteArray} {pc : Nat} {b : UInt8} (h : cc.data.toList[pc]? = some b) : (Jvm.ClassFile.Reader.u1 : Jvm.ClassFile.Decoder Nat) cc pc = .ok (b.toNat, pc + 1) := by
  have hlt : pc < cc.size := by
    have := (List.getElem?_eq_some_iff.mp h).1
    rw [Array.length_toList] at this
    exact this
  have hb : cc[pc] = b := by
    have := (List.getElem?_eq_some_iff.mp h).2
    exact this
  have e : (Jvm.ClassFile.Reader.u1 : Jvm.ClassFile.Decoder Nat) cc pc = (if h : pc < cc.size then .ok (cc[pc].toNat, pc + 1) else .error (Jvm.ClassFile.HasTruncated.truncated pc)) := by
    unfold Jvm.ClassFile.Reader.u1
    show (dite (pc < cc.size) _ _ : Jvm.ClassFile.Decoder Nat) cc pc = _
    split
    · rfl
    · rfl
  rw [e, dif_pos hlt, hb]
theorem dec_dup {cc : ByteArray} {pc : Nat} (h : cc.data.toList[pc]? = some 89) : decode cc pc = .ok (.dup, 1) := by
  have e : (Jvm.ClassFile.Decoder.instr pc).runAt cc pc = .ok (.dup, pc + 1) := by
    show Except.bind ((Jvm.ClassFile.Reader.u1 : Jvm.ClassFile.Decoder Nat) cc pc) _ = _
    rw [u1_at h]
    rfl
  show Except.bind ((Jvm.ClassFile.Decoder.instr pc).runAt cc pc) _ = _
  rw [e]
  show Except.ok (Instr.dup, pc + 1 - pc) = _
  rw [Nat.add_sub_cancel_left]
theorem dec_iastore {cc : ByteArray} {pc : Nat} (h : cc.data.toList[pc]? = some 79) : decode cc pc = .ok (.iastore, 1) := by
  have e : (Jvm.ClassFile.Decoder.instr pc).runAt cc pc = .ok (.iastore, pc + 1) := by
    show Except.bind ((Jvm.ClassFile.Reader.u1 : Jvm.ClassFile.Decoder Nat) cc pc) _ = _
    rw [u1_at h]
    rfl
  show Except.bind ((Jvm.ClassFile.Decoder.instr pc).runAt cc pc) _ = _
  rw [e]
  show Except.ok (Instr.iastore, pc + 1 - pc) = _
  rw [Nat.add_sub_cancel_left]
theorem dec_bipush {cc : ByteArray} {pc : Nat} {x : UInt8} (h : cc.data.toList[pc]? = some 16) (h1 : cc.data.toList[pc + 1]? = some x) : decode cc pc = .ok (.bipush (Jvm.ClassFile.Reader.signed 8 x.toNat), 2) := by
  have e : (Jvm.ClassFile.Decoder.instr pc).runAt cc pc = .ok (.bipush (Jvm.ClassFile.Reader.signed 8 x.toNat), pc + 1 + 1) := by
    show Except.bind ((Jvm.ClassFile.Reader.u1 : Jvm.ClassFile.Decoder Nat) cc pc) _ = _
    rw [u1_at h]
    show Except.bind (Except.map _ ((Jvm.ClassFile.Reader.u1 : Jvm.ClassFile.Decoder Nat) cc (pc + 1))) _ = _
    rw [u1_at h1]
    rfl
  show Except.bind ((Jvm.ClassFile.Decoder.instr pc).runAt cc pc) _ = _
  rw [e]
  show Except.ok (Instr.bipush (Jvm.ClassFile.Reader.signed 8 x.toNat), pc + 1 + 1 - pc) = _
  rw [show pc + 1 + 1 - pc = 2 by omega]
theorem dec_iconst {cc : ByteArray} {pc : Nat} {b : UInt8} (h : cc.data.toList[pc]? = some b) (hb : b = 3 ∨ b = 4 ∨ b = 5 ∨ b = 6 ∨ b = 7 ∨ b = 8) : decode cc pc = .ok (.iconst ((b.toNat : Int) - 3), 1) := by
  have e : (Jvm.ClassFile.Decoder.instr pc).runAt cc pc = .ok (.iconst ((b.toNat : Int) - 3), pc + 1) := by
    show Except.bind ((Jvm.ClassFile.Reader.u1 : Jvm.ClassFile.Decoder Nat) cc pc) _ = _
    rw [u1_at h]
    rcases hb with rfl | rfl | rfl | rfl | rfl | rfl <;> rfl
  show Except.bind ((Jvm.ClassFile.Decoder.instr pc).runAt cc pc) _ = _
  rw [e]
  show Except.ok (Instr.iconst ((b.toNat : Int) - 3), pc + 1 - pc) = _
  rw [Nat.add_sub_cancel_left]
theorem dec_sipush {cc : ByteArray} {pc : Nat} {x y : UInt8} (h : cc.data.toList[pc]? = some 17) (h1 : cc.data.toList[pc + 1]? = some x) (h2 : cc.data.toList[pc + 2]? = some y) : decode cc pc = .ok (.sipush (Jvm.ClassFile.Reader.signed 16 (x.toNat * 256 + y.toNat)), 3) := by
  have eu : (Jvm.ClassFile.Reader.u2 : Jvm.ClassFile.Decoder Nat) cc (pc + 1) = .ok (x.toNat * 256 + y.toNat, pc + 1 + 1 + 1) := by
    show Except.bind ((Jvm.ClassFile.Reader.u1 : Jvm.ClassFile.Decoder Nat) cc (pc + 1)) _ = _
    rw [u1_at h1]
    show Except.bind ((Jvm.ClassFile.Reader.u1 : Jvm.ClassFile.Decoder Nat) cc (pc + 1 + 1)) _ = _
    rw [u1_at h2]
    rfl
  have e : (Jvm.ClassFile.Decoder.instr pc).runAt cc pc = .ok (.sipush (Jvm.ClassFile.Reader.signed 16 (x.toNat * 256 + y.toNat)), pc + 1 + 1 + 1) := by
    show Except.bind ((Jvm.ClassFile.Reader.u1 : Jvm.ClassFile.Decoder Nat) cc pc) _ = _
    rw [u1_at h]
    show Except.bind (Except.map _ ((Jvm.ClassFile.Reader.u2 : Jvm.ClassFile.Decoder Nat) cc (pc + 1))) _ = _
    rw [eu]
    rfl
  show Except.bind ((Jvm.ClassFile.Decoder.instr pc).runAt cc pc) _ = _
  rw [e]
  show Except.ok (Instr.sipush (Jvm.ClassFile.Reader.signed 16 (x.toNat * 256 + y.toNat)), pc + 1 + 1 + 1 - pc) = _
  rw [show pc + 1 + 1 + 1 - pc = 3 by omega]
def pushB : List UInt8 → Option (Int32 × Nat × List UInt8)
  | [] => none
  | b :: r =>
    if b = 16 then (match r with
      | x :: r2 => some ((Int8.ofInt (Jvm.ClassFile.Reader.signed 8 x.toNat)).toInt32, 2, r2)
      | [] => none)
    else if b = 17 then (match r with
      | x :: y :: r2 => some ((Int16.ofInt (Jvm.ClassFile.Reader.signed 16 (x.toNat * 256 + y.toNat))).toInt32, 3, r2)
      | _ => none)
    else if b = 3 ∨ b = 4 ∨ b = 5 ∨ b = 6 ∨ b = 7 ∨ b = 8 then some (Int32.ofInt ((b.toNat : Int) - 3), 1, r) else none
def stB : List Int32 → Nat → Nat → List UInt8 → Option Nat
  | [], _, pc, _ => some pc
  | _ :: _, _, _, [] => none
  | x :: xs, k, pc, d :: bs =>
    match pushB bs with
    | none => none
    | some (i, n1, b1) =>
      match pushB b1 with
      | none => none
      | some (_, _, []) => none
      | some (v, n2, z :: b3) => if d = 89 ∧ i = Int32.ofNat k ∧ v = x ∧ z = 79 then stB xs (k + 1) (pc + 1 + n1 + n2 + 1) b3 else none
theorem hd_at {l r : List UInt8} {b : UInt8} {pc : Nat} (h : l.drop pc = b :: r) : l[pc]? = some b ∧ l.drop (pc + 1) = r := by
  have h1 : l[pc]? = some b := by
    have : (l.drop pc)[0]? = some b := by rw [h]; rfl
    rw [List.getElem?_drop, Nat.add_zero] at this
    exact this
  refine ⟨h1, ?_⟩
  have := congrArg List.tail h
  rw [List.tail_drop] at this
  exact this
section STO
variable {p : Program} {l : Launch} {e : Env} {R : Room} {s : State} {m : MethodId} {args : Array Value} {below : List Frame} {meth : Method} {c : Code} {H : Heap} {locs : List Loc} {cells slots : Nat} {Q : State → Prop}
variable {cc : ByteArray} {pc : Nat} {ls : Array Slot} {D : va_G} {cI : ClassId} {A : Nat → Prop} {rest : List Value}
theorem push_W (hx : p.tables.exec = Jvm.exec) (hb : c.code = cc) {v : Int32} {n : Nat} {bs r : List UInt8} (hl : cc.data.toList.drop pc = bs) (h : pushB bs = some (v, n, r)) : cc.data.toList.drop (pc + n) = r ∧ (W p l e R s m args below meth c H locs cells slots Q (F0 m (pc + n) ls (.int v :: rest)) → W p l e R s m args below meth c H locs cells slots Q (F0 m pc ls rest)) := by
  cases bs with
  | nil => cases h
  | cons b r0 =>
    obtain ⟨g1, g2⟩ := hd_at hl
    rw [pushB.eq_def] at h
    dsimp only at h
    by_cases c16 : b = 16
    · rw [if_pos c16] at h
      subst c16
      cases r0 with
      | nil => cases h
      | cons x r1 =>
        injection h with h
        injection h with h1 h
        injection h with h2 h3
        subst h2
        subst h3
        obtain ⟨g3, g4⟩ := hd_at g2
        exact ⟨g4, fun k => lv_bipush hx hb (dec_bipush g1 g3) h1 k⟩
    · rw [if_neg c16] at h
      by_cases c17 : b = 17
      · rw [if_pos c17] at h
        subst c17
        cases r0 with
        | nil => cases h
        | cons x r1 =>
          cases r1 with
          | nil => cases h
          | cons y r2 =>
            injection h with h
            injection h with h1 h
            injection h with h2 h3
            subst h2
            subst h3
            obtain ⟨g3, g4⟩ := hd_at g2
            obtain ⟨g5, g6⟩ := hd_at g4
            exact ⟨g6, fun k => lv_sipush hx hb (dec_sipush g1 g3 g5) h1 k⟩
      · rw [if_neg c17] at h
        by_cases c3 : b = 3 ∨ b = 4 ∨ b = 5 ∨ b = 6 ∨ b = 7 ∨ b = 8
        · rw [if_pos c3] at h
          injection h with h
          injection h with h1 h
          injection h with h2 h3
          subst h2
          subst h3
          exact ⟨g2, fun k => lv_iconst hx hb (dec_iconst g1 c3) h1 k⟩
        · rw [if_neg c3] at h
          cases h
theorem stores_W (hx : p.tables.exec = Jvm.exec) (hb : c.code = cc) (hK : va_K D vwCl [(cI, .int)] s) {pre : va_W} {q N : Nat} {Lx : List Int32} (hN : Lx.length ≤ N) (hN2 : N < 2147483648) (pc' : Nat) :
    ∀ (xs : List Int32) (k pc : Nat) (bs : List UInt8) (H : Heap) (locs : List Loc), Lx.drop k = xs → k + xs.length = Lx.length → cc.data.toList.drop pc = bs → stB xs k pc bs = some pc' → va_P D vwCl (pre ++ [(q, .inl (cI, N, .inl (fil Lx k)))]) H → va_D A (pre ++ [(q, .inl (cI, N, .inl (fil Lx k)))]) → va_S A s.heap H locs →
    (∀ (H : Heap) (locs : List Loc), va_P D vwCl (pre ++ [(q, .inl (cI, N, .inl (fil Lx Lx.length)))]) H → va_D A (pre ++ [(q, .inl (cI, N, .inl (fil Lx Lx.length)))]) → va_S A s.heap H locs → W p l e R s m args below meth c H locs cells slots Q (F0 m pc' ls (.ref q :: rest))) →
    W p l e R s m args below meth c H locs cells slots Q (F0 m pc ls (.ref q :: rest))
  | [], k, pc, bs, H, locs, hd, hl, hbs, hs, hP, hD, hS, kk => by
    rw [List.length_nil, Nat.add_zero] at hl
    subst hl
    have e : pc = pc' := by
      cases bs <;> injection hs
    subst e
    exact kk H locs hP hD hS
  | x :: xs, k, pc, [], H, locs, hd, hl, hbs, hs, hP, hD, hS, kk => by cases hs
  | x :: xs, k, pc, d :: bs, H, locs, hd, hl, hbs, hs, hP, hD, hS, kk => by
    rw [List.length_cons] at hl
    rw [stB] at hs
    obtain ⟨g1, g2⟩ := hd_at hbs
    cases h1 : pushB bs with
    | none => rw [h1] at hs; cases hs
    | some r1 =>
      obtain ⟨i, n1, b1⟩ := r1
      rw [h1] at hs
      dsimp only at hs
      cases h2 : pushB b1 with
      | none => rw [h2] at hs; cases hs
      | some r2 =>
        obtain ⟨v, n2, b2⟩ := r2
        rw [h2] at hs
        cases b2 with
        | nil => cases hs
        | cons z b3 =>
          dsimp only at hs
          by_cases hc : d = 89 ∧ i = Int32.ofNat k ∧ v = x ∧ z = 79
          · rw [if_pos hc] at hs
            obtain ⟨c1, c2, c3, c4⟩ := hc
            subst c1
            subst c2
            subst c3
            subst c4
            have hk : k < Lx.length := by omega
            rw [List.drop_eq_getElem_cons hk] at hd
            injection hd with e1 e2
            have hx0 : Lx.getD k 0 = v := by
              rw [List.getD_eq_getElem?_getD, List.getElem?_eq_getElem hk]
              exact e1
            refine lv_dup hx hb (dec_dup g1) rfl ?_
            obtain ⟨a1, a2⟩ := push_W (p := p) (l := l) (e := e) (R := R) (s := s) (m := m) (args := args) (below := below) (meth := meth) (c := c) (H := H) (locs := locs) (cells := cells) (slots := slots) (Q := Q) (ls := ls) (rest := .ref q :: .ref q :: rest) hx hb g2 h1
            refine a2 ?_
            obtain ⟨a3, a4⟩ := push_W (p := p) (l := l) (e := e) (R := R) (s := s) (m := m) (args := args) (below := below) (meth := meth) (c := c) (H := H) (locs := locs) (cells := cells) (slots := slots) (Q := Q) (ls := ls) (rest := .int (Int32.ofNat k) :: .ref q :: .ref q :: rest) hx hb a1 h2
            refine a4 ?_
            obtain ⟨g3, g4⟩ := hd_at a3
            have hin : vp_in (Int32.ofNat k) N := in_Jn (by omega) hN2
            refine va_iast hx hb hK hP hD hS pre.length 0 (by rw [List.getElem?_append_right (Nat.le_refl _), Nat.sub_self]; rfl) rfl hin (dec_iastore g3) (fun H locs hP hD hS => ?_)
            have es : (pre ++ [(q, Sum.inl (cI, N, Sum.inl (fil Lx k)))]).set pre.length (q, .inl (cI, N, .inl (upd (fil Lx k) (Int32.ofNat k).toNatClampNeg v))) = pre ++ [(q, .inl (cI, N, .inl (fil Lx (k + 1))))] := by
              rw [List.set_append_right _ _ (Nat.le_refl _), Nat.sub_self, show (Int32.ofNat k).toNatClampNeg = k from Jn_cl (by omega), fil_step hx0]
              rfl
            rw [es] at hP hD
            exact stores_W hx hb hK hN hN2 pc' xs (k + 1) _ b3 H locs e2 (by omega) g4 hs hP hD hS kk
          · rw [if_neg hc] at hs
            cases hs
end STO
/-- the reference's places of words, by its letters -/
def waL : List Int32 → Nat → Nat → (Nat → Int32) → Nat → Int32
  | [], _, _, f => f
  | x :: xs, w, k, f => if x = 0 then waL xs (w + 1) (k + 1) (upd f (w + 1) (Jn (k + 1))) else waL xs w (k + 1) f
def nz0 : List Int32 → Nat
  | [] => 0
  | x :: xs => if x = 0 then nz0 xs + 1 else nz0 xs
def LTL : List Int32 := [70, 85, 78, 67, 84, 73, 79, 78, 0, 69, 78, 68, 95, 70, 85, 78, 67, 84, 73, 79, 78, 0, 70, 85, 78, 67, 84, 73, 79, 78, 95, 66, 76, 79, 67, 75, 0, 69, 78, 68, 95, 70, 85, 78, 67, 84, 73, 79, 78, 95, 66, 76, 79, 67, 75, 0, 80, 82, 79, 71, 82, 65, 77, 0, 69, 78, 68, 95, 80, 82, 79, 71, 82, 65, 77, 0, 86, 65, 82, 0, 86, 65, 82, 95, 73, 78, 80, 85, 84, 0, 86, 65, 82, 95, 79, 85, 84, 80, 85, 84, 0, 69, 78, 68, 95, 86, 65, 82, 0, 65, 84, 0, 66, 79, 79, 76, 0, 73, 78, 84, 0, 68, 73, 78, 84, 0, 65, 82, 82, 65, 89, 0, 79, 70, 0, 73, 70, 0, 84, 72, 69, 78, 0, 69, 76, 83, 73, 70, 0, 69, 76, 83, 69, 0, 69, 78, 68, 95, 73, 70, 0, 67, 65, 83, 69, 0, 69, 78, 68, 95, 67, 65, 83, 69, 0, 70, 79, 82, 0, 84, 79, 0, 66, 89, 0, 68, 79, 0, 69, 78, 68, 95, 70, 79, 82, 0, 69, 88, 73, 84, 0, 82, 69, 84, 85, 82, 78, 0, 79, 82, 0, 88, 79, 82, 0, 65, 78, 68, 0, 77, 79, 68, 0, 78, 79, 84, 0, 84, 82, 85, 69, 0, 70, 65, 76, 83, 69, 0, 76, 65, 68, 68, 69, 82, 0, 69, 78, 68, 95, 76, 65, 68, 68, 69, 82, 0, 82, 85, 78, 71, 0, 69, 78, 68, 95, 82, 85, 78, 71, 0]
def mC0 : S_MC := (fil LTL 270, waL LTL 0 0 (fun _ => 0), fil SG 44, fil PL 12)
theorem MC_of {a b c d : Nat → Int32} (k1 : ∀ w, w ≤ 41 → b w = Jn (offs WS w + w)) (k2 : ∀ w, w < 41 → ∀ k, k < (WS.getD w []).length → a (offs WS w + w + k) = (WS.getD w []).getD k 0) (k3 : ∀ w, w < 41 → a (offs WS w + w + (WS.getD w []).length) = 0) (k4 : Arr c SG) (k5 : Arr d PL) : MC (a, b, c, d) := ⟨k1, k2, k3, k4, k5⟩
theorem fil_arr (L : List Int32) : Arr (fil L L.length) L := by
  intro k hk
  unfold fil
  rw [if_pos hk]
theorem MC0 : MC mC0 := by
  have k1 : ∀ w, w ≤ 41 → waL LTL 0 0 (fun _ => 0) w = Jn (offs WS w + w) := by
    have : ∀ w : Fin 42, waL LTL 0 0 (fun _ => 0) w.1 = Jn (offs WS w.1 + w.1) := by decide +kernel
    exact fun w h => this ⟨w, by omega⟩
  have k2 : ∀ w, w < 41 → ∀ k, k < (WS.getD w []).length → fil LTL 270 (offs WS w + w + k) = (WS.getD w []).getD k 0 := by decide +kernel
  have k3 : ∀ w, w < 41 → fil LTL 270 (offs WS w + w + (WS.getD w []).length) = 0 := by decide +kernel
  exact MC_of k1 k2 k3 (fil_arr SG) (fil_arr PL)
