/-! The reference's constructor: rows of numbers laid one by one, checked by a program. -/
def fil (L : List Int32) (k : Nat) : Nat → Int32 := fun j => if j < k then L.getD j 0 else 0
theorem fil_zero (L : List Int32) : (fun _ => 0 : Nat → Int32) = fil L 0 := by
  funext j
  unfold fil
  rw [if_neg (Nat.not_lt_zero j)]
theorem fil_step {L : List Int32} {k : Nat} {x : Int32} (h : L.getD k 0 = x) : upd (fil L k) k x = fil L (k + 1) := by
  funext j
  unfold fil upd
  by_cases e : j = k
  · rw [if_pos e, if_pos (by omega), e, h]
  · by_cases c : j < k
    · rw [if_neg e]
      dsimp only
      rw [if_pos c, if_pos (by omega)]
    · rw [if_neg e]
      dsimp only
      rw [if_neg c, if_neg (by omega)]
def pushOf (cc : ByteArray) (pc : Nat) : Option (Int32 × Nat) :=
  match decode cc pc with
  | .ok (.iconst n, 1) => some (Int32.ofInt n, 1)
  | .ok (.bipush n, 2) => some ((Int8.ofInt n).toInt32, 2)
  | .ok (.sipush n, 3) => some ((Int16.ofInt n).toInt32, 3)
  | _ => none
def isDup (cc : ByteArray) (pc : Nat) : Bool :=
  match decode cc pc with
  | .ok (.dup, 1) => true
  | _ => false
def isIast (cc : ByteArray) (pc : Nat) : Bool :=
  match decode cc pc with
  | .ok (.iastore, 1) => true
  | _ => false
def stores (cc : ByteArray) : List Int32 → Nat → Nat → Option Nat
  | [], _, pc => some pc
  | x :: xs, k, pc =>
    match pushOf cc (pc + 1) with
    | none => none
    | some (i, n1) =>
      match pushOf cc (pc + 1 + n1) with
      | none => none
      | some (v, n2) => if isDup cc pc = true ∧ i = Int32.ofNat k ∧ v = x ∧ isIast cc (pc + 1 + n1 + n2) = true then stores cc xs (k + 1) (pc + 1 + n1 + n2 + 1) else none
theorem isDup_ok {cc : ByteArray} {pc : Nat} (h : isDup cc pc = true) : decode cc pc = .ok (.dup, 1) := by
  unfold isDup at h
  split at h
  · assumption
  · cases h
theorem isIast_ok {cc : ByteArray} {pc : Nat} (h : isIast cc pc = true) : decode cc pc = .ok (.iastore, 1) := by
  unfold isIast at h
  split at h
  · assumption
  · cases h
section STO
variable {p : Program} {l : Launch} {e : Env} {R : Room} {s : State} {m : MethodId} {args : Array Value} {below : List Frame} {meth : Method} {c : Code} {H : Heap} {locs : List Loc} {cells slots : Nat} {Q : State → Prop}
variable {cc : ByteArray} {pc : Nat} {ls : Array Slot} {D : va_G} {cI : ClassId} {A : Nat → Prop} {rest : List Value}
theorem push_W (hx : p.tables.exec = Jvm.exec) (hb : c.code = cc) {v : Int32} {n : Nat} (h : pushOf cc pc = some (v, n)) (k : W p l e R s m args below meth c H locs cells slots Q (F0 m (pc + n) ls (.int v :: rest))) : W p l e R s m args below meth c H locs cells slots Q (F0 m pc ls rest) := by
  unfold pushOf at h
  split at h
  · rename_i x hd
    injection h with h
    injection h with h1 h2
    subst h2
    exact lv_iconst hx hb hd h1 k
  · rename_i x hd
    injection h with h
    injection h with h1 h2
    subst h2
    exact lv_bipush hx hb hd h1 k
  · rename_i x hd
    injection h with h
    injection h with h1 h2
    subst h2
    exact lv_sipush hx hb hd h1 k
  · cases h
theorem stores_W (hx : p.tables.exec = Jvm.exec) (hb : c.code = cc) (hK : va_K D vwCl [(cI, .int)] s) {pre : va_W} {q N : Nat} {Lx : List Int32} (hN : Lx.length ≤ N) (hN2 : N < 2147483648) (pc' : Nat) :
    ∀ (xs : List Int32) (k pc : Nat) (H : Heap) (locs : List Loc), Lx.drop k = xs → k + xs.length = Lx.length → stores cc xs k pc = some pc' → va_P D vwCl (pre ++ [(q, .inl (cI, N, .inl (fil Lx k)))]) H → va_D A (pre ++ [(q, .inl (cI, N, .inl (fil Lx k)))]) → va_S A s.heap H locs →
    (∀ (H : Heap) (locs : List Loc), va_P D vwCl (pre ++ [(q, .inl (cI, N, .inl (fil Lx Lx.length)))]) H → va_D A (pre ++ [(q, .inl (cI, N, .inl (fil Lx Lx.length)))]) → va_S A s.heap H locs → W p l e R s m args below meth c H locs cells slots Q (F0 m pc' ls (.ref q :: rest))) →
    W p l e R s m args below meth c H locs cells slots Q (F0 m pc ls (.ref q :: rest))
  | [], k, pc, H, locs, hd, hl, hs, hP, hD, hS, kk => by
    rw [List.length_nil, Nat.add_zero] at hl
    subst hl
    injection hs with hs
    subst hs
    exact kk H locs hP hD hS
  | x :: xs, k, pc, H, locs, hd, hl, hs, hP, hD, hS, kk => by
    rw [List.length_cons] at hl
    rw [stores] at hs
    split at hs
    · cases hs
    · rename_i i n1 h1
      split at hs
      · cases hs
      · rename_i v n2 h2
        split at hs
        · rename_i hc
          obtain ⟨c1, c2, c3, c4⟩ := hc
          subst c2
          subst c3
          have hk : k < Lx.length := by omega
          rw [List.drop_eq_getElem_cons hk] at hd
          injection hd with e1 e2
          have hx0 : Lx.getD k 0 = v := by
            rw [List.getD_eq_getElem?_getD, List.getElem?_eq_getElem hk]
            exact e1
          refine lv_dup hx hb (isDup_ok c1) rfl ?_
          refine push_W hx hb h1 ?_
          refine push_W hx hb h2 ?_
          have hin : vp_in (Int32.ofNat k) N := in_Jn (by omega) hN2
          refine va_iast hx hb hK hP hD hS pre.length 0 (by rw [List.getElem?_append_right (Nat.le_refl _), Nat.sub_self]; rfl) rfl hin (isIast_ok c4) (fun H locs hP hD hS => ?_)
          have es : (pre ++ [(q, Sum.inl (cI, N, Sum.inl (fil Lx k)))]).set pre.length (q, .inl (cI, N, .inl (upd (fil Lx k) (Int32.ofNat k).toNatClampNeg v))) = pre ++ [(q, .inl (cI, N, .inl (fil Lx (k + 1))))] := by
            rw [List.set_append_right _ _ (Nat.le_refl _), Nat.sub_self, show (Int32.ofNat k).toNatClampNeg = k from Jn_cl (by omega), fil_step hx0]
            rfl
          rw [es] at hP hD
          exact stores_W hx hb hK hN hN2 pc' xs (k + 1) _ H locs e2 (by omega) hs hP hD hS kk
        · cases hs
end STO
/-- the reference's places of words, by its letters -/
def waL : List Int32 → Nat → Nat → (Nat → Int32) → Nat → Int32
  | [], _, _, f => f
  | x :: xs, w, k, f => if x = 0 then waL xs (w + 1) (k + 1) (upd f (w + 1) (Jn (k + 1))) else waL xs w (k + 1) f
def nz0 : List Int32 → Nat
  | [] => 0
  | x :: xs => if x = 0 then nz0 xs + 1 else nz0 xs
def LTL : List Int32 := [70, 85, 78, 67, 84, 73, 79, 78, 0, 69, 78, 68, 95, 70, 85, 78, 67, 84, 73, 79, 78, 0, 70, 85, 78, 67, 84, 73, 79, 78, 95, 66, 76, 79, 67, 75, 0, 69, 78, 68, 95, 70, 85, 78, 67, 84, 73, 79, 78, 95, 66, 76, 79, 67, 75, 0, 80, 82, 79, 71, 82, 65, 77, 0, 69, 78, 68, 95, 80, 82, 79, 71, 82, 65, 77, 0, 86, 65, 82, 0, 86, 65, 82, 95, 73, 78, 80, 85, 84, 0, 86, 65, 82, 95, 79, 85, 84, 80, 85, 84, 0, 69, 78, 68, 95, 86, 65, 82, 0, 65, 84, 0, 66, 79, 79, 76, 0, 73, 78, 84, 0, 68, 73, 78, 84, 0, 65, 82, 82, 65, 89, 0, 79, 70, 0, 73, 70, 0, 84, 72, 69, 78, 0, 69, 76, 83, 73, 70, 0, 69, 76, 83, 69, 0, 69, 78, 68, 95, 73, 70, 0, 67, 65, 83, 69, 0, 69, 78, 68, 95, 67, 65, 83, 69, 0, 70, 79, 82, 0, 84, 79, 0, 66, 89, 0, 68, 79, 0, 69, 78, 68, 95, 70, 79, 82, 0, 69, 88, 73, 84, 0, 82, 69, 84, 85, 82, 78, 0, 79, 82, 0, 88, 79, 82, 0, 65, 78, 68, 0, 77, 79, 68, 0, 78, 79, 84, 0, 84, 82, 85, 69, 0, 70, 65, 76, 83, 69, 0, 76, 65, 68, 68, 69, 82, 0, 69, 78, 68, 95, 76, 65, 68, 68, 69, 82, 0, 82, 85, 78, 71, 0, 69, 78, 68, 95, 82, 85, 78, 71, 0]
def mC0 : S_MC := (fil LTL 270, waL LTL 0 0 (fun _ => 0), fil SG 44, fil PL 12)
theorem MC_of {a b c d : Nat → Int32} (k1 : ∀ w, w ≤ 41 → b w = Jn (offs WS w + w)) (k2 : ∀ w, w < 41 → ∀ k, k < (WS.getD w []).length → a (offs WS w + w + k) = (WS.getD w []).getD k 0) (k3 : ∀ w, w < 41 → a (offs WS w + w + (WS.getD w []).length) = 0) (k4 : Arr c SG) (k5 : Arr d PL) : MC (a, b, c, d) := ⟨k1, k2, k3, k4, k5⟩
theorem fil_arr (L : List Int32) : Arr (fil L L.length) L := by
  intro k hk
  unfold fil
  rw [if_pos hk]
theorem MC0 : MC mC0 := by
  have k1 : ∀ w, w ≤ 41 → waL LTL 0 0 (fun _ => 0) w = Jn (offs WS w + w) := by
    have : ∀ w : Fin 42, waL LTL 0 0 (fun _ => 0) w.1 = Jn (offs WS w.1 + w.1) := by decide +kernel
    exact fun w h => this ⟨w, by omega⟩
  have k2 : ∀ w, w < 41 → ∀ k, k < (WS.getD w []).length → fil LTL 270 (offs WS w + w + k) = (WS.getD w []).getD k 0 := by decide +kernel
  have k3 : ∀ w, w < 41 → fil LTL 270 (offs WS w + w + (WS.getD w []).length) = 0 := by decide +kernel
  exact MC_of k1 k2 k3 (fil_arr SG) (fil_arr PL)
