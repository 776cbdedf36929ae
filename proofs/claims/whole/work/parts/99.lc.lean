/-! THE CLAIM OUT OF ONE WALK OF THE LAW'S BODY. Your part is whole_start (and what it stands on); all else here is the same for every law, but numbers. -/
def R_law : String := "ControlTextLaw"
def lw_P (b : Addr) (xs : List Int32) (args : Array Value) (s : State) : Prop := args = #[.ref b] ∧ s.IntsAt b xs ∧ xs.length ≤ 3072 ∧ (Jvm.Cond.and given_1 narrow_1).before args s = true
def lw_Q (_ : Array Value) (s : State) (o : Outcome) (t : State) : Prop := o = .returned (some (.int 1)) ∧ Framed s o t [] 600000 7302249
def lw_Z (below : List Frame) (a : Array Value) (s : State) : State → Prop := fun t => ∃ o, t.status = .running ∧ Ended t below o ∧ lw_Q a s o t
/-- the law's own end, with 1 on the stack, nothing written that was there before, its room as the claim has it -/
theorem lw_ret {p : Program} {l : Launch} {e : Env} {s : State} {m : MethodId} {below : List Frame} {meth : Method} {c : Code} {b : Nat} (hx : p.tables.exec = Jvm.exec) (hb : c.code = code) (hr : meth.sig.returnType = ret) (hlocks : meth.locks = false) {pc : Nat} {H : Heap} {ls : Array Slot} (hdg : decode code pc = .ok (.ireturn, 1)) : W p l e room_1 s m #[Value.ref b] below meth c H [] 600000 7302249 (lw_Z below #[Value.ref b] s) (F0 m pc ls [.int 1]) := by
  intro T hT X
  obtain ⟨fs, hret, hrun, hended, hW, hframe⟩ := X.leave (v := some (.int 1)) (hlocks := hlocks) (fun h => by rw [hr] at h; cases h)
  have hmeth' : T.vm.method? m = some meth := X.method'
  refine ⟨T.setFrames fs, ?_, .returned (some (.int 1)), hrun, hended, rfl, ⟨_, rfl⟩, hW, hframe⟩
  jvm_step X.here [X.here.top, hx, hb, hdg, hmeth', hr, ret, narrow_b1]
  (try refine ⟨rfl, ?_⟩); (try refine ⟨rfl, ?_⟩)
  first | (intro acts; rw [hret _ acts rfl rfl rfl]) | rw [hret _ _ rfl rfl rfl]
  exact Steps.refl _
/-- what holds at the law's entry: the machine, the code, the tables' words (any of lw_tbl by 'hts w (by decide +kernel)'), the script of L ints xs at the cell b, what the Statement gives of the start (any of its parts by flat_of_before) -/
def lw_At (p : Program) (s : State) (m : MethodId) (meth : Method) (c : Code) (b L : Nat) (xs : Nat → Int32) : Prop :=
  p.tables.exec = Jvm.exec ∧ c.code = code ∧ meth.sig.returnType = ret ∧ c.maxLocals = 4 ∧ s.vm.findClass R_law = some m.cls ∧ (∀ w ∈ lw_tbl, w.before #[Value.ref b] s = true) ∧ va_X b L xs s s.heap ∧ b < s.heap.size ∧ meth.locks = false ∧ (Jvm.Cond.and given_1 narrow_1).before #[Value.ref b] s = true
section LAWL
variable {p : Program} {l : Launch} {e : Env} {s : State} {m : MethodId} {below : List Frame} {meth : Method} {c : Code} {D : va_G} {cI : ClassId} {sd ad am : Nat → Nat} {b L : Nat} {xs : Nat → Int32} {c0 : Cond}
theorem and15 (x : Int32) : ∃ k : Nat, k < 16 ∧ x &&& 15 = Jn k := by
  refine ⟨x.toBitVec.toNat % 16, by omega, ?_⟩
  apply Int32.toBitVec_inj.mp
  rw [Int32.toBitVec_and]
  unfold Jn
  rw [Int32.toBitVec_ofNat']
  apply BitVec.eq_of_toNat_eq
  rw [BitVec.toNat_and, BitVec.toNat_ofNat]
  have e : (Int32.toBitVec 15).toNat = 2 ^ 4 - 1 := by decide
  rw [e, Nat.and_two_pow_sub_one_eq_mod]
  omega
theorem sub6 {L i : Nat} (hL : L ≤ 3072) (hi : i ≤ 4000) (h : ¬ Jn L - 6 < Jn i) : i + 6 ≤ L := by
  apply Classical.byContradiction
  intro hc
  apply h
  rw [Int32.lt_iff_toInt_lt, Int32.toInt_sub, Jn_int (by omega), Jn_int (by omega), show (6 : Int32).toInt = 6 from by decide, Int.bmod_eq_of_le] <;> omega
set_option maxHeartbeats 4000000 in
set_option maxRecDepth 100000 in
theorem law_loop (hx : p.tables.exec = Jvm.exec) (hb : c.code = code) (hml : c.maxLocals = 4) (hown : s.vm.findClass RX9 = some m.cls) (hts : ∀ w ∈ c0 :: ALL, w.before #[Value.ref b] s = true) (hK : va_K D vwCl [(cI, .int)] s) (hE : Ev cI sd (fun q => s.heap.size ≤ q) s) (hr : meth.sig.returnType = ret) (hlocks : meth.locks = false) (hX : va_X b L xs s s.heap) (hbl : b < s.heap.size) (hL : L ≤ 3072) :
    ∀ (n i : Nat) (x_text : S_Bytes) (x_written : S_Bytes) (x_names : S_Names) (x_tokens : S_Tokens) (x_tree : S_Tree) (x_parser : S_Parser) (xC : S_MC) (xX : S_MX) (xL : S_ML) (xN : S_MN) (xT : S_MT) (xU : S_MU) (xO : S_MO) (xE : S_ME) (xQ : S_MQ) (xV : S_MV) (xI : S_MI) (H : Heap) (locs : List Loc) (ls : Array Slot), i ≤ L + 6 → L + 7 ≤ i + n → SIM x_text x_written x_names x_tree x_parser xC xX xL xN xT xQ xV → va_P D vwCl (wLW cI ad am x_text x_written x_names x_tokens x_tree x_parser xC xX xL xN xT xU xO xE xQ xV xI) H → va_D (fun q => s.heap.size ≤ q) (wLW cI ad am x_text x_written x_names x_tokens x_tree x_parser xC xX xL xN xT xU xO xE xQ xV xI) → va_S (fun q => s.heap.size ≤ q) s.heap H locs → lv_has ls 4 [(3, .int (Jn i)), (2, .ref (am 100)), (1, .ref (ad 0)), (0, .ref b)] → W p l e room_1 s m #[Value.ref b] below meth c H locs 49 431654 (lw_Z below #[Value.ref b] s) (F0 m 18 ls []) := by
  have hA : ∀ q : Nat, s.heap.size ≤ q → (fun q => s.heap.size ≤ q) q := fun _ h => h
  have hbA : ¬ (fun q => s.heap.size ≤ q) b := Nat.not_le.mpr hbl
  intro n
  induction n with
  | zero => intro i x_text x_written x_names x_tokens x_tree x_parser xC xX xL xN xT xU xO xE xQ xV xI H locs ls h1 h2; omega
  | succ n ih =>
    intro i x_text x_written x_names x_tokens x_tree x_parser xC xX xL xN xT xU xO xE xQ xV xI H locs ls h1 h2 hSim hP hD hS hl
    refine lv_iload_n hx hb dlaw_18 rfl (lv_at hl 0 rfl) ?_
    refine lv_aload_n hx hb dlaw_19 rfl (lv_at hl 3 rfl) ?_
    refine va_slen hx hb hX hbl hbA hS dlaw_20 ?_
    refine lv_bipush (v := 6) hx hb dlaw_21 (by decide) ?_
    refine lv_isub hx hb dlaw_23 ?_
    refine lv_icmp_gt (tgt := 381) hx hb dlaw_24 (by decide) (fun c1 => ?_) (fun c1 => ?_)
    · refine lv_iconst (v := 1) hx hb dlaw_381 (by decide) ?_
      refine va_forget (fun q hq => hS.2.2 q hq) ?_
      refine W.widen (k := 600000) (n := 7302249) (Nat.le_of_ble_eq_true rfl) (Nat.le_of_ble_eq_true rfl) ?_
      exact lw_ret hx hb hr hlocks dlaw_382
    · have hi : i + 6 ≤ L := sub6 hL (by omega) c1
      have back : ∀ (x_text : S_Bytes) (x_written : S_Bytes) (x_names : S_Names) (x_tokens : S_Tokens) (x_tree : S_Tree) (x_parser : S_Parser) (xC : S_MC) (xX : S_MX) (xL : S_ML) (xN : S_MN) (xT : S_MT) (xU : S_MU) (xO : S_MO) (xE : S_ME) (xQ : S_MQ) (xV : S_MV) (xI : S_MI) (H : Heap) (locs : List Loc), SIM x_text x_written x_names x_tree x_parser xC xX xL xN xT xQ xV → va_P D vwCl (wLW cI ad am x_text x_written x_names x_tokens x_tree x_parser xC xX xL xN xT xU xO xE xQ xV xI) H → va_D (fun q => s.heap.size ≤ q) (wLW cI ad am x_text x_written x_names x_tokens x_tree x_parser xC xX xL xN xT xU xO xE xQ xV xI) → va_S (fun q => s.heap.size ≤ q) s.heap H locs → W p l e room_1 s m #[Value.ref b] below meth c H locs 49 431654 (lw_Z below #[Value.ref b] s) (F0 m 375 ls []) := by
        intro x_text x_written x_names x_tokens x_tree x_parser xC xX xL xN xT xU xO xE xQ xV xI H locs hSim hP hD hS
        refine lv_iinc (v := Jn (i + 6)) (lv' := [(3, .int (Jn (i + 6))), (2, .ref (am 100)), (1, .ref (ad 0)), (0, .ref b)]) hx hb dlaw_375 hl (k := 0) rfl (Jn_add i 6) (by decide) rfl (fun ls hl => ?_)
        refine lv_goto (tgt := 18) hx hb dlaw_378 (by decide) ?_
        exact ih (i + 6) x_text x_written x_names x_tokens x_tree x_parser xC xX xL xN xT xU xO xE xQ xV xI H locs ls (by omega) (by omega) hSim hP hD hS hl
      refine lv_aload_n hx hb dlaw_27 rfl (lv_at hl 3 rfl) ?_
      refine lv_iload_n hx hb dlaw_28 rfl (lv_at hl 0 rfl) ?_
      refine va_sld hx hb hX hbl hbA hS (in_Jn (by omega) (by omega)) dlaw_29 ?_
      refine lv_bipush (v := 15) hx hb dlaw_30 (by decide) ?_
      refine lv_iand hx hb dlaw_32 ?_
      obtain ⟨k, hk, ek⟩ := and15 (xs (Jn i).toNatClampNeg)
      rw [ek]
      match k, hk with
      | 0, _ =>
        refine lv_tableIn (tgt := 92) hx hb dlaw_33 (by decide) (by decide) rfl (by decide) ?_
        exact lo_clear hx hb hml hown hts hK hE hA hX hbl hbA hi hL hSim hP hD hS hl back
      | 1, _ =>
        refine lv_tableIn (tgt := 105) hx hb dlaw_33 (by decide) (by decide) rfl (by decide) ?_
        exact lo_feed hx hb hml hown hts hK hE hA hX hbl hbA hi hL hSim hP hD hS hl back
      | 2, _ =>
        refine lv_tableIn (tgt := 168) hx hb dlaw_33 (by decide) (by decide) rfl (by decide) ?_
        exact lo_end hx hb hml hown hts hK hE hA hX hbl hbA hi hL hSim hP hD hS hl back
      | 3, _ =>
        refine lv_tableIn (tgt := 191) hx hb dlaw_33 (by decide) (by decide) rfl (by decide) ?_
        exact lo_change hx hb hml hown hts hK hE hA hX hbl hbA hi hL hSim hP hD hS hl back
      | 4, _ =>
        refine lv_tableIn (tgt := 224) hx hb dlaw_33 (by decide) (by decide) rfl (by decide) ?_
        exact lo_read hx hb hml hown hts hK hE hA hX hbl hbA hi hL hSim hP hD hS hl back
      | 5, _ =>
        refine lv_tableIn (tgt := 237) hx hb dlaw_33 (by decide) (by decide) rfl (by decide) ?_
        exact lo_count hx hb hml hown hts hK hE hA hX hbl hbA hi hL hSim hP hD hS hl back
      | 6, _ =>
        refine lv_tableIn (tgt := 260) hx hb dlaw_33 (by decide) (by decide) rfl (by decide) ?_
        exact lo_node hx hb hml hown hts hK hE hA hX hbl hbA hi hL hSim hP hD hS hl back
      | 7, _ =>
        refine lv_tableIn (tgt := 293) hx hb dlaw_33 (by decide) (by decide) rfl (by decide) ?_
        exact lo_nameByte hx hb hml hown hts hK hE hA hX hbl hbA hi hL hSim hP hD hS hl back
      | 8, _ =>
        refine lv_tableIn (tgt := 326) hx hb dlaw_33 (by decide) (by decide) rfl (by decide) ?_
        exact lo_write hx hb hml hown hts hK hE hA hX hbl hbA hi hL hSim hP hD hS hl back
      | 9, _ =>
        refine lv_tableIn (tgt := 339) hx hb dlaw_33 (by decide) (by decide) rfl (by decide) ?_
        exact lo_byteAt hx hb hml hown hts hK hE hA hX hbl hbA hi hL hSim hP hD hS hl back
      | 10, _ =>
        refine lv_tableIn (tgt := 362) hx hb dlaw_33 (by decide) (by decide) rfl (by decide) ?_
        exact lo_back hx hb hml hown hts hK hE hA hX hbl hbA hi hL hSim hP hD hS hl back
      | 11, _ =>
        refine lv_tableOut (tgt := 375) hx hb dlaw_33 (by decide) (by decide) ?_
        exact back x_text x_written x_names x_tokens x_tree x_parser xC xX xL xN xT xU xO xE xQ xV xI H locs hSim hP hD hS
      | 12, _ =>
        refine lv_tableOut (tgt := 375) hx hb dlaw_33 (by decide) (by decide) ?_
        exact back x_text x_written x_names x_tokens x_tree x_parser xC xX xL xN xT xU xO xE xQ xV xI H locs hSim hP hD hS
      | 13, _ =>
        refine lv_tableOut (tgt := 375) hx hb dlaw_33 (by decide) (by decide) ?_
        exact back x_text x_written x_names x_tokens x_tree x_parser xC xX xL xN xT xU xO xE xQ xV xI H locs hSim hP hD hS
      | 14, _ =>
        refine lv_tableOut (tgt := 375) hx hb dlaw_33 (by decide) (by decide) ?_
        exact back x_text x_written x_names x_tokens x_tree x_parser xC xX xL xN xT xU xO xE xQ xV xI H locs hSim hP hD hS
      | 15, _ =>
        refine lv_tableOut (tgt := 375) hx hb dlaw_33 (by decide) (by decide) ?_
        exact back x_text x_written x_names x_tokens x_tree x_parser xC xX xL xN xT xU xO xE xQ xV xI H locs hSim hP hD hS
      | k + 16, hk => exact absurd hk (by omega)
end LAWL
