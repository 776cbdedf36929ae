/-! Contracts that take something of the start beside the world: String constants. -/
def CtrE (l : Launch) (D : va_G) (cI : ClassId) (sd : Nat → Nat) (E : (Nat → Prop) → State → Prop) (y : MethodName) (ws : List Cond) (rm : Room) (as : List Value) (w0 w1 : va_W) (ret : Option Value) : Prop := ∀ sz : Nat, Met l y ws rm (fun v U => CP D cI sd w0 as sz v U ∧ E (va_A w0 sz) U) (CQ D (va_A w0 sz) w1 ret) 0 0 (va_A w0 sz)
theorem CtrE.of {l : Launch} {D : va_G} {cI : ClassId} {sd : Nat → Nat} {E : (Nat → Prop) → State → Prop} {y : MethodName} {ws ws' : List Cond} {rm : Room} {as : List Value} {w0 w1 : va_W} {ret : Option Value} {cc : ByteArray} {maxL : Nat} {rt : Option FieldType} {own : String}
    (hy : plainFor y = true) (hw : ws = Cond.code y cc maxL rt :: ws') (hcl : y.cls = own) (hsl : (lg_sl as).length ≤ maxL)
    (body : ∀ (p : Program) (e : Env) (s : State) (m : MethodId) (below : List Frame) (meth : Method) (c : Code) (A : Nat → Prop) (ls : Array Slot), p.tables.exec = Jvm.exec → c.code = cc → meth.sig.returnType = rt → c.maxLocals = maxL → s.vm.findClass own = some m.cls → (∀ w ∈ ws, w.before as.toArray s = true) → meth.locks = false → va_K D vwCl [(cI, .int)] s → Ev cI sd A s → E A s → (∀ q : Nat, s.heap.size ≤ q → A q) → va_P D vwCl w0 s.heap → va_D A w0 → va_S A s.heap s.heap [] → lv_has ls maxL (lv_args 0 as) →
      W p l e rm s m as.toArray below meth c s.heap [] 0 0 (MQ below (CQ D A w1 ret) as.toArray s 0 0 A) (F0 m 0 ls [])) : CtrE l D cI sd E y ws rm as w0 w1 ret := by
  intro sz
  refine met_of (cc := cc) (maxL := maxL) (rt := rt) hy hw ?_
  intro p e s m args below meth c s₁ B hml hv
  obtain ⟨⟨rfl, hsz, hP, hK, hD0, hE⟩, hE2⟩ := hv
  subst hsz
  have hts := atoms_spec (ws := ws) B.pre
  have hown : s.vm.findClass y.cls = some m.cls := findClass_of_methodNamed B.named
  rw [lg_entry_eq]
  exact body p e s m below meth c _ _ B.exec B.bytes B.returns hml (hcl ▸ hown) hts B.notSynchronized hK hE hE2 (fun q h => Or.inr h) hP hD0.self va_S.rf (lv_entry as hsl)
section CE
variable {p : Program} {l : Launch} {e : Env} {R : Room} {s : State} {m : MethodId} {args : Array Value} {below : List Frame} {meth : Method} {c : Code} {H : Heap} {locs : List Loc} {cells slots : Nat} {Q : State → Prop}
variable {cc : ByteArray} {pc nL : Nat} {ls : Array Slot} {D : va_G} {cI : ClassId} {sd : Nat → Nat} {E : (Nat → Prop) → State → Prop} {A : Nat → Prop} {w wc w1 : va_W} {ret : Option Value}
variable {y : MethodName} {bytes : ByteArray} {maxL n index : Nat} {rt : Option FieldType} {ws Ts : List Cond} {rm : Room} {own C : String} {b : Addr} {As rest st0 : List Value}
theorem ce_blind (hok : EvOk E) {sz : Nat} {as : List Value} {w0 : va_W} {B : Nat → Prop} : FrameBlind (fun v U => CP D cI sd w0 as sz v U ∧ E B U) := fun a U g mk q => ⟨CP.blind a U g mk q.1, hok.2 _ U (U.calling g mk a) rfl rfl q.2⟩
theorem ce_pre (hok : EvOk E) (hE2 : E A s) (hK : va_K D vwCl [(cI, .int)] s) (hE : Ev cI sd A s) (hA : ∀ q : Nat, s.heap.size ≤ q → A q) (hP : va_P D vwCl w H) (hD : va_D A w) (hS : va_S A s.heap H locs) (isC : List Nat) (hi : isC.map (fun i => w[i]?) = wc.map some) (hnd : va_nd isC = true) (as : List Value) :
    ∀ U : State, U.heap = H → s.WarmedH U.vm → CP D cI sd wc as H.size as.toArray U ∧ E (va_A wc H.size) U := by
  have hF := va_free (wc := wc) hD hS hA isC hi
  exact fun U hU hW => ⟨cl_pre hK hE hA hP hD hS isC hi hnd _ U hU hW, hok.1 A _ s U hW (fun a h1 h2 => by rw [hU]; exact hS.2.1 a h1 h2) hF hE2⟩
theorem cl_VE (w' : va_W) (st1 : List Value) (F : CallFix p m c cc nL s args Ts own) (hok : EvOk E) (hC : CtrE l D cI sd E y ws rm (.ref b :: As) wc w1 ret) (cw : CallW R s args own C index y bytes maxL rt ws rm 0 0 n)
    (hK : va_K D vwCl [(cI, .int)] s) (hE : Ev cI sd A s) (hE2 : E A s) (hA : ∀ q : Nat, s.heap.size ≤ q → A q) (hP : va_P D vwCl w H) (hD : va_D A w) (hS : va_S A s.heap H locs) (hr : ∃ cell : Cell, H[b]? = some cell ∧ cell.vm.isStatics = false ∧ s.vm.findClass C = some cell.cls)
    (isC : List Nat) (hi : isC.map (fun i => w[i]?) = wc.map some) (hnd : va_nd isC = true) (hw : va_rep w isC w1 = w') (hf1 : w1.length = wc.length) (hf2 : w'.map Prod.fst = w.map Prod.fst) (h1 : ret.toList ++ rest = st1)
    (hst : st0 = As.reverse ++ .ref b :: rest) (hn : As.length = n) (hsz : ls.size = nL) (hro : (rest.map fun v => v.category).sum ≤ 8) (hdg : decode cc pc = .ok (.invokevirtual index, 3)) (hf : cells + 0 ≤ R.cells ∧ slots + 0 ≤ R.slots)
    (kk : ∀ (H1 : Heap) (locs1 : List Loc), va_P D vwCl w' H1 → va_D A w' → va_S A s.heap H1 locs1 → W p l e R s m args below meth c H1 locs1 cells slots Q (F0 m (pc + 3) ls st1)) : W p l e R s m args below meth c H locs cells slots Q (F0 m pc ls st0) :=
  cl_go w' st1 (va_runV F (hC H.size) cw ⟨ce_blind hok, hr, ce_pre hok hE2 hK hE hA hP hD hS isC hi hnd _⟩ rfl hn hsz hst (lv_room hro) hdg hf) hA hP hD hS isC hi hw hf1 hf2 h1 kk
theorem cl_SE (w' : va_W) (st1 : List Value) (F : CallFix p m c cc nL s args Ts own) (hok : EvOk E) (hC : CtrE l D cI sd E y ws rm As wc w1 ret) (cw : CallB R s args own index y bytes maxL rt ws rm 0 0 n ∧ (Cond.static y).before args s = true)
    (hK : va_K D vwCl [(cI, .int)] s) (hE : Ev cI sd A s) (hE2 : E A s) (hA : ∀ q : Nat, s.heap.size ≤ q → A q) (hP : va_P D vwCl w H) (hD : va_D A w) (hS : va_S A s.heap H locs)
    (isC : List Nat) (hi : isC.map (fun i => w[i]?) = wc.map some) (hnd : va_nd isC = true) (hw : va_rep w isC w1 = w') (hf1 : w1.length = wc.length) (hf2 : w'.map Prod.fst = w.map Prod.fst) (h1 : ret.toList ++ rest = st1)
    (hst : st0 = As.reverse ++ rest) (hn : As.length = n) (hsz : ls.size = nL) (hro : (rest.map fun v => v.category).sum ≤ 8) (hdg : decode cc pc = .ok (.invokestatic index, 3)) (hf : cells + 0 ≤ R.cells ∧ slots + 0 ≤ R.slots)
    (kk : ∀ (H1 : Heap) (locs1 : List Loc), va_P D vwCl w' H1 → va_D A w' → va_S A s.heap H1 locs1 → W p l e R s m args below meth c H1 locs1 cells slots Q (F0 m (pc + 3) ls st1)) : W p l e R s m args below meth c H locs cells slots Q (F0 m pc ls st0) :=
  cl_go w' st1 (va_runS F (hC H.size) cw ⟨ce_blind hok, ce_pre hok hE2 hK hE hA hP hD hS isC hi hnd _⟩ rfl hn hsz hst (lv_room hro) hdg hf) hA hP hD hS isC hi hw hf1 hf2 h1 kk
end CE
/-- a String constant, and what its methods ask of the JDK's statics -/
def ESt (v : Value) (q qv : Nat) (bs : List Int32) (A : Nat → Prop) (U : State) : Prop :=
  va_Z "java/lang/String" "COMPACT_STRINGS" "Z" (.int 1) A U U.heap ∧ va_Z "jdk/internal/util/Preconditions" "SIOOBE_FORMATTER" "Ljava/util/function/BiFunction;" v A U U.heap ∧
  va_O "java/lang/String" q A U U.heap ∧ va_OF "java/lang/String" "coder" "B" (.int 0) q A U U.heap ∧ va_OF "java/lang/String" "value" "[B" (.ref qv) q A U U.heap ∧ va_T .byte qv bs.length (fun j => .int (bs.getD j 0)) A U U.heap
theorem ESt.ok (v : Value) (q qv : Nat) (bs : List Int32) : EvOk (ESt v q qv bs) := by
  refine ⟨fun A A1 s U hW hq hA h => ?_, fun A s U hv hh h => ?_⟩
  · obtain ⟨h1, h2, h3, h4, h5, h6⟩ := h
    exact ⟨((h1.moved hW.alike).kept hq).narrow hA, ((h2.moved hW.alike).kept hq).narrow hA, ((h3.moved hW.alike).kept hq).narrow hA, ((h4.moved hW.alike).kept hq).narrow hA, ((h5.moved hW.alike).kept hq).narrow hA, ((h6.moved hW.alike).kept hq).narrow hA⟩
  · obtain ⟨h1, h2, h3, h4, h5, h6⟩ := h
    have ha : s.vm.Alike U.vm := by rw [hv]; exact Vm.Alike.refl _
    unfold ESt
    rw [hh]
    exact ⟨h1.moved ha, h2.moved ha, h3.moved ha, h4.moved ha, h5.moved ha, h6.moved ha⟩
theorem ESt.recv {v : Value} {q qv : Nat} {bs : List Int32} {A : Nat → Prop} {s : State} {H : Heap} {locs : List Loc} (h : ESt v q qv bs A s) (hS : va_S A s.heap H locs) : ∃ cell : Cell, H[q]? = some cell ∧ cell.vm.isStatics = false ∧ s.vm.findClass "java/lang/String" = some cell.cls := by
  obtain ⟨cell, h1, h2, h3, -⟩ := h.2.2.1.kept hS.2.1
  exact ⟨cell, h1, h2, h3⟩
abbrev ySlen : MethodName := ⟨"java/lang/String", "length", "()I"⟩
abbrev yScod : MethodName := ⟨"java/lang/String", "coder", "()B"⟩
abbrev yScha : MethodName := ⟨"java/lang/String", "charAt", "(I)C"⟩
abbrev ySlat : MethodName := ⟨"java/lang/String", "isLatin1", "()Z"⟩
abbrev yLcha : MethodName := ⟨"java/lang/StringLatin1", "charAt", "([BI)C"⟩
abbrev yScix : MethodName := ⟨"java/lang/String", "checkIndex", "(II)V"⟩
abbrev yPcix : MethodName := ⟨"jdk/internal/util/Preconditions", "checkIndex", "(IILjava/util/function/BiFunction;)I"⟩
theorem mvSlen : MV ySlen prog_14_method_54_code 1 (Option.some Jvm.ClassFile.FieldType.int) 0 := ⟨q225, q226, q176, q227, by decide +kernel, by decide +kernel, by decide +kernel⟩
theorem mvScod : MV yScod prog_14_method_152_code 1 (Option.some Jvm.ClassFile.FieldType.byte) 0 := ⟨q229, q230, q176, q231, by decide +kernel, by decide +kernel, by decide +kernel⟩
theorem mvScha : MV yScha prog_14_method_56_code 2 (Option.some Jvm.ClassFile.FieldType.char) 1 := ⟨q235, q236, q176, q237, by decide +kernel, by decide +kernel, by decide +kernel⟩
theorem mvSlat : MV ySlat prog_14_method_154_code 1 (Option.some Jvm.ClassFile.FieldType.boolean) 0 := ⟨q239, q240, q176, q241, by decide +kernel, by decide +kernel, by decide +kernel⟩
theorem msLcha : MS yLcha prog_15_method_2_code 2 (Option.some Jvm.ClassFile.FieldType.char) 2 := ⟨q243, q177, q244, by decide +kernel, by decide +kernel, by decide +kernel⟩
theorem msScix : MS yScix prog_14_method_155_code 2 (Option.none : Option Jvm.ClassFile.FieldType) 2 := ⟨q246, q176, q247, by decide +kernel, by decide +kernel, by decide +kernel⟩
theorem msPcix : MS yPcix prog_18_method_11_code 3 (Option.some Jvm.ClassFile.FieldType.int) 3 := ⟨q251, q178, q252, by decide +kernel, by decide +kernel, by decide +kernel⟩
theorem dSlen_0 : decode prog_14_method_54_code 0 = .ok (.aload_n 0, 1) := by decide +kernel
theorem dSlen_1 : decode prog_14_method_54_code 1 = .ok (.getfield 9, 3) := by decide +kernel
theorem dSlen_4 : decode prog_14_method_54_code 4 = .ok (.arraylength, 1) := by decide +kernel
theorem dSlen_5 : decode prog_14_method_54_code 5 = .ok (.aload_n 0, 1) := by decide +kernel
theorem dSlen_6 : decode prog_14_method_54_code 6 = .ok (.invokevirtual 335, 3) := by decide +kernel
theorem dSlen_9 : decode prog_14_method_54_code 9 = .ok (.ishr, 1) := by decide +kernel
theorem dSlen_10 : decode prog_14_method_54_code 10 = .ok (.ireturn, 1) := by decide +kernel
theorem dScod_0 : decode prog_14_method_152_code 0 = .ok (.getstatic 38, 3) := by decide +kernel
theorem dScod_3 : decode prog_14_method_152_code 3 = .ok (.ifCond .eq 10, 3) := by decide +kernel
theorem dScod_6 : decode prog_14_method_152_code 6 = .ok (.aload_n 0, 1) := by decide +kernel
theorem dScod_7 : decode prog_14_method_152_code 7 = .ok (.getfield 15, 3) := by decide +kernel
theorem dScod_10 : decode prog_14_method_152_code 10 = .ok (.goto 4, 3) := by decide +kernel
theorem dScod_14 : decode prog_14_method_152_code 14 = .ok (.ireturn, 1) := by decide +kernel
theorem dSlat_0 : decode prog_14_method_154_code 0 = .ok (.getstatic 38, 3) := by decide +kernel
theorem dSlat_3 : decode prog_14_method_154_code 3 = .ok (.ifCond .eq 14, 3) := by decide +kernel
theorem dSlat_6 : decode prog_14_method_154_code 6 = .ok (.aload_n 0, 1) := by decide +kernel
theorem dSlat_7 : decode prog_14_method_154_code 7 = .ok (.getfield 15, 3) := by decide +kernel
theorem dSlat_10 : decode prog_14_method_154_code 10 = .ok (.ifCond .ne 7, 3) := by decide +kernel
theorem dSlat_13 : decode prog_14_method_154_code 13 = .ok (.iconst 1, 1) := by decide +kernel
theorem dSlat_14 : decode prog_14_method_154_code 14 = .ok (.goto 4, 3) := by decide +kernel
theorem dSlat_18 : decode prog_14_method_154_code 18 = .ok (.ireturn, 1) := by decide +kernel
theorem dScha_0 : decode prog_14_method_56_code 0 = .ok (.aload_n 0, 1) := by decide +kernel
theorem dScha_1 : decode prog_14_method_56_code 1 = .ok (.invokevirtual 492, 3) := by decide +kernel
theorem dScha_4 : decode prog_14_method_56_code 4 = .ok (.ifCond .eq 12, 3) := by decide +kernel
theorem dScha_7 : decode prog_14_method_56_code 7 = .ok (.aload_n 0, 1) := by decide +kernel
theorem dScha_8 : decode prog_14_method_56_code 8 = .ok (.getfield 9, 3) := by decide +kernel
theorem dScha_11 : decode prog_14_method_56_code 11 = .ok (.iload_n 1, 1) := by decide +kernel
theorem dScha_12 : decode prog_14_method_56_code 12 = .ok (.invokestatic 495, 3) := by decide +kernel
theorem dScha_15 : decode prog_14_method_56_code 15 = .ok (.ireturn, 1) := by decide +kernel
theorem dLcha_0 : decode prog_15_method_2_code 0 = .ok (.iload_n 1, 1) := by decide +kernel
theorem dLcha_1 : decode prog_15_method_2_code 1 = .ok (.aload_n 0, 1) := by decide +kernel
theorem dLcha_2 : decode prog_15_method_2_code 2 = .ok (.arraylength, 1) := by decide +kernel
theorem dLcha_3 : decode prog_15_method_2_code 3 = .ok (.invokestatic 9, 3) := by decide +kernel
theorem dLcha_6 : decode prog_15_method_2_code 6 = .ok (.aload_n 0, 1) := by decide +kernel
theorem dLcha_7 : decode prog_15_method_2_code 7 = .ok (.iload_n 1, 1) := by decide +kernel
theorem dLcha_8 : decode prog_15_method_2_code 8 = .ok (.baload, 1) := by decide +kernel
theorem dLcha_9 : decode prog_15_method_2_code 9 = .ok (.sipush 255, 3) := by decide +kernel
theorem dLcha_12 : decode prog_15_method_2_code 12 = .ok (.iand, 1) := by decide +kernel
theorem dLcha_13 : decode prog_15_method_2_code 13 = .ok (.i2c, 1) := by decide +kernel
theorem dLcha_14 : decode prog_15_method_2_code 14 = .ok (.ireturn, 1) := by decide +kernel
theorem dScix_0 : decode prog_14_method_155_code 0 = .ok (.iload_n 0, 1) := by decide +kernel
theorem dScix_1 : decode prog_14_method_155_code 1 = .ok (.iload_n 1, 1) := by decide +kernel
theorem dScix_2 : decode prog_14_method_155_code 2 = .ok (.getstatic 1053, 3) := by decide +kernel
theorem dScix_5 : decode prog_14_method_155_code 5 = .ok (.invokestatic 1059, 3) := by decide +kernel
theorem dScix_8 : decode prog_14_method_155_code 8 = .ok (.pop, 1) := by decide +kernel
theorem dScix_9 : decode prog_14_method_155_code 9 = .ok (.return_, 1) := by decide +kernel
theorem dPcix_0 : decode prog_18_method_11_code 0 = .ok (.iload_n 0, 1) := by decide +kernel
theorem dPcix_1 : decode prog_18_method_11_code 1 = .ok (.ifCond .lt 8, 3) := by decide +kernel
theorem dPcix_4 : decode prog_18_method_11_code 4 = .ok (.iload_n 0, 1) := by decide +kernel
theorem dPcix_5 : decode prog_18_method_11_code 5 = .ok (.iload_n 1, 1) := by decide +kernel
theorem dPcix_6 : decode prog_18_method_11_code 6 = .ok (.if_icmp .lt 10, 3) := by decide +kernel
theorem dPcix_16 : decode prog_18_method_11_code 16 = .ok (.iload_n 0, 1) := by decide +kernel
theorem dPcix_17 : decode prog_18_method_11_code 17 = .ok (.ireturn, 1) := by decide +kernel
set_option maxHeartbeats 4000000 in
set_option maxRecDepth 100000 in
theorem c_Pcix (l : Launch) (D : va_G) (cI : ClassId) (sd : Nat → Nat) (E : (Nat → Prop) → State → Prop) (i n : Int32) (v : Value) (hv : v = .null ∨ ∃ a, v = .ref a) (h0 : ¬ i < 0) (h1 : i < n) : CtrE l D cI sd E yPcix (wsM yPcix prog_18_method_11_code 3 (Option.some Jvm.ClassFile.FieldType.int)) { frames := 0, cells := 0, slots := 0, locals := 0 } [.int i, .int n, v] [] [] (some (.int i)) := by
  refine CtrE.of (cc := prog_18_method_11_code) (maxL := 3) (own := "jdk/internal/util/Preconditions") (by decide +kernel) rfl rfl (by rcases hv with rfl | ⟨a, rfl⟩ <;> exact Nat.le_of_ble_eq_true rfl) ?_
  intro p e s m below meth c A ls hx hb hr hml hown hts hlk hK hE hE2 hA hP hD hS hl
  have hl : lv_has ls 3 [(0, .int i), (1, .int n)] := by
    rcases hv with rfl | ⟨a, rfl⟩
    · exact lv_sub hl [0, 1] rfl
    · exact lv_sub hl [0, 1] rfl
  refine lv_iload_n hx hb dPcix_0 rfl (lv_at hl 0 rfl) ?_
  refine lv_if_lt (tgt := 9) hx hb dPcix_1 (by decide) (fun c1 => absurd c1 h0) (fun c1 => ?_)
  refine lv_iload_n hx hb dPcix_4 rfl (lv_at hl 0 rfl) ?_
  refine lv_iload_n hx hb dPcix_5 rfl (lv_at hl 1 rfl) ?_
  refine lv_icmp_lt (tgt := 16) hx hb dPcix_6 (by decide) (fun c2 => ?_) (fun c2 => absurd h1 c2)
  refine lv_iload_n hx hb dPcix_16 rfl (lv_at hl 0 rfl) ?_
  exact rt_i hx hb hr hlk hP hD hS rfl dPcix_17
set_option maxHeartbeats 4000000 in
set_option maxRecDepth 100000 in
theorem c_Scix (l : Launch) (D : va_G) (cI : ClassId) (sd : Nat → Nat) (v : Value) (q qv : Nat) (bs : List Int32) (i n : Int32) (hv : v = .null ∨ ∃ a, v = .ref a) (h0 : ¬ i < 0) (h1 : i < n) : CtrE l D cI sd (ESt v q qv bs) yScix (wsM yScix prog_14_method_155_code 2 (Option.none : Option Jvm.ClassFile.FieldType)) { frames := 1, cells := 0, slots := 0, locals := 22 } [.int i, .int n] [] [] none := by
  refine CtrE.of (cc := prog_14_method_155_code) (maxL := 2) (own := "java/lang/String") (by decide +kernel) rfl rfl (Nat.le_of_ble_eq_true rfl) ?_
  intro p e s m below meth c A ls hx hb hr hml hown hts hlk hK hE hE2 hA hP hD hS hl
  have hl : lv_has ls 2 [(0, .int i), (1, .int n)] := hl
  refine lv_iload_n hx hb dScix_0 rfl (lv_at hl 0 rfl) ?_
  refine lv_iload_n hx hb dScix_1 rfl (lv_at hl 1 rfl) ?_
  refine va_gets hx hb hE2.2.1 hS hown (hts _ (inA q248)) (fun _ h => h) dScix_2 ?_
  refine cl_SE (As := [.int i, .int n, v]) (rest := []) [] [.int i] ⟨hx, hb, hml, hown, hts⟩ (ESt.ok v q qv bs) (c_Pcix l D cI sd (ESt v q qv bs) i n v hv h0 h1) (cwS2 hts q250 msPcix rfl rfl ⟨(Nat.le_of_ble_eq_true rfl), (Nat.le_of_ble_eq_true rfl)⟩) hK hE hE2 hA hP hD hS [] rfl rfl rfl rfl rfl rfl rfl rfl hl.1 (Nat.le_of_ble_eq_true rfl) dScix_5 ⟨Nat.zero_le _, Nat.zero_le _⟩ (fun H locs hP hD hS => ?_)
  refine lv_pop hx hb dScix_8 rfl ?_
  exact rt_v hx hb hr hlk hP hD hS rfl dScix_9
theorem asc_ch {x : Int32} (h : ∃ k : Nat, k < 128 ∧ x = Int32.ofNat k) : (((x &&& 255).toUInt32 % 65536).toInt32) = x ∧ narrow .char (.int x) = .int x := by
  obtain ⟨k, hk, rfl⟩ := h
  have key : ∀ j : Fin 128, (((Int32.ofNat j.1 &&& 255).toUInt32 % 65536).toInt32) = Int32.ofNat j.1 ∧ narrow .char (.int (Int32.ofNat j.1)) = .int (Int32.ofNat j.1) := by decide +kernel
  exact key ⟨k, hk⟩
set_option maxHeartbeats 4000000 in
set_option maxRecDepth 100000 in
theorem c_Lcha (l : Launch) (D : va_G) (cI : ClassId) (sd : Nat → Nat) (v : Value) (q qv : Nat) (bs : List Int32) (i x : Int32) (hv : v = .null ∨ ∃ a, v = .ref a) (h0 : ¬ i < 0) (h1 : i < Int32.ofNat bs.length) (hin : vp_in i bs.length) (hx0 : bs.getD i.toNatClampNeg 0 = x) (ha : ∃ k : Nat, k < 128 ∧ x = Int32.ofNat k) : CtrE l D cI sd (ESt v q qv bs) yLcha (wsM yLcha prog_15_method_2_code 2 (Option.some Jvm.ClassFile.FieldType.char)) { frames := 2, cells := 0, slots := 0, locals := 43 } [.ref qv, .int i] [] [] (some (.int x)) := by
  refine CtrE.of (cc := prog_15_method_2_code) (maxL := 2) (own := "java/lang/StringLatin1") (by decide +kernel) rfl rfl (Nat.le_of_ble_eq_true rfl) ?_
  intro p e s m below meth c A ls hx hb hr hml hown hts hlk hK hE hE2 hA hP hD hS hl
  have hl : lv_has ls 2 [(0, .ref qv), (1, .int i)] := hl
  refine lv_iload_n hx hb dLcha_0 rfl (lv_at hl 1 rfl) ?_
  refine lv_aload_n hx hb dLcha_1 rfl (lv_at hl 0 rfl) ?_
  refine va_tlen hx hb hE2.2.2.2.2.2 hS rfl dLcha_2 ?_
  refine cl_SE (As := [.int i, .int (Int32.ofNat bs.length)]) (rest := []) [] [] ⟨hx, hb, hml, hown, hts⟩ (ESt.ok v q qv bs) (c_Scix l D cI sd v q qv bs i (Int32.ofNat bs.length) hv h0 h1) (cwS2 hts q245 msScix rfl rfl ⟨(Nat.le_of_ble_eq_true rfl), (Nat.le_of_ble_eq_true rfl)⟩) hK hE hE2 hA hP hD hS [] rfl rfl rfl rfl rfl rfl rfl rfl hl.1 (Nat.le_of_ble_eq_true rfl) dLcha_3 ⟨Nat.zero_le _, Nat.zero_le _⟩ (fun H locs hP hD hS => ?_)
  refine lv_aload_n hx hb dLcha_6 rfl (lv_at hl 0 rfl) ?_
  refine lv_iload_n hx hb dLcha_7 rfl (lv_at hl 1 rfl) ?_
  refine va_tb (v := .int x) hx hb hE2.2.2.2.2.2 hS hin (by show Value.int _ = _; rw [hx0]) dLcha_8 ?_
  refine lv_sipush (v := 255) hx hb dLcha_9 (by decide) ?_
  refine lv_iand hx hb dLcha_12 ?_
  refine lv_i2c (v := x) hx hb dLcha_13 (asc_ch ha).1 ?_
  exact rt_z hx hb hr hlk (asc_ch ha).2 hP hD hS rfl dLcha_14
set_option maxHeartbeats 4000000 in
set_option maxRecDepth 100000 in
theorem c_Slat (l : Launch) (D : va_G) (cI : ClassId) (sd : Nat → Nat) (v : Value) (q qv : Nat) (bs : List Int32) : CtrE l D cI sd (ESt v q qv bs) ySlat (wsM ySlat prog_14_method_154_code 1 (Option.some Jvm.ClassFile.FieldType.boolean)) { frames := 0, cells := 0, slots := 0, locals := 0 } [.ref q] [] [] (some (.int 1)) := by
  refine CtrE.of (cc := prog_14_method_154_code) (maxL := 1) (own := "java/lang/String") (by decide +kernel) rfl rfl (Nat.le_of_ble_eq_true rfl) ?_
  intro p e s m below meth c A ls hx hb hr hml hown hts hlk hK hE hE2 hA hP hD hS hl
  have hl : lv_has ls 1 [(0, .ref q)] := hl
  refine va_gets hx hb hE2.1 hS hown (hts _ (inA q232)) (fun _ h => h) dSlat_0 ?_
  refine lv_if_eq (tgt := 17) hx hb dSlat_3 (by decide) (fun c1 => absurd c1 (by decide)) (fun c1 => ?_)
  refine lv_aload_n hx hb dSlat_6 rfl (lv_at hl 0 rfl) ?_
  refine vk_getf hx hb hE2.2.2.2.1 hS hown (hts _ (inA q1621)) (fun _ h => h) dSlat_7 ?_
  refine lv_if_ne (tgt := 17) hx hb dSlat_10 (by decide) (fun c2 => absurd rfl c2) (fun c2 => ?_)
  refine lv_iconst (v := 1) hx hb dSlat_13 (by decide) ?_
  refine lv_goto (tgt := 18) hx hb dSlat_14 (by decide) ?_
  exact rt_z hx hb hr hlk (by decide) hP hD hS rfl dSlat_18
set_option maxHeartbeats 4000000 in
set_option maxRecDepth 100000 in
theorem c_Scod (l : Launch) (D : va_G) (cI : ClassId) (sd : Nat → Nat) (v : Value) (q qv : Nat) (bs : List Int32) : CtrE l D cI sd (ESt v q qv bs) yScod (wsM yScod prog_14_method_152_code 1 (Option.some Jvm.ClassFile.FieldType.byte)) { frames := 0, cells := 0, slots := 0, locals := 0 } [.ref q] [] [] (some (.int 0)) := by
  refine CtrE.of (cc := prog_14_method_152_code) (maxL := 1) (own := "java/lang/String") (by decide +kernel) rfl rfl (Nat.le_of_ble_eq_true rfl) ?_
  intro p e s m below meth c A ls hx hb hr hml hown hts hlk hK hE hE2 hA hP hD hS hl
  have hl : lv_has ls 1 [(0, .ref q)] := hl
  refine va_gets hx hb hE2.1 hS hown (hts _ (inA q232)) (fun _ h => h) dScod_0 ?_
  refine lv_if_eq (tgt := 13) hx hb dScod_3 (by decide) (fun c1 => absurd c1 (by decide)) (fun c1 => ?_)
  refine lv_aload_n hx hb dScod_6 rfl (lv_at hl 0 rfl) ?_
  refine vk_getf hx hb hE2.2.2.2.1 hS hown (hts _ (inA q1621)) (fun _ h => h) dScod_7 ?_
  refine lv_goto (tgt := 14) hx hb dScod_10 (by decide) ?_
  exact rt_z hx hb hr hlk (by decide) hP hD hS rfl dScod_14
set_option maxHeartbeats 4000000 in
set_option maxRecDepth 100000 in
theorem c_Slen (l : Launch) (D : va_G) (cI : ClassId) (sd : Nat → Nat) (v : Value) (q qv : Nat) (bs : List Int32) : CtrE l D cI sd (ESt v q qv bs) ySlen (wsM ySlen prog_14_method_54_code 1 (Option.some Jvm.ClassFile.FieldType.int)) { frames := 1, cells := 0, slots := 0, locals := 20 } [.ref q] [] [] (some (.int (Int32.ofNat bs.length))) := by
  refine CtrE.of (cc := prog_14_method_54_code) (maxL := 1) (own := "java/lang/String") (by decide +kernel) rfl rfl (Nat.le_of_ble_eq_true rfl) ?_
  intro p e s m below meth c A ls hx hb hr hml hown hts hlk hK hE hE2 hA hP hD hS hl
  have hl : lv_has ls 1 [(0, .ref q)] := hl
  refine lv_aload_n hx hb dSlen_0 rfl (lv_at hl 0 rfl) ?_
  refine vk_getf hx hb hE2.2.2.2.2.1 hS hown (hts _ (inA q1620)) (fun _ h => h) dSlen_1 ?_
  refine va_tlen hx hb hE2.2.2.2.2.2 hS rfl dSlen_4 ?_
  refine lv_aload_n hx hb dSlen_5 rfl (lv_at hl 0 rfl) ?_
  refine cl_VE (As := []) (rest := [.int (Int32.ofNat bs.length)]) [] [.int 0, .int (Int32.ofNat bs.length)] ⟨hx, hb, hml, hown, hts⟩ (ESt.ok v q qv bs) (c_Scod l D cI sd v q qv bs) (cwV2 hts q228 mvScod rfl rfl ⟨(Nat.le_of_ble_eq_true rfl), (Nat.le_of_ble_eq_true rfl)⟩) hK hE hE2 hA hP hD hS (hE2.recv hS) [] rfl rfl rfl rfl rfl rfl rfl rfl hl.1 (Nat.le_of_ble_eq_true rfl) dSlen_6 ⟨Nat.zero_le _, Nat.zero_le _⟩ (fun H locs hP hD hS => ?_)
  refine lv_ishr hx hb dSlen_9 ?_
  exact rt_i hx hb hr hlk hP hD hS (by rw [show (0 : Int32) &&& 31 = 0 from by decide, Int32.shiftRight_zero]) dSlen_10
set_option maxHeartbeats 4000000 in
set_option maxRecDepth 100000 in
theorem c_Scha (l : Launch) (D : va_G) (cI : ClassId) (sd : Nat → Nat) (v : Value) (q qv : Nat) (bs : List Int32) (i x : Int32) (hv : v = .null ∨ ∃ a, v = .ref a) (h0 : ¬ i < 0) (h1 : i < Int32.ofNat bs.length) (hin : vp_in i bs.length) (hx0 : bs.getD i.toNatClampNeg 0 = x) (ha : ∃ k : Nat, k < 128 ∧ x = Int32.ofNat k) : CtrE l D cI sd (ESt v q qv bs) yScha (wsM yScha prog_14_method_56_code 2 (Option.some Jvm.ClassFile.FieldType.char)) { frames := 3, cells := 0, slots := 0, locals := 64 } [.ref q, .int i] [] [] (some (.int x)) := by
  refine CtrE.of (cc := prog_14_method_56_code) (maxL := 2) (own := "java/lang/String") (by decide +kernel) rfl rfl (Nat.le_of_ble_eq_true rfl) ?_
  intro p e s m below meth c A ls hx hb hr hml hown hts hlk hK hE hE2 hA hP hD hS hl
  have hl : lv_has ls 2 [(0, .ref q), (1, .int i)] := hl
  refine lv_aload_n hx hb dScha_0 rfl (lv_at hl 0 rfl) ?_
  refine cl_VE (As := []) (rest := []) [] [.int 1] ⟨hx, hb, hml, hown, hts⟩ (ESt.ok v q qv bs) (c_Slat l D cI sd v q qv bs) (cwV2 hts q238 mvSlat rfl rfl ⟨(Nat.le_of_ble_eq_true rfl), (Nat.le_of_ble_eq_true rfl)⟩) hK hE hE2 hA hP hD hS (hE2.recv hS) [] rfl rfl rfl rfl rfl rfl rfl rfl hl.1 (Nat.le_of_ble_eq_true rfl) dScha_1 ⟨Nat.zero_le _, Nat.zero_le _⟩ (fun H locs hP hD hS => ?_)
  refine lv_if_eq (tgt := 16) hx hb dScha_4 (by decide) (fun c1 => absurd c1 (by decide)) (fun c1 => ?_)
  refine lv_aload_n hx hb dScha_7 rfl (lv_at hl 0 rfl) ?_
  refine vk_getf hx hb hE2.2.2.2.2.1 hS hown (hts _ (inA q1620)) (fun _ h => h) dScha_8 ?_
  refine lv_iload_n hx hb dScha_11 rfl (lv_at hl 1 rfl) ?_
  refine cl_SE (As := [.ref qv, .int i]) (rest := []) [] [.int x] ⟨hx, hb, hml, hown, hts⟩ (ESt.ok v q qv bs) (c_Lcha l D cI sd v q qv bs i x hv h0 h1 hin hx0 ha) (cwS2 hts q242 msLcha rfl rfl ⟨(Nat.le_of_ble_eq_true rfl), (Nat.le_of_ble_eq_true rfl)⟩) hK hE hE2 hA hP hD hS [] rfl rfl rfl rfl rfl rfl rfl rfl hl.1 (Nat.le_of_ble_eq_true rfl) dScha_12 ⟨Nat.zero_le _, Nat.zero_le _⟩ (fun H locs hP hD hS => ?_)
  exact rt_z hx hb hr hlk (asc_ch ha).2 hP hD hS rfl dScha_15
