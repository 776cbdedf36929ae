/-! What holds beside the world: links to private members of nest mates, and the rows of numbers in static fields. -/
def Ev (cI : ClassId) (sd : Nat → Nat) (A : Nat → Prop) (U : State) : Prop :=
  (∀ q ∈ nestF, va_Nw (.fieldLinkNest q.1 q.2.1 q.2.2.1 q.2.2.2.1 q.2.2.2.2.1 q.2.2.2.2.2) U) ∧ (∀ q ∈ nestM, va_Nw (.methodLinkNest q.1 q.2.1 q.2.2.1 q.2.2.2) U) ∧
  ∀ q ∈ statA, va_Z q.1 q.2.1 "[I" (.ref (sd q.2.2.1)) A U U.heap ∧ va_T .int (sd q.2.2.1) q.2.2.2.length (fun j => .int (q.2.2.2.getD j 0)) A U U.heap
theorem Ev.go {cI : ClassId} {sd : Nat → Nat} {A A1 : Nat → Prop} {s U : State} (hW : s.WarmedH U.vm) (hq : ∀ a : Nat, a < s.heap.size → ¬ A a → U.heap[a]? = s.heap[a]?) (hA : ∀ q, A1 q → A q) (h : Ev cI sd A s) : Ev cI sd A1 U := by
  refine ⟨fun q hq2 => va_Nw.warmF hW (h.1 q hq2), fun q hq2 => va_Nw.warmM hW (h.2.1 q hq2), fun q hq2 => ?_⟩
  obtain ⟨h1, h2⟩ := h.2.2 q hq2
  exact ⟨((h1.moved hW.alike).kept hq).narrow hA, ((h2.moved hW.alike).kept hq).narrow hA⟩
theorem Ev.same {cI : ClassId} {sd : Nat → Nat} {A : Nat → Prop} {s U : State} (hv : s.vm = U.vm) (hh : U.heap = s.heap) (h : Ev cI sd A s) : Ev cI sd A U := by
  refine ⟨fun q hq2 => va_Nw.same rfl hv (h.1 q hq2), fun q hq2 => va_Nw.same rfl hv (h.2.1 q hq2), fun q hq2 => ?_⟩
  obtain ⟨h1, h2⟩ := h.2.2 q hq2
  rw [hh]
  exact ⟨h1.moved (by rw [hv]; exact Vm.Alike.refl _), h2.moved (by rw [hv]; exact Vm.Alike.refl _)⟩
/-- a contract: from the world w0 to the world w1, the answer 'ret', nothing else changed, nothing made -/
def CP (D : va_G) (cI : ClassId) (sd : Nat → Nat) (w0 : va_W) (as : List Value) (sz : Nat) : Array Value → State → Prop := va_Pc as (fun U => U.heap.size = sz ∧ va_P D vwCl w0 U.heap ∧ va_K D vwCl [(cI, .int)] U ∧ va_D (fun _ => True) w0 ∧ Ev cI sd (va_A w0 sz) U)
def CQ (D : va_G) (A : Nat → Prop) (w1 : va_W) (ret : Option Value) : Array Value → State → Outcome → State → Prop := fun _ st oc t => (oc = .returned ret ∧ va_P D vwCl w1 t.heap ∧ va_D A w1) ∧ va_F A st t
def Ctr (l : Launch) (D : va_G) (cI : ClassId) (sd : Nat → Nat) (y : MethodName) (ws : List Cond) (rm : Room) (as : List Value) (w0 w1 : va_W) (ret : Option Value) : Prop := ∀ sz : Nat, Met l y ws rm (CP D cI sd w0 as sz) (CQ D (va_A w0 sz) w1 ret) 0 0 (va_A w0 sz)
theorem CP.blind {D : va_G} {cI : ClassId} {sd : Nat → Nat} {w0 : va_W} {as : List Value} {sz : Nat} : FrameBlind (CP D cI sd w0 as sz) := fun a U g mk q => by
  obtain ⟨q0, q1, qP, qK, qD, qE⟩ := q
  exact ⟨q0, q1, qP, va_K.moved (u := U) (U := U.calling g mk a) (Vm.Alike.refl U.vm) qK, qD, Ev.same (s := U) (U := U.calling g mk a) rfl rfl qE⟩
/-- a contract out of a walk, for methods of the JDK too -/
theorem met_of {l : Launch} {y : MethodName} {ws ws' : List Cond} {rm : Room} {Pc : Array Value → State → Prop} {Qc : Array Value → State → Outcome → State → Prop} {mc ms : Nat} {free : Addr → Prop} {cc : ByteArray} {maxL : Nat} {rt : Option FieldType}
    (hy : plainFor y = true) (hw : ws = Cond.code y cc maxL rt :: ws')
    (body : ∀ p e s m args below meth c s₁, BodyLoose p l y (headSpec ws rm) cc maxL rt e s m args below meth c s₁ → c.maxLocals = maxL → Pc args s →
      W p l e rm s m args below meth c s.heap [] 0 0 (MQ below Qc args s mc ms free) (entryFrame m args maxL)) : Met l y ws rm Pc Qc mc ms free := by
  refine MetFree.of_bodySF (code := cc) (maxLocals := maxL) (ret := rt) hy (fun args s m h hn => ?_) (fun p e s m args below meth c s₁ B hml hP _ => ?_)
  · obtain ⟨meth, c, h1, h2, h3, h4, h5, h6, -, -⟩ := Cond.code_spec hn (atoms_spec (ws := ws) h _ (by rw [hw]; exact List.mem_cons_self))
    exact ⟨meth, c, h1, h2, h3, h4, h5, h6⟩
  · obtain ⟨t, a1, o, b1, b2, b3⟩ := body p e s m args below meth c s₁ B hml hP s₁ (by rw [B.state]; rfl) (Stand.of_body B)
    exact ⟨t, o, a1, b1, b2, ⟨b3.1, b3.2⟩⟩
theorem Ctr.of {l : Launch} {D : va_G} {cI : ClassId} {sd : Nat → Nat} {y : MethodName} {ws ws' : List Cond} {rm : Room} {as : List Value} {w0 w1 : va_W} {ret : Option Value} {cc : ByteArray} {maxL : Nat} {rt : Option FieldType} {own : String}
    (hy : plainFor y = true) (hw : ws = Cond.code y cc maxL rt :: ws') (hcl : y.cls = own) (hsl : (lg_sl as).length ≤ maxL)
    (body : ∀ (p : Program) (e : Env) (s : State) (m : MethodId) (below : List Frame) (meth : Method) (c : Code) (A : Nat → Prop) (ls : Array Slot), p.tables.exec = Jvm.exec → c.code = cc → meth.sig.returnType = rt → c.maxLocals = maxL → s.vm.findClass own = some m.cls → (∀ w ∈ ws, w.before as.toArray s = true) → meth.locks = false → va_K D vwCl [(cI, .int)] s → Ev cI sd A s → (∀ q : Nat, s.heap.size ≤ q → A q) → va_P D vwCl w0 s.heap → va_D A w0 → va_S A s.heap s.heap [] → lv_has ls maxL (lv_args 0 as) →
      W p l e rm s m as.toArray below meth c s.heap [] 0 0 (MQ below (CQ D A w1 ret) as.toArray s 0 0 A) (F0 m 0 ls [])) : Ctr l D cI sd y ws rm as w0 w1 ret := by
  intro sz
  refine met_of (cc := cc) (maxL := maxL) (rt := rt) hy hw ?_
  intro p e s m args below meth c s₁ B hml hv
  obtain ⟨rfl, hsz, hP, hK, hD0, hE⟩ := hv
  subst hsz
  have hts := atoms_spec (ws := ws) B.pre
  have hown : s.vm.findClass y.cls = some m.cls := findClass_of_methodNamed B.named
  rw [lg_entry_eq]
  exact body p e s m below meth c _ _ B.exec B.bytes B.returns hml (hcl ▸ hown) hts B.notSynchronized hK hE (fun q h => Or.inr h) hP hD0.self va_S.rf (lv_entry as hsl)
section RT
variable {p : Program} {l : Launch} {e : Env} {R : Room} {s : State} {m : MethodId} {args : Array Value} {below : List Frame} {meth : Method} {c : Code} {H : Heap} {locs : List Loc} {cc : ByteArray} {D : va_G} {A : Nat → Prop} {w1 : va_W} {ret : Option Value} {pc : Nat} {ls : Array Slot}
theorem rt_v (hx : p.tables.exec = Jvm.exec) (hb : c.code = cc) (hr : meth.sig.returnType = none) (hlk : meth.locks = false) (hP : va_P D vwCl w1 H) (hD : va_D A w1) (hS : va_S A s.heap H locs) (he : ret = none) (hdg : decode cc pc = .ok (.return_, 1)) : W p l e R s m args below meth c H locs 0 0 (MQ below (CQ D A w1 ret) args s 0 0 A) (F0 m pc ls []) := by
  subst he
  exact W.vret hx hb hr (fun t ht hW => ⟨⟨rfl, by rw [ht]; exact hP, hD⟩, hS.F ht⟩) hS.2.2 hdg hlk
theorem rt_i {v : Int32} (hx : p.tables.exec = Jvm.exec) (hb : c.code = cc) (hr : meth.sig.returnType = some .int) (hlk : meth.locks = false) (hP : va_P D vwCl w1 H) (hD : va_D A w1) (hS : va_S A s.heap H locs) (he : ret = some (.int v)) (hdg : decode cc pc = .ok (.ireturn, 1)) : W p l e R s m args below meth c H locs 0 0 (MQ below (CQ D A w1 ret) args s 0 0 A) (F0 m pc ls [.int v]) := by
  subst he
  exact W.iret hx hb hr (fun t ht hW => ⟨⟨rfl, by rw [ht]; exact hP, hD⟩, hS.F ht⟩) hS.2.2 hdg hlk
theorem rt_z {v : Int32} {ty : FieldType} (hx : p.tables.exec = Jvm.exec) (hb : c.code = cc) (hr : meth.sig.returnType = some ty) (hlk : meth.locks = false) (hn : narrow ty (.int v) = .int v) (hP : va_P D vwCl w1 H) (hD : va_D A w1) (hS : va_S A s.heap H locs) (he : ret = some (.int v)) (hdg : decode cc pc = .ok (.ireturn, 1)) : W p l e R s m args below meth c H locs 0 0 (MQ below (CQ D A w1 ret) args s 0 0 A) (F0 m pc ls [.int v]) := by
  subst he
  exact W.zret hx hb hr hn (fun t ht hW => ⟨⟨rfl, by rw [ht]; exact hP, hD⟩, hS.F ht⟩) hS.2.2 hdg hlk
theorem rt_l {v : Int64} (hx : p.tables.exec = Jvm.exec) (hb : c.code = cc) (hr : meth.sig.returnType = some .long) (hlk : meth.locks = false) (hP : va_P D vwCl w1 H) (hD : va_D A w1) (hS : va_S A s.heap H locs) (he : ret = some (.long v)) (hdg : decode cc pc = .ok (.lreturn, 1)) : W p l e R s m args below meth c H locs 0 0 (MQ below (CQ D A w1 ret) args s 0 0 A) (F0 m pc ls [.long v]) := by
  subst he
  exact W.lret hx hb hr (fun t ht hW => ⟨⟨rfl, by rw [ht]; exact hP, hD⟩, hS.F ht⟩) hS.2.2 hdg hlk
end RT
theorem va_subP {D : va_G} {cl : List vw_C} {w wc : va_W} {H : Heap} (hP : va_P D cl w H) (isC : List Nat) (hi : isC.map (fun i => w[i]?) = wc.map some) : va_P D cl wc H := by
  intro k q hk
  have h1 : (isC.map (fun i => w[i]?))[k]? = some (some q) := by rw [hi, List.getElem?_map, hk]; rfl
  rw [List.getElem?_map] at h1
  cases hj : isC[k]? with
  | none => rw [hj] at h1; cases h1
  | some i =>
    rw [hj] at h1
    exact hP i q (Option.some.inj h1)
section CL
variable {p : Program} {l : Launch} {e : Env} {R : Room} {s : State} {m : MethodId} {args : Array Value} {below : List Frame} {meth : Method} {c : Code} {H : Heap} {locs : List Loc} {cells slots : Nat} {Q : State → Prop}
variable {cc : ByteArray} {pc nL : Nat} {ls : Array Slot} {D : va_G} {cI : ClassId} {sd : Nat → Nat} {A : Nat → Prop} {w wc w1 : va_W} {ret : Option Value}
variable {y : MethodName} {bytes : ByteArray} {maxL n index : Nat} {rt : Option FieldType} {ws Ts : List Cond} {rm : Room} {own C host : String} {b : Addr} {As rest st0 : List Value}
/-- behind a call that made nothing: the caller's world with the callee's cells as they are now -/
theorem cl_go (w' : va_W) (st1 : List Value) {a : Array Value} (run : va_Run p l e R s m args below meth c H locs cells slots 0 0 (F0 m pc ls st0) rest (CQ D (va_A wc H.size) w1 ret a) (va_A wc H.size))
    (hA : ∀ q : Nat, s.heap.size ≤ q → A q) (hP : va_P D vwCl w H) (hD : va_D A w) (hS : va_S A s.heap H locs) (isC : List Nat) (hi : isC.map (fun i => w[i]?) = wc.map some) (hw : va_rep w isC w1 = w') (hf1 : w1.length = wc.length) (hf2 : w'.map Prod.fst = w.map Prod.fst) (h1 : ret.toList ++ rest = st1)
    (kk : ∀ (H1 : Heap) (locs1 : List Loc), va_P D vwCl w' H1 → va_D A w' → va_S A s.heap H1 locs1 → W p l e R s m args below meth c H1 locs1 cells slots Q (F0 m (pc + 3) ls st1)) : W p l e R s m args below meth c H locs cells slots Q (F0 m pc ls st0) := by
  have hF := va_free (wc := wc) hD hS hA isC hi
  intro T hT X
  obtain ⟨v, st₀, t, T', L, h0, X', hL, e1, e2, ⟨⟨hv, hP1, hD1⟩, hz, hk⟩, st⟩ := run T hT X
  cases hv
  rw [h0] at hz hk
  rw [h1] at st
  have hk' : ∀ q : Nat, q < H.size → ¬ va_A wc H.size q → T'.heap[q]? = H[q]? := fun q h1 h2 => by rw [e1]; exact hk q h1 h2
  have hP2 : va_P D vwCl w' T'.heap := by
    rw [← hw]
    exact va_rep_P hP hD isC hi hf1 hk' (by rw [e1]; exact hP1)
  obtain ⟨t2, a1, b1⟩ := kk T'.heap (locs ++ L) hP2 (hD.fst hf2)
    ⟨Nat.le_trans hS.1 (by rw [e1]; exact hz), fun q h1 h2 => by rw [hk' q (Nat.lt_of_lt_of_le h1 hS.1) (fun z => h2 (hF q z))]; exact hS.2.1 q h1 h2, fun q hq => by
      rcases List.mem_append.mp hq with h | h
      · exact hS.2.2 q h
      · exact hF _ (hL q h)⟩ T' rfl X'
  exact ⟨t2, st t2 a1, b1⟩
theorem cl_pre (hK : va_K D vwCl [(cI, .int)] s) (hE : Ev cI sd A s) (hA : ∀ q : Nat, s.heap.size ≤ q → A q) (hP : va_P D vwCl w H) (hD : va_D A w) (hS : va_S A s.heap H locs) (isC : List Nat) (hi : isC.map (fun i => w[i]?) = wc.map some) (hnd : va_nd isC = true) (as : List Value) :
    ∀ U : State, U.heap = H → s.WarmedH U.vm → CP D cI sd wc as H.size as.toArray U := by
  have hF := va_free (wc := wc) hD hS hA isC hi
  intro U hU hW
  refine ⟨rfl, by rw [hU], by rw [hU]; exact va_subP hP isC hi, va_K.moved hW.alike hK, (hD.sub isC hnd hi).weaken (fun _ _ _ _ => trivial), Ev.go hW (fun a h1 h2 => by rw [hU]; exact hS.2.1 a h1 h2) hF hE⟩
theorem cl_V (w' : va_W) (st1 : List Value) (F : CallFix p m c cc nL s args Ts own) (hC : Ctr l D cI sd y ws rm (.ref b :: As) wc w1 ret) (cw : CallW R s args own C index y bytes maxL rt ws rm 0 0 n)
    (hK : va_K D vwCl [(cI, .int)] s) (hE : Ev cI sd A s) (hA : ∀ q : Nat, s.heap.size ≤ q → A q) (hP : va_P D vwCl w H) (hD : va_D A w) (hS : va_S A s.heap H locs) (q0 : Nat) {ci N : Nat} {T : u_T} {fs : List Value} (hc : vwCl[ci]? = some (C, T, N)) (he : w[q0]? = some (b, .inr (ci, fs)))
    (isC : List Nat) (hi : isC.map (fun i => w[i]?) = wc.map some) (hnd : va_nd isC = true) (hw : va_rep w isC w1 = w') (hf1 : w1.length = wc.length) (hf2 : w'.map Prod.fst = w.map Prod.fst) (h1 : ret.toList ++ rest = st1)
    (hst : st0 = As.reverse ++ .ref b :: rest) (hn : As.length = n) (hsz : ls.size = nL) (hro : (rest.map fun v => v.category).sum ≤ 8) (hdg : decode cc pc = .ok (.invokevirtual index, 3)) (hf : cells + 0 ≤ R.cells ∧ slots + 0 ≤ R.slots)
    (kk : ∀ (H1 : Heap) (locs1 : List Loc), va_P D vwCl w' H1 → va_D A w' → va_S A s.heap H1 locs1 → W p l e R s m args below meth c H1 locs1 cells slots Q (F0 m (pc + 3) ls st1)) : W p l e R s m args below meth c H locs cells slots Q (F0 m pc ls st0) :=
  cl_go w' st1 (va_runV F (hC H.size) cw ⟨CP.blind, va_recv hK hP hc he, cl_pre hK hE hA hP hD hS isC hi hnd _⟩ rfl hn hsz hst (lv_room hro) hdg hf) hA hP hD hS isC hi hw hf1 hf2 h1 kk
theorem cl_S (w' : va_W) (st1 : List Value) (F : CallFix p m c cc nL s args Ts own) (hC : Ctr l D cI sd y ws rm As wc w1 ret) (cw : CallB R s args own index y bytes maxL rt ws rm 0 0 n ∧ (Cond.static y).before args s = true)
    (hK : va_K D vwCl [(cI, .int)] s) (hE : Ev cI sd A s) (hA : ∀ q : Nat, s.heap.size ≤ q → A q) (hP : va_P D vwCl w H) (hD : va_D A w) (hS : va_S A s.heap H locs)
    (isC : List Nat) (hi : isC.map (fun i => w[i]?) = wc.map some) (hnd : va_nd isC = true) (hw : va_rep w isC w1 = w') (hf1 : w1.length = wc.length) (hf2 : w'.map Prod.fst = w.map Prod.fst) (h1 : ret.toList ++ rest = st1)
    (hst : st0 = As.reverse ++ rest) (hn : As.length = n) (hsz : ls.size = nL) (hro : (rest.map fun v => v.category).sum ≤ 8) (hdg : decode cc pc = .ok (.invokestatic index, 3)) (hf : cells + 0 ≤ R.cells ∧ slots + 0 ≤ R.slots)
    (kk : ∀ (H1 : Heap) (locs1 : List Loc), va_P D vwCl w' H1 → va_D A w' → va_S A s.heap H1 locs1 → W p l e R s m args below meth c H1 locs1 cells slots Q (F0 m (pc + 3) ls st1)) : W p l e R s m args below meth c H locs cells slots Q (F0 m pc ls st0) :=
  cl_go w' st1 (va_runS F (hC H.size) cw ⟨CP.blind, cl_pre hK hE hA hP hD hS isC hi hnd _⟩ rfl hn hsz hst (lv_room hro) hdg hf) hA hP hD hS isC hi hw hf1 hf2 h1 kk
theorem cl_SN (w' : va_W) (st1 : List Value) (F : CallFix p m c cc nL s args Ts own) (hC : Ctr l D cI sd y ws rm As wc w1 ret) (cw : va_CN R s args own index y host bytes maxL rt ws rm 0 0 n ∧ (Cond.static y).before args s = true ∧ True)
    (hK : va_K D vwCl [(cI, .int)] s) (hE : Ev cI sd A s) (hA : ∀ q : Nat, s.heap.size ≤ q → A q) (hP : va_P D vwCl w H) (hD : va_D A w) (hS : va_S A s.heap H locs)
    (isC : List Nat) (hi : isC.map (fun i => w[i]?) = wc.map some) (hnd : va_nd isC = true) (hw : va_rep w isC w1 = w') (hf1 : w1.length = wc.length) (hf2 : w'.map Prod.fst = w.map Prod.fst) (h1 : ret.toList ++ rest = st1)
    (hst : st0 = As.reverse ++ rest) (hn : As.length = n) (hsz : ls.size = nL) (hro : (rest.map fun v => v.category).sum ≤ 8) (hdg : decode cc pc = .ok (.invokestatic index, 3)) (hf : cells + 0 ≤ R.cells ∧ slots + 0 ≤ R.slots)
    (kk : ∀ (H1 : Heap) (locs1 : List Loc), va_P D vwCl w' H1 → va_D A w' → va_S A s.heap H1 locs1 → W p l e R s m args below meth c H1 locs1 cells slots Q (F0 m (pc + 3) ls st1)) : W p l e R s m args below meth c H locs cells slots Q (F0 m pc ls st0) :=
  cl_go w' st1 (va_runSN F (hC H.size) cw ⟨CP.blind, cl_pre hK hE hA hP hD hS isC hi hnd _⟩ rfl hn hsz hst (lv_room hro) hdg hf) hA hP hD hS isC hi hw hf1 hf2 h1 kk
end CL
/-! A constructor: it makes k cells; their addresses come with the world behind it. -/
def CQN (D : va_G) (A : Nat → Prop) (k : Nat) (w1 : List Nat → va_W) : Array Value → State → Outcome → State → Prop := fun _ st oc t => (oc = .returned none ∧ ∃ qs : List Nat, qs.length = k ∧ va_P D vwCl (w1 qs) t.heap ∧ va_D A (w1 qs)) ∧ va_F A st t
def CtrN (l : Launch) (D : va_G) (cI : ClassId) (sd : Nat → Nat) (y : MethodName) (ws : List Cond) (rm : Room) (as : List Value) (w0 : va_W) (k : Nat) (w1 : List Nat → va_W) (mc ms : Nat) : Prop := ∀ sz : Nat, Met l y ws rm (CP D cI sd w0 as sz) (CQN D (va_A w0 sz) k w1) mc ms (va_A w0 sz)
theorem CtrN.of {l : Launch} {D : va_G} {cI : ClassId} {sd : Nat → Nat} {y : MethodName} {ws ws' : List Cond} {rm : Room} {as : List Value} {w0 : va_W} {k : Nat} {w1 : List Nat → va_W} {mc ms : Nat} {cc : ByteArray} {maxL : Nat} {rt : Option FieldType} {own : String}
    (hy : plainFor y = true) (hw : ws = Cond.code y cc maxL rt :: ws') (hcl : y.cls = own) (hsl : (lg_sl as).length ≤ maxL)
    (body : ∀ (p : Program) (e : Env) (s : State) (m : MethodId) (below : List Frame) (meth : Method) (c : Code) (A : Nat → Prop) (ls : Array Slot), p.tables.exec = Jvm.exec → c.code = cc → meth.sig.returnType = rt → c.maxLocals = maxL → s.vm.findClass own = some m.cls → (∀ w ∈ ws, w.before as.toArray s = true) → meth.locks = false → va_K D vwCl [(cI, .int)] s → Ev cI sd A s → (∀ q : Nat, s.heap.size ≤ q → A q) → va_P D vwCl w0 s.heap → va_D A w0 → va_S A s.heap s.heap [] → lv_has ls maxL (lv_args 0 as) → meth.name = y.name →
      W p l e rm s m as.toArray below meth c s.heap [] 0 0 (MQ below (CQN D A k w1) as.toArray s mc ms A) (F0 m 0 ls [])) : CtrN l D cI sd y ws rm as w0 k w1 mc ms := by
  intro sz
  refine met_of (cc := cc) (maxL := maxL) (rt := rt) hy hw ?_
  intro p e s m args below meth c s₁ B hml hv
  obtain ⟨rfl, hsz, hP, hK, hD0, hE⟩ := hv
  subst hsz
  have hts := atoms_spec (ws := ws) B.pre
  have hown : s.vm.findClass y.cls = some m.cls := findClass_of_methodNamed B.named
  rw [lg_entry_eq]
  exact body p e s m below meth c _ _ B.exec B.bytes B.returns hml (hcl ▸ hown) hts B.notSynchronized hK hE (fun q h => Or.inr h) hP hD0.self va_S.rf (lv_entry as hsl) (name_of_methodNamed B.named B.method).1
section CN
variable {p : Program} {l : Launch} {e : Env} {R : Room} {s : State} {m : MethodId} {args : Array Value} {below : List Frame} {meth : Method} {c : Code} {H : Heap} {locs : List Loc} {cells slots : Nat} {Q : State → Prop}
variable {cc : ByteArray} {pc nL : Nat} {ls : Array Slot} {D : va_G} {cI : ClassId} {sd : Nat → Nat} {A : Nat → Prop} {w wc : va_W}
variable {y : MethodName} {bytes : ByteArray} {maxL n index k mc ms : Nat} {ws Ts : List Cond} {rm : Room} {own : String} {b : Addr} {As rest st0 : List Value} {w1 : List Nat → va_W}
theorem cl_N (wr : va_W) (F : CallFix p m c cc nL s args Ts own) (hC : CtrN l D cI sd y ws rm (.ref b :: As) wc k w1 mc ms) (cw : CallB R s args own index y bytes maxL none ws rm mc ms n ∧ y.name = "<init>" ∧ (Cond.instanceMethod y).before args s = true)
    (hK : va_K D vwCl [(cI, .int)] s) (hE : Ev cI sd A s) (hA : ∀ q : Nat, s.heap.size ≤ q → A q) (hP : va_P D vwCl w H) (hD : va_D A w) (hS : va_S A s.heap H locs)
    (isC isR : List Nat) (hi : isC.map (fun i => w[i]?) = wc.map some) (hnd : va_nd isC = true) (hR : isR.map (fun i => w[i]?) = wr.map some) (hnR : va_nd isR = true) (hdis : ∀ i ∈ isR, i ∉ isC)
    (hst : st0 = As.reverse ++ .ref b :: rest) (hn : As.length = n) (hsz : ls.size = nL) (hro : (rest.map fun v => v.category).sum ≤ 8) (hdg : decode cc pc = .ok (.invokespecial index, 3)) (hf : cells + mc ≤ R.cells ∧ slots + ms ≤ R.slots)
    (kk : ∀ (qs : List Nat) (H1 : Heap) (locs1 : List Loc), qs.length = k → va_P D vwCl (wr ++ w1 qs) H1 → va_D A (wr ++ w1 qs) → va_S A s.heap H1 locs1 → W p l e R s m args below meth c H1 locs1 (cells + mc) (slots + ms) Q (F0 m (pc + 3) ls rest)) : W p l e R s m args below meth c H locs cells slots Q (F0 m pc ls st0) := by
  have run : va_Run p l e R s m args below meth c H locs cells slots mc ms (F0 m pc ls st0) rest (CQN D (va_A wc H.size) k w1 (Value.ref b :: As).toArray) (va_A wc H.size) := va_runI F (hC H.size) cw ⟨CP.blind, cl_pre hK hE hA hP hD hS isC hi hnd _⟩ rfl hn hsz hst (lv_room hro) hdg hf
  have hF := va_free (wc := wc) hD hS hA isC hi
  intro T hT X
  obtain ⟨v, st₀, t, T', L, h0, X', hL, e1, e2, ⟨⟨hv, qs, hq, hP1, hD1⟩, hz, hk⟩, st⟩ := run T hT X
  cases hv
  rw [h0] at hz hk
  have hk' : ∀ q : Nat, q < H.size → ¬ va_A wc H.size q → T'.heap[q]? = H[q]? := fun q h1 h2 => by rw [e1]; exact hk q h1 h2
  obtain ⟨hP2, hD2⟩ := va_join hP hD isC isR hi hR hnR hdis hk' hF (by rw [e1]; exact hP1) hD1
  obtain ⟨t2, a1, b1⟩ := kk qs T'.heap (locs ++ L) hq hP2 hD2
    ⟨Nat.le_trans hS.1 (by rw [e1]; exact hz), fun q h1 h2 => by rw [hk' q (Nat.lt_of_lt_of_le h1 hS.1) (fun z => h2 (hF q z))]; exact hS.2.1 q h1 h2, fun q hq => by
      rcases List.mem_append.mp hq with h | h
      · exact hS.2.2 q h
      · exact hF _ (hL q h)⟩ T' rfl X'
  exact ⟨t2, st t2 a1, b1⟩
/-- a new array of numbers, its class the one that is known -/
theorem cl_newi (hx : p.tables.exec = Jvm.exec) (hb : c.code = cc) (harr : (Cond.arrayClass .int).before args s = true) (hK : va_K D vwCl [(cI, .int)] s) (hP : va_P D vwCl w H) (hD : va_D A w) (hS : va_S A s.heap H locs) (hA : ∀ q : Nat, s.heap.size ≤ q → A q)
    {nn : Int32} (N' : Nat) (hn : ¬ nn < 0) (hN : nn.toNatClampNeg = N') (hby : N' * 4 ≤ 536870912) (hc : cells + 1 ≤ R.cells) (hs : slots + N' ≤ R.slots) (hdg : decode cc pc = .ok (.newarray .int, 2))
    (kk : ∀ (q : Nat) (H1 : Heap), va_P D vwCl (w ++ [(q, .inl (cI, N', .inl (fun _ => 0)))]) H1 → va_D A (w ++ [(q, .inl (cI, N', .inl (fun _ => 0)))]) → va_S A s.heap H1 locs → W p l e R s m args below meth c H1 locs (cells + 1) (slots + N') Q (F0 m (pc + 2) ls (.ref q :: rest))) : W p l e R s m args below meth c H locs cells slots Q (F0 m pc ls (.int nn :: rest)) := by
  refine va_newa (atype := .int) (ty := .int) (a0 := (N', .inl (fun _ => 0))) hx hb harr rfl hK hP hD hS hA (fun cA => rfl) hn hN (by rw [show componentBytes .int = 4 from rfl]; exact hby) hc hs hdg (fun q cA H1 hK1 hP1 hD1 hS1 => ?_)
  have e1 : s.vm.findClass ("[" ++ FieldType.int.toString) = some cI := (hK.2 0 _ rfl).2
  have e2 : s.vm.findClass ("[" ++ FieldType.int.toString) = some cA := (hK1.2 1 _ rfl).2
  have e3 : cA = cI := Option.some.inj (e2.symm.trans e1)
  subst e3
  exact kk q H1 hP1 hD1 hS1
end CN
/-! a row of numbers in a static field -/
def stG (l : List Int32) (j : Nat) : Int32 := l.getD j 0
section ST
variable {p : Program} {l : Launch} {e : Env} {R : Room} {s : State} {m : MethodId} {args : Array Value} {below : List Frame} {meth : Method} {c : Code} {H : Heap} {locs : List Loc} {cells slots : Nat} {Q : State → Prop}
variable {cc : ByteArray} {pc : Nat} {ls : Array Slot} {D : va_G} {cI : ClassId} {A : Nat → Prop} {rest : List Value} {a n : Nat} {t : List Int32}
theorem st_ald (hx : p.tables.exec = Jvm.exec) (hb : c.code = cc) (h : va_T .int a n (fun j => .int (t.getD j 0)) A s s.heap) (hS : va_S A s.heap H locs) (hK : va_K D vwCl [(cI, .int)] s) {i : Int32} (hin : vp_in i n) (hdg : decode cc pc = .ok (.iaload, 1))
    (kk : W p l e R s m args below meth c H locs cells slots Q (F0 m (pc + 1) ls (.int (stG t i.toNatClampNeg) :: rest))) : W p l e R s m args below meth c H locs cells slots Q (F0 m pc ls (.int i :: .ref a :: rest)) :=
  va_ti hx hb h hS hin rfl hdg kk
theorem st_len (hx : p.tables.exec = Jvm.exec) (hb : c.code = cc) (h : va_T .int a n (fun j => .int (t.getD j 0)) A s s.heap) (hS : va_S A s.heap H locs) (hK : va_K D vwCl [(cI, .int)] s) {v : Int32} (hv : Int32.ofNat n = v) (hdg : decode cc pc = .ok (.arraylength, 1))
    (kk : W p l e R s m args below meth c H locs cells slots Q (F0 m (pc + 1) ls (.int v :: rest))) : W p l e R s m args below meth c H locs cells slots Q (F0 m pc ls (.ref a :: rest)) :=
  va_tlen hx hb h hS hv hdg kk
end ST
