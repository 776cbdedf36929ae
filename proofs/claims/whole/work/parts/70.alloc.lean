/-! Constructors: the addresses of what is made come as a function. -/
def CQM (D : va_G) (A : Nat → Prop) (pr : (Nat → Nat) → Prop) (w1 : (Nat → Nat) → va_W) : Array Value → State → Outcome → State → Prop := fun _ st oc t => (oc = .returned none ∧ ∃ qa : Nat → Nat, pr qa ∧ va_P D vwCl (w1 qa) t.heap ∧ va_D A (w1 qa)) ∧ va_F A st t
def CtrM (l : Launch) (D : va_G) (cI : ClassId) (sd : Nat → Nat) (E : (Nat → Prop) → State → Prop) (y : MethodName) (ws : List Cond) (rm : Room) (as : List Value) (w0 : va_W) (pr : (Nat → Nat) → Prop) (w1 : (Nat → Nat) → va_W) (mc ms : Nat) : Prop := ∀ sz : Nat, Met l y ws rm (fun v U => CP D cI sd w0 as sz v U ∧ E (va_A w0 sz) U) (CQM D (va_A w0 sz) pr w1) mc ms (va_A w0 sz)
/-- what else is taken of a start: it stays where the tables are warmed, where nothing of it is written, and in a narrower region -/
def EvOk (E : (Nat → Prop) → State → Prop) : Prop := (∀ (A A1 : Nat → Prop) (s U : State), s.WarmedH U.vm → (∀ a : Nat, a < s.heap.size → ¬ A a → U.heap[a]? = s.heap[a]?) → (∀ q, A1 q → A q) → E A s → E A1 U) ∧ ∀ (A : Nat → Prop) (s U : State), s.vm = U.vm → U.heap = s.heap → E A s → E A U
theorem EvOk.none : EvOk (fun _ _ => True) := ⟨fun _ _ _ _ _ _ _ _ => trivial, fun _ _ _ _ _ _ => trivial⟩
theorem CtrM.of {l : Launch} {D : va_G} {cI : ClassId} {sd : Nat → Nat} {E : (Nat → Prop) → State → Prop} {y : MethodName} {ws ws' : List Cond} {rm : Room} {as : List Value} {w0 : va_W} {pr : (Nat → Nat) → Prop} {w1 : (Nat → Nat) → va_W} {mc ms : Nat} {cc : ByteArray} {maxL : Nat} {rt : Option FieldType} {own : String}
    (hy : plainFor y = true) (hw : ws = Cond.code y cc maxL rt :: ws') (hcl : y.cls = own) (hsl : (lg_sl as).length ≤ maxL)
    (body : ∀ (p : Program) (e : Env) (s : State) (m : MethodId) (below : List Frame) (meth : Method) (c : Code) (A : Nat → Prop) (ls : Array Slot), p.tables.exec = Jvm.exec → c.code = cc → meth.sig.returnType = rt → c.maxLocals = maxL → s.vm.findClass own = some m.cls → (∀ w ∈ ws, w.before as.toArray s = true) → meth.locks = false → va_K D vwCl [(cI, .int)] s → Ev cI sd A s → E A s → (∀ q : Nat, s.heap.size ≤ q → A q) → va_P D vwCl w0 s.heap → va_D A w0 → va_S A s.heap s.heap [] → lv_has ls maxL (lv_args 0 as) → meth.name = y.name →
      W p l e rm s m as.toArray below meth c s.heap [] 0 0 (MQ below (CQM D A pr w1) as.toArray s mc ms A) (F0 m 0 ls [])) : CtrM l D cI sd E y ws rm as w0 pr w1 mc ms := by
  intro sz
  refine met_of (cc := cc) (maxL := maxL) (rt := rt) hy hw ?_
  intro p e s m args below meth c s₁ B hml hv
  obtain ⟨⟨rfl, hsz, hP, hK, hD0, hE⟩, hE2⟩ := hv
  subst hsz
  have hts := atoms_spec (ws := ws) B.pre
  have hown : s.vm.findClass y.cls = some m.cls := findClass_of_methodNamed B.named
  rw [lg_entry_eq]
  exact body p e s m below meth c _ _ B.exec B.bytes B.returns hml (hcl ▸ hown) hts B.notSynchronized hK hE hE2 (fun q h => Or.inr h) hP hD0.self va_S.rf (lv_entry as hsl) (name_of_methodNamed B.named B.method).1
section CM
variable {p : Program} {l : Launch} {e : Env} {R : Room} {s : State} {m : MethodId} {args : Array Value} {below : List Frame} {meth : Method} {c : Code} {H : Heap} {locs : List Loc} {cells slots : Nat} {Q : State → Prop}
variable {cc : ByteArray} {pc nL : Nat} {ls : Array Slot} {D : va_G} {cI : ClassId} {sd : Nat → Nat} {E : (Nat → Prop) → State → Prop} {A : Nat → Prop} {w wc : va_W}
variable {y : MethodName} {bytes : ByteArray} {maxL n index mc ms : Nat} {ws Ts : List Cond} {rm : Room} {own : String} {b : Addr} {As rest st0 : List Value} {pr : (Nat → Nat) → Prop} {w1 : (Nat → Nat) → va_W}
theorem rt_m (hx : p.tables.exec = Jvm.exec) (hb : c.code = cc) (hr : meth.sig.returnType = none) (hlk : meth.locks = false) (qa : Nat → Nat) (hpr : pr qa) (hP : va_P D vwCl (w1 qa) H) (hD : va_D A (w1 qa)) (hS : va_S A s.heap H locs) (hdg : decode cc pc = .ok (.return_, 1)) : W p l e R s m args below meth c H locs mc ms (MQ below (CQM D A pr w1) args s mc ms A) (F0 m pc ls []) :=
  W.vret hx hb hr (fun t ht hW => ⟨⟨rfl, qa, hpr, by rw [ht]; exact hP, hD⟩, hS.F ht⟩) hS.2.2 hdg hlk
theorem cl_M (wr : va_W) (F : CallFix p m c cc nL s args Ts own) (hok : EvOk E) (hC : CtrM l D cI sd E y ws rm (.ref b :: As) wc pr w1 mc ms) (cw : CallB R s args own index y bytes maxL none ws rm mc ms n ∧ y.name = "<init>" ∧ (Cond.instanceMethod y).before args s = true)
    (hK : va_K D vwCl [(cI, .int)] s) (hE : Ev cI sd A s) (hE2 : E A s) (hA : ∀ q : Nat, s.heap.size ≤ q → A q) (hP : va_P D vwCl w H) (hD : va_D A w) (hS : va_S A s.heap H locs)
    (isC isR : List Nat) (hi : isC.map (fun i => w[i]?) = wc.map some) (hnd : va_nd isC = true) (hR : isR.map (fun i => w[i]?) = wr.map some) (hnR : va_nd isR = true) (hdis : ∀ i ∈ isR, i ∉ isC)
    (hst : st0 = As.reverse ++ .ref b :: rest) (hn : As.length = n) (hsz : ls.size = nL) (hro : (rest.map fun v => v.category).sum ≤ 8) (hdg : decode cc pc = .ok (.invokespecial index, 3)) (hf : cells + mc ≤ R.cells ∧ slots + ms ≤ R.slots)
    (kk : ∀ (qa : Nat → Nat) (H1 : Heap) (locs1 : List Loc), pr qa → va_P D vwCl (wr ++ w1 qa) H1 → va_D A (wr ++ w1 qa) → va_S A s.heap H1 locs1 → W p l e R s m args below meth c H1 locs1 (cells + mc) (slots + ms) Q (F0 m (pc + 3) ls rest)) : W p l e R s m args below meth c H locs cells slots Q (F0 m pc ls st0) := by
  have hF := va_free (wc := wc) hD hS hA isC hi
  have hpre : PreS s H (fun v U => CP D cI sd wc (.ref b :: As) H.size v U ∧ E (va_A wc H.size) U) (.ref b :: As) :=
    ⟨fun a U g mk q => ⟨CP.blind a U g mk q.1, hok.2 _ U (U.calling g mk a) rfl rfl q.2⟩, fun U hU hW => ⟨cl_pre hK hE hA hP hD hS isC hi hnd _ U hU hW, hok.1 A _ s U hW (fun a h1 h2 => by rw [hU]; exact hS.2.1 a h1 h2) hF hE2⟩⟩
  have run : va_Run p l e R s m args below meth c H locs cells slots mc ms (F0 m pc ls st0) rest (CQM D (va_A wc H.size) pr w1 (Value.ref b :: As).toArray) (va_A wc H.size) := va_runI F (hC H.size) cw hpre rfl hn hsz hst (lv_room hro) hdg hf
  intro T hT X
  obtain ⟨v, st₀, t, T', L, h0, X', hL, e1, e2, ⟨⟨hv, qa, hq, hP1, hD1⟩, hz, hk⟩, st⟩ := run T hT X
  cases hv
  rw [h0] at hz hk
  have hk' : ∀ q : Nat, q < H.size → ¬ va_A wc H.size q → T'.heap[q]? = H[q]? := fun q h1 h2 => by rw [e1]; exact hk q h1 h2
  obtain ⟨hP2, hD2⟩ := va_join hP hD isC isR hi hR hnR hdis hk' hF (by rw [e1]; exact hP1) hD1
  obtain ⟨t2, a1, b1⟩ := kk qa T'.heap (locs ++ L) hq hP2 hD2
    ⟨Nat.le_trans hS.1 (by rw [e1]; exact hz), fun q h1 h2 => by rw [hk' q (Nat.lt_of_lt_of_le h1 hS.1) (fun z => h2 (hF q z))]; exact hS.2.1 q h1 h2, fun q hq => by
      rcases List.mem_append.mp hq with h | h
      · exact hS.2.2 q h
      · exact hF _ (hL q h)⟩ T' rfl X'
  exact ⟨t2, st t2 a1, b1⟩
end CM
