section
/-! A call; all operands; all expressions. -/
section
variable {C : S_MC} {mX : S_MX} {m : Nat} {ar : Int32} {kd pl vl : Nat → Int32} {Ls : Nat → S_ML × S_MN}
/-- the end of a call -/
theorem call_end (h : LX C mX m kd pl vl Ls) {i0 i sg0 sg op inn : Nat} {ds : List Int32} {l : List E4} {idx : Nat} {T0 : S_MT} {N0 : Nat} {ch0 : Nat → List Nat} {os : List Nat} {us : List (Int32 × Int32)} {w wp : Int32} {ws1 : List (Int32 × Int32)} {bs : List Nat} {P V : Int32} {p : S_Parser} {t : S_Tree} {T : S_MT} {U : S_MU} {o3 : Int32 × Int32 × Int32} {E : S_ME} {ch : Nat → List Nat} {es Ds : List Nat} {S : List E4}
    (hs : SP m kd pl vl p i sg (op + 1)) (hsg : sg0 ≤ sg) (hus : us.length ≤ op) (hop : op + 1 + sg ≤ 60) (hCT : CT t (bump l idx 1 ++ (34, P, V, es.length) :: S)) (hU : Stk 4000 U.1 U.2 (143 :: ds)) (hG : GT T (N0 + 1 + S.length) ch) (hE : EStk E os (us ++ (w, wp) :: ws1) (N0 :: bs)) (hb : BEG N0 T (N0 + 1 + S.length) ch N0 34 P V es Ds S) (hF : FRX N0 N0 T0 ch0 (N0 + 1 + S.length) T ch) (hw : ¬ (20 : Int32) ≤ w) (hu : ∀ u, u ∈ us → (20 : Int32) ≤ u.1) (hN : N0 + us.length ≤ l.length + 1) (hos : os.length < 400) (hi0 : i0 + 1 + S.length ≤ i) :
    ∃ r, ((f_Parser_takeClosing p (Jn m, ar, kd, pl, vl) 41).bind fun r7 => some (r7, t)) = some r ∧ OK C mX m kd pl vl ((Ls i).1, (Ls i).2, T, U, (Jn (op + 1 + sg), Jn sg, Jn inn, o3), E) i (-29) 6 r.1 (WO m kd pl vl Ls i0 sg0 op inn ds l idx T0 N0 ch0 os us w wp ws1 bs r) := by
  obtain ⟨hi', h5', _⟩ := id hs
  have hgl := hCT.2.1
  simp only [List.length_append, List.length_cons, bump_len] at hgl
  obtain ⟨T3, E3, ch3, e', D', m1, m2, m3, m4, m5⟩ := finish_ok (O := (Jn (op + sg), Jn sg, Jn inn, o3)) (a := op + sg) hw hG (by omega) hos hE hu hb.fin (by omega) rfl (by omega)
  obtain ⟨p3, r, x1, x2, x3⟩ := passX (ar := ar) h hs.close (show ((41 : Int32), (56 : Int32)) ∈ KMT by decide) (by decide)
  unfold f_Parser_takeClosing
  rw [x1, ob_some, ob_some]
  refine ⟨_, rfl, ?_⟩
  refine x3 _ T3 (Jn ds.length, U.2) (Jn (op + sg - us.length), Jn sg, Jn inn, o3) E3 1 (-29) 6 _ (RUN.one (tokZ h hi' h5') hU (act_143 (r23 := (r.1, r.2, T3, (Jn (op + sg - us.length), Jn sg, Jn inn, o3), E3)) ?_)) (by omega) (by omega) ?_
  · unfold f_Model_resultEnd
    dsimp only
    rw [show Jn (op + 1 + sg) - 1 = Jn (op + sg) from by rw [subL 1 (by omega)]; congr 1; omega, m1, ob_some, x2]; rfl
  · intro hs'
    have eN : N0 + 1 + S.length + us.length = N0 + ((34, P, V, es.length) :: S).length + us.length := by rw [List.length_cons]; omega
    refine ⟨sg, T3, _, o3, E3, ch3, e', D', (34, P, V, es.length) :: S, hs', hsg, by omega, hCT, rfl, hU.pop.2.2, ?_, m2, ?_, ?_, List.cons_ne_nil _ _, by rw [List.length_cons]; omega⟩
    · rw [← eN]; exact m3
    · rw [← eN]; exact m4
    · rw [← eN]; exact hF.trans m5 (Nat.le_refl _)
theorem nm_call (h : LX C mX m kd pl vl Ls) {fe : S_Parser → S_Tokens → S_Tree → Int32 → Int32 → Option (S_Parser × S_Tree)} {K : Nat} (hK60 : K ≤ 60) (hfe : ∀ K', K = K' + 1 → X0S C mX m ar kd pl vl Ls fe K') (hde : ∀ {p i td}, PD p i td → ∀ t a, ∃ r, fe p (Jn m, ar, kd, pl, vl) t a (Jn 0) = some r ∧ PD r.1 i td)
    (hno : ∀ {p i sg op}, SP m kd pl vl p i sg op → ¬ isOpK (kd i) → ∀ t a, ∃ r, fe p (Jn m, ar, kd, pl, vl) t a (Jn 0) = some r ∧ PD r.1 i 0)
    {i0 i sg op inn : Nat} {ds : List Int32} {l : List E4} {idx : Nat} {T : S_MT} {N : Nat} {ch : Nat → List Nat} {E : S_ME} {os : List Nat} {us : List (Int32 × Int32)} {w wp : Int32} {ws1 : List (Int32 × Int32)} {bs : List Nat} {U : S_MU} {nP nN mP : Int32} {p : S_Parser} {t : S_Tree}
    (hi0 : i0 + 1 ≤ i) (hs : SP m kd pl vl p i sg op) (hus : us.length ≤ op) (hop : op + sg ≤ 60) (hK : 60 - (op + sg) ≤ K) (hCT : CT t l) (hidx : idx < l.length) (hU : Stk 4000 U.1 U.2 (139 :: ds)) (hG : GT T N ch) (hE : EStk E os (us ++ (w, wp) :: ws1) bs) (hw : ¬ (20 : Int32) ≤ w) (hu : ∀ u, u ∈ us → (20 : Int32) ≤ u.1) (hN : N + us.length ≤ l.length + 1) (hlen : (l.length : Int) ≤ 2 * i + 7) (hB : BDS 1501 ds os (us.length + ws1.length + 1) bs (op + sg)) (hin : inn ≠ 0) (hin2 : inn ≤ 61 - K)
    (ck : kd i = 40) :
    ∃ r, ((f_Tree_add t (Jn idx) 34 nP nN).bind fun r3 => (f_Parser_takeOpening p (Jn m, ar, kd, pl, vl)).bind fun r4 => if r4.2.1 = 41 then (f_Parser_operandByName_L144 fe r3.1 (Jn m, ar, kd, pl, vl) FU 0 0 r4 r3.2).bind fun r6 => (f_Parser_takeClosing r6.1 (Jn m, ar, kd, pl, vl) 41).bind fun r7 => some (r7, r6.2)
        else (f_Parser_operandByName_L144 fe r3.1 (Jn m, ar, kd, pl, vl) FU 0 1 r4 r3.2).bind fun r8 => (f_Parser_takeClosing r8.1 (Jn m, ar, kd, pl, vl) 41).bind fun r9 => some (r9, r8.2)) = some r ∧ OK C mX m kd pl vl ((Ls i).1, (Ls i).2, T, U, (Jn (op + sg), Jn sg, Jn inn, nP, nN, mP), E) i (-28) 6 r.1 (WO m kd pl vl Ls i0 sg op inn ds l idx T N ch os us w wp ws1 bs r) := by
  have hm := h.2.2.2.2.2
  obtain ⟨hi, h5, _⟩ := id hs
  have hf := tokF h hi h5
  have q55 := KM_iff hf.1 (show ((40 : Int32), (55 : Int32)) ∈ KMT by decide)
  have et : (Ls i).1.2.1 = 55 := by rw [← q55]; exact ck
  obtain ⟨b1, b2, b3, b4⟩ := hB
  obtain ⟨t1, c1, c2⟩ := add_ok hCT hidx (by omega) 34 nP nN
  rw [c1, ob_some]
  dsimp only
  have dmTail : ∀ (q : S_Parser) (i' : Nat) (td : Int32), PD q i' td → ∃ r, ((f_Parser_operandByName_L144 fe (Jn l.length) (Jn m, ar, kd, pl, vl) FU 0 1 q t1).bind fun r8 => (f_Parser_takeClosing r8.1 (Jn m, ar, kd, pl, vl) 41).bind fun r9 => some (r9, r8.2)) = some r ∧ PD r.1 i' td := by
    intro q i' td hq
    refine dmb (Q := fun r : S_Parser × S_Tree => PD r.1 i' td) ?_ fun r8 h8 => dmb (dm_takeClosing h8 _ 41 (by decide)) fun r9 h9 => ⟨_, rfl, h9⟩
    rw [show FU = 999998 + 1 + 1 from rfl]
    unfold f_Parser_operandByName_L144
    rw [if_neg (show ¬ (1 : Int32) = 0 by decide), if_neg (show ¬ (8192 : Int32) ≤ 0 by decide)]
    refine dmb (hde hq _ _) fun b hb' => ?_
    rw [dm_takeComma hb', ob_some, nm_eq]
    dsimp only
    rw [dm_L144z]
    exact ⟨_, rfl, hb'⟩
  by_cases c60 : op + sg = 60
  · obtain ⟨w1, ⟨q, w2, w3⟩, w4⟩ := deepOK h hs c60 (Jn sg, Jn inn, nP, nN, mP)
    rw [opening_deep w2, ob_some, if_neg (w3.ne 41 (by decide) (by decide))]
    obtain ⟨r, e, hr⟩ := dmTail q i 1 w3
    rw [e]
    refine ⟨r, rfl, ?_⟩
    refine w4 _ (Ls i).2 T (Jn ds.length, U.2) (Jn (op + sg), Jn sg, Jn inn, nP, nN, mP) E 1 (-28) 6 _ _ hr (RUN.one (tokZ h hi h5) hU (act_139 (r13 := (((Ls i).1.1, (Ls i).1.2.1, (Ls i).1.2.2.1, (Ls i).1.2.2.2.1, (Ls i).1.2.2.2.2.1, 7, pl i), (Ls i).2, T, (Jn ds.length, U.2), (Jn (op + sg), Jn sg, Jn inn, nP, nN, mP), E)) ?_)) (by omega)
    unfold f_Model_behindOperand
    rw [if_neg (show ¬ (Ls i).1.2.1 = 57 by rw [et]; decide), if_neg (show ¬ (Ls i).1.2.1 = 62 by rw [et]; decide), if_pos et, w1, ob_some, if_pos rfl]
  · have hop' : op + sg < 60 := by omega
    obtain ⟨K', hK'⟩ : ∃ K', K = K' + 1 := ⟨K - 1, by omega⟩
    obtain ⟨p1, a1, a2, a2', a3⟩ := opening (ar := ar) h hs (by rw [ck]; decide) hop'
    obtain ⟨T1, E1, ch1, s1, s2, s3, s4, s5⟩ := start_ok (O := (Jn (op + sg + 1), Jn sg, Jn inn, nP, nN, mP)) (k := 34) hG (by omega) hE (by omega)
    obtain ⟨U1, u1, v1⟩ := push2_ok (U := (Jn ds.length, U.2)) hU.pop.2.2 (by omega) 143 142
    rw [a1, ob_some]
    have hl1 : (bump l idx 1 ++ [(34, nP, nN, 0)]).length = l.length + 1 := by rw [List.length_append, bump_len, List.length_singleton]
    have ebl : (bump l idx 1).length = l.length := bump_len l idx 1
    have o1 := a3 _ T1 U1 (Jn (op + sg + 1), Jn sg, Jn inn, nP, nN, mP) E1 1 (-29) 6 (fun i' s' => i' = i + 1 ∧ SP m kd pl vl p1 i' sg (op + 1) ∧ s' = ((Ls i').1, (Ls i').2, T1, U1, (Jn (op + sg + 1), Jn sg, Jn inn, nP, nN, mP), E1)) (RUN.one (tokZ h hi h5) hU (act_139 (r13 := ((Ls (i + 1)).1, (Ls (i + 1)).2, T1, U1, (Jn (op + sg + 1), Jn sg, Jn inn, nP, nN, mP), E1)) (by
      unfold f_Model_behindOperand
      rw [if_neg (show ¬ (Ls i).1.2.1 = 57 by rw [et]; decide), if_neg (show ¬ (Ls i).1.2.1 = 62 by rw [et]; decide), if_pos et, opens_ok hop', ob_some, if_neg (show ¬ (1 : Int32) = 0 by decide), s1, ob_some, u1, ob_some]
      dsimp only
      rw [a2]; rfl))) (by omega) (by omega) (fun hs' => ⟨rfl, hs', rfl⟩)
    have fr1 : FRX N N T ch (N + 1 + ([] : List E4).length) T1 ch1 := s5
    by_cases c41 : p1.2.1 = 41
    · rw [if_pos c41, FU1, dm_L144z, ob_some]
      obtain ⟨r2, e2, o2⟩ := o1.seq (r := (f_Parser_takeClosing p1 (Jn m, ar, kd, pl, vl) 41).bind fun r7 => some (r7, t1)) (pr := fun r => r.1) (W' := fun r => WO m kd pl vl Ls i0 sg op inn ds l idx T N ch os us w wp ws1 bs r) (c' := -28) (F' := 7) (fun i' s' _ hw' => by
        obtain ⟨rfl, hs', rfl⟩ := hw'
        obtain ⟨hi', h5', _⟩ := id hs'
        have hf' := tokF h hi' h5'
        have hk41 : kd (i + 1) = 41 := by rw [← hs'.kind.1]; exact c41
        have hrun : RUN C mX 1 ((Ls (i + 1)).1, (Ls (i + 1)).2, T1, U1, (Jn (op + sg + 1), Jn sg, Jn inn, nP, nN, mP), E1) ((Ls (i + 1)).1, (Ls (i + 1)).2, T1, (Jn (143 :: ds).length, U1.2), (Jn (op + sg + 1), Jn sg, Jn inn, nP, nN, mP), E1) := by
          refine RUN.one (tokZ h hi' h5') v1 ?_
          rw [act_142, (isOperand_eq hf'.1).2 (by rw [hk41]; unfold isOpK; decide), ob_some, if_pos rfl]; rfl
        have := call_end (ar := ar) h (i0 := i0) (i := i + 1) (sg0 := sg) (sg := sg) (op := op) (inn := inn) (ds := ds) (l := l) (idx := idx) (T0 := T) (N0 := N) (ch0 := ch) (os := os) (us := us) (w := w) (wp := wp) (ws1 := ws1) (bs := bs) (P := nP) (V := nN) (p := p1) (t := t1) (T := T1) (U := (Jn (143 :: ds).length, U1.2)) (o3 := (nP, nN, mP)) (E := E1) (ch := ch1) (es := []) (Ds := []) (S := []) hs' (Nat.le_refl _) hus (by omega) c2 v1.pop.2.2 s3 s2 s4 fr1 hw hu hN (by omega) (by rw [List.length_nil]; omega)
        obtain ⟨r, z1, z2⟩ := this
        rw [show op + 1 + sg = op + sg + 1 by omega] at z2
        refine ⟨r, z1, ?_⟩
        obtain ⟨r', y1, o'⟩ := (show OK C mX m kd pl vl ((Ls (i + 1)).1, (Ls (i + 1)).2, T1, U1, (Jn (op + sg + 1), Jn sg, Jn inn, nP, nN, mP), E1) (i + 1) 1 0 p1 (fun i' s' => i' = i + 1 ∧ s' = ((Ls (i + 1)).1, (Ls (i + 1)).2, T1, (Jn (143 :: ds).length, U1.2), (Jn (op + sg + 1), Jn sg, Jn inn, nP, nN, mP), E1)) from Or.inl ⟨i + 1, _, 1, Nat.le_refl _, by omega, hrun, rfl, rfl⟩).seq (r := some r) (pr := fun r => r.1) (W' := fun r => WO m kd pl vl Ls i0 sg op inn ds l idx T N ch os us w wp ws1 bs r) (c' := -29) (F' := 6) (fun i' s' _ hw' => by
          obtain ⟨rfl, rfl⟩ := hw'
          exact ⟨r, rfl, z2⟩) (fun i' td hd => absurd c41 (hd.ne 41 (by decide) (by decide)))
        injection y1 with y1
        subst y1
        exact o'.mono (by omega) (by omega) (fun _ _ _ z => z)) (fun i' td hd => absurd c41 (hd.ne 41 (by decide) (by decide)))
      exact ⟨r2, e2, o2.mono (by omega) (by omega) (fun _ _ _ z => z)⟩
    · rw [if_neg c41]
      obtain ⟨r2, e2, o2⟩ := o1.seq (r := (f_Parser_operandByName_L144 fe (Jn l.length) (Jn m, ar, kd, pl, vl) FU 0 1 p1 t1).bind fun r8 => (f_Parser_takeClosing r8.1 (Jn m, ar, kd, pl, vl) 41).bind fun r9 => some (r9, r8.2)) (pr := fun r => r.1) (W' := fun r => WO m kd pl vl Ls i0 sg op inn ds l idx T N ch os us w wp ws1 bs r) (c' := -28) (F' := 9) (fun i' s' _ hw' => by
        obtain ⟨rfl, hs', rfl⟩ := hw'
        obtain ⟨hi', h5', _⟩ := id hs'
        have hf' := tokF h hi' h5'
        by_cases cO : isOpK (kd (i + 1))
        · -- arguments
          obtain ⟨U2, u2, v2⟩ := push2_ok (U := (Jn (143 :: ds).length, U1.2)) v1.pop.2.2 (by simp only [List.length_cons]; omega) 144 145
          obtain ⟨U3, u3, v3⟩ := push_ok v2 (by simp only [List.length_cons]; omega) 134
          have hrun : RUN C mX 1 ((Ls (i + 1)).1, (Ls (i + 1)).2, T1, U1, (Jn (op + sg + 1), Jn sg, Jn inn, nP, nN, mP), E1) ((Ls (i + 1)).1, (Ls (i + 1)).2, T1, U3, (Jn (op + sg + 1), Jn sg, Jn inn, nP, nN, mP), E1) := by
            refine RUN.one (tokZ h hi' h5') v1 ?_
            rw [act_142, (isOperand_eq hf'.1).1 cO, ob_some, if_neg (show ¬ (1 : Int32) = 0 by decide)]
            unfold f_Model_pushArgument
            rw [u2, ob_some, u3]; rfl
          have args := argsL (ar := ar) h (by omega) (hfe K' hK') hde (op := op) (inn := inn) (ds := ds) (A := bump l idx 1) (T0 := T) (N0 := N) (ch0 := ch) (os := os) (ws := us ++ (w, wp) :: ws1) (bs := bs) (P := nP) (V := nN) hin (by omega) (by rw [ebl]; omega) 9000 FU 0 p1 t1 (i + 1) sg T1 U3 (nP, nN, mP) E1 ch1 [] [] [] (by omega) (by decide) (by omega) hs' (by omega) (by omega) c2 v3 s3 s2 s4 fr1 (by rw [ebl, List.length_nil]; omega) ⟨by omega, by omega, by rw [List.length_append, List.length_cons]; omega, by rw [List.length_cons]; omega⟩
          rw [ebl, show op + 1 + sg = op + sg + 1 by omega] at args
          obtain ⟨r3, e3, o3⟩ := args
          have e3' : f_Parser_operandByName_L144 fe (Jn l.length) (Jn m, ar, kd, pl, vl) FU 0 1 p1 t1 = some r3 := e3
          rw [e3', ob_some]
          have o4 := OK.pre hrun o3
          obtain ⟨r5, e5, o5⟩ := o4.seq (r := (f_Parser_takeClosing r3.1 (Jn m, ar, kd, pl, vl) 41).bind fun r9 => some (r9, r3.2)) (pr := fun r => r.1) (W' := fun r => WO m kd pl vl Ls i0 sg op inn ds l idx T N ch os us w wp ws1 bs r) (c' := -29) (F' := 6) (fun i' s' hi'' hz => by
            obtain ⟨sg', T', U', o3', E', ch', es', Ds', S', q1, q2, q3, q4, rfl, q6, q7, q8, q9, q10, q11⟩ := hz
            rw [List.length_nil] at q11
            exact call_end (ar := ar) h q1 q2 hus q3 q4 q6 q7 q8 q9 q10 hw hu hN (by omega) (by omega)) (fun i' td hd => dmb (dm_takeClosing hd _ 41 (by decide)) fun r9 h9 => ⟨_, rfl, h9⟩)
          exact ⟨r5, e5, o5.mono (by omega) (by omega) (fun _ _ _ z => z)⟩
        · -- nothing that an operand begins with
          have hrun : RUN C mX 1 ((Ls (i + 1)).1, (Ls (i + 1)).2, T1, U1, (Jn (op + sg + 1), Jn sg, Jn inn, nP, nN, mP), E1) ((Ls (i + 1)).1, (Ls (i + 1)).2, T1, (Jn (143 :: ds).length, U1.2), (Jn (op + sg + 1), Jn sg, Jn inn, nP, nN, mP), E1) := by
            refine RUN.one (tokZ h hi' h5') v1 ?_
            rw [act_142, (isOperand_eq hf'.1).2 cO, ob_some, if_pos rfl]; rfl
          obtain ⟨w1, w2, w3⟩ := wrongOK h hs'
          have q56 := KM_iff hf'.1 (show ((41 : Int32), (56 : Int32)) ∈ KMT by decide)
          have hst : Stk 4000 (Jn (143 :: ds).length) U1.2 (143 :: ds) := v1.pop.2.2
          obtain ⟨T3, E3, ch3, e', D', m1, m2, m3, m4, m5⟩ := finish_ok (O := (Jn (op + sg), Jn sg, Jn inn, nP, nN, mP)) (a := op + sg) hw s3 (by omega) (by omega) s2 hu s4.fin (by omega) rfl (by omega)
          have hrun2 : RUN C mX 2 ((Ls (i + 1)).1, (Ls (i + 1)).2, T1, U1, (Jn (op + sg + 1), Jn sg, Jn inn, nP, nN, mP), E1) (((Ls (i + 1)).1.1, (Ls (i + 1)).1.2.1, (Ls (i + 1)).1.2.2.1, (Ls (i + 1)).1.2.2.2.1, (Ls (i + 1)).1.2.2.2.2.1, 6, pl (i + 1)), (Ls (i + 1)).2, T3, (Jn ds.length, U1.2), (Jn (op + sg - us.length), Jn sg, Jn inn, nP, nN, mP), E3) := by
            refine RUN.trans hrun (RUN.one (x := 143) (ds := ds) (tokZ h hi' h5') hst (act_143 (r23 := (((Ls (i + 1)).1.1, (Ls (i + 1)).1.2.1, (Ls (i + 1)).1.2.2.1, (Ls (i + 1)).1.2.2.2.1, (Ls (i + 1)).1.2.2.2.2.1, 6, pl (i + 1)), (Ls (i + 1)).2, T3, (Jn (op + sg - us.length), Jn sg, Jn inn, nP, nN, mP), E3)) ?_))
            unfold f_Model_resultEnd f_Model_pass
            dsimp only
            rw [show Jn (op + sg + 1) - 1 = Jn (op + sg) from by rw [subL 1 (by omega)]; congr 1, m1, ob_some, if_neg (by rw [← q56, ← hs'.kind.1]; exact c41), w1]; rfl
          have hdoom : ∃ r, ((f_Parser_operandByName_L144 fe (Jn l.length) (Jn m, ar, kd, pl, vl) FU 0 1 p1 t1).bind fun r8 => (f_Parser_takeClosing r8.1 (Jn m, ar, kd, pl, vl) 41).bind fun r9 => some (r9, r8.2)) = some r ∧ PD r.1 (i + 1) 0 := by
            refine dmb (Q := fun r : S_Parser × S_Tree => PD r.1 (i + 1) 0) ?_ fun r8 h8 => dmb (dm_takeClosing h8 _ 41 (by decide)) fun r9 h9 => ⟨_, rfl, h9⟩
            rw [show FU = 999998 + 1 + 1 from rfl]
            unfold f_Parser_operandByName_L144
            rw [if_neg (show ¬ (1 : Int32) = 0 by decide), if_neg (show ¬ (8192 : Int32) ≤ 0 by decide)]
            refine dmb (hno hs' cO _ _) fun b hb' => ?_
            rw [dm_takeComma hb', ob_some, nm_eq]
            dsimp only
            rw [dm_L144z]
            exact ⟨_, rfl, hb'⟩
          obtain ⟨r, e, hr⟩ := hdoom
          exact ⟨r, e, w3 _ _ T3 _ _ E3 2 _ _ _ _ hr hrun2 (by omega)⟩) (fun i' td hd => dmTail _ _ _ hd)
      exact ⟨r2, e2, o2.mono (by omega) (by omega) (fun _ _ _ z => z)⟩
end
end
section
/-! All operands, all expressions. -/
theorem dm_operand {p i td} (h : PD p i td) (tk : S_Tokens) (t : S_Tree) (a : Int32) (d : Nat) : ∃ b, (GE (d + 1)).2 p tk t a = some b ∧ PD b.1 i td := by
  show ∃ b, f_Parser_operand_o (GE d).2 (GE d).1 p tk t a = some b ∧ PD b.1 i td
  unfold f_Parser_operand_o
  rw [if_neg (h.ne 1 (by decide) (by decide)), if_neg (h.ne 40 (by decide) (by decide)), if_neg (h.ne 45 (by decide) (by decide)), if_neg (h.ne 290 (by decide) (by decide))]
  exact dmb (dm_literal h tk t a) fun b hb => ⟨_, rfl, hb⟩
section
variable {C : S_MC} {mX : S_MX} {m : Nat} {ar : Int32} {kd pl vl : Nat → Int32} {Ls : Nat → S_ML × S_MN}
theorem nonop_expr {p : S_Parser} {i sg op : Nat} (hs : SP m kd pl vl p i sg op) (hn : ¬ isOpK (kd i)) (tk : S_Tokens) (t : S_Tree) (a : Int32) (d : Nat) : ∃ b, (GE (d + 2)).1 p tk t a (Jn 0) = some b ∧ PD b.1 i 0 := by
  show ∃ b, f_Parser_expression_o (GE (d + 1)).2 (GE (d + 1)).1 p tk t a (Jn 0) = some b ∧ PD b.1 i 0
  unfold isOpK at hn
  have c : kd i ≠ 45 ∧ kd i ≠ 2 ∧ kd i ≠ 291 ∧ kd i ≠ 292 ∧ kd i ≠ 290 ∧ kd i ≠ 40 ∧ kd i ≠ 1 :=
    ⟨fun e => hn (Or.inl e), fun e => hn (Or.inr (Or.inl e)), fun e => hn (Or.inr (Or.inr (Or.inl e))), fun e => hn (Or.inr (Or.inr (Or.inr (Or.inl e)))), fun e => hn (Or.inr (Or.inr (Or.inr (Or.inr (Or.inl e))))), fun e => hn (Or.inr (Or.inr (Or.inr (Or.inr (Or.inr (Or.inl e)))))), fun e => hn (Or.inr (Or.inr (Or.inr (Or.inr (Or.inr (Or.inr e))))))⟩
  obtain ⟨c45, c2, c291, c292, c290, c40, c1⟩ := c
  have hp : PD (p.1, 6, p.2.2) i 0 := by
    obtain ⟨hi, h5, pb, fq, rfl, hpb⟩ := hs
    exact ⟨rfl, Or.inr rfl, rfl⟩
  unfold f_Parser_expression_o
  have e1 : (GE (d + 1)).2 p tk t a = some ((p.1, 6, p.2.2), t) := by
    show f_Parser_operand_o (GE d).2 (GE d).1 p tk t a = _
    unfold f_Parser_operand_o
    rw [hs.kind.1, if_neg c1, if_neg c40, if_neg c45, if_neg c290, nonop_lit hs c2 c291 c292]; rfl
  rw [e1, ob_some, FU1]
  unfold f_Parser_expression_o_L16
  rw [if_neg (by decide), show f_Sign_operation ((p.1, (6 : Int32), p.2.2), t).1.2.1 = some (-1) from (show f_Sign_operation 6 = some (-1) by decide), ob_some, show f_Sign_binding (-1) = some (-1) by decide, ob_some, if_pos (by decide)]
  exact ⟨_, rfl, hp⟩
theorem opS_of (h : LX C mX m kd pl vl Ls) {fo : S_Parser → S_Tokens → S_Tree → Int32 → Option (S_Parser × S_Tree)} {fe : S_Parser → S_Tokens → S_Tree → Int32 → Int32 → Option (S_Parser × S_Tree)} {K : Nat} (hK60 : K ≤ 60) (hfo : ∀ K', K = K' + 1 → OPS C mX m ar kd pl vl Ls fo K') (hfe : ∀ K', K = K' + 1 → X0S C mX m ar kd pl vl Ls fe K')
    (hdo : ∀ {p i td}, PD p i td → ∀ t a, ∃ r, fo p (Jn m, ar, kd, pl, vl) t a = some r ∧ PD r.1 i td) (hde : ∀ {p i td}, PD p i td → ∀ t a, ∃ r, fe p (Jn m, ar, kd, pl, vl) t a (Jn 0) = some r ∧ PD r.1 i td)
    (hno : ∀ {p i sg op}, SP m kd pl vl p i sg op → ¬ isOpK (kd i) → ∀ t a, ∃ r, fe p (Jn m, ar, kd, pl, vl) t a (Jn 0) = some r ∧ PD r.1 i 0) : OPS C mX m ar kd pl vl Ls (f_Parser_operand_o fo fe) K := by
  have hm := h.2.2.2.2.2
  intro i sg op inn ds l idx T N ch E os us w wp ws1 bs U o3 p t hs hus hop hK hCT hidx hU hG hE hw hu hN hlen hB hin hin2
  obtain ⟨hi, h5, _⟩ := id hs
  have hf := tokF h hi h5
  obtain ⟨k1, k2, k3⟩ := hs.kind
  have q80 := KM_iff hf.1 (show ((1 : Int32), (80 : Int32)) ∈ KMT by decide)
  have q64 := KM_iff hf.1 (show ((45 : Int32), (64 : Int32)) ∈ KMT by decide)
  have q34 := KM_iff hf.1 (show ((290 : Int32), (34 : Int32)) ∈ KMT by decide)
  unfold f_Parser_operand_o
  rw [k1, k2]
  by_cases c1 : kd i = 1
  · rw [if_pos c1]
    have et : (Ls i).1.2.1 = 80 := by rw [← q80]; exact c1
    obtain ⟨p1, a1, a2, a2', a3⟩ := adv (ar := ar) h hs (by rw [c1]; decide)
    obtain ⟨b1, b2, b3, b4⟩ := id hB
    obtain ⟨U1, u1, v1⟩ := push_ok (U := (Jn ds.length, U.2)) hU.pop.2.2 (by omega) 139
    have hwv := hf.2.2.2.1 (Or.inl c1)
    have hrun : RUN C mX 1 ((Ls i).1, (Ls i).2, T, U, (Jn (op + sg), Jn sg, Jn inn, o3), E) ((Ls (i + 1)).1, (Ls (i + 1)).2, T, U1, (Jn (op + sg), Jn sg, Jn inn, pl i, vl i, o3.2.2), E) := by
      refine RUN.one (tokZ h hi h5) hU (act_135 (r4 := ((Ls (i + 1)).1, (Ls (i + 1)).2, T, U1, (Jn (op + sg), Jn sg, Jn inn, pl i, vl i, o3.2.2), E)) ?_)
      unfold f_Model_anOperand
      rw [if_neg (show ¬ (Ls i).1.2.1 = 64 by rw [et]; decide), if_neg (show ¬ (Ls i).1.2.1 = 34 by rw [et]; decide), if_neg (show ¬ (Ls i).1.2.1 = 81 by rw [et]; decide), if_neg (show ¬ (Ls i).1.2.1 = 35 by rw [et]; decide), if_neg (show ¬ (Ls i).1.2.1 = 36 by rw [et]; decide), if_neg (show ¬ (Ls i).1.2.1 = 55 by rw [et]; decide), if_pos et]
      unfold f_Model_keepName
      rw [ob_some, u1, ob_some, a2, hf.2.1, hwv]; rfl
    have o1 := a3 _ T U1 (Jn (op + sg), Jn sg, Jn inn, pl i, vl i, o3.2.2) E 1 (-29) 6 (fun i' s' => i' = i + 1 ∧ SP m kd pl vl p1 i' sg op ∧ s' = ((Ls i').1, (Ls i').2, T, U1, (Jn (op + sg), Jn sg, Jn inn, pl i, vl i, o3.2.2), E)) hrun (by omega) (by omega) (fun hs' => ⟨rfl, hs', rfl⟩)
    rw [c1] at a1
    unfold f_Parser_operandByName f_Parser_takeName
    rw [k2, k3, a1, ob_some, ob_some]
    dsimp only
    have closing : ∀ (R : Option (S_Parser × S_Tree)) (cc : Int), cc ≤ 1 → (∀ i' s', i' = i + 1 ∧ SP m kd pl vl p1 i' sg op ∧ s' = ((Ls i').1, (Ls i').2, T, U1, (Jn (op + sg), Jn sg, Jn inn, pl i, vl i, o3.2.2), E) → ∃ r, R = some r ∧ OK C mX m kd pl vl s' i' cc 6 r.1 (WO m kd pl vl Ls i sg op inn ds l idx T N ch os us w wp ws1 bs r)) → (∀ i' td, PD p1 i' td → ∃ r, R = some r ∧ PD r.1 i' td) → ∃ r, (R.bind fun r2 => some (r2.1, r2.2)) = some r ∧ OK C mX m kd pl vl ((Ls i).1, (Ls i).2, T, U, (Jn (op + sg), Jn sg, Jn inn, o3), E) i (-28) 6 r.1 (WO m kd pl vl Ls i sg op inn ds l idx T N ch os us w wp ws1 bs r) := by
      intro R cc hcc h1 h2
      obtain ⟨r, e, o⟩ := o1.seq (r := R) (pr := fun r => r.1) (fun i' s' _ hw' => h1 i' s' hw') h2
      rw [e, ob_some]
      exact ⟨r, rfl, o.mono (by omega) (by omega) (fun _ _ _ z => z)⟩
    by_cases c40 : p1.2.1 = 40
    · rw [if_pos c40]
      refine closing _ (-28) (by omega) (fun i' s' hw' => ?_) (fun i' td hd => absurd c40 (hd.ne 40 (by decide) (by decide)))
      obtain ⟨rfl, hs', rfl⟩ := hw'
      exact nm_call (ar := ar) h hK60 hfe hde hno (by omega) hs' hus hop hK hCT hidx v1 hG hE hw hu hN (by omega) hB hin hin2 (by rw [← hs'.kind.1]; exact c40)
    · rw [if_neg c40]
      by_cases c46 : p1.2.1 = 46
      · rw [if_pos c46]
        refine closing _ (-29) (by omega) (fun i' s' hw' => ?_) (fun i' td hd => absurd c46 (hd.ne 46 (by decide) (by decide)))
        obtain ⟨rfl, hs', rfl⟩ := hw'
        exact nm_output (ar := ar) h (by omega) hs' hus hop hCT hidx v1 hG hE hw hu hN (by omega) hB (by rw [← hs'.kind.1]; exact c46)
      · rw [if_neg c46]
        by_cases c91 : p1.2.1 = 91
        · rw [if_pos c91]
          refine closing _ (-28) (by omega) (fun i' s' hw' => ?_) (fun i' td hd => absurd c91 (hd.ne 91 (by decide) (by decide)))
          obtain ⟨rfl, hs', rfl⟩ := hw'
          exact nm_element (ar := ar) h hfe hde (by omega) hs' hus hop hK hCT hidx v1 hG hE hw hu hN (by omega) hB hin hin2 (by rw [← hs'.kind.1]; exact c91)
        · rw [if_neg c91]
          refine closing _ 1 (by omega) (fun i' s' hw' => ?_) (fun i' td hd => dma fun r => ⟨_, rfl, hd⟩)
          obtain ⟨rfl, hs', rfl⟩ := hw'
          exact nm_leaf h (by omega) hs' hus hop hCT hidx v1 hG hE hw hu hN (by omega) hB (by rw [← hs'.kind.1]; exact c40) (by rw [← hs'.kind.1]; exact c46) (by rw [← hs'.kind.1]; exact c91)
  · rw [if_neg c1]
    by_cases c40 : kd i = 40
    · rw [if_pos c40]
      exact op_group (ar := ar) h hfe hde hs hus hop hK hCT hidx hU hG hE hw hu hN hlen hB hin hin2 c40
    · rw [if_neg c40]
      by_cases c45 : kd i = 45
      · have et : (Ls i).1.2.1 = 64 := by rw [← q64]; exact c45
        rw [if_pos c45, if_neg (show ¬ kd i = 290 by rw [c45]; decide)]
        exact op_unary (ar := ar) h hfo hdo hs hus hop hK hCT hidx hU hG hE hw hu hN hlen hB hin hin2 (by rw [c45]; decide) 20 0 (by decide) (by decide) (by
          intro q O ho
          unfold f_Model_anOperand
          rw [if_pos et, ho, ob_some, if_pos rfl]) (by
          intro O E1 U1 ho hwt hp hst
          unfold f_Model_anOperand
          rw [if_pos et, ho, ob_some, if_neg (show ¬ (1 : Int32) = 0 by decide)]
          dsimp only
          rw [if_pos et, hf.2.1, hwt, ob_some, hp, ob_some, hst]; rfl)
      · rw [if_neg c45]
        by_cases c290 : kd i = 290
        · have et : (Ls i).1.2.1 = 34 := by rw [← q34]; exact c290
          have n64 : ¬ (Ls i).1.2.1 = 64 := by rw [et]; decide
          rw [if_pos c290, if_pos c290]
          exact op_unary (ar := ar) h hfo hdo hs hus hop hK hCT hidx hU hG hE hw hu hN hlen hB hin hin2 (by rw [c290]; decide) 21 1 (by decide) (by decide) (by
            intro q O ho
            unfold f_Model_anOperand
            rw [if_neg n64, if_pos et, ho, ob_some, if_pos rfl]) (by
            intro O E1 U1 ho hwt hp hst
            unfold f_Model_anOperand
            rw [if_neg n64, if_pos et, ho, ob_some, if_neg (show ¬ (1 : Int32) = 0 by decide)]
            dsimp only
            rw [if_neg n64, hf.2.1, hwt, ob_some, hp, ob_some, hst]; rfl)
        · rw [if_neg c290]
          exact op_literal (ar := ar) h hs hus hop hCT hidx hU hG hE hw hu hN hlen hB c1 c40 c45 c290
theorem GE_ok (h : LX C mX m kd pl vl Ls) : ∀ K, K ≤ 60 → (∀ d, 2 * K + 3 ≤ d → OPS C mX m ar kd pl vl Ls (GE d).2 K) ∧ (∀ d, 2 * K + 4 ≤ d → EXS C mX m ar kd pl vl Ls (GE d).1 K) := by
  have dE : ∀ d, ∀ {p : S_Parser} {i : Nat} {td : Int32}, PD p i td → ∀ (t : S_Tree) (a : Int32) (b : Nat), b ≤ 7 → ∃ r, (GE (d + 2)).1 p (Jn m, ar, kd, pl, vl) t a (Jn b) = some r ∧ PD r.1 i td := by
    intro d p i td hp t a b hb
    exact dm_expression hp _ t a (Jn b) (leL 0 (Nat.zero_le _)) d
  intro K
  induction K with
  | zero =>
    intro _
    have hO : ∀ d, 2 * 0 + 3 ≤ d → OPS C mX m ar kd pl vl Ls (GE d).2 0 := by
      intro d hd
      obtain ⟨e, rfl⟩ : ∃ e, d = e + 3 := ⟨d - 3, by omega⟩
      exact opS_of (fo := (GE (e + 2)).2) (fe := (GE (e + 2)).1) h (by omega) (fun K' hK' => by omega) (fun K' hK' => by omega) (fun hp t a => dm_operand hp _ t a (e + 1)) (fun hp t a => dE e hp t a 0 (by omega)) (fun hs hn t a => nonop_expr hs hn _ t a e)
    refine ⟨hO, ?_⟩
    intro d hd
    obtain ⟨e, rfl⟩ : ∃ e, d = e + 4 := ⟨d - 4, by omega⟩
    exact exprS_of (fo := (GE (e + 3)).2) (fe := (GE (e + 3)).1) h (hO (e + 3) (by omega)) (fun K' hK' => by omega) (fun hp t a b hb => dE (e + 1) hp t a b hb)
  | succ K ih =>
    intro hK
    obtain ⟨ih1, ih2⟩ := ih (by omega)
    have hO : ∀ d, 2 * (K + 1) + 3 ≤ d → OPS C mX m ar kd pl vl Ls (GE d).2 (K + 1) := by
      intro d hd
      obtain ⟨e, rfl⟩ : ∃ e, d = e + 3 := ⟨d - 3, by omega⟩
      refine opS_of (fo := (GE (e + 2)).2) (fe := (GE (e + 2)).1) h hK (fun K' hK' => ?_) (fun K' hK' => ?_) (fun hp t a => dm_operand hp _ t a (e + 1)) (fun hp t a => dE e hp t a 0 (by omega)) (fun hs hn t a => nonop_expr hs hn _ t a e)
      · have : K' = K := by omega
        subst this
        exact ih1 (e + 2) (by omega)
      · have : K' = K := by omega
        subst this
        exact x0_of h (by omega) (ih2 (e + 2) (by omega))
    refine ⟨hO, ?_⟩
    intro d hd
    obtain ⟨e, rfl⟩ : ∃ e, d = e + 4 := ⟨d - 4, by omega⟩
    refine exprS_of (fo := (GE (e + 3)).2) (fe := (GE (e + 3)).1) h (hO (e + 3) (by omega)) (fun K' hK' => ?_) (fun hp t a b hb => dE (e + 1) hp t a b hb)
    have : K' = K := by omega
    subst this
    exact ih2 (e + 3) (by omega)
theorem expr_ok (h : LX C mX m kd pl vl Ls) : X0S C mX m ar kd pl vl Ls (GE DE).1 60 := x0_of h (Nat.le_refl _) ((GE_ok h 60 (Nat.le_refl _)).2 DE (by decide))
end
end
section
/-! Expressions in statements. -/
section
variable {C : S_MC} {mX : S_MX} {m : Nat} {ar : Int32} {kd pl vl : Nat → Int32} {Ls : Nat → S_ML × S_MN}
def ACE (m : Nat) (kd pl vl : Nat → Int32) (Ls : Nat → S_ML × S_MN) (B : BASE) (op : Nat) (ds : List Int32) (b : Int) (p : S_Parser) (t : S_Tree) (i : Nat) (s : MSt) : Prop := ∃ E, EStk E [] [] [] ∧ ACC m kd pl vl Ls B E op ds b p t i s
theorem ACE.mono {B op ds b b' p t i s} (h : ACE m kd pl vl Ls B op ds b p t i s) (hb : b ≤ b') : ACE m kd pl vl Ls B op ds b' p t i s := by
  obtain ⟨E, hE, hA⟩ := h
  exact ⟨E, hE, hA.mono hb⟩
theorem ACE.kind {B op ds b p t i s} (h : ACE m kd pl vl Ls B op ds b p t i s) : p.2.1 = kd i ∧ i < m ∧ op ≤ 60 ∧ ds.length ≤ 200 + 20 * op := by
  obtain ⟨E, hE, hA⟩ := h
  exact ⟨hA.kind, hA.1.1, hA.2.1, hA.2.2.1⟩
/-- a rule's end, with the stacks of operands empty again -/
theorem OK.ace {B E op ds b s i c F p t} (hE : EStk E [] [] []) (h : OK C mX m kd pl vl s i c F p (ACC m kd pl vl Ls B E op ds b p t)) : OK C mX m kd pl vl s i c F p (ACE m kd pl vl Ls B op ds b p t) :=
  h.mono (Int.le_refl _) (Int.le_refl _) (fun _ _ _ z => ⟨E, hE, z⟩)
theorem pass_ace (h : LX C mX m kd pl vl Ls) {B op ds b p t i s} {c T' : Int32} (hc : (c, T') ∈ KMT) (h4 : c ≠ 4) (hA : ACE m kd pl vl Ls B op (T' :: ds) b p t i s) :
    ∃ p', f_Parser_take p (Jn m, ar, kd, pl, vl) c = some p' ∧ OK C mX m kd pl vl s i (-29) 1 p' (ACE m kd pl vl Ls B op ds (b - 2) p' t) := by
  obtain ⟨E, hE, hA⟩ := hA
  obtain ⟨p', e, o⟩ := pass_acc (ar := ar) h hc h4 hA
  exact ⟨p', e, o.ace hE⟩
theorem constant_ace (h : LX C mX m kd pl vl Ls) {B op ds b p t i s} (hb : b ≤ 10) (hA : ACE m kd pl vl Ls B op (113 :: ds) b p t i s) :
    ∃ r, f_Parser_constant p (Jn m, ar, kd, pl, vl) t (Jn B.2.1) = some r ∧ OK C mX m kd pl vl s i (-29) 2 r.1 (ACE m kd pl vl Ls B op ds (b - 1) r.1 r.2) := by
  obtain ⟨E, hE, hA⟩ := hA
  obtain ⟨r, e, o⟩ := constant_acc (ar := ar) h hb hA
  exact ⟨r, e, o.ace hE⟩
theorem up_ace (h : LX C mX m kd pl vl Ls) {B B' op ds b p t i s} (hc : CL B B') (hA : ACE m kd pl vl Ls B' op (101 :: ds) b p t i s) : OK C mX m kd pl vl s i 1 0 p (ACE m kd pl vl Ls B op ds b p t) := by
  obtain ⟨E, hE, hA⟩ := hA
  exact (up_acc h hc hA).ace hE
theorem outer_ace (h : LX C mX m kd pl vl Ls) {B op ds b p t i s} (hb : b ≤ 9) (hA : ACE m kd pl vl Ls B op (134 :: 137 :: ds) b p t i s) :
    ∃ r, f_Parser_outermostExpression p (Jn m, ar, kd, pl, vl) t (Jn B.2.1) = some r ∧ OK C mX m kd pl vl s i (-24) 9 r.1 (ACE m kd pl vl Ls B op ds (b - 1) r.1 r.2) := by
  have hm := h.2.2.2.2.2
  obtain ⟨E, hE, hs, hop, h3, T, U, o3, len, rfl, hU, h6, h7⟩ := hA
  simp only [List.length_cons] at h3
  obtain ⟨l1, idx, T1, ch1, N1, z, e⟩ := B
  obtain ⟨ch, new, D, seg, a1, a2, a3, a4, a5, a6, a7, a8, a9, a10, a11, a12⟩ := h6
  dsimp only at *
  have hbl : (bump l1 idx new.length ++ seg).length = l1.length + seg.length := by rw [List.length_append, bump_len]
  obtain ⟨r, x1, x2⟩ := expr_ok (ar := ar) h i 0 op 0 (137 :: ds) (bump l1 idx new.length ++ seg) idx T (N1 + seg.length) ch E [] [] [] U o3 p t hs (by omega) (by omega) a1 (by rw [hbl]; omega) hU a3 hE (by rw [hbl]; omega) (by rw [hbl]; omega) ⟨by rw [List.length_cons]; omega, by rw [List.length_nil]; omega, by rw [List.length_nil]; omega, by rw [List.length_nil]; omega⟩ (by omega)
  unfold f_Parser_outermostExpression f_Parser_expression
  rw [show (0 : Int32) = Jn 0 from rfl, x1, ob_some]
  refine ⟨_, rfl, ?_⟩
  obtain ⟨r', y1, o⟩ := x2.seq (r := some ((r.1.1, r.1.2.1, r.1.2.2.1, r.1.2.2.2.1, r.1.2.2.2.2.1, Jn 0, r.1.2.2.2.2.2.2), r.2)) (pr := fun q => q.1) (W' := fun q => ACE m kd pl vl Ls (l1, idx, T1, ch1, N1, z, e) op ds (b - 1) q.1 q.2) (c' := 1) (F' := 0) (fun i' s' hi' hw => by
    refine ⟨_, rfl, ?_⟩
    obtain ⟨sg', T', U', o3', E', ch', e', De, se, g1, g2, g3, g4, rfl, g6, g7, g8, g9, g10, g11, g12⟩ := hw
    rw [if_pos rfl]
    obtain ⟨hi2, h52, pb, fq, ep, hpb⟩ := id g1
    have gse : 1 ≤ se.length := by
      cases se with
      | nil => exact absurd rfl g11
      | cons a b => simp
    obtain ⟨E2, t1, t2⟩ := takeOp g8
    have eroot := g9.2.1
    have e'lt := g9.1
    have cur' : T'.2.1 = Jn z := by rw [g10.2.1, a4]
    obtain ⟨Th, b1, b2, b3, b4, b5, b6⟩ := hang_ok g7 (y := e') (x := z) e'lt (by omega) eroot
    have e'D := (g9.2.2.2.1 e' g9.2.2.1.mem)
    have chz : updN ch' z (ch' z ++ [e']) z = ch z ++ [e'] := by rw [updN_self, (g10.2.2 z (by omega)).1]
    have chy : ∀ y, y ≠ z → updN ch' z (ch' z ++ [e']) y = ch' y := fun y hy => updN_ne _ _ hy
    refine Or.inl ⟨i', _, 1, Nat.le_refl _, by omega, RUN.one (tokZ h hi2 h52) g6 (act_137 (r8 := (Jn e', E2)) (r9 := Th) t1 (by dsimp only; rw [cur']; exact b1)), E2, t2, ⟨hi2, h52, pb, fq, ?_, hpb⟩, hop, by omega, Th, _, o3', len + se.length, rfl, g6.pop.2.2, ?_, by omega⟩
    · rw [ep]
    · refine ⟨updN ch' z (ch' z ++ [e']), new ++ [e'], D ++ De, seg ++ se, ?_, a2, ?_, ?_, a5, ?_, ?_, ?_, ?_, ?_, a11, a12⟩
      · dsimp only
        rw [bump_app _ _ _ _ (by rw [bump_len]; exact a2), bump_bump, List.append_assoc] at g4
        rw [List.length_append, List.length_singleton]; exact g4
      · dsimp only
        rw [List.length_append, ← Nat.add_assoc]; exact b2
      · rw [b3]; exact cur'
      · intro y hy
        dsimp only at hy ⊢
        obtain ⟨k1, k2, k3⟩ := a6 y hy
        obtain ⟨f1, f2, f3⟩ := g10.2.2 y (by omega)
        refine ⟨?_, by rw [b6, f2, k2], by rw [b5 y (by omega), f3, k3]⟩
        by_cases c : y = z
        · subst c
          rw [if_pos rfl] at k1 ⊢
          rw [chz, k1, List.append_assoc]
        · rw [if_neg c] at k1 ⊢
          rw [chy y c, f1, k1]
      · refine PreI.app (PreI.congr (fun y hy => ?_) a7) (PreI.congr (fun y hy => ?_) g9.2.2.1)
        · have := a8 y hy
          rw [chy y (by omega), (g10.2.2 y (by omega)).1]
        · have := g9.2.2.2.1 y hy
          rw [chy y (by omega)]
      · intro y hy
        rw [List.length_append]
        dsimp only
        rcases List.mem_append.mp hy with x | x
        · have := a8 y x; omega
        · have := g9.2.2.2.1 y x; omega
      · rw [List.map_append]
        congr 1
        · rw [← a9]
          apply map_congr'
          intro y hy
          have := a8 y hy
          unfold ent
          rw [b6, (g10.2.2 y (by omega)).2.1, chy y (by omega), (g10.2.2 y (by omega)).1]
        · rw [← g9.2.2.2.2]
          apply map_congr'
          intro y hy
          have := g9.2.2.2.1 y hy
          unfold ent
          rw [b6, chy y (by omega)]
      · dsimp only
        rw [List.length_append]; omega) (fun i' td hd => ⟨_, rfl, hd⟩)
  injection y1 with y1
  subst y1
  exact o.mono (by omega) (by omega) (fun _ _ _ z => z)
end
end
section
/-! What statements are made of. -/
def clsQ (p : S_Parser) : S_Parser := (p.1, p.2.1, p.2.2.1, p.2.2.2.1, p.2.2.2.2.1, p.2.2.2.2.2.1, p.2.2.2.2.2.2.1 - 1, p.2.2.2.2.2.2.2)
theorem take_cls {p q : S_Parser} {tk : S_Tokens} {a : Int32} (h : f_Parser_take p tk a = some q) : f_Parser_take (clsQ p) tk a = some (clsQ q) := by
  unfold f_Parser_take at h ⊢
  unfold clsQ
  dsimp only
  by_cases c1 : p.2.1 = a
  · rw [if_pos c1] at h ⊢
    by_cases c2 : p.2.1 = 6
    · rw [if_pos c2] at h ⊢
      injection h with h
      rw [← h]
    · rw [if_neg c2] at h ⊢
      by_cases c3 : p.1 + 1 < 0
      · rw [if_pos c3] at h ⊢
        injection h with h
        rw [← h]
      · rw [if_neg c3] at h ⊢
        by_cases c4 : tk.1 ≤ p.1 + 1
        · rw [if_pos c4] at h ⊢
          injection h with h
          rw [← h]
        · rw [if_neg c4] at h ⊢
          by_cases c5 : 8193 ≤ p.1 + 1
          · rw [if_pos c5] at h ⊢
            injection h with h
            rw [← h]
          · rw [if_neg c5] at h ⊢
            obtain ⟨g1, h⟩ := gd_use h
            obtain ⟨g2, h⟩ := gd_use h
            obtain ⟨g3, h⟩ := gd_use h
            have gg : ∀ {β : Type} (k : Option β), gd (p.1 + 1) 8193 k = k := by
              intro β k
              unfold gd
              unfold vp_in at g1
              rw [if_pos g1]
            simp only [gg, nm_eq]
            rw [nm_eq] at h
            injection h with h
            rw [← h]
  · rw [if_neg c1] at h ⊢
    injection h with h
    rw [← h]
theorem closing_cls {p q : S_Parser} {tk : S_Tokens} {a : Int32} (h : f_Parser_take p tk a = some q) : f_Parser_takeClosing p tk a = some (clsQ q) := by
  unfold f_Parser_takeClosing
  have := take_cls h
  unfold clsQ at this ⊢
  rw [this, ob_some]
theorem PD.clsQ {p i td} (h : PD p i td) : PD (clsQ p) i td := h
section
variable {C : S_MC} {mX : S_MX} {m : Nat} {ar : Int32} {kd pl vl : Nat → Int32} {Ls : Nat → S_ML × S_MN}
/-- a node that opens, and its word or bracket is taken -/
theorem downOpen (h : LX C mX m kd pl vl Ls) {B op ds ds' b p t i s} {x : Int32} (hA : ACE m kd pl vl Ls B op (x :: ds) b p t i s) (h4 : kd i ≠ 4) (hb : b ≤ 10) (hds : ds'.length ≤ 200 + 20 * (op + 1)) (k P v : Int32)
    (hdeep : ∀ T U o3 E q, (s.2.2.2.2.1 = (Jn op, 0, 0, o3)) → f_Model_opens (Ls i).1 (Jn op, 0, 0, o3) = some (0, q, (Jn op, 0, 0, o3)) → f_Model_act C mX (Ls i).1 (Ls i).2 T U (Jn op, 0, 0, o3) E x = some (q, (Ls i).2, T, U, (Jn op, 0, 0, o3), E))
    (hact : ∀ T T' U o3 E, (s.2.2.2.2.1 = (Jn op, 0, 0, o3)) → Stk 4000 U.1 U.2 ds → f_Model_opens (Ls i).1 (Jn op, 0, 0, o3) = some (1, (Ls i).1, (Jn (op + 1), 0, 0, o3)) → f_Model_down T k P v = some T' → f_Model_step C mX (Ls i).1 (Ls i).2 = some (Ls (i + 1)) → ∃ U', f_Model_act C mX (Ls i).1 (Ls i).2 T U (Jn op, 0, 0, o3) E x = some ((Ls (i + 1)).1, (Ls (i + 1)).2, T', U', (Jn (op + 1), 0, 0, o3), E) ∧ Stk 4000 U'.1 U'.2 ds') :
    ∃ t' p' B', f_Tree_add t (Jn B.2.1) k P v = some (Jn B'.2.1, t') ∧ f_Parser_takeOpening p (Jn m, ar, kd, pl, vl) = some p' ∧ CL B B' ∧ OK C mX m kd pl vl s i (-29) 1 p' (ACE m kd pl vl Ls B' (op + 1) ds' (b - 1) p' t') := by
  obtain ⟨E, hE, hs, hop, h3, T, U, o3, len, rfl, hU, h6, h7⟩ := hA
  obtain ⟨hi, h5, _⟩ := id hs
  obtain ⟨T', t', B', l1, l2, l3, l3', l4, l5⟩ := h6.down (len_ok h hi hb h7) k P v
  by_cases c60 : op = 60
  · obtain ⟨w1, ⟨q, w2, w3⟩, w4⟩ := deepOK h hs (by omega) ((0 : Int32), (0 : Int32), o3)
    rw [Nat.add_zero] at w1
    refine ⟨t', q, B', by rw [l3]; exact l2, opening_deep w2, ⟨l3', l5⟩, ?_⟩
    exact w4 _ (Ls i).2 T (Jn ds.length, U.2) _ E 1 (-29) 1 _ _ w3 (RUN.one (tokZ h hi h5) hU (hdeep T _ o3 E _ rfl w1)) (by omega)
  · obtain ⟨p', a1, a2, a2', a3⟩ := opening (ar := ar) h hs h4 (by omega)
    obtain ⟨U', u1, u2⟩ := hact T T' (Jn ds.length, U.2) o3 E rfl hU.pop.2.2 (opens_ok (by omega) _) l1 a2
    refine ⟨t', p', B', by rw [l3]; exact l2, a1, ⟨l3', l5⟩, ?_⟩
    refine a3 _ T' U' (Jn (op + 1), 0, 0, o3) E 1 (-29) 1 _ (RUN.one (tokZ h hi h5) hU u1) (by omega) (by omega) ?_
    intro hs'
    exact ⟨E, hE, hs', by omega, hds, T', _, o3, len + 1, rfl, u2, l4, by omega⟩
/-- a body is begun: its node is there on the reference's side -/
def BIN (m : Nat) (kd pl vl : Nat → Int32) (Ls : Nat → S_ML × S_MN) (B : BASE) (op : Nat) (ds : List Int32) (b : Int) (p : S_Parser) (t : S_Tree) (i : Nat) (s : MSt) : Prop :=
  ∃ t' B', f_Tree_add t (Jn B.2.1) 11 p.2.2.2.2.1 0 = some (Jn B'.2.1, t') ∧ CL B B' ∧ ACE m kd pl vl Ls B' op (115 :: 101 :: ds) b p t' i s
theorem adv_before (h : LX C mX m kd pl vl Ls) {p p' : S_Parser} {i sg op : Nat} (hs : SP m kd pl vl p i sg op) (h4 : kd i ≠ 4) (ht : f_Parser_take p (Jn m, ar, kd, pl, vl) (kd i) = some p') : p'.2.2.2.2.1 = pl i := by
  obtain ⟨hi, h5, pb, fq, rfl, hpb⟩ := hs
  have hn := nxt h hi h5 h4
  have hm := h.2.2.2.2.2
  have n6 := KM_n6 (tokF h hi h5).1
  unfold f_Parser_take at ht
  dsimp only at ht
  rw [if_pos rfl, if_neg n6, addL i 1, if_neg J_nneg, if_neg (J_nle hn), if_neg (nleL 8193 (by omega))] at ht
  simp only [gd_Jn (show i + 1 < 8193 by omega) (show 8193 < 2147483648 by omega), nm_eq] at ht
  injection ht with ht
  rw [← ht]
/-- the word before a body, and the body's node -/
theorem behind_ace (h : LX C mX m kd pl vl Ls) {B op ds b p t i s} {x c T' : Int32} (hc : (c, T') ∈ KMT) (h4 : c ≠ 4) (hb : b ≤ 9) (hd : ds.length + 4 ≤ 200 + 20 * op) (hA : ACE m kd pl vl Ls B op (x :: ds) b p t i s)
    (hx : (T' = 19 ∧ kd i = c ∧ (x = 117 ∨ x = 120)) ∨ (∀ {L : S_ML} {N : S_MN} {T : S_MT} {U : S_MU} {O : S_MO} {E : S_ME} {r : S_ML × S_MN × S_MT × S_MU}, f_Model_bodyBehind C mX L N T U T' = some r → f_Model_act C mX L N T U O E x = some (r.1, r.2.1, r.2.2.1, r.2.2.2, O, E))) :
    ∃ p', f_Parser_take p (Jn m, ar, kd, pl, vl) c = some p' ∧ OK C mX m kd pl vl s i (-29) 1 p' (BIN m kd pl vl Ls B op ds (b - 1) p' t) := by
  obtain ⟨E, hE, hs, hop, h3, T, U, o3, len, rfl, hU, h6, h7⟩ := hA
  obtain ⟨hi, h5, _⟩ := id hs
  have hf := tokF h hi h5
  have hk := KM_iff hf.1 hc
  have hx' : ∀ {L : S_ML} {N : S_MN} {T : S_MT} {U : S_MU} {O : S_MO} {E : S_ME} {r : S_ML × S_MN × S_MT × S_MU}, L.2.1 = (Ls i).1.2.1 → f_Model_bodyBehind C mX L N T U T' = some r → f_Model_act C mX L N T U O E x = some (r.1, r.2.1, r.2.2.1, r.2.2.2, O, E) := by
    intro L N T U O E r hL hr
    rcases hx with ⟨h19, hki, hx⟩ | hx
    · have et : L.2.1 = 19 := by rw [hL, ← h19, ← hk]; exact hki
      rw [h19] at hr
      have he : f_Model_elseBody C mX L N T U = some r := by
        unfold f_Model_elseBody
        rw [if_pos et, hr]; rfl
      rcases hx with rfl | rfl
      · refine act_117 (r6 := r) ?_
        unfold f_Model_ifRest
        rw [if_neg (by rw [et]; decide), he]; rfl
      · exact act_120 he
    · exact hx hr
  by_cases e : kd i = c
  · obtain ⟨p', a1, a2, a2', a3⟩ := adv (ar := ar) h hs (by rw [e]; exact h4)
    have hbef := adv_before (ar := ar) h hs (by rw [e]; exact h4) a1
    rw [e] at a1
    have et : (Ls i).1.2.1 = T' := by rw [← hk]; exact e
    have hp : f_Model_pass C mX (Ls i).1 (Ls i).2 T' = some (Ls (i + 1)) := by
      unfold f_Model_pass
      rw [if_pos et, a2]; rfl
    refine ⟨p', a1, ?_⟩
    by_cases c5 : kd (i + 1) = 5
    · -- the next token is bad: nothing more is done
      have fnz : ¬ (Ls (i + 1)).1.2.2.2.2.2.1 = 0 := by
        rcases h.2.1 (i + 1) a2'.2.2 with ⟨z1, z2, z3⟩ | ⟨z1, _⟩
        · rw [z3]; exact z2
        · exact absurd c5 z1
      refine a3 _ T (Jn ds.length, U.2) (Jn op, 0, 0, o3) E 1 (-29) 1 _ (RUN.one (tokZ h hi h5) hU (hx' rfl (r := ((Ls (i + 1)).1, (Ls (i + 1)).2, T, (Jn ds.length, U.2))) ?_)) (by omega) (by omega) (fun hs' => absurd c5 hs'.2.1)
      unfold f_Model_bodyBehind
      rw [hp, ob_some, if_neg fnz]
    · obtain ⟨T1, t', B', l1, l2, l3, l3', l4, l5⟩ := h6.down (len_ok h hi (by omega) h7) 11 (pl i) 0
      obtain ⟨U1, u1, v1⟩ := push2_ok (U := (Jn ds.length, U.2)) hU.pop.2.2 (by rw [List.length_cons] at h3; omega) 101 115
      refine a3 _ T1 U1 (Jn op, 0, 0, o3) E 1 (-29) 1 _ (RUN.one (tokZ h hi h5) hU (hx' rfl (r := ((Ls (i + 1)).1, (Ls (i + 1)).2, T1, U1)) ?_)) (by omega) (by omega) ?_
      · unfold f_Model_bodyBehind
        rw [hp, ob_some, if_pos (tokZ h a2'.2.2 c5), hf.2.1, l1, ob_some, u1]; rfl
      · intro hs'
        refine ⟨t', B', by rw [hbef, l3]; exact l2, ⟨l3', l5⟩, E, hE, hs', hop, by simp only [List.length_cons]; omega, T1, U1, o3, len + 1, rfl, v1, l4, by omega⟩
  · have et : ¬ (Ls i).1.2.1 = T' := by rw [← hk]; exact e
    obtain ⟨w1, w2, w3⟩ := wrongOK h hs
    refine ⟨_, take_miss (by rw [hs.kind.1]; exact e), w3 _ (Ls i).2 T (Jn ds.length, U.2) (Jn op, 0, 0, o3) E 1 (-29) 1 _ _ w2 (RUN.one (tokZ h hi h5) hU (hx' rfl (r := (((Ls i).1.1, (Ls i).1.2.1, (Ls i).1.2.2.1, (Ls i).1.2.2.2.1, (Ls i).1.2.2.2.2.1, 6, pl i), (Ls i).2, T, (Jn ds.length, U.2))) ?_)) (by omega)⟩
    unfold f_Model_bodyBehind f_Model_pass
    rw [if_neg et, w1, ob_some, ob_some, if_neg (show ¬ (6 : Int32) = 0 by decide)]
end
end
section
/-! IF. -/
def BODS (C : S_MC) (mX : S_MX) (m : Nat) (ar : Int32) (kd pl vl : Nat → Int32) (Ls : Nat → S_ML × S_MN) (fb : S_Parser → S_Tokens → S_Tree → Int32 → Option (S_Parser × S_Tree)) (op : Nat) : Prop :=
  ∀ (B : BASE) (ds : List Int32) (b : Int) (p : S_Parser) (t : S_Tree) (i : Nat) (s : MSt), B.2.2.2.2.2.2 = 0 → BIN m kd pl vl Ls B op ds b p t i s → b ≤ 6 → ds.length + 13 ≤ 200 + 20 * op → ∃ r, fb p (Jn m, ar, kd, pl, vl) t (Jn B.2.1) = some r ∧ OK C mX m kd pl vl s i 2 62 r.1 (ACE m kd pl vl Ls B op ds b r.1 r.2)
section
variable {C : S_MC} {mX : S_MX} {m : Nat} {ar : Int32} {kd pl vl : Nat → Int32} {Ls : Nat → S_ML × S_MN}
theorem OK.andKind {s i c F p W} {k : Int32} (h : OK C mX m kd pl vl s i c F p W) (hk : ¬ p.2.1 = k) : OK C mX m kd pl vl s i c F p (fun i' s' => W i' s' ∧ ¬ p.2.1 = k) := h.mono (Int.le_refl _) (Int.le_refl _) (fun _ _ _ z => ⟨z, hk⟩)
theorem tokE (h : LX C mX m kd pl vl Ls) {B op ds b p t i s} (hA : ACE m kd pl vl Ls B op ds b p t i s) : KM (kd i) (Ls i).1.2.1 ∧ (Ls i).1.1 = pl i := by
  obtain ⟨E, hE, hA⟩ := hA
  exact hA.tok h
theorem ifL_ace (h : LX C mX m kd pl vl Ls) {fb : S_Parser → S_Tokens → S_Tree → Int32 → Option (S_Parser × S_Tree)} {op : Nat} (hfb : BODS C mX m ar kd pl vl Ls fb op) (hdb : ∀ {p i td}, PD p i td → ∀ t a, ∃ r, fb p (Jn m, ar, kd, pl, vl) t a = some r ∧ PD r.1 i td) {B : BASE} (hB0 : B.2.2.2.2.2.2 = 0) {ds} (hd : ds.length + 14 ≤ 200 + 20 * op) :
    ∀ (d f tn : Nat) (p : S_Parser) (t : S_Tree) (i : Nat) (s : MSt) (b : Int), b ≤ 6 → m - i < d → d ≤ f → tn ≤ i → ACE m kd pl vl Ls B op (117 :: ds) b p t i s →
    ∃ r, f_Parser_ifStatement_L39 fb (Jn B.2.1) (Jn m, ar, kd, pl, vl) f (Jn tn) p t = some r ∧ OK C mX m kd pl vl s i 0 40 r.1 (fun i' s' => ACE m kd pl vl Ls B op (117 :: ds) b r.1 r.2 i' s' ∧ ¬ r.1.2.1 = 274) := by
  have hm := h.2.2.2.2.2
  intro d
  induction d with
  | zero => intro f tn p t i s b hb h1; omega
  | succ d ih =>
    intro f tn p t i s b hb h1 h2 htn hA
    obtain ⟨f, rfl⟩ : ∃ g, f = g + 1 := ⟨f - 1, by omega⟩
    obtain ⟨k1, hi, hop, h3⟩ := hA.kind
    have htok := tokE h hA
    have q18 := KM_iff htok.1 (show ((274 : Int32), (18 : Int32)) ∈ KMT by decide)
    unfold f_Parser_ifStatement_L39
    rw [if_neg (nleL 8192 (by omega))]
    by_cases c : p.2.1 = 274
    · rw [if_pos c]
      have ck : kd i = 274 := by rw [← k1]; exact c
      obtain ⟨E, hE, hA'⟩ := hA
      obtain ⟨p1, e1, o1⟩ := perhapsYes (ar := ar) h hA' (by rw [ck]; decide) (ds' := 134 :: 137 :: 119 :: 117 :: ds) (by simp only [List.length_cons]; omega) (fun T U o3 hU hst => by
        obtain ⟨U1, u1, v1⟩ := push2_ok hU (by omega) 117 119
        obtain ⟨U2, u2, v2⟩ := pushE_ok v1 (by simp only [List.length_cons]; omega)
        refine ⟨U2, act_117 (r6 := ((Ls (i + 1)).1, (Ls (i + 1)).2, T, U2)) ?_, v2⟩
        unfold f_Model_ifRest
        rw [if_pos (by rw [← q18]; exact ck), u1, ob_some, u2, ob_some, hst]; rfl)
      rw [ck] at e1
      rw [e1, ob_some]
      obtain ⟨r2, e2, o2⟩ := (o1.ace hE).seq (fun i s _ hw => outer_ace (ar := ar) h (by omega) hw) (fun i td hd => dm_outermost hd _ _ _)
      rw [e2, ob_some]
      obtain ⟨p3, e3, o3⟩ := o2.seq (fun i s _ hw => behind_ace (ar := ar) (c := 273) h (show ((273 : Int32), (17 : Int32)) ∈ KMT by decide) (by decide) (by omega) (by simp only [List.length_cons]; omega) hw (Or.inr (fun hr => act_119 hr))) (fun i td hd => dm_take hd _ 273 (by decide))
      rw [e3, ob_some]
      obtain ⟨r4, e4, o4⟩ := o3.seq (fun i s _ hw => hfb B _ _ _ _ i s hB0 hw (by omega) (by simp only [List.length_cons]; omega)) (fun i td hd => hdb hd _ _)
      rw [e4, ob_some, nm_eq, addL tn 1]
      obtain ⟨r5, e5, o5⟩ := o4.seqP (fun i' s' hi' hpos hw => ih f (tn + 1) _ _ i' s' _ (by omega) (by omega) (by omega) (by omega) hw) (fun i td hd => ⟨_, by
        obtain ⟨g, rfl⟩ : ∃ g, f = g + 1 := ⟨f - 1, by omega⟩
        exact dm_L39 hd _ _ _ _ _ _, hd⟩)
      exact ⟨r5, e5, o5.mono (by omega) (by omega) (fun _ _ _ z => ⟨z.1.mono (by omega), z.2⟩)⟩
    · rw [if_neg c]
      exact ⟨_, rfl, (OK.ret ⟨hA, c⟩).mono (by omega) (Int.le_refl 40) (fun _ _ _ z => z)⟩
/-- the end of a statement that opened: END_x, and the class counts at once -/
theorem close_ace (h : LX C mX m kd pl vl Ls) {B op ds b p t i s} {c T' : Int32} (hc : (c, T') ∈ KMT) (h4 : c ≠ 4) (hA : ACE m kd pl vl Ls B op (T' :: ds) b p t i s) :
    ∃ q, f_Parser_takeClosing p (Jn m, ar, kd, pl, vl) c = some (clsQ q) ∧ OK C mX m kd pl vl s i (-29) 1 q (ACE m kd pl vl Ls B op ds (b - 2) q t) := by
  obtain ⟨q, e, o⟩ := pass_ace (ar := ar) h hc h4 hA
  exact ⟨q, closing_cls e, o⟩
/-- what a statement that opened leaves: its closing word is taken, its semicolon is due, and the class has one less open already -/
def STQ (C : S_MC) (mX : S_MX) (m : Nat) (kd pl vl : Nat → Int32) (Ls : Nat → S_ML × S_MN) (B : BASE) (op : Nat) (ds : List Int32) (b : Int) (i : Nat) (s : MSt) (r : S_Parser × S_Tree) : Prop :=
  ∃ q B', r.1 = clsQ q ∧ CL B B' ∧ OK C mX m kd pl vl s i (-20) 60 q (ACE m kd pl vl Ls B' (op + 1) (60 :: 118 :: 115 :: ds) b q r.2)
theorem if_ace (h : LX C mX m kd pl vl Ls) {fb : S_Parser → S_Tokens → S_Tree → Int32 → Option (S_Parser × S_Tree)} {op : Nat} (hfb : op < 60 → BODS C mX m ar kd pl vl Ls fb (op + 1)) (hdb : ∀ {p i td}, PD p i td → ∀ t a, ∃ r, fb p (Jn m, ar, kd, pl, vl) t a = some r ∧ PD r.1 i td) {B : BASE} (hB0 : B.2.2.2.2.2.2 = 0) {ds b p t i s} (hb : b ≤ 6) (hk : p.2.1 = 272) (hA : ACE m kd pl vl Ls B op (115 :: ds) b p t i s) :
    ∃ r, f_Parser_ifStatement fb p (Jn m, ar, kd, pl, vl) t (Jn B.2.1) = some r ∧ STQ C mX m kd pl vl Ls B op ds b i s r := by
  have hm := h.2.2.2.2.2
  obtain ⟨k1, hi, hop, h3⟩ := hA.kind
  rw [List.length_cons] at h3
  have htok := tokE h hA
  have ck : kd i = 272 := by rw [← k1]; exact hk
  have q16 := KM_iff htok.1 (show ((272 : Int32), (16 : Int32)) ∈ KMT by decide)
  have et : (Ls i).1.2.1 = 16 := by rw [← q16]; exact ck
  have kp : p.2.2.1 = pl i := by
    obtain ⟨E, hE, hA'⟩ := hA
    exact hA'.1.kind.2.1
  unfold f_Parser_ifStatement
  rw [kp]
  obtain ⟨t1, p1, B', e1, e2, hc, o1⟩ := downOpen (ar := ar) h hA (by rw [ck]; decide) (by omega) (ds' := 134 :: 137 :: 119 :: 117 :: 20 :: 60 :: 118 :: 115 :: ds) (by simp only [List.length_cons]; omega) 15 (pl i) 0 (by
    intro T U o3 E q _ ho
    refine act_115 (r2 := (q, (Ls i).2, T, U, (Jn op, 0, 0, o3))) ?_
    unfold f_Model_statements
    rw [if_neg (show ¬ (Ls i).1.2.1 = 60 by rw [et]; decide), if_neg (show ¬ (Ls i).1.2.1 = 80 by rw [et]; decide), if_pos et, ho, ob_some, if_pos rfl]) (by
    intro T T' U o3 E _ hU ho hl hst
    obtain ⟨U1, u1, v1⟩ := push4_ok hU (by omega) 115 118 60 20
    obtain ⟨U2, u2, v2⟩ := push2_ok v1 (by simp only [List.length_cons]; omega) 117 119
    obtain ⟨U3, u3, v3⟩ := pushE_ok v2 (by simp only [List.length_cons]; omega)
    refine ⟨U3, act_115 (r2 := ((Ls (i + 1)).1, (Ls (i + 1)).2, T', U3, (Jn (op + 1), 0, 0, o3))) ?_, v3⟩
    unfold f_Model_statements
    rw [if_neg (show ¬ (Ls i).1.2.1 = 60 by rw [et]; decide), if_neg (show ¬ (Ls i).1.2.1 = 80 by rw [et]; decide), if_pos et, ho, ob_some, if_neg (show ¬ (1 : Int32) = 0 by decide)]
    dsimp only
    unfold f_Model_compound
    rw [if_pos et, u1, ob_some, if_pos et, htok.2, hl, ob_some, u2, ob_some, u3, ob_some, hst]; rfl)
  rw [e1, ob_some, e2, ob_some]
  dsimp only
  obtain ⟨r2, e3, o2⟩ := o1.seq (fun i s _ hw => outer_ace (ar := ar) h (by omega) hw) (fun i td hd => dm_outermost hd _ _ _)
  rw [e3, ob_some]
  obtain ⟨p3, e4, o3⟩ := o2.seq (fun i s _ hw => behind_ace (ar := ar) (c := 273) h (show ((273 : Int32), (17 : Int32)) ∈ KMT by decide) (by decide) (by omega) (by simp only [List.length_cons]; omega) hw (Or.inr (fun hr => act_119 hr))) (fun i td hd => dm_take hd _ 273 (by decide))
  rw [e4, ob_some]
  obtain ⟨r4, e5, o4⟩ := o3.seq (fun i s _ hw => hfb (by
      obtain ⟨t', B2, _, _, E, hE, hA2⟩ := hw
      have := hA2.2.1
      omega) B' _ _ _ _ i s (hc.1.trans hB0) hw (by omega) (by simp only [List.length_cons]; omega)) (fun i td hd => hdb hd _ _)
  rw [e5, ob_some]
  obtain ⟨r5, e6, o5⟩ := o4.seq (fun i s _ hw => ifL_ace (ar := ar) h (hfb (by have := hw.kind.2.2.1; omega)) hdb (hc.1.trans hB0) (by simp only [List.length_cons]; omega) 9000 FU 0 _ _ i s _ (by omega) (by omega) (by decide) (by omega) hw) (fun i td hd => ⟨_, by rw [FU1]; exact dm_L39 hd _ _ _ _ _ _, hd⟩)
  rw [show (0 : Int32) = Jn 0 from rfl, e6, ob_some]
  by_cases c275 : r5.1.2.1 = 275
  · rw [if_pos c275]
    obtain ⟨p6, e7, o6⟩ := o5.seq (fun i s _ hw => behind_ace (ar := ar) (c := 275) h (show ((275 : Int32), (19 : Int32)) ∈ KMT by decide) (by decide) (by omega) (by simp only [List.length_cons]; omega) hw.1 (Or.inl ⟨rfl, by rw [← hw.1.kind.1]; exact c275, Or.inl rfl⟩)) (fun i td hd => dm_take hd _ 275 (by decide))
    rw [e7, ob_some]
    obtain ⟨r7, e8, o7⟩ := o6.seq (fun i s _ hw => hfb (by
        obtain ⟨t', B2, _, _, E, hE, hA2⟩ := hw
        have := hA2.2.1
        omega) B' _ _ _ _ i s (hc.1.trans hB0) hw (by omega) (by simp only [List.length_cons]; omega)) (fun i td hd => hdb hd _ _)
    rw [e8, ob_some]
    obtain ⟨q8, e9, o8⟩ := o7.seq (r := (f_Parser_take r7.1 (Jn m, ar, kd, pl, vl) 276)) (fun i s _ hw => pass_ace (ar := ar) (c := 276) h (show ((276 : Int32), (20 : Int32)) ∈ KMT by decide) (by decide) hw) (fun i td hd => dm_take hd _ 276 (by decide))
    rw [closing_cls e9, ob_some]
    exact ⟨_, rfl, q8, B', rfl, hc, o8.mono (by omega) (by omega) (fun _ _ _ z => z.mono (by omega))⟩
  · rw [if_neg c275]
    obtain ⟨q8, e9, o8⟩ := o5.seq (r := (f_Parser_take r5.1 (Jn m, ar, kd, pl, vl) 276)) (fun i s _ hw => by
      obtain ⟨⟨E, hE, hw'⟩, c274⟩ := hw
      have htok2 := hw'.tok h
      have hk2 := hw'.kind
      have qa := KM_iff htok2.1 (show ((274 : Int32), (18 : Int32)) ∈ KMT by decide)
      have qb := KM_iff htok2.1 (show ((275 : Int32), (19 : Int32)) ∈ KMT by decide)
      have o9 := (perhapsNo h hw' (fun T U o3 => act_117 (r6 := ((Ls i).1, (Ls i).2, T, U)) (by
        unfold f_Model_ifRest f_Model_elseBody
        rw [if_neg (by rw [← qa, ← hk2]; exact c274), if_neg (by rw [← qb, ← hk2]; exact c275)]; rfl))).ace hE
      exact o9.seq (fun i s _ hw => pass_ace (ar := ar) (c := 276) h (show ((276 : Int32), (20 : Int32)) ∈ KMT by decide) (by decide) hw) (fun i td hd => dm_take hd _ 276 (by decide))) (fun i td hd => dm_take hd _ 276 (by decide))
    rw [closing_cls e9, ob_some]
    exact ⟨_, rfl, q8, B', rfl, hc, o8.mono (by omega) (by omega) (fun _ _ _ z => z.mono (by omega))⟩
end
end
section
/-! CASE. -/
section
variable {C : S_MC} {mX : S_MX} {m : Nat} {ar : Int32} {kd pl vl : Nat → Int32} {Ls : Nat → S_ML × S_MN}
theorem dm_L4 {p i td} (h : PD p i td) (w : Int32) (tk : S_Tokens) (t : S_Tree) (v : Int32) (f : Nat) : ∃ b, f_Parser_ranges_L4 w tk (f + 1 + 1) v 1 p t = some b ∧ PD b.1 i td := by
  unfold f_Parser_ranges_L4
  rw [if_neg (by decide)]
  split
  · exact ⟨_, rfl, h⟩
  · refine dma fun r => dmb (dm_constant h tk _ _) fun b hb => ?_
    rw [if_neg (hb.ne 11822 (by decide) (by decide)), dm_takeComma hb, ob_some, nm_eq]
    dsimp only
    rw [dm_L4z]
    exact ⟨_, rfl, hb⟩
theorem rangesL_ace (h : LX C mX m kd pl vl Ls) {op : Nat} {B ds} (hd : ds.length + 10 ≤ 200 + 20 * op) :
    ∀ (d f tn : Nat) (p : S_Parser) (t : S_Tree) (i : Nat) (s : MSt) (b : Int), b ≤ 8 → m - i < d → d + 1 ≤ f → tn ≤ i → ACE m kd pl vl Ls B op (123 :: 124 :: ds) b p t i s →
    ∃ r, f_Parser_ranges_L4 (Jn B.2.1) (Jn m, ar, kd, pl, vl) f (Jn tn) 1 p t = some r ∧ OK C mX m kd pl vl s i (-25) 10 r.1 (ACE m kd pl vl Ls B op ds b r.1 r.2) := by
  have hm := h.2.2.2.2.2
  intro d
  induction d with
  | zero => intro f tn p t i s b hb h1; omega
  | succ d ih =>
    intro f tn p t i s b hb h1 h2 htn hA
    obtain ⟨f, rfl⟩ : ∃ g, f = g + 1 := ⟨f - 1, by omega⟩
    obtain ⟨g, rfl⟩ : ∃ g, f = g + 1 := ⟨f - 1, by omega⟩
    obtain ⟨k1, hi, hop, h3⟩ := hA.kind
    have htok := tokE h hA
    obtain ⟨E, hE, hA'⟩ := hA
    have kp := hA'.1.kind.2.1
    unfold f_Parser_ranges_L4
    rw [if_neg (show ¬ (1 : Int32) = 0 by decide), if_neg (nleL 8192 (by omega)), kp]
    obtain ⟨t1, B', e1, hc, o1⟩ := downStay h hA' (by omega) (ds' := 113 :: 125 :: 101 :: 124 :: ds) (by simp only [List.length_cons]; omega) 18 (pl i) 0 (by
      intro T T' U o3 hU hl
      obtain ⟨U1, u1, v1⟩ := push2_ok hU (by simp only [List.length_cons]; omega) 101 125
      obtain ⟨U2, u2, v2⟩ := push_ok v1 (by simp only [List.length_cons]; omega) 113
      refine ⟨U2, act_123 (r18 := (T', U2)) ?_, v2⟩
      unfold f_Model_range
      rw [htok.2, hl, ob_some, u1, ob_some, u2]; rfl)
    rw [e1, ob_some]
    dsimp only
    obtain ⟨r2, e2, o2⟩ := (o1.ace hE).seq (fun i s _ hw => constant_ace (ar := ar) h (by omega) hw) (fun i td hd => dm_constant hd _ _ _)
    rw [e2, ob_some]
    -- behind the range
    have tail : ∀ (q : S_Parser) (t2 : S_Tree) (i2 : Nat) (s2 : MSt) (b2 : Int), b2 ≤ b → i + 1 ≤ i2 → ACE m kd pl vl Ls B' op (101 :: 124 :: ds) b2 q t2 i2 s2 →
        ∃ r, ((f_Parser_takeComma q (Jn m, ar, kd, pl, vl)).bind fun r1146 => nm (Jn tn + 1) fun x => f_Parser_ranges_L4 (Jn B.2.1) (Jn m, ar, kd, pl, vl) (g + 1) x r1146.1 r1146.2 t2) = some r ∧ OK C mX m kd pl vl s2 i2 2 10 r.1 (ACE m kd pl vl Ls B op ds b r.1 r.2) := by
      intro q t2 i2 s2 b2 hb2 hi2 hw
      have o3 := up_ace h hc hw
      by_cases c44 : q.2.1 = 44
      · obtain ⟨p4, e4, o4⟩ := o3.seqP (r := f_Parser_take q (Jn m, ar, kd, pl, vl) 44) (pr := fun z => z) (c' := -29) (F' := 1) (W' := fun z i' s' => i2 ≤ i' ∧ ACE m kd pl vl Ls B op (123 :: 124 :: ds) (b2 - 2) z t2 i' s') (fun i3 s3 hi3 _ hw3 => by
          have hk3 : kd i3 = 44 := by rw [← hw3.kind.1]; exact c44
          have htok3 := tokE h hw3
          have q59 := KM_iff htok3.1 (show ((44 : Int32), (59 : Int32)) ∈ KMT by decide)
          have h33 := hw3.kind.2.2.2
          rw [List.length_cons] at h33
          obtain ⟨E3, hE3, hw3'⟩ := hw3
          obtain ⟨z, x1, x2⟩ := perhapsYes (ar := ar) h hw3' (by rw [hk3]; decide) (ds' := 123 :: 124 :: ds) (by simp only [List.length_cons]; omega) (fun T U o3 hU hst => by
            obtain ⟨U1, u1, v1⟩ := push_ok hU (by omega) 124
            obtain ⟨U2, u2, v2⟩ := push_ok v1 (by simp only [List.length_cons]; omega) 123
            exact ⟨U2, act_124 (perhaps_two (by rw [← q59]; exact hk3) (by decide) hst u1 u2), v2⟩)
          rw [hk3] at x1
          exact ⟨z, x1, x2.mono (Int.le_refl _) (Int.le_refl _) (fun i' s' hi' zz => ⟨by omega, E3, hE3, zz⟩)⟩) (fun i td hd => dm_take hd _ 44 (by decide))
        unfold f_Parser_takeComma
        rw [if_pos c44, e4, ob_some, ob_some, nm_eq, addL tn 1]
        dsimp only
        obtain ⟨r5, e5, o5⟩ := o4.seqP (fun i' s' hi' hpos hw5 => ih (g + 1) (tn + 1) _ _ i' s' _ (by omega) (by omega) (by omega) (by omega) hw5.2) (fun i' td hd' => by
          obtain ⟨g2, rfl⟩ : ∃ g2, g = g2 + 1 := ⟨g - 1, by omega⟩
          exact dm_L4 hd' _ _ _ _ _)
        exact ⟨r5, e5, o5.mono (by omega) (by omega) (fun _ _ _ z => z.mono (by omega))⟩
      · unfold f_Parser_takeComma
        rw [if_neg c44, ob_some, nm_eq]
        dsimp only
        rw [dm_L4z]
        obtain ⟨r', y1, o4⟩ := o3.seq (r := some (q, t2)) (pr := fun z => z.1) (c' := 1) (F' := 0) (W' := fun z => ACE m kd pl vl Ls B op ds b z.1 z.2) (fun i3 s3 _ hw3 => by
          have htok3 := tokE h hw3
          have hk3 := hw3.kind.1
          obtain ⟨E3, hE3, hw3'⟩ := hw3
          exact ⟨_, rfl, ((no_acc (a := 124) (f := 123) h (show ((44 : Int32), (59 : Int32)) ∈ KMT by decide) hw3' c44 (fun hp => act_124 hp)).ace hE3).mono (Int.le_refl _) (Int.le_refl _) (fun _ _ _ z => z.mono (by omega))⟩) (fun i td hd => ⟨_, rfl, hd⟩)
        injection y1 with y1
        subst y1
        exact ⟨_, rfl, o4.mono (by omega) (by omega) (fun _ _ _ z => z)⟩
    have tailD : ∀ (q : S_Parser) (t2 : S_Tree) (i2 : Nat) (td : Int32), PD q i2 td → ∃ r, ((f_Parser_takeComma q (Jn m, ar, kd, pl, vl)).bind fun r1146 => nm (Jn tn + 1) fun x => f_Parser_ranges_L4 (Jn B.2.1) (Jn m, ar, kd, pl, vl) (g + 1) x r1146.1 r1146.2 t2) = some r ∧ PD r.1 i2 td := by
      intro q t2 i2 td hq
      rw [dm_takeComma hq, ob_some, nm_eq]
      dsimp only
      rw [dm_L4z]
      exact ⟨_, rfl, hq⟩
    by_cases c : r2.1.2.1 = 11822
    · rw [if_pos c]
      obtain ⟨p3, e3, o3⟩ := o2.seqP (r := f_Parser_take r2.1 (Jn m, ar, kd, pl, vl) 11822) (pr := fun z => z) (c' := -29) (F' := 1) (W' := fun z i' s' => i + 1 ≤ i' ∧ ACE m kd pl vl Ls B' op (113 :: 101 :: 124 :: ds) (b - 2) z r2.2 i' s') (fun i3 s3 hi3 hpos hw3 => by
        obtain ⟨E3, hE3, hw3'⟩ := hw3
        obtain ⟨z, x1, x2⟩ := yes_acc (ar := ar) (f := 113) h (show ((11822 : Int32), (51 : Int32)) ∈ KMT by decide) (by decide) hw3' c (fun hp => act_125 hp)
        exact ⟨z, x1, x2.mono (Int.le_refl _) (Int.le_refl _) (fun i' s' hi' zz => ⟨by omega, E3, hE3, zz.mono (by omega)⟩)⟩) (fun i td hd => dm_take hd _ 11822 (by decide))
      rw [e3, ob_some]
      obtain ⟨r4, e4, o4⟩ := o3.seq (pr := fun z => z.1) (W' := fun z i' s' => i + 1 ≤ i' ∧ ACE m kd pl vl Ls B' op (101 :: 124 :: ds) (b - 3) z.1 z.2 i' s') (c' := -29) (F' := 2) (r := f_Parser_constant p3 (Jn m, ar, kd, pl, vl) r2.2 (Jn B'.2.1)) (fun i3 s3 hi3 hw3 => by
        obtain ⟨z, x1, x2⟩ := constant_ace (ar := ar) h (by omega) hw3.2
        exact ⟨z, x1, x2.mono (Int.le_refl _) (Int.le_refl _) (fun i' s' hi' zz => ⟨by have := hw3.1; omega, zz.mono (by omega)⟩)⟩) (fun i td hd => dm_constant hd _ _ _)
      rw [e4, ob_some]
      obtain ⟨r5, e5, o5⟩ := o4.seq (fun i3 s3 _ hw3 => tail _ _ i3 s3 _ (by omega) hw3.1 hw3.2) (fun i td hd => tailD _ _ _ _ hd)
      exact ⟨r5, e5, o5.mono (by omega) (by omega) (fun _ _ _ z => z)⟩
    · rw [if_neg c]
      obtain ⟨r5, e5, o5⟩ := o2.seqP (fun i3 s3 hi3 hpos hw3 => by
        obtain ⟨E3, hE3, hw3'⟩ := hw3
        have o6 := (no_acc (a := -1) (f := 113) h (show ((11822 : Int32), (51 : Int32)) ∈ KMT by decide) hw3' c (fun hp => act_125 hp)).ace hE3
        exact o6.seq (fun i4 s4 hi4 hw4 => tail _ _ i4 s4 _ (by omega) (by omega) hw4) (fun i td hd => tailD _ _ _ _ hd)) (fun i td hd => tailD _ _ _ _ hd)
      exact ⟨r5, e5, o5.mono (by omega) (by omega) (fun _ _ _ z => z)⟩
theorem isConstant_eq {L : S_ML} {K : Int32} (h : KM K L.2.1) : ((K = 45 ∨ K = 2 ∨ K = 291 ∨ K = 292) → f_Model_isConstant L = some 1) ∧ (¬ (K = 45 ∨ K = 2 ∨ K = 291 ∨ K = 292) → f_Model_isConstant L = some 0) := by
  have key : ∀ p ∈ KMT, ((p.1 = 45 ∨ p.1 = 2 ∨ p.1 = 291 ∨ p.1 = 292) → f_Model_isConstant (0, p.2, 0, 0, 0, 0, 0) = some 1) ∧ (¬ (p.1 = 45 ∨ p.1 = 2 ∨ p.1 = 291 ∨ p.1 = 292) → f_Model_isConstant (0, p.2, 0, 0, 0, 0, 0) = some 0) := by decide +kernel
  exact key (K, L.2.1) h
theorem startsConstant_eq (p : S_Parser) : ((p.2.1 = 45 ∨ p.2.1 = 2 ∨ p.2.1 = 291 ∨ p.2.1 = 292) → f_Parser_startsConstant p = some 1) ∧ (¬ (p.2.1 = 45 ∨ p.2.1 = 2 ∨ p.2.1 = 291 ∨ p.2.1 = 292) → f_Parser_startsConstant p = some 0) := by
  unfold f_Parser_startsConstant
  constructor
  · intro c
    by_cases a1 : p.2.1 = 45
    · rw [if_pos a1]
    rw [if_neg a1]
    by_cases a2 : p.2.1 = 2
    · rw [if_pos a2]
    rw [if_neg a2]
    by_cases a3 : p.2.1 = 291
    · rw [if_pos a3]
    rw [if_neg a3, if_pos (((c.resolve_left a1).resolve_left a2).resolve_left a3)]
  · intro c
    rw [if_neg (fun e => c (Or.inl e)), if_neg (fun e => c (Or.inr (Or.inl e))), if_neg (fun e => c (Or.inr (Or.inr (Or.inl e)))), if_neg (fun e => c (Or.inr (Or.inr (Or.inr e))))]
theorem caseL_ace (h : LX C mX m kd pl vl Ls) {fb : S_Parser → S_Tokens → S_Tree → Int32 → Option (S_Parser × S_Tree)} {op : Nat} (hfb : BODS C mX m ar kd pl vl Ls fb op) (hdb : ∀ {p i td}, PD p i td → ∀ t a, ∃ r, fb p (Jn m, ar, kd, pl, vl) t a = some r ∧ PD r.1 i td) {B : BASE} (hB0 : B.2.2.2.2.2.2 = 0) {ds} (hd : ds.length + 16 ≤ 200 + 20 * op) :
    ∀ (d f tn : Nat) (p : S_Parser) (t : S_Tree) (i : Nat) (s : MSt) (b : Int), b ≤ 5 → m - i < d → d ≤ f → tn ≤ i → ACE m kd pl vl Ls B op (121 :: ds) b p t i s →
    ∃ r, f_Parser_caseStatement_L34 fb (Jn B.2.1) (Jn m, ar, kd, pl, vl) f (Jn tn) p t = some r ∧ OK C mX m kd pl vl s i 1 60 r.1 (ACE m kd pl vl Ls B op ds b r.1 r.2) := by
  have hm := h.2.2.2.2.2
  intro d
  induction d with
  | zero => intro f tn p t i s b hb h1; omega
  | succ d ih =>
    intro f tn p t i s b hb h1 h2 htn hA
    obtain ⟨f, rfl⟩ : ∃ g, f = g + 1 := ⟨f - 1, by omega⟩
    obtain ⟨k1, hi, hop, h3⟩ := hA.kind
    have htok := tokE h hA
    obtain ⟨E, hE, hA'⟩ := hA
    have kp := hA'.1.kind.2.1
    unfold f_Parser_caseStatement_L34
    rw [if_neg (nleL 8192 (by omega))]
    by_cases c : p.2.1 = 45 ∨ p.2.1 = 2 ∨ p.2.1 = 291 ∨ p.2.1 = 292
    · rw [(startsConstant_eq p).1 c, ob_some, if_neg (show ¬ (1 : Int32) = 0 by decide), kp]
      obtain ⟨t1, B', e1, hc, o1⟩ := downStay h hA' (by omega) (ds' := 123 :: 124 :: 122 :: 101 :: 121 :: ds) (by simp only [List.length_cons]; omega) 17 (pl i) 0 (by
        intro T T' U o3 hU hl
        obtain ⟨U1, u1, v1⟩ := push4_ok hU (by omega) 121 101 122 124
        obtain ⟨U2, u2, v2⟩ := push_ok v1 (by simp only [List.length_cons]; omega) 123
        refine ⟨U2, act_121 (r14 := (T', U2)) ?_, v2⟩
        unfold f_Model_choices
        rw [(isConstant_eq htok.1).1 (by rw [← k1]; exact c), ob_some, if_neg (show ¬ (1 : Int32) = 0 by decide), htok.2, hl, ob_some, u1, ob_some, u2]; rfl)
      rw [e1, ob_some]
      dsimp only
      obtain ⟨r2, e2, o2⟩ := (o1.ace hE).seq (r := f_Parser_ranges p (Jn m, ar, kd, pl, vl) t1 (Jn B'.2.1)) (pr := fun z => z.1) (W' := fun z => ACE m kd pl vl Ls B' op (122 :: 101 :: 121 :: ds) (b + 1) z.1 z.2) (c' := -25) (F' := 10) (fun i s _ hw => by
        obtain ⟨r, x1, x2⟩ := rangesL_ace (ar := ar) h (by simp only [List.length_cons]; omega) 9000 FU 0 _ _ i s _ (by omega) (by omega) (by decide) (by omega) hw
        unfold f_Parser_ranges
        rw [show (0 : Int32) = Jn 0 from rfl, x1, ob_some]
        exact ⟨_, rfl, x2⟩) (fun i td hd => by
        unfold f_Parser_ranges
        rw [show FU = 999998 + 1 + 1 from rfl]
        exact dmb (dm_L4 hd _ _ _ _ _) fun b hb => ⟨_, rfl, hb⟩)
      rw [e2, ob_some]
      obtain ⟨p3, e3, o3⟩ := o2.seq (fun i s _ hw => behind_ace (ar := ar) (c := 58) h (show ((58 : Int32), (61 : Int32)) ∈ KMT by decide) (by decide) (by omega) (by simp only [List.length_cons]; omega) hw (Or.inr (fun hr => act_122 hr))) (fun i td hd => dm_take hd _ 58 (by decide))
      rw [e3, ob_some]
      obtain ⟨r4, e4, o4⟩ := o3.seq (fun i s _ hw => hfb B' _ _ _ _ i s (hc.1.trans hB0) hw (by omega) (by simp only [List.length_cons]; omega)) (fun i td hd => hdb hd _ _)
      rw [e4, ob_some, nm_eq, addL tn 1]
      obtain ⟨r5, e5, o5⟩ := o4.seqP (fun i' s' hi' hpos hw => (up_ace h hc hw).seqP (fun i2 s2 hi2 hp2 hw2 => ih f (tn + 1) _ _ i2 s2 _ (by omega) (by omega) (by omega) (by omega) hw2) (fun i td hd => ⟨_, by
          obtain ⟨g, rfl⟩ : ∃ g, f = g + 1 := ⟨f - 1, by omega⟩
          exact dm_L34 hd _ _ _ _ _ _, hd⟩)) (fun i td hd => ⟨_, by
          obtain ⟨g, rfl⟩ : ∃ g, f = g + 1 := ⟨f - 1, by omega⟩
          exact dm_L34 hd _ _ _ _ _ _, hd⟩)
      exact ⟨r5, e5, o5.mono (by omega) (by omega) (fun _ _ _ z => z.mono (by omega))⟩
    · rw [(startsConstant_eq p).2 c, ob_some, if_pos rfl]
      refine ⟨_, rfl, ((perhapsNo h hA' (fun T U o3 => ?_)).ace hE).mono (by omega) (by omega) (fun _ _ _ z => z)⟩
      refine act_121 (r14 := (T, U)) ?_
      unfold f_Model_choices
      rw [(isConstant_eq htok.1).2 (by rw [← k1]; exact c), ob_some, if_pos rfl]
theorem case_ace (h : LX C mX m kd pl vl Ls) {fb : S_Parser → S_Tokens → S_Tree → Int32 → Option (S_Parser × S_Tree)} {op : Nat} (hfb : op < 60 → BODS C mX m ar kd pl vl Ls fb (op + 1)) (hdb : ∀ {p i td}, PD p i td → ∀ t a, ∃ r, fb p (Jn m, ar, kd, pl, vl) t a = some r ∧ PD r.1 i td) {B : BASE} (hB0 : B.2.2.2.2.2.2 = 0) {ds b p t i s} (hb : b ≤ 6) (hk : p.2.1 = 277) (hA : ACE m kd pl vl Ls B op (115 :: ds) b p t i s) :
    ∃ r, f_Parser_caseStatement fb p (Jn m, ar, kd, pl, vl) t (Jn B.2.1) = some r ∧ STQ C mX m kd pl vl Ls B op ds b i s r := by
  have hm := h.2.2.2.2.2
  obtain ⟨k1, hi, hop, h3⟩ := hA.kind
  rw [List.length_cons] at h3
  have htok := tokE h hA
  have ck : kd i = 277 := by rw [← k1]; exact hk
  have q21 := KM_iff htok.1 (show ((277 : Int32), (21 : Int32)) ∈ KMT by decide)
  have et : (Ls i).1.2.1 = 21 := by rw [← q21]; exact ck
  have n16 : ¬ (Ls i).1.2.1 = 16 := by rw [et]; decide
  have kp : p.2.2.1 = pl i := by
    obtain ⟨E, hE, hA'⟩ := hA
    exact hA'.1.kind.2.1
  unfold f_Parser_caseStatement
  rw [kp]
  obtain ⟨t1, p1, B', e1, e2, hc, o1⟩ := downOpen (ar := ar) h hA (by rw [ck]; decide) (by omega) (ds' := 134 :: 137 :: 15 :: 121 :: 120 :: 22 :: 60 :: 118 :: 115 :: ds) (by simp only [List.length_cons]; omega) 16 (pl i) 0 (by
    intro T U o3 E q _ ho
    refine act_115 (r2 := (q, (Ls i).2, T, U, (Jn op, 0, 0, o3))) ?_
    unfold f_Model_statements
    rw [if_neg (show ¬ (Ls i).1.2.1 = 60 by rw [et]; decide), if_neg (show ¬ (Ls i).1.2.1 = 80 by rw [et]; decide), if_neg n16, if_pos et, ho, ob_some, if_pos rfl]) (by
    intro T T' U o3 E _ hU ho hl hst
    obtain ⟨U1, u1, v1⟩ := push4_ok hU (by omega) 115 118 60 22
    obtain ⟨U2, u2, v2⟩ := push2_ok v1 (by simp only [List.length_cons]; omega) 120 121
    obtain ⟨U3, u3, v3⟩ := push_ok v2 (by simp only [List.length_cons]; omega) 15
    obtain ⟨U4, u4, v4⟩ := pushE_ok v3 (by simp only [List.length_cons]; omega)
    refine ⟨U4, act_115 (r2 := ((Ls (i + 1)).1, (Ls (i + 1)).2, T', U4, (Jn (op + 1), 0, 0, o3))) ?_, v4⟩
    unfold f_Model_statements
    rw [if_neg (show ¬ (Ls i).1.2.1 = 60 by rw [et]; decide), if_neg (show ¬ (Ls i).1.2.1 = 80 by rw [et]; decide), if_neg n16, if_pos et, ho, ob_some, if_neg (show ¬ (1 : Int32) = 0 by decide)]
    dsimp only
    unfold f_Model_compound
    rw [if_neg n16, if_pos et, u1, ob_some, if_neg n16, if_pos et, htok.2, hl, ob_some, u2, ob_some, u3, ob_some, u4, ob_some, hst]; rfl)
  rw [e1, ob_some, e2, ob_some]
  dsimp only
  obtain ⟨r2, e3, o2⟩ := o1.seq (fun i s _ hw => outer_ace (ar := ar) h (by omega) hw) (fun i td hd => dm_outermost hd _ _ _)
  rw [e3, ob_some]
  obtain ⟨p3, e4, o3⟩ := o2.seq (fun i s _ hw => pass_ace (ar := ar) (c := 271) h (by decide) (by decide) hw) (fun i td hd => dm_take hd _ 271 (by decide))
  rw [e4, ob_some]
  obtain ⟨r5, e6, o5⟩ := o3.seq (fun i s _ hw => caseL_ace (ar := ar) h (hfb (by have := hw.kind.2.2.1; omega)) hdb (hc.1.trans hB0) (by simp only [List.length_cons]; omega) 9000 FU 0 _ _ i s _ (by omega) (by omega) (by decide) (by omega) hw) (fun i td hd => ⟨_, by rw [FU1]; exact dm_L34 hd _ _ _ _ _ _, hd⟩)
  rw [show (0 : Int32) = Jn 0 from rfl, e6, ob_some]
  by_cases c275 : r5.1.2.1 = 275
  · rw [if_pos c275]
    obtain ⟨p6, e7, o6⟩ := o5.seq (fun i s _ hw => behind_ace (ar := ar) (c := 275) h (show ((275 : Int32), (19 : Int32)) ∈ KMT by decide) (by decide) (by omega) (by simp only [List.length_cons]; omega) hw (Or.inl ⟨rfl, by rw [← hw.kind.1]; exact c275, Or.inr rfl⟩)) (fun i td hd => dm_take hd _ 275 (by decide))
    rw [e7, ob_some]
    obtain ⟨r7, e8, o7⟩ := o6.seq (fun i s _ hw => hfb (by
        obtain ⟨t', B2, _, _, E, hE, hA2⟩ := hw
        have := hA2.2.1
        omega) B' _ _ _ _ i s (hc.1.trans hB0) hw (by omega) (by simp only [List.length_cons]; omega)) (fun i td hd => hdb hd _ _)
    rw [e8, ob_some]
    obtain ⟨q8, e9, o8⟩ := o7.seq (r := (f_Parser_take r7.1 (Jn m, ar, kd, pl, vl) 278)) (fun i s _ hw => pass_ace (ar := ar) (c := 278) h (show ((278 : Int32), (22 : Int32)) ∈ KMT by decide) (by decide) hw) (fun i td hd => dm_take hd _ 278 (by decide))
    rw [closing_cls e9, ob_some]
    exact ⟨_, rfl, q8, B', rfl, hc, o8.mono (by omega) (by omega) (fun _ _ _ z => z.mono (by omega))⟩
  · rw [if_neg c275]
    obtain ⟨q8, e9, o8⟩ := o5.seq (r := (f_Parser_take r5.1 (Jn m, ar, kd, pl, vl) 278)) (fun i s _ hw => by
      obtain ⟨E, hE, hw'⟩ := hw
      have htok2 := hw'.tok h
      have hk2 := hw'.kind
      have qb := KM_iff htok2.1 (show ((275 : Int32), (19 : Int32)) ∈ KMT by decide)
      have o9 := (perhapsNo h hw' (fun T U o3 => act_120 (r12 := ((Ls i).1, (Ls i).2, T, U)) (by
        unfold f_Model_elseBody
        rw [if_neg (by rw [← qb, ← hk2]; exact c275)]))).ace hE
      exact o9.seq (fun i s _ hw => pass_ace (ar := ar) (c := 278) h (show ((278 : Int32), (22 : Int32)) ∈ KMT by decide) (by decide) hw) (fun i td hd => dm_take hd _ 278 (by decide))) (fun i td hd => dm_take hd _ 278 (by decide))
    rw [closing_cls e9, ob_some]
    exact ⟨_, rfl, q8, B', rfl, hc, o8.mono (by omega) (by omega) (fun _ _ _ z => z.mono (by omega))⟩
end
end
section
/-! FOR. -/
theorem dmc {p i td} (h : PD p i td) (tk : S_Tokens) (a : Int32) (ha : a ≠ 5) : ∃ q, f_Parser_takeClosing p tk a = some (clsQ q) ∧ PD q i td := by
  obtain ⟨q, e, hq⟩ := dm_take h tk a ha
  exact ⟨q, closing_cls e, hq⟩
section
variable {C : S_MC} {mX : S_MX} {m : Nat} {ar : Int32} {kd pl vl : Nat → Int32} {Ls : Nat → S_ML × S_MN}
theorem for_ace (h : LX C mX m kd pl vl Ls) {fb : S_Parser → S_Tokens → S_Tree → Int32 → Option (S_Parser × S_Tree)} {op : Nat} (hfb : op < 60 → BODS C mX m ar kd pl vl Ls fb (op + 1)) (hdb : ∀ {p i td}, PD p i td → ∀ t a, ∃ r, fb p (Jn m, ar, kd, pl, vl) t a = some r ∧ PD r.1 i td) {B : BASE} (hB0 : B.2.2.2.2.2.2 = 0) {ds b p t i s} (hb : b ≤ 6) (hk : p.2.1 = 279) (hA : ACE m kd pl vl Ls B op (115 :: ds) b p t i s) :
    ∃ r, f_Parser_forStatement fb p (Jn m, ar, kd, pl, vl) t (Jn B.2.1) = some r ∧ STQ C mX m kd pl vl Ls B op ds b i s r := by
  have hm := h.2.2.2.2.2
  obtain ⟨k1, hi, hop, h3⟩ := hA.kind
  rw [List.length_cons] at h3
  have htok := tokE h hA
  have ck : kd i = 279 := by rw [← k1]; exact hk
  have q23 := KM_iff htok.1 (show ((279 : Int32), (23 : Int32)) ∈ KMT by decide)
  have et : (Ls i).1.2.1 = 23 := by rw [← q23]; exact ck
  have n16 : ¬ (Ls i).1.2.1 = 16 := by rw [et]; decide
  have n21 : ¬ (Ls i).1.2.1 = 21 := by rw [et]; decide
  have n60 : ¬ (Ls i).1.2.1 = 60 := by rw [et]; decide
  have n80 : ¬ (Ls i).1.2.1 = 80 := by rw [et]; decide
  obtain ⟨E, hE, hs, _, _, T, U, o3, len, rfl, hU, h6, h7⟩ := hA
  obtain ⟨_, h5, _⟩ := id hs
  have kp := hs.kind.2.1
  obtain ⟨T', z, d1, d2, d3, d4, d5⟩ := h6.downM (len_ok h hi (by omega) h7) 19 (pl i) 0
  unfold f_Parser_forStatement
  rw [kp]
  by_cases c60 : op = 60
  · obtain ⟨w1, ⟨q, w2, w3⟩, w4⟩ := deepOK h hs (by omega) ((0 : Int32), (0 : Int32), o3)
    rw [Nat.add_zero] at w1
    rw [opening_deep w2, ob_some]
    have hrun : RUN C mX 1 ((Ls i).1, (Ls i).2, T, U, (Jn op, 0, 0, o3), E) (((Ls i).1.1, (Ls i).1.2.1, (Ls i).1.2.2.1, (Ls i).1.2.2.2.1, (Ls i).1.2.2.2.2.1, 7, pl i), (Ls i).2, T, (Jn ds.length, U.2), (Jn op, 0, 0, o3), E) := by
      refine RUN.one (tokZ h hi h5) hU (act_115 (r2 := (((Ls i).1.1, (Ls i).1.2.1, (Ls i).1.2.2.1, (Ls i).1.2.2.2.1, (Ls i).1.2.2.2.2.1, 7, pl i), (Ls i).2, T, (Jn ds.length, U.2), (Jn op, 0, 0, o3))) ?_)
      unfold f_Model_statements
      rw [if_neg n60, if_neg n80, if_neg n16, if_neg n21, if_pos et, w1, ob_some, if_pos rfl]
    obtain ⟨t1, B1, _, _, g3, _, g5⟩ := d5 (pl i) 0
    obtain ⟨r2, e2, hr2⟩ := dm_takeName w3 (Jn m, ar, kd, pl, vl)
    rw [e2, ob_some]
    obtain ⟨n3, t3, e3⟩ := add_tot t (Jn B.2.1) 19 (pl i) r2.1
    rw [e3, ob_some]
    obtain ⟨r4, e4, hr4⟩ := dm_take hr2 (Jn m, ar, kd, pl, vl) 14909 (by decide)
    rw [e4, ob_some]
    obtain ⟨r5, e5, hr5⟩ := dm_constant hr4 (Jn m, ar, kd, pl, vl) t3 n3
    dsimp only
    rw [e5, ob_some]
    obtain ⟨r6, e6, hr6⟩ := dm_take hr5 (Jn m, ar, kd, pl, vl) 280 (by decide)
    rw [e6, ob_some]
    obtain ⟨r7, e7, hr7⟩ := dm_constant hr6 (Jn m, ar, kd, pl, vl) r5.2 n3
    rw [e7, ob_some, if_neg (hr7.ne 281 (by decide) (by decide))]
    obtain ⟨r9, e9, hr9⟩ := dm_take hr7 (Jn m, ar, kd, pl, vl) 282 (by decide)
    rw [e9, ob_some]
    obtain ⟨r10, e10, hr10⟩ := hdb hr9 r7.2 n3
    rw [e10, ob_some]
    obtain ⟨q11, e11, hq11⟩ := dmc hr10 (Jn m, ar, kd, pl, vl) 283 (by decide)
    rw [e11, ob_some]
    exact ⟨_, rfl, q11, B1, rfl, ⟨g3, g5⟩, w4 _ (Ls i).2 T _ _ E 1 _ _ _ _ hq11 hrun (by omega)⟩
  · obtain ⟨p1, a1, a2, a2', a3⟩ := opening (ar := ar) h hs (by rw [ck]; decide) (by omega)
    obtain ⟨U1, u1, v1⟩ := push4_ok (U := (Jn ds.length, U.2)) hU.pop.2.2 (by omega) 115 118 60 27
    obtain ⟨U2, u2, v2⟩ := push4_ok v1 (by simp only [List.length_cons]; omega) 126 127 113 24
    obtain ⟨U3, u3, v3⟩ := push2_ok v2 (by simp only [List.length_cons]; omega) 113 50
    obtain ⟨U4, u4, v4⟩ := push_ok v3 (by simp only [List.length_cons]; omega) 105
    have hrun : RUN C mX 1 ((Ls i).1, (Ls i).2, T, U, (Jn op, 0, 0, o3), E) ((Ls (i + 1)).1, (Ls (i + 1)).2, T', U4, (Jn (op + 1), 0, 0, o3), E) := by
      refine RUN.one (tokZ h hi h5) hU (act_115 (r2 := ((Ls (i + 1)).1, (Ls (i + 1)).2, T', U4, (Jn (op + 1), 0, 0, o3))) ?_)
      unfold f_Model_statements
      rw [if_neg n60, if_neg n80, if_neg n16, if_neg n21, if_pos et, opens_ok (by omega), ob_some, if_neg (show ¬ (1 : Int32) = 0 by decide)]
      dsimp only
      unfold f_Model_compound
      rw [if_neg n16, if_neg n21, u1, ob_some, if_neg n16, if_neg n21, htok.2, d1, ob_some, u2, ob_some, u3, ob_some, u4, ob_some, a2]; rfl
    have o1 := a3 _ T' U4 (Jn (op + 1), 0, 0, o3) E 1 (-29) 1 (fun i' s' => i' = i + 1 ∧ SP m kd pl vl p1 i' 0 (op + 1) ∧ s' = ((Ls i').1, (Ls i').2, T', U4, (Jn (op + 1), 0, 0, o3), E)) hrun (by omega) (by omega) (fun hs' => ⟨rfl, hs', rfl⟩)
    obtain ⟨t1, B', g1, g2, g3, g4, g5⟩ := d5 (pl i) (vl (i + 1))
    have hc : CL B B' := ⟨g3, g5⟩
    rw [a1, ob_some]
    unfold f_Parser_takeName
    rw [a2'.2.1]
    obtain ⟨p2, e2, o2⟩ := o1.seq (r := f_Parser_take p1 (Jn m, ar, kd, pl, vl) 1) (pr := fun q => q) (W' := fun q => ACE m kd pl vl Ls B' (op + 1) (50 :: 113 :: 24 :: 113 :: 127 :: 126 :: 27 :: 60 :: 118 :: 115 :: ds) (b - 3) q t1) (c' := -29) (F' := 1) (fun i' s' _ hw => by
      obtain ⟨rfl, hs', rfl⟩ := hw
      obtain ⟨hi', h5', _⟩ := id hs'
      have hf' := tokF h hi' h5'
      obtain ⟨q, r, x1, x2, x3⟩ := passX (ar := ar) h hs' (show ((1 : Int32), (80 : Int32)) ∈ KMT by decide) (by decide)
      refine ⟨q, x1, ?_⟩
      have sv : ∀ w, (T'.1, Jn z, T'.2.2.1, T'.2.2.2.1, upd T'.2.2.2.2.1 z w, T'.2.2.2.2.2) = setV T' z (pl i) w := by
        intro w
        have := setVal (v := w) d4
        rw [d2] at this
        exact this
      refine x3 _ (setV T' z (pl i) (Ls (i + 1)).1.2.2.1) (Jn (50 :: 113 :: 24 :: 113 :: 127 :: 126 :: 27 :: 60 :: 118 :: 115 :: ds).length, U4.2) (Jn (op + 1), 0, 0, o3) E 1 (-29) 1 _ (RUN.one (tokZ h hi' h5') v4 (act_105 (r12 := (r.1, r.2, setV T' z (pl i) (Ls (i + 1)).1.2.2.1)) ?_)) (by omega) (by omega) ?_
      · unfold f_Model_title
        rw [d2, gd_Jn d3 (by omega), x2, ob_some, Jn_cl (by omega), sv]
      · intro hs3
        have isName : kd (i + 1) = 1 := by
          apply Classical.byContradiction
          intro c
          rw [take_miss (by rw [hs'.kind.1]; exact c)] at x1
          injection x1 with x1
          have := hs3.kind.1
          rw [← x1] at this
          have h6' : kd (i + 1 + 1) = 6 := this.symm
          exact KM_n6 (tokF h hs3.1 hs3.2.1).1 h6'
        rw [hf'.2.2.2.1 (Or.inl isName)]
        exact ⟨E, hE, hs3, by omega, by simp only [List.length_cons]; omega, _, _, o3, len + 1, rfl, v4.pop.2.2, g4, by omega⟩) (fun i' td hd => dm_take hd _ 1 (by decide))
    rw [e2, ob_some, ob_some]
    dsimp only
    rw [g1, ob_some]
    dsimp only
    rw [← g2]
    obtain ⟨p3, e3, o3'⟩ := o2.seq (fun i s _ hw => pass_ace (ar := ar) (c := 14909) h (by decide) (by decide) hw) (fun i td hd => dm_take hd _ 14909 (by decide))
    rw [e3, ob_some]
    obtain ⟨r4, e4, o4⟩ := o3'.seq (fun i s _ hw => constant_ace (ar := ar) h (by omega) hw) (fun i td hd => dm_constant hd _ _ _)
    rw [e4, ob_some]
    obtain ⟨p5, e5, o5⟩ := o4.seq (fun i s _ hw => pass_ace (ar := ar) (c := 280) h (by decide) (by decide) hw) (fun i td hd => dm_take hd _ 280 (by decide))
    rw [e5, ob_some]
    obtain ⟨r6, e6, o6⟩ := o5.seq (fun i s _ hw => constant_ace (ar := ar) h (by omega) hw) (fun i td hd => dm_constant hd _ _ _)
    rw [e6, ob_some]
    by_cases c281 : r6.1.2.1 = 281
    · rw [if_pos c281]
      obtain ⟨p7, e7, o7⟩ := o6.seq (r := f_Parser_take r6.1 (Jn m, ar, kd, pl, vl) 281) (pr := fun q => q) (W' := fun q => ACE m kd pl vl Ls B' (op + 1) (113 :: 126 :: 27 :: 60 :: 118 :: 115 :: ds) (b - 3) q r6.2) (c' := -29) (F' := 1) (fun i s _ hw => by
        obtain ⟨E3, hE3, hw'⟩ := hw
        obtain ⟨q, x1, x2⟩ := yes_acc (ar := ar) (f := 113) h (show ((281 : Int32), (25 : Int32)) ∈ KMT by decide) (by decide) hw' c281 (fun hp => act_127 hp)
        exact ⟨q, x1, (x2.ace hE3).mono (Int.le_refl _) (Int.le_refl _) (fun _ _ _ z => z.mono (by omega))⟩) (fun i td hd => absurd c281 (hd.ne 281 (by decide) (by decide)))
      rw [e7, ob_some]
      obtain ⟨r8, e8, o8⟩ := o7.seq (fun i s _ hw => constant_ace (ar := ar) h (by omega) hw) (fun i td hd => dm_constant hd _ _ _)
      rw [e8, ob_some]
      obtain ⟨p9, e9, o9⟩ := o8.seq (fun i s _ hw => behind_ace (ar := ar) (c := 282) h (show ((282 : Int32), (26 : Int32)) ∈ KMT by decide) (by decide) (by omega) (by simp only [List.length_cons]; omega) hw (Or.inr (fun hr => act_126 hr))) (fun i td hd => dm_take hd _ 282 (by decide))
      rw [e9, ob_some]
      obtain ⟨r10, e10, o10⟩ := o9.seq (fun i s _ hw => hfb (by omega) B' _ _ _ _ i s (hc.1.trans hB0) hw (by omega) (by simp only [List.length_cons]; omega)) (fun i td hd => hdb hd _ _)
      rw [e10, ob_some]
      obtain ⟨q11, e11, o11⟩ := o10.seq (r := (f_Parser_take r10.1 (Jn m, ar, kd, pl, vl) 283)) (fun i s _ hw => pass_ace (ar := ar) (c := 283) h (show ((283 : Int32), (27 : Int32)) ∈ KMT by decide) (by decide) hw) (fun i td hd => dm_take hd _ 283 (by decide))
      rw [closing_cls e11, ob_some]
      exact ⟨_, rfl, q11, B', rfl, hc, o11.mono (by omega) (by omega) (fun _ _ _ z => z.mono (by omega))⟩
    · rw [if_neg c281]
      obtain ⟨p9, e9, o9⟩ := o6.seq (fun i s _ hw => by
        obtain ⟨E3, hE3, hw'⟩ := hw
        have o7 := (no_acc (a := -1) (f := 113) h (show ((281 : Int32), (25 : Int32)) ∈ KMT by decide) hw' c281 (fun hp => act_127 hp)).ace hE3
        exact o7.seq (fun i s _ hw => behind_ace (ar := ar) (c := 282) h (show ((282 : Int32), (26 : Int32)) ∈ KMT by decide) (by decide) (by omega) (by simp only [List.length_cons]; omega) hw (Or.inr (fun hr => act_126 hr))) (fun i td hd => dm_take hd _ 282 (by decide))) (fun i td hd => dm_take hd _ 282 (by decide))
      rw [e9, ob_some]
      obtain ⟨r10, e10, o10⟩ := o9.seq (fun i s _ hw => hfb (by omega) B' _ _ _ _ i s (hc.1.trans hB0) hw (by omega) (by simp only [List.length_cons]; omega)) (fun i td hd => hdb hd _ _)
      rw [e10, ob_some]
      obtain ⟨q11, e11, o11⟩ := o10.seq (r := (f_Parser_take r10.1 (Jn m, ar, kd, pl, vl) 283)) (fun i s _ hw => pass_ace (ar := ar) (c := 283) h (show ((283 : Int32), (27 : Int32)) ∈ KMT by decide) (by decide) hw) (fun i td hd => dm_take hd _ 283 (by decide))
      rw [closing_cls e11, ob_some]
      exact ⟨_, rfl, q11, B', rfl, hc, o11.mono (by omega) (by omega) (fun _ _ _ z => z.mono (by omega))⟩
end
end
section
/-! Assignments: the class puts the node in front of its target afterwards. -/
theorem CT.uniq {t l l'} (h : CT t l) (h' : CT t l') : l = l' := by
  obtain ⟨a1, a2, a3⟩ := h
  obtain ⟨b1, b2, b3⟩ := h'
  have hl : l.length = l'.length := by
    rw [a1, Jn_eq (by omega) (by omega)] at b1; exact b1
  apply List.ext_getElem hl
  intro k h1 h2
  obtain ⟨c1, c2, c3, c4, c5⟩ := a3 k h1
  obtain ⟨d1, d2, d3, d4, d5⟩ := b3 k h2
  have e1 : l.getD k e0 = l[k] := by rw [List.getD_eq_getElem?_getD, List.getElem?_eq_getElem h1]; rfl
  have e2 : l'.getD k e0 = l'[k] := by rw [List.getD_eq_getElem?_getD, List.getElem?_eq_getElem h2]; rfl
  rw [e1] at c1 c2 c3 c4 c5
  rw [e2] at d1 d2 d3 d4 d5
  rw [c4, Jn_eq (by omega) (by omega)] at d4
  exact Prod.ext (c1.symm.trans d1) (Prod.ext (c2.symm.trans d2) (Prod.ext (c3.symm.trans d3) d4))
theorem TA.swap {B t t2 T len l} (h : TA B t T len) (h1 : CT t l) (h2 : CT t2 l) : TA B t2 T len := by
  obtain ⟨ch, new, D, seg, a1, a2⟩ := h
  have e := a1.uniq h1
  rw [← e] at h2
  exact ⟨ch, new, D, seg, h2, a2⟩
theorem TA.e1 {B t T len} (h : TA B t T len) : B.2.2.2.2.2.2 ≤ 1 := by
  obtain ⟨ch, new, D, seg, h1, h2, h3, h4, h5, h6, h7, h8, h9, h10, h11, h12⟩ := h
  exact h12
theorem TA.size {B t T len} (h : TA B t T len) : t.1 = Jn len := by
  obtain ⟨ch, new, D, seg, h1, h2, h3, h4, h5, h6, h7, h8, h9, h10, h11, h12⟩ := h
  rw [h1.1, h10, List.length_append, bump_len]
/-- name := -/
theorem TA.assign {B t T len} (h : TA B t T len) (hl : len + 1 < 16384) (P nP nN : Int32) : ∃ T1 T2 t1 t2 B', f_Model_down T 12 P 0 = some T1 ∧ f_Model_leaf T1 6 nP nN = some T2 ∧ f_Tree_add t (Jn B.2.1) 6 nP nN = some (Jn len, t1) ∧ f_Tree_wrap t1 (Jn len) 12 P 0 = some t2 ∧ B'.2.1 = len ∧ CL B B' ∧ TA B' t2 T2 (len + 2) := by
  obtain ⟨T1, z, A, chd, x1, x2, x3, x3', x4, x5, x6, x7, x8, x9, x10⟩ := h.downX (by omega) 12 P 0
  obtain ⟨tx, y1, y2⟩ := x9 12 P 0
  obtain ⟨t1, y3, y4⟩ := x9 6 nP nN
  have eL : (A ++ [((12 : Int32), P, (0 : Int32), 0)]).length = len + 1 := by rw [List.length_append, List.length_singleton, x6]
  have init := TA_init (idx := len) (e := B.2.2.2.2.2.2) y2 (by rw [eL]; omega) x7 x2 (Nat.lt_succ_self z) (by rw [eL]; omega) h.e1
  rw [eL] at init
  obtain ⟨T2, t2', g1, g2, g3⟩ := init.leaf (by omega) 6 nP nN
  obtain ⟨tw, w1, w2⟩ := wrap_ok y4 (List.cons_ne_nil _ _) (by rw [List.length_append, List.length_singleton]; omega) 12 P 0
  rw [x6] at w1
  obtain ⟨ty, z1, z2⟩ := add_ok y2 (p := len) (by rw [eL]; omega) (by rw [eL]; omega) 6 nP nN
  rw [z1] at g2
  injection g2 with g2
  injection g2 with _ g2
  subst g2
  have eb : bump (A ++ [((12 : Int32), P, (0 : Int32), 0)]) len 1 = A ++ [(12, P, 0, 1)] := by
    have := bump_mid A ((12 : Int32), P, (0 : Int32), 0) [] 1
    rw [x6] at this
    exact this
  rw [eb, List.append_assoc] at z2
  have sv := setV_id x4
  refine ⟨T1, T2, t1, tw, (A ++ [(12, P, 0, 0)], len, T1, chd, z + 1, z, B.2.2.2.2.2.2), x1, g1, y3, w1, rfl, ⟨rfl, ?_⟩, g3.swap z2 w2⟩
  intro t2 T3 len2 hi
  refine x10 P 0 t2 T3 len2 ?_
  rw [sv]; exact hi
/-- name[ .. ] := -/
theorem TA.elem {B t T len} (h : TA B t T len) (hl : len + 1 < 16384) (he : B.2.2.2.2.2.2 = 0) (P0 nP nN : Int32) : ∃ T1 T2 t1 B2 z, f_Model_down T 12 P0 0 = some T1 ∧ f_Model_down T1 32 nP nN = some T2 ∧ f_Tree_add t (Jn B.2.1) 32 nP nN = some (Jn len, t1) ∧ B2.2.1 = len ∧ TA B2 t1 T2 (len + 1) ∧ z < 20000 ∧
    ∀ t2 T3 len2, TA B2 t2 T3 len2 → len2 < 16384 → ∃ T4, f_Model_up T3 = some T4 ∧ T4.2.1 = Jn z ∧ dat T4 z = (12, P0, 0) ∧ ∀ P, ∃ t3 B1, f_Tree_wrap t2 (Jn len) 12 P 0 = some t3 ∧ B1.2.1 = len ∧ CL B B1 ∧ TA B1 t3 (setV T4 z P 0) (len2 + 1) := by
  obtain ⟨T1, z, A, chd, x1, x2, x3, x3', x4, x5, x6, x7, x8, x9, x10⟩ := h.downX (by omega) 12 P0 0
  rw [he] at x3' x10
  obtain ⟨t1, y3, y4⟩ := x9 32 nP nN
  have eL : (A ++ [((32 : Int32), nP, nN, 0)]).length = len + 1 := by rw [List.length_append, List.length_singleton, x6]
  obtain ⟨Tc, c1, c2, c3, c4, c5, c6⟩ := make_ok x7 (by omega) 32 nP nN
  obtain ⟨Td, d1, d2, d3, d4, d5, d6⟩ := hang_ok c2 (y := z + 1) (x := z) (by omega) (by omega) c4
  generalize hcd : updN (updN chd (z + 1) []) z (updN chd (z + 1) [] z ++ [z + 1]) = chD at d2
  have hcz : chD z = [z + 1] := by
    rw [← hcd, updN_self, updN_ne _ _ (by omega), x8]; rfl
  have hcz1 : chD (z + 1) = [] := by
    rw [← hcd, updN_ne _ _ (by omega), updN_self]
  have hcy : ∀ y, y < z → chD y = chd y := by
    intro y hy
    rw [← hcd, updN_ne _ _ (by omega), updN_ne _ _ (by omega)]
  have hG2 : GT (Td.1, Jn (z + 1), Td.2.2) (z + 2) chD := by
    obtain ⟨rk, g1, g2, g3, g4, g5⟩ := d2
    exact ⟨rk, g1, g2, g3, g4, g5⟩
  have init := TA_init (idx := len) (z := z + 1) (e := 1) y4 (by rw [eL]; omega) hG2 rfl (by omega) (by rw [eL]; omega) (by omega)
  rw [eL] at init
  refine ⟨T1, (Td.1, Jn (z + 1), Td.2.2), t1, (A ++ [(32, nP, nN, 0)], len, (Td.1, Jn (z + 1), Td.2.2), chD, z + 2, z + 1, 1), z, x1, ?_, y3, rfl, init, x3, ?_⟩
  · unfold f_Model_down
    rw [c1, ob_some]
    dsimp only
    rw [c3, x2, d1, ob_some]
  · intro t2 T3 len2 hi hlen2
    obtain ⟨ch3, new3, D3, seg3, i1, i2, i3, i4, i5, i6, i7, i8, i9, i10, i11, i12⟩ := hi
    dsimp only at *
    have n1 := i6 (z + 1) (by omega)
    rw [if_pos rfl, hcz1, List.nil_append] at n1
    have n0 := i6 z (by omega)
    rw [if_neg (by omega), hcz] at n0
    have parz1 : par T3 (z + 1) = Jn z := by rw [n1.2.2]; exact d4
    have datz : dat T3 z = (12, P0, 0) := by
      rw [n0.2.1]
      show dat Td z = _
      rw [d6, (c6 z (by omega)).2, x4]
    have datz1 : dat T3 (z + 1) = (32, nP, nN) := by
      rw [n1.2.1]
      show dat Td (z + 1) = _
      rw [d6, c5]
    refine ⟨(T3.1, Jn z, T3.2.2), ?_, rfl, datz, ?_⟩
    · unfold f_Model_up
      rw [i4, gd_Jn (by omega) (by omega), Jn_cl (by omega)]
      have : T3.2.2.2.2.2.1 (z + 1) = Jn z := parz1
      rw [this]; rfl
    · intro P
      have el : bump (A ++ [((32 : Int32), nP, nN, 0)]) len new3.length ++ seg3 = A ++ ((32, nP, nN, new3.length) :: seg3) := by
        have := bump_mid A ((32 : Int32), nP, nN, 0) [] new3.length
        rw [x6] at this
        rw [this]
        unfold inc
        dsimp only
        rw [Nat.zero_add, List.append_assoc]; rfl
      rw [el] at i1
      obtain ⟨t3, w1, w2⟩ := wrap_ok i1 (List.cons_ne_nil _ _) (by simp only [List.length_append, List.length_cons]; rw [i10, eL] at hlen2; omega) 12 P 0
      rw [x6] at w1
      refine ⟨t3, (A ++ [(12, P, 0, 0)], len, setV T1 z P 0, chd, z + 1, z, 0), w1, rfl, ⟨he.symm, fun t2 T2 l2 hh => x10 P 0 t2 T2 l2 hh⟩, ?_⟩
      have eL1 : (A ++ [((12 : Int32), P, (0 : Int32), 0)]).length = len + 1 := by rw [List.length_append, List.length_singleton, x6]
      refine ⟨ch3, [z + 1], (z + 1) :: D3, (32, nP, nN, new3.length) :: seg3, ?_, by dsimp only; rw [eL1]; omega, ?_, rfl, by dsimp only; omega, ?_, ?_, ?_, ?_, ?_, by dsimp only; rw [eL1]; omega, by dsimp only; omega⟩
      · dsimp only
        have := bump_mid A ((12 : Int32), P, (0 : Int32), 0) [] 1
        rw [x6] at this
        rw [List.length_singleton, this, List.append_assoc]
        exact w2
      · dsimp only
        rw [List.length_cons, show z + 1 + (seg3.length + 1) = z + 2 + seg3.length by omega]
        obtain ⟨rk, g1, g2, g3, g4, g5⟩ := i3
        exact ⟨rk, g1, g2, g3, g4, g5⟩
      · intro y hy
        dsimp only at hy ⊢
        by_cases c : y = z
        · subst c
          refine ⟨by rw [if_pos rfl, x8, n0.1]; rfl, ?_, ?_⟩
          · have e1 : dat (setV (T3.1, Jn y, T3.2.2) y P 0) y = (12, P, 0) := by
              unfold dat setV
              dsimp only
              rw [upd_self, upd_self]
              unfold dat at datz
              injection datz with q1 q2
              rw [q1]
            have e2 : dat (setV T1 y P 0) y = (12, P, 0) := by
              unfold dat setV
              dsimp only
              rw [upd_self, upd_self]
              unfold dat at x4
              injection x4 with q1 q2
              rw [q1]
            rw [e1, e2]
          · show par T3 y = par T1 y
            rw [n0.2.2]
            show par Td y = _
            rw [d5 y (by omega), (c6 y (by omega)).1]
        · rw [if_neg c]
          obtain ⟨q1, q2, q3⟩ := i6 y (by omega)
          rw [if_neg (by omega), hcy y (by omega)] at q1
          refine ⟨q1, ?_, ?_⟩
          · have e1 : dat (setV (T3.1, Jn z, T3.2.2) z P 0) y = dat T3 y := by
              unfold dat setV
              dsimp only
              rw [upd_ne _ _ c, upd_ne _ _ c]
            have e2 : dat (setV T1 z P 0) y = dat T1 y := by
              unfold dat setV
              dsimp only
              rw [upd_ne _ _ c, upd_ne _ _ c]
            rw [e1, e2, q2]
            show dat Td y = _
            rw [d6, (c6 y (by omega)).2]
          · show par T3 y = par T1 y
            rw [q3]
            show par Td y = _
            rw [d5 y (by omega), (c6 y (by omega)).1]
      · refine PreI.one ?_
        rw [n1.1]; exact i7
      · intro y hy
        dsimp only
        rw [List.length_cons]
        rcases List.mem_cons.mp hy with e | e
        · subst e; omega
        · have := i8 y e; omega
      · have entS : ∀ y, y ≠ z → ent (setV (T3.1, Jn z, T3.2.2) z P 0) ch3 y = ent T3 ch3 y := by
          intro y c
          unfold ent
          have e1 : dat (setV (T3.1, Jn z, T3.2.2) z P 0) y = dat T3 y := by
            unfold dat setV
            dsimp only
            rw [upd_ne _ _ c, upd_ne _ _ c]
          rw [e1]
        rw [List.map_cons, entS _ (by omega)]
        congr 1
        · unfold ent
          rw [datz1, n1.1]
        · rw [← i9]
          apply map_congr'
          intro y hy
          have := i8 y hy
          exact entS y (by omega)
      · dsimp only
        rw [i10, eL1, List.length_cons, eL]; omega
end
