section
/-! The reference's writer: the rest of the nodes, and the whole tree. -/
section
variable {C : S_MC} {Nm : S_MN} {T : S_MT} {ns : List (List Int32)} {N : Nat} {ch : Nat → List Nat} {rk : Nat → Nat}
theorem leafG {x : Nat} {k v : Int32} {c : FO} {X : List Tok} (h : EMI C Nm T ns [(1, Jn x)] X 1 1) (e : innT k v c = X) : GOAL C Nm T ns x k v c := by
  show EMI C Nm T ns _ (innT k v c) _ _
  rw [e]
  exact h.mono (by have := nk3 k; omega) (by omega)
theorem nd_name {x : Nat} {v : Int32} {c : FO} (h : NX C Nm T ns N ch rk x 6 v c) (hks : (FO.ks c) = []) (hn : nmd ns.length v) : GOAL C Nm T ns x 6 v c := by
  have hxl := Jn_cl (show x < 2147483648 by have := h.hx; omega)
  have hc0 := ks_nil hks
  subst hc0
  obtain ⟨i, rfl, hi⟩ := hn
  refine leafG (X := [(1, Jn i)]) (EMI.put (G := fun V => f_Model_putName Nm V (Jn i)) (fun V I => ?_) (mname h.mn hi)) rfl
  rw [opB h.hx (by rw [h.kind]; decide)]
  unfold f_Model_openBlock
  simp (decide := true) only [gd_Jn h.hx n20, hxl, h.kind, h.val, if_true, if_false]
theorem nd_btype {x : Nat} {v : Int32} {c : FO} (h : NX C Nm T ns N ch rk x 10 v c) (hks : (FO.ks c) = []) (hn : nmd ns.length v) : GOAL C Nm T ns x 10 v c := by
  have hxl := Jn_cl (show x < 2147483648 by have := h.hx; omega)
  have hc0 := ks_nil hks
  subst hc0
  obtain ⟨i, rfl, hi⟩ := hn
  refine leafG (X := [(1, Jn i)]) (EMI.put (G := fun V => f_Model_putName Nm V (Jn i)) (fun V I => ?_) (mname h.mn hi)) rfl
  rw [opB h.hx (by rw [h.kind]; decide)]
  unfold f_Model_openBlock
  simp (decide := true) only [gd_Jn h.hx n20, hxl, h.kind, h.val, if_true, if_false]
theorem nd_place {x : Nat} {v : Int32} {c : FO} (h : NX C Nm T ns N ch rk x 7 v c) (hks : (FO.ks c) = []) (hn : ∃ a : Nat, v = Jn a ∧ a < 1536) : GOAL C Nm T ns x 7 v c := by
  have hxl := Jn_cl (show x < 2147483648 by have := h.hx; omega)
  have hc0 := ks_nil hks
  subst hc0
  obtain ⟨i, rfl, hi⟩ := hn
  refine leafG (X := [(3, Jn i)]) (EMI.put (G := fun V => f_Model_putPlace C V (Jn i)) (fun V I => ?_) (mplace h.mc hi)) rfl
  rw [opB h.hx (by rw [h.kind]; decide)]
  unfold f_Model_openBlock
  simp (decide := true) only [gd_Jn h.hx n20, hxl, h.kind, h.val, if_true, if_false]
theorem nd_type {x : Nat} {c : FO} {w : Nat} (h : NX C Nm T ns N ch rk x 8 (Jn w) c) (hks : (FO.ks c) = []) (hw : w < 3) : GOAL C Nm T ns x 8 (Jn w) c := by
  have hxl := Jn_cl (show x < 2147483648 by have := h.hx; omega)
  have hc0 := ks_nil hks
  subst hc0
  have ei : innT 8 (Jn w) FO.nil = [(Jn (256 + (11 + w)), 0)] := by
    match w, hw with
    | 0, _ => rfl
    | 1, _ => rfl
    | 2, _ => rfl
  refine leafG (EMI.put (G := fun V => f_Model_putToken C V (Jn (11 + w))) (fun V I => ?_) (mword h.mc (by omega))) ei
  rw [opB h.hx (by rw [h.kind]; decide)]
  unfold f_Model_openBlock
  simp (decide := true) only [gd_Jn h.hx n20, hxl, h.kind, h.val, if_true, if_false, show (11 : Int32) + Jn w = Jn (11 + w) from Jn_add 11 w]
theorem nd_wire {x : Nat} {c : FO} (h : NX C Nm T ns N ch rk x 26 0 c) (hks : (FO.ks c) = []) : GOAL C Nm T ns x 26 0 c := by
  have hxl := Jn_cl (show x < 2147483648 by have := h.hx; omega)
  have hc0 := ks_nil hks
  subst hc0
  refine leafG (EMI.put (G := fun V => f_Model_putToken C V (Jn 64)) (fun V I => ?_) (msign h.mc (by decide) (by decide))) rfl
  rw [opR h.hx (by rw [h.kind]; decide) (by rw [h.kind]; decide)]
  unfold f_Model_openRung
  simp (decide := true) only [gd_Jn h.hx n20, hxl, h.kind, h.val, if_true, if_false, nm_eq]
  rfl
theorem nd_gap {x : Nat} {c : FO} (h : NX C Nm T ns N ch rk x 27 0 c) (hks : (FO.ks c) = []) : GOAL C Nm T ns x 27 0 c := by
  have hxl := Jn_cl (show x < 2147483648 by have := h.hx; omega)
  have hc0 := ks_nil hks
  subst hc0
  refine leafG (EMI.put (G := fun V => f_Model_putToken C V (Jn 65)) (fun V I => ?_) (msign h.mc (by decide) (by decide))) rfl
  rw [opR h.hx (by rw [h.kind]; decide) (by rw [h.kind]; decide)]
  unfold f_Model_openRung
  simp (decide := true) only [gd_Jn h.hx n20, hxl, h.kind, h.val, if_true, if_false, nm_eq]
  rfl
theorem nd_link {x : Nat} {c : FO} (h : NX C Nm T ns N ch rk x 29 0 c) (hks : (FO.ks c) = []) : GOAL C Nm T ns x 29 0 c := by
  have hxl := Jn_cl (show x < 2147483648 by have := h.hx; omega)
  have hc0 := ks_nil hks
  subst hc0
  refine leafG (EMI.put (G := fun V => f_Model_putToken C V (Jn 71)) (fun V I => ?_) (msign h.mc (by decide) (by decide))) rfl
  rw [opR h.hx (by rw [h.kind]; decide) (by rw [h.kind]; decide)]
  unfold f_Model_openRung
  simp (decide := true) only [gd_Jn h.hx n20, hxl, h.kind, h.val, if_true, if_false, nm_eq]
  rfl
theorem nd_num {x : Nat} {v : Int32} {c : FO} (h : NX C Nm T ns N ch rk x 30 v c) (hks : (FO.ks c) = []) (hn : numV v) : GOAL C Nm T ns x 30 v c := by
  have hxl := Jn_cl (show x < 2147483648 by have := h.hx; omega)
  have hc0 := ks_nil hks
  subst hc0
  have ei : innT 30 v FO.nil = numT v := by
    unfold innT
    rw [tkF]
    show ([] ++ ([] ++ (numT v ++ ([] ++ [])))) ++ ([] ++ []) = numT v
    simp only [List.append_nil, List.nil_append]
  refine leafG (EMI.put (G := fun V => f_Model_putNumber V v) (fun V I => ?_) (mnumber hn)) ei
  rw [opO h.hx (by rw [h.kind]; decide)]
  unfold f_Model_openOperand
  simp (decide := true) only [gd_Jn h.hx n20, hxl, h.kind, h.val, if_true, if_false]
theorem nd_truth0 {x : Nat} {c : FO} (h : NX C Nm T ns N ch rk x 31 0 c) (hks : (FO.ks c) = []) : GOAL C Nm T ns x 31 0 c := by
  have hxl := Jn_cl (show x < 2147483648 by have := h.hx; omega)
  have hc0 := ks_nil hks
  subst hc0
  refine leafG (EMI.put (G := fun V => f_Model_putToken C V (Jn 36)) (fun V I => ?_) (mword h.mc (by decide))) rfl
  rw [opO h.hx (by rw [h.kind]; decide)]
  unfold f_Model_openOperand
  simp (decide := true) only [gd_Jn h.hx n20, hxl, h.kind, h.val, if_true, if_false]
  rfl
theorem nd_truth1 {x : Nat} {c : FO} (h : NX C Nm T ns N ch rk x 31 1 c) (hks : (FO.ks c) = []) : GOAL C Nm T ns x 31 1 c := by
  have hxl := Jn_cl (show x < 2147483648 by have := h.hx; omega)
  have hc0 := ks_nil hks
  subst hc0
  refine leafG (EMI.put (G := fun V => f_Model_putToken C V (Jn 35)) (fun V I => ?_) (mword h.mc (by decide))) rfl
  rw [opO h.hx (by rw [h.kind]; decide)]
  unfold f_Model_openOperand
  simp (decide := true) only [gd_Jn h.hx n20, hxl, h.kind, h.val, if_true, if_false]
  rfl
theorem nd_case {x : Nat} {c : FO} {k1 : Int32} {ks : List Int32} (h : NX C Nm T ns N ch rk x 16 0 c) (hks : (FO.ks c) = k1 :: ks) (h11 : k1 ≠ 11) (hl : lastP ks) : GOAL C Nm T ns x 16 0 c := by
  have hxl := Jn_cl (show x < 2147483648 by have := h.hx; omega)
  have hN := h.gt.2.1
  obtain ⟨p1, v1, c1, r1, a1, as1, rfl, q1, hch, ka1, va1, n1, s1, e1, w1, lo1⟩ := h.rws.one h.gt hks
  have b1 : a1 < 20000 := by omega
  have nq1 := nk3 k1
  have hf : T.2.2.2.2.2.2.1 x = Jn a1 := by rw [h.fst, hch]; rfl
  have ei : innT 16 0 (FO.cons k1 p1 v1 c1 r1) = [(277, 0)] ++ (innT k1 v1 c1 ++ ([(271, 0)] ++ (tkF 16 0 2 r1 ++ ([(278, 0)] ++ [(59, 0)])))) := by
    show begT 16 0 ++ (tkF 16 0 0 (FO.cons k1 p1 v1 c1 r1) ++ finT 16 (FO.cons k1 p1 v1 c1 r1).len) = _
    rw [tkF_cons (nbrk ⟨by decide, by decide⟩)]
    have e0 : sepT 16 0 0 k1 = [] := by
      show [] ++ ([] ++ ([] ++ sgT (if k1 = 11 then (275 : Int32) else -1))) = []
      rw [if_neg h11]; rfl
    rw [e0]
    cases r1 with
    | leaf =>
      rw [tkF, tkF]
      show [(277, 0)] ++ (([] ++ (innT k1 v1 c1 ++ [])) ++ [(271, 0), (278, 0), (59, 0)]) = _
      simp only [List.append_assoc, List.cons_append, List.nil_append, List.append_nil]
    | inner p2 k2 v2 c2 r2 =>
      rw [tkF_cons (nbrk ⟨by decide, by decide⟩), tkF_cons (nbrk ⟨by decide, by decide⟩), sep16 0]
      have e1 : sepT 16 0 (0 + 1) k2 = [(271, 0)] ++ (if k2 = 11 then [(275, 0)] else []) := by
        show [] ++ ([(271, 0)] ++ ([] ++ sgT (if k2 = 11 then (275 : Int32) else -1))) = _
        by_cases c : k2 = 11
        · rw [if_pos c, if_pos c]; rfl
        · rw [if_neg c, if_neg c]; rfl
      have e2 : ∀ (fo : FO) (i : Nat), tkF 16 0 (i + 3) fo = tkF 16 0 (i + 2) fo := by
        intro fo
        induction fo with
        | leaf => intro i; rfl
        | inner p k v c r _ ih =>
          intro i
          rw [tkF_cons (nbrk ⟨by decide, by decide⟩), tkF_cons (nbrk ⟨by decide, by decide⟩), sep16 (i + 1), sep16 i, ih (i + 1)]
      have e3 : finT 16 (FO.cons k1 p1 v1 c1 (FO.cons k2 p2 v2 c2 r2)).len = [(278, 0), (59, 0)] := by
        unfold finT
        rw [if_neg (by rw [FO.len, FO.len]; rintro ⟨_, y⟩; omega)]
        rfl
      rw [e1, e3, show 0 + 1 + 1 = 0 + 2 from rfl, show 2 + 1 = 0 + 3 from rfl, e2 r2 0]
      show [(277, 0)] ++ _ = _
      simp only [List.append_assoc, List.cons_append, List.nil_append, List.append_nil]
  show EMI C Nm T ns _ (innT 16 0 (FO.cons k1 p1 v1 c1 r1)) _ _
  rw [ei]
  have hp : PSH (fun I => f_Model_openStatement T I (Jn x)) [(0, 21), (1, Jn a1), (0, 15), (5, hdJ as1), (0, 22), (0, 60)] := by
    refine PSH.cong (PSH.item 0 60 (PSH.item 0 22 (PSH.item 5 (hdJ as1) (PSH.item 0 15 (PSH.item 1 (Jn a1) (PSH.last 0 21)))))) fun I => ?_
    unfold f_Model_openStatement
    simp (decide := true) only [gd_Jn h.hx n20, hxl, h.kind, h.val, hf, ob_some, ob_id, if_true, if_false, second_ok h.hx b1 hf, s1]
  exact (openP (fun V I => opS h.hx (by rw [h.kind]; decide) (by rw [h.kind]; decide) V I) hp (EMI.cons (tk21 h.mc) (EMI.cons e1 (EMI.cons (tk15 h.mc) (EMI.cons (caseI h.gt h.mc r1 as1 0 w1.rep w1.tl w1.each (by rw [q1]; exact hl)) (EMI.cons (tk22 h.mc) (tk60 h.mc)))))) (by (first | omega | (simp only [List.length_cons, List.length_nil, List.length_append]; omega)))).mono (by show _ ≤ 10 + needF _; (try simp only [nf_cons]); (first | omega | (simp only [List.length_cons, List.length_nil, List.length_append]; omega))) (by (try simp only [fl_cons]); (first | omega | (simp only [List.length_cons, List.length_nil, List.length_append]; omega)))
theorem nd_choice {x : Nat} {c : FO} {k1 : Int32} {ks : List Int32} (h : NX C Nm T ns N ch rk x 17 0 c) (hks : (FO.ks c) = k1 :: ks) (h11 : k1 ≠ 11) (hl : lastP (k1 :: ks)) : GOAL C Nm T ns x 17 0 c := by
  have hxl := Jn_cl (show x < 2147483648 by have := h.hx; omega)
  have hN := h.gt.2.1
  have hw := h.rws
  have hfst := h.fst
  cases c with
  | leaf => cases hks
  | inner p k v c r =>
    cases hch : ch x with
    | nil => have := hw.rep; rw [hch, repF] at this; exact this.elim
    | cons a as =>
      rw [hch] at hw hfst
      injection hks with ek el
      subst ek
      have e := rangesI (V := 0) h.gt h.mc r k p v c a as 0 hw.rep hw.tl hw.each (by rw [FO.ks, el]; exact hl)
      have ei : innT 17 0 (FO.cons k p v c r) = innT k v c ++ tkF 17 0 1 r := by
        have e0 : sepT 17 0 0 k = [] := by
          show [] ++ ([] ++ ([] ++ sgT (if k = 11 then (58 : Int32) else -1))) = []
          rw [if_neg h11]; rfl
        have : innT 17 0 (FO.cons k p v c r) = [] ++ (tkF 17 0 0 (FO.cons k p v c r) ++ []) := rfl
        rw [this, tkF_cons (nbrk ⟨by decide, by decide⟩), e0]
        simp only [List.append_nil, List.nil_append]
      show EMI C Nm T ns _ (innT 17 0 (FO.cons k p v c r)) _ _
      rw [ei]
      have hp : PSH (fun I => f_Model_openStatement T I (Jn x)) [(6, Jn a)] := by
        refine PSH.cong (PSH.last 6 (Jn a)) fun I => ?_
        unfold f_Model_openStatement
        simp (decide := true) only [gd_Jn h.hx n20, hxl, h.kind, h.val, hfst, ob_some, ob_id, if_true, if_false]
        rfl
      exact (openP (fun V I => opS h.hx (by rw [h.kind]; decide) (by rw [h.kind]; decide) V I) hp e (by (first | omega | (simp only [List.length_cons, List.length_nil, List.length_append]; omega)))).mono (by show _ ≤ 10 + needF (FO.cons k p v c r); omega) (by show _ ≤ 20 * (FO.cons k p v c r).flat.length + 14; omega)
theorem nd_two {x : Nat} {v : Int32} {c : FO} {k1 k2 : Int32} (h : NX C Nm T ns N ch rk x 35 v c) (hks : (FO.ks c) = [k1, k2]) (hv : ∃ j : Nat, v = Jn j ∧ j < 14) : GOAL C Nm T ns x 35 v c := by
  have hxl := Jn_cl (show x < 2147483648 by have := h.hx; omega)
  have hN := h.gt.2.1
  obtain ⟨p1, v1, c1, r1, a1, as1, rfl, q1, hch, ka1, va1, n1, s1, e1, w1, lo1⟩ := h.rws.one h.gt hks
  obtain ⟨p2, v2, c2, r2, a2, as2, rfl, q2, rfl, ka2, va2, n2, s2, e2, w2, lo2⟩ := w1.one h.gt q1
  have hc0 := ks_nil q2
  subst hc0
  have b1 : a1 < 20000 := by omega
  have b2 : a2 < 20000 := by omega
  have nq1 := nk3 k1
  have nq2 := nk3 k2
  have hf : T.2.2.2.2.2.2.1 x = Jn a1 := by rw [h.fst, hch]; rfl
  have s1' : T.2.2.2.2.2.2.2.2 a1 = Jn a2 := s1
  have P1 := oper_psh (i := 0) h.hx b1 ka1 va1 h.kind h.val (fun e => (kindT lo1).v35 e) (Or.inl rfl) (Or.inr ⟨rfl, hv⟩)
  have P2 := oper_psh (i := 1) h.hx b2 ka2 va2 h.kind h.val (fun e => (kindT lo2).v35 e) (Or.inr rfl) (Or.inr ⟨rfl, hv⟩)
  obtain ⟨t, t1, t2⟩ := tokof14 hv
  have hb14 := bind14 hv
  have tt : EMI C Nm T ns [(0, Jn t)] [(betw v, 0)] 1 1 := by
    rcases t2 with ⟨y1, y2⟩ | ⟨y1, y2, y3⟩
    · rw [y2]; exact tW h.mc t y1
    · exact tS h.mc t (betw v) y1 y2 y3
  have ei : innT 35 v (FO.cons k1 p1 v1 c1 (FO.cons k2 p2 v2 c2 FO.nil)) = opT (brk 35 v 0 k1 v1) (innT k1 v1 c1) ++ ([(betw v, 0)] ++ opT (brk 35 v 1 k2 v2) (innT k2 v2 c2)) := by
    have : innT 35 v (FO.cons k1 p1 v1 c1 (FO.cons k2 p2 v2 c2 FO.nil)) = [] ++ (tkF 35 v 0 (FO.cons k1 p1 v1 c1 (FO.cons k2 p2 v2 c2 FO.nil)) ++ []) := rfl
    rw [this, tkF_consB, tkF_consB, tkF, show sepT 35 v 0 k1 = [] from rfl, show sepT 35 v (0 + 1) k2 = [(betw v, 0)] from rfl]
    simp only [List.append_nil, List.nil_append]
  show EMI C Nm T ns _ (innT 35 v _) _ _
  rw [ei]
  have hp := P2.seq ((PSH.last 0 (Jn t)).seq P1)
  have l1 := opI_len (brk 35 v 0 k1 v1) a1
  have l2 := opI_len (brk 35 v 1 k2 v2) a2
  have em := EMI.app (r := 7 + max (nk k1 + needF c1) (max (nk k2 + needF c2) 0)) (operI (b := brk 35 v 0 k1 v1) h.mc e1 (by omega)) (EMI.app (r := 3 + max (nk k2 + needF c2) 1) tt (operI (b := brk 35 v 1 k2 v2) h.mc e2 (by omega)) (by omega) (by omega)) (by rw [List.length_append, List.length_singleton]; omega) (by omega)
  refine (openP (fun V I => ?_) hp (its := (opI (brk 35 v 0 k1 v1) a1 ++ [(0, Jn t)]) ++ opI (brk 35 v 1 k2 v2) a2) (by rw [List.append_assoc]; exact em) (by rw [List.length_append, List.length_append, List.length_singleton]; omega)).mono (by show _ ≤ 7 + needF _; simp only [nf_cons]; show _ ≤ 7 + max _ (max _ 0); omega) (by simp only [fl_cons]; omega)
  rw [opO h.hx (by rw [h.kind]; decide)]
  unfold f_Model_openOperand
  simp (decide := true) only [gd_Jn h.hx n20, hxl, h.kind, h.val, hf, ob_some, if_true, if_false, second_ok h.hx b1 hf, s1', t1, Option.bind_assoc]
  rfl
theorem nd_neg {x w : Nat} {c : FO} {k1 : Int32} (h : NX C Nm T ns N ch rk x 36 (Jn w) c) (hks : (FO.ks c) = [k1]) (hw : w < 2) : GOAL C Nm T ns x 36 (Jn w) c := by
  have hxl := Jn_cl (show x < 2147483648 by have := h.hx; omega)
  have hN := h.gt.2.1
  obtain ⟨p1, v1, c1, r1, a1, as1, rfl, q1, hch, ka1, va1, n1, s1, e1, w1, lo1⟩ := h.rws.one h.gt hks
  have hc0 := ks_nil q1
  subst hc0
  have b1 : a1 < 20000 := by omega
  have nq1 := nk3 k1
  have hf : T.2.2.2.2.2.2.1 x = Jn a1 := by rw [h.fst, hch]; rfl
  have P1 := oper_psh (i := 0) h.hx b1 ka1 va1 h.kind h.val (fun e => (kindT lo1).v35 e) (Or.inl rfl) (Or.inl rfl)
  have l1 := opI_len (brk 36 (Jn w) 0 k1 v1) a1
  have op := operI (b := brk 36 (Jn w) 0 k1 v1) h.mc e1 (by omega)
  have go : ∀ (tt K : Int32), fstc 36 (Jn w) = K → K ≠ -1 → EMI C Nm T ns [(0, tt)] [(K, 0)] 1 1 → (∀ V I, f_Model_openOperand C T V I (Jn x) = (f_Model_itemOperand T I (Jn a1) (Jn x) (Jn 0)).bind fun r31 => (f_Model_item r31 0 tt).bind fun r => some (V, r)) → GOAL C Nm T ns x 36 (Jn w) (FO.cons k1 p1 v1 c1 FO.nil) := by
    intro tt K eK nK et eo
    have ei : innT 36 (Jn w) (FO.cons k1 p1 v1 c1 FO.nil) = [(K, 0)] ++ opT (brk 36 (Jn w) 0 k1 v1) (innT k1 v1 c1) := by
      have : innT 36 (Jn w) (FO.cons k1 p1 v1 c1 FO.nil) = (sgT (fstc 36 (Jn w)) ++ []) ++ (tkF 36 (Jn w) 0 (FO.cons k1 p1 v1 c1 FO.nil) ++ []) := rfl
      rw [this, eK, sgOne nK, tkF_consB, tkF, show sepT 36 (Jn w) 0 k1 = [] from rfl]
      simp only [List.append_nil, List.nil_append]
    show EMI C Nm T ns _ (innT 36 (Jn w) _) _ _
    rw [ei]
    have hp := P1.seq (PSH.last 0 tt)
    refine (openP (fun V I => ?_) hp (EMI.app (r := 4 + (nk k1 + needF c1)) et op (by omega) (by omega)) (by rw [List.length_append, List.length_singleton]; omega)).mono (by show _ ≤ 4 + needF _; simp only [nf_cons]; omega) (by simp only [fl_cons]; omega)
    rw [opO h.hx (by rw [h.kind]; decide), eo]
    simp only [Option.bind_assoc]
  match w, hw, h, P1, op, l1, go with
  | 0, _, h, P1, op, l1, go =>
    refine go 64 45 rfl (by decide) (tk64 h.mc) fun V I => ?_
    unfold f_Model_openOperand
    simp (decide := true) only [gd_Jn h.hx n20, hxl, h.kind, h.val, hf, if_true, if_false]
    rfl
  | 1, _, h, P1, op, l1, go =>
    refine go 34 290 rfl (by decide) (tk34 h.mc) fun V I => ?_
    unfold f_Model_openOperand
    simp (decide := true) only [gd_Jn h.hx n20, hxl, h.kind, h.val, hf, if_true, if_false]
    rfl
/-- every node -/
theorem nodeI {x : Nat} {k v : Int32} {c : FO} (h : NX C Nm T ns N ch rk x k v c) (hl : LOC ns.length k v (FO.ks c)) : GOAL C Nm T ns x k v c := by
  refine (?_ : ∀ ks, LOC ns.length k v ks → NX C Nm T ns N ch rk x k v c → FO.ks c = ks → GOAL C Nm T ns x k v c) _ hl h rfl
  intro ks hl
  apply LOC.elim (motive := fun k v ks => NX C Nm T ns N ch rk x k v c → FO.ks c = ks → GOAL C Nm T ns x k v c) (h := hl)
  · intros
    rename_i h hks
    exact nd_text h
  · intros
    rename_i h hks
    exact nd_func h hks (by assumption)
  · intros
    rename_i h hks
    exact nd_blk h hks (by assumption)
  · intros
    rename_i h hks
    exact nd_prog h hks (by assumption)
  · intros
    rename_i hv h hks
    rcases hv with rfl | rfl | rfl
    · exact nd_sect0 h hks
    · exact nd_sect1 h hks
    · exact nd_sect2 h hks
  · intros
    rename_i h hks
    exact nd_decl h hks (by assumption)
  · intros
    rename_i h hks
    exact nd_name h hks (by assumption)
  · intros
    rename_i h hks
    exact nd_place h hks (by assumption)
  · intros
    rename_i hv h hks
    rcases hv with rfl | rfl | rfl
    · exact nd_type (w := 0) h hks (by decide)
    · exact nd_type (w := 1) h hks (by decide)
    · exact nd_type (w := 2) h hks (by decide)
  · intros
    rename_i h hks
    exact nd_array h hks
  · intros
    rename_i h hks
    exact nd_btype h hks (by assumption)
  · intros
    rename_i h hks
    exact nd_body h hks
  · intros
    rename_i h hks
    exact nd_asg h hks
  · intros
    rename_i h hks
    exact nd_inv h hks (by assumption)
  · intros
    rename_i h hks
    exact nd_par h hks (by assumption)
  · intros
    rename_i h hks
    exact nd_iff h hks (by assumption)
  · intros
    rename_i h hks
    exact nd_case h hks (by assumption) (by assumption)
  · intros
    rename_i h hks
    exact nd_choice h hks (by assumption) (by assumption)
  · intros
    rename_i h hks
    exact nd_range1 h hks
  · intros
    rename_i h hks
    exact nd_range2 h hks
  · intros
    rename_i h hks
    exact nd_for3 h hks (by assumption) (by assumption) (by assumption)
  · intros
    rename_i h hks
    exact nd_for4 h hks (by assumption) (by assumption) (by assumption) (by assumption)
  · intros
    rename_i h hks
    exact nd_exit h hks
  · intros
    rename_i h hks
    exact nd_ret h hks
  · intros
    rename_i h hks
    exact nd_lad h hks
  · intros
    rename_i h hks
    exact nd_rung h hks
  · intros
    rename_i h hks
    exact nd_row h hks
  · intros
    rename_i hv h hks
    rcases hv with rfl | rfl | rfl | rfl
    · exact nd_cont0 h hks
    · exact nd_cont1 h hks
    · exact nd_cont2 h hks
    · exact nd_cont3 h hks
  · intros
    rename_i h hks
    exact nd_wire h hks
  · intros
    rename_i h hks
    exact nd_gap h hks
  · intros
    rename_i hv h hks
    rcases hv with rfl | rfl | rfl | rfl
    · exact nd_coil0 h hks
    · exact nd_coil1 h hks
    · exact nd_coil2 h hks
    · exact nd_coil3 h hks
  · intros
    rename_i h hks
    exact nd_link h hks
  · intros
    rename_i h hks
    exact nd_num h hks (by assumption)
  · intros
    rename_i hv h hks
    rcases hv with rfl | rfl
    · exact nd_truth0 h hks
    · exact nd_truth1 h hks
  · intros
    rename_i h hks
    exact nd_elem h hks (by assumption)
  · intros
    rename_i h hks
    exact nd_outp h hks (by assumption)
  · intros
    rename_i h hks
    exact nd_call h hks (by assumption)
  · intros
    rename_i h hks
    exact nd_two h hks (by assumption)
  · intros
    rename_i hv h hks
    rcases hv with rfl | rfl
    · exact nd_neg (w := 0) h hks (by decide)
    · exact nd_neg (w := 1) h hks (by decide)
theorem each (h : GTr T N ch rk) (hC : MC C) (hN : MN Nm ns) : ∀ (fo : FO) (xs : List Nat), repF T ch xs fo → TL N ch xs → goodF ns.length fo → EACH C Nm T ns xs fo
  | .leaf, [], _, _, _ => trivial
  | .leaf, _ :: _, _, _, _ => trivial
  | .inner _ _ _ _ _, [], _, _, _ => trivial
  | .inner p k v c r, x :: xs, hr, ht, hg => by
    rw [repF] at hr
    obtain ⟨hx, hs, ht'⟩ := ht.hd h
    have hN2 := h.2.1
    have kids := TL.kids h hx
    have ec := each h hC hN c (ch x) hr.2.1 kids hg.2.1
    exact ⟨nodeI ⟨h, hC, hN, by omega, hx, congrArg Prod.fst hr.1, congrArg (fun z => z.2.2) hr.1, (h.2.2.1 x hx).1, hr.2.1, kids, ec, hg.2.1⟩ hg.1, each h hC hN r xs hr.2.2 ht' hg.2.2⟩
/-- a text is written -/
theorem write_m {fo : FO} (h : GTr T N ch rk) (hC : MC C) (hN : MN Nm ns) (h0 : 0 < N) (hr : repF T ch [0] (one 0 0 0 fo)) (hg : goodF ns.length (one 0 0 0 fo)) (hn : needF (one 0 0 0 fo) ≤ 2560) (hs : (one 0 0 0 fo).flat.length ≤ 16384) (hL : (ren ns [] (tkF 0 0 0 fo)).length ≤ 16384) {Q : S_MQ} (hQ : Q.1 ≠ 0) (V : S_MV) (I : S_MI) : ∃ V' I', f_Model_write C Nm T Q V I = some (Jn (ren ns [] (tkF 0 0 0 fo)).length, V', I') ∧ WRc V' (ren ns [] (tkF 0 0 0 fo)) := by
  rw [repF] at hr
  have hN2 := h.2.1
  have kids := TL.kids h h0
  have ec := each h hC hN fo (ch 0) hr.2.1 kids hg.2.1
  have hnd := nodeI (k := 0) (v := 0) (c := fo) (x := 0) ⟨h, hC, hN, by omega, h0, congrArg Prod.fst hr.1, congrArg (fun z => z.2.2) hr.1, (h.2.2.1 0 h0).1, hr.2.1, kids, ec, hg.2.1⟩ hg.1
  have ei : innT 0 0 fo = tkF 0 0 0 fo := by
    unfold innT
    rw [show begT 0 0 = [] from rfl, show finT 0 (FO.len fo) = [] from rfl, List.append_nil, List.nil_append]
  have hnd' : EMI C Nm T ns [(1, Jn 0)] (innT 0 0 fo) (nk 0 + needF fo) (20 * (FO.flat fo).length + 14) := hnd
  rw [ei] at hnd'
  have hneed : nk 0 + needF fo ≤ 4000 := by
    have : needF (one 0 0 0 fo) = max (nk 0 + needF fo) 0 := rfl
    omega
  have hI0 : IT (0, I.2) [] := ⟨⟨rfl, by decide, fun k hk => absurd hk (by simp)⟩, rfl, by decide, fun k hk => absurd hk (by simp)⟩
  obtain ⟨I1, i1, i2⟩ := hI0.push 1 0 (by decide)
  have hV0 : WRc (0, V.2) [] := ⟨rfl, by decide, fun k hk => absurd hk (by simp)⟩
  obtain ⟨k, V', I', a1, a2, a3, a4⟩ := hnd' [] (0, V.2) I1 [] i2 hV0 hL (by rw [List.length_nil]; omega)
  rw [flat_one, List.length_cons] at hs
  obtain ⟨f, hf⟩ : ∃ f, FU = f + 1 + k := ⟨FU - 1 - k, by unfold FU; omega⟩
  have e25 : f_Model_write_L25 C Nm T FU (0, V.2) I1 = some (V', I') := by
    rw [hf, a2, f_Model_write_L25, a4.1.1, if_pos (by decide)]
  refine ⟨V', I', ?_, a3⟩
  unfold f_Model_write
  rw [if_neg hQ, i1, ob_some, e25, ob_some, a3.1]
end
end
section
/-! The text: clear, feed, end, change; what is written: byteAt, back. -/
theorem and255 (x : Int32) : x &&& 255 = Jn (x.toBitVec.toNat % 256) := by
  apply Int32.toBitVec_inj.mp
  rw [Int32.toBitVec_and]
  unfold Jn
  rw [Int32.toBitVec_ofNat']
  apply BitVec.eq_of_toNat_eq
  rw [BitVec.toNat_and, BitVec.toNat_ofNat]
  have e : (Int32.toBitVec 255).toNat = 2 ^ 8 - 1 := by decide
  rw [e, Nat.and_two_pow_sub_one_eq_mod]
  omega
theorem byte_rng (x : Int32) : 0 ≤ (x &&& 255).toInt ∧ (x &&& 255).toInt ≤ 255 := by
  rw [and255, Jn_int (by omega)]
  omega
theorem shEq (w : BitVec 32) (s : Nat) (hs : s ≤ 24) : (w.sshiftRight s) &&& 255#32 = (w >>> s) &&& 255#32 := by
  apply BitVec.eq_of_getLsbD_eq
  intro i hi
  rw [BitVec.getLsbD_and, BitVec.getLsbD_and, BitVec.getLsbD_sshiftRight, BitVec.getLsbD_ushiftRight]
  by_cases h8 : i < 8
  · have h1 : decide (32 ≤ i) = false := by rw [decide_eq_false_iff_not]; omega
    have h2 : s + i < 32 := by omega
    rw [h1, if_pos h2]
    rfl
  · have h3 : (255#32).getLsbD i = false := by
      rw [BitVec.getLsbD_ofNat]
      have : Nat.testBit 255 i = false := Nat.testBit_lt_two_pow (Nat.lt_of_lt_of_le (show 255 < 2 ^ 8 by decide) (Nat.pow_le_pow_right (by decide) (by omega)))
      rw [this, Bool.and_false]
    rw [h3, Bool.and_false, Bool.and_false]
/-- a byte of a number, by both sides -/
theorem byteEq (w s : Int32) (j : Nat) (hj : j ≤ 24) (h1 : (s.toBitVec.smod 32).toNat = j) (h2 : ((s.toUInt32 &&& Int32.toUInt32 31).toBitVec % 32).toNat = j) : (((w.toUInt32 >>> (s.toUInt32 &&& Int32.toUInt32 31)).toInt32) &&& 255) = ((w >>> s) &&& 255) := by
  apply Int32.toBitVec_inj.mp
  rw [Int32.toBitVec_and, Int32.toBitVec_and, Int32.toBitVec_shiftRight]
  have e255 : Int32.toBitVec 255 = 255#32 := by decide
  have e1 : w.toBitVec.sshiftRight' (s.toBitVec.smod 32) = w.toBitVec.sshiftRight j := by
    unfold BitVec.sshiftRight'
    rw [h1]
  rw [e255, e1, shEq _ _ hj]
  congr 1
  show (w.toUInt32 >>> (s.toUInt32 &&& Int32.toUInt32 31)).toBitVec = _
  rw [UInt32.toBitVec_shiftRight, BitVec.ushiftRight_eq', h2]
  rfl
def fb (w s : Int32) : Int32 := (w >>> s) &&& 255
theorem fb_rng (w s : Int32) : 0 ≤ (fb w s).toInt ∧ (fb w s).toInt ≤ 255 := byte_rng _
def put4 (f : Nat → Int32) (m : Nat) (w : Int32) : Nat → Int32 := upd (upd (upd (upd f m (fb w 24)) (m + 1) (fb w 16)) (m + 2) (fb w 8)) (m + 3) (fb w 0)
theorem tput {f : Nat → Int32} {m : Nat} (h : m < 8192) (c : Int32) : f_Bytes_put 8192 (Jn m, f) c = some (Jn (m + 1), upd f m c) := by
  unfold f_Bytes_put
  dsimp only
  rw [if_neg J_nneg, show (Int32.ofNat 8192) = Jn 8192 from rfl, if_neg (J_nle h), gd_Jn h (by omega), addL m 1, Jn_cl (by omega)]
theorem feedN {f : Nat → Int32} {m : Nat} (h : m + 4 ≤ 8192) (w : Int32) : f_Top_feedNumber (Jn m, f) w = some (Jn (m + 4), put4 f m w) := by
  have s24 : ∀ n o, f_Top_feedNumber_L3 w (n + 1) 24 o = (f_Bytes_put 8192 o (fb w 24)).bind fun r => f_Top_feedNumber_L3 w n 16 r := by
    intro n o
    rw [f_Top_feedNumber_L3, if_neg (by decide), byteEq w 24 24 (by decide) (by decide) (by decide)]
    rfl
  have s16 : ∀ n o, f_Top_feedNumber_L3 w (n + 1) 16 o = (f_Bytes_put 8192 o (fb w 16)).bind fun r => f_Top_feedNumber_L3 w n 8 r := by
    intro n o
    rw [f_Top_feedNumber_L3, if_neg (by decide), byteEq w 16 16 (by decide) (by decide) (by decide)]
    rfl
  have s8 : ∀ n o, f_Top_feedNumber_L3 w (n + 1) 8 o = (f_Bytes_put 8192 o (fb w 8)).bind fun r => f_Top_feedNumber_L3 w n 0 r := by
    intro n o
    rw [f_Top_feedNumber_L3, if_neg (by decide), byteEq w 8 8 (by decide) (by decide) (by decide)]
    rfl
  have s0 : ∀ n o, f_Top_feedNumber_L3 w (n + 1) 0 o = (f_Bytes_put 8192 o (fb w 0)).bind fun r => f_Top_feedNumber_L3 w n (-8) r := by
    intro n o
    rw [f_Top_feedNumber_L3, if_neg (by decide), byteEq w 0 0 (by decide) (by decide) (by decide)]
    rfl
  have sm : ∀ n o, f_Top_feedNumber_L3 w (n + 1) (-8) o = some o := by
    intro n o
    rw [f_Top_feedNumber_L3, if_pos (by decide)]
  unfold f_Top_feedNumber
  rw [show FU = 999995 + 1 + 1 + 1 + 1 + 1 from rfl, s24, tput (by omega), ob_some, s16, tput (by omega), ob_some, s8, tput (by omega), ob_some, s0, tput (by omega), ob_some, sm]
  rfl
theorem feed_c {f : Nat → Int32} {n : Nat} (h : n + 20 ≤ 8192) (a1 a2 a3 a4 a5 : Int32) : f_Top_feed (Jn n, f) a1 a2 a3 a4 a5 = some (Jn (n + 20), Jn (n + 20), put4 (put4 (put4 (put4 (put4 f n a1) (n + 4) a2) (n + 8) a3) (n + 12) a4) (n + 16) a5) := by
  unfold f_Top_feed
  dsimp only
  rw [addL n 20, if_pos (leR 8192 h), feedN (by omega), ob_some, feedN (by omega), ob_some, feedN (by omega), ob_some, feedN (by omega), ob_some, feedN (by omega), ob_some]
theorem mf0 (a1 a2 a3 a4 a5 : Int32) (f : Nat) {n : Nat} (h : n + 20 ≤ 8192) (g : Nat → Int32) : f_Model_feed_L18 a1 a2 a3 a4 a5 (f + 1) 0 (Jn n, g) = f_Model_feed_L18 a1 a2 a3 a4 a5 f 1 (Jn n, upd g (n + 0) (fb a1 24)) := by
  have e : f_Model_feed_L18 a1 a2 a3 a4 a5 (f + 1) 0 (Jn n, g) = gd (Jn n + 0) 8192 (f_Model_feed_L18 a1 a2 a3 a4 a5 f 1 (Jn n, upd g (Jn n + 0).toNatClampNeg (fb a1 24))) := by
    rw [f_Model_feed_L18]
    rfl
  rw [e, addL n 0, gd_Jn (by omega) (by omega), Jn_cl (by omega)]
theorem mf1 (a1 a2 a3 a4 a5 : Int32) (f : Nat) {n : Nat} (h : n + 20 ≤ 8192) (g : Nat → Int32) : f_Model_feed_L18 a1 a2 a3 a4 a5 (f + 1) 1 (Jn n, g) = f_Model_feed_L18 a1 a2 a3 a4 a5 f 2 (Jn n, upd g (n + 1) (fb a1 16)) := by
  have e : f_Model_feed_L18 a1 a2 a3 a4 a5 (f + 1) 1 (Jn n, g) = gd (Jn n + 1) 8192 (f_Model_feed_L18 a1 a2 a3 a4 a5 f 2 (Jn n, upd g (Jn n + 1).toNatClampNeg (fb a1 16))) := by
    rw [f_Model_feed_L18]
    rfl
  rw [e, addL n 1, gd_Jn (by omega) (by omega), Jn_cl (by omega)]
theorem mf2 (a1 a2 a3 a4 a5 : Int32) (f : Nat) {n : Nat} (h : n + 20 ≤ 8192) (g : Nat → Int32) : f_Model_feed_L18 a1 a2 a3 a4 a5 (f + 1) 2 (Jn n, g) = f_Model_feed_L18 a1 a2 a3 a4 a5 f 3 (Jn n, upd g (n + 2) (fb a1 8)) := by
  have e : f_Model_feed_L18 a1 a2 a3 a4 a5 (f + 1) 2 (Jn n, g) = gd (Jn n + 2) 8192 (f_Model_feed_L18 a1 a2 a3 a4 a5 f 3 (Jn n, upd g (Jn n + 2).toNatClampNeg (fb a1 8))) := by
    rw [f_Model_feed_L18]
    rfl
  rw [e, addL n 2, gd_Jn (by omega) (by omega), Jn_cl (by omega)]
theorem mf3 (a1 a2 a3 a4 a5 : Int32) (f : Nat) {n : Nat} (h : n + 20 ≤ 8192) (g : Nat → Int32) : f_Model_feed_L18 a1 a2 a3 a4 a5 (f + 1) 3 (Jn n, g) = f_Model_feed_L18 a1 a2 a3 a4 a5 f 4 (Jn n, upd g (n + 3) (fb a1 0)) := by
  have e : f_Model_feed_L18 a1 a2 a3 a4 a5 (f + 1) 3 (Jn n, g) = gd (Jn n + 3) 8192 (f_Model_feed_L18 a1 a2 a3 a4 a5 f 4 (Jn n, upd g (Jn n + 3).toNatClampNeg (fb a1 0))) := by
    rw [f_Model_feed_L18]
    rfl
  rw [e, addL n 3, gd_Jn (by omega) (by omega), Jn_cl (by omega)]
theorem mf4 (a1 a2 a3 a4 a5 : Int32) (f : Nat) {n : Nat} (h : n + 20 ≤ 8192) (g : Nat → Int32) : f_Model_feed_L18 a1 a2 a3 a4 a5 (f + 1) 4 (Jn n, g) = f_Model_feed_L18 a1 a2 a3 a4 a5 f 5 (Jn n, upd g (n + 4) (fb a2 24)) := by
  have e : f_Model_feed_L18 a1 a2 a3 a4 a5 (f + 1) 4 (Jn n, g) = gd (Jn n + 4) 8192 (f_Model_feed_L18 a1 a2 a3 a4 a5 f 5 (Jn n, upd g (Jn n + 4).toNatClampNeg (fb a2 24))) := by
    rw [f_Model_feed_L18]
    rfl
  rw [e, addL n 4, gd_Jn (by omega) (by omega), Jn_cl (by omega)]
theorem mf5 (a1 a2 a3 a4 a5 : Int32) (f : Nat) {n : Nat} (h : n + 20 ≤ 8192) (g : Nat → Int32) : f_Model_feed_L18 a1 a2 a3 a4 a5 (f + 1) 5 (Jn n, g) = f_Model_feed_L18 a1 a2 a3 a4 a5 f 6 (Jn n, upd g (n + 5) (fb a2 16)) := by
  have e : f_Model_feed_L18 a1 a2 a3 a4 a5 (f + 1) 5 (Jn n, g) = gd (Jn n + 5) 8192 (f_Model_feed_L18 a1 a2 a3 a4 a5 f 6 (Jn n, upd g (Jn n + 5).toNatClampNeg (fb a2 16))) := by
    rw [f_Model_feed_L18]
    rfl
  rw [e, addL n 5, gd_Jn (by omega) (by omega), Jn_cl (by omega)]
theorem mf6 (a1 a2 a3 a4 a5 : Int32) (f : Nat) {n : Nat} (h : n + 20 ≤ 8192) (g : Nat → Int32) : f_Model_feed_L18 a1 a2 a3 a4 a5 (f + 1) 6 (Jn n, g) = f_Model_feed_L18 a1 a2 a3 a4 a5 f 7 (Jn n, upd g (n + 6) (fb a2 8)) := by
  have e : f_Model_feed_L18 a1 a2 a3 a4 a5 (f + 1) 6 (Jn n, g) = gd (Jn n + 6) 8192 (f_Model_feed_L18 a1 a2 a3 a4 a5 f 7 (Jn n, upd g (Jn n + 6).toNatClampNeg (fb a2 8))) := by
    rw [f_Model_feed_L18]
    rfl
  rw [e, addL n 6, gd_Jn (by omega) (by omega), Jn_cl (by omega)]
theorem mf7 (a1 a2 a3 a4 a5 : Int32) (f : Nat) {n : Nat} (h : n + 20 ≤ 8192) (g : Nat → Int32) : f_Model_feed_L18 a1 a2 a3 a4 a5 (f + 1) 7 (Jn n, g) = f_Model_feed_L18 a1 a2 a3 a4 a5 f 8 (Jn n, upd g (n + 7) (fb a2 0)) := by
  have e : f_Model_feed_L18 a1 a2 a3 a4 a5 (f + 1) 7 (Jn n, g) = gd (Jn n + 7) 8192 (f_Model_feed_L18 a1 a2 a3 a4 a5 f 8 (Jn n, upd g (Jn n + 7).toNatClampNeg (fb a2 0))) := by
    rw [f_Model_feed_L18]
    rfl
  rw [e, addL n 7, gd_Jn (by omega) (by omega), Jn_cl (by omega)]
theorem mf8 (a1 a2 a3 a4 a5 : Int32) (f : Nat) {n : Nat} (h : n + 20 ≤ 8192) (g : Nat → Int32) : f_Model_feed_L18 a1 a2 a3 a4 a5 (f + 1) 8 (Jn n, g) = f_Model_feed_L18 a1 a2 a3 a4 a5 f 9 (Jn n, upd g (n + 8) (fb a3 24)) := by
  have e : f_Model_feed_L18 a1 a2 a3 a4 a5 (f + 1) 8 (Jn n, g) = gd (Jn n + 8) 8192 (f_Model_feed_L18 a1 a2 a3 a4 a5 f 9 (Jn n, upd g (Jn n + 8).toNatClampNeg (fb a3 24))) := by
    rw [f_Model_feed_L18]
    rfl
  rw [e, addL n 8, gd_Jn (by omega) (by omega), Jn_cl (by omega)]
theorem mf9 (a1 a2 a3 a4 a5 : Int32) (f : Nat) {n : Nat} (h : n + 20 ≤ 8192) (g : Nat → Int32) : f_Model_feed_L18 a1 a2 a3 a4 a5 (f + 1) 9 (Jn n, g) = f_Model_feed_L18 a1 a2 a3 a4 a5 f 10 (Jn n, upd g (n + 9) (fb a3 16)) := by
  have e : f_Model_feed_L18 a1 a2 a3 a4 a5 (f + 1) 9 (Jn n, g) = gd (Jn n + 9) 8192 (f_Model_feed_L18 a1 a2 a3 a4 a5 f 10 (Jn n, upd g (Jn n + 9).toNatClampNeg (fb a3 16))) := by
    rw [f_Model_feed_L18]
    rfl
  rw [e, addL n 9, gd_Jn (by omega) (by omega), Jn_cl (by omega)]
theorem mf10 (a1 a2 a3 a4 a5 : Int32) (f : Nat) {n : Nat} (h : n + 20 ≤ 8192) (g : Nat → Int32) : f_Model_feed_L18 a1 a2 a3 a4 a5 (f + 1) 10 (Jn n, g) = f_Model_feed_L18 a1 a2 a3 a4 a5 f 11 (Jn n, upd g (n + 10) (fb a3 8)) := by
  have e : f_Model_feed_L18 a1 a2 a3 a4 a5 (f + 1) 10 (Jn n, g) = gd (Jn n + 10) 8192 (f_Model_feed_L18 a1 a2 a3 a4 a5 f 11 (Jn n, upd g (Jn n + 10).toNatClampNeg (fb a3 8))) := by
    rw [f_Model_feed_L18]
    rfl
  rw [e, addL n 10, gd_Jn (by omega) (by omega), Jn_cl (by omega)]
theorem mf11 (a1 a2 a3 a4 a5 : Int32) (f : Nat) {n : Nat} (h : n + 20 ≤ 8192) (g : Nat → Int32) : f_Model_feed_L18 a1 a2 a3 a4 a5 (f + 1) 11 (Jn n, g) = f_Model_feed_L18 a1 a2 a3 a4 a5 f 12 (Jn n, upd g (n + 11) (fb a3 0)) := by
  have e : f_Model_feed_L18 a1 a2 a3 a4 a5 (f + 1) 11 (Jn n, g) = gd (Jn n + 11) 8192 (f_Model_feed_L18 a1 a2 a3 a4 a5 f 12 (Jn n, upd g (Jn n + 11).toNatClampNeg (fb a3 0))) := by
    rw [f_Model_feed_L18]
    rfl
  rw [e, addL n 11, gd_Jn (by omega) (by omega), Jn_cl (by omega)]
theorem mf12 (a1 a2 a3 a4 a5 : Int32) (f : Nat) {n : Nat} (h : n + 20 ≤ 8192) (g : Nat → Int32) : f_Model_feed_L18 a1 a2 a3 a4 a5 (f + 1) 12 (Jn n, g) = f_Model_feed_L18 a1 a2 a3 a4 a5 f 13 (Jn n, upd g (n + 12) (fb a4 24)) := by
  have e : f_Model_feed_L18 a1 a2 a3 a4 a5 (f + 1) 12 (Jn n, g) = gd (Jn n + 12) 8192 (f_Model_feed_L18 a1 a2 a3 a4 a5 f 13 (Jn n, upd g (Jn n + 12).toNatClampNeg (fb a4 24))) := by
    rw [f_Model_feed_L18]
    rfl
  rw [e, addL n 12, gd_Jn (by omega) (by omega), Jn_cl (by omega)]
theorem mf13 (a1 a2 a3 a4 a5 : Int32) (f : Nat) {n : Nat} (h : n + 20 ≤ 8192) (g : Nat → Int32) : f_Model_feed_L18 a1 a2 a3 a4 a5 (f + 1) 13 (Jn n, g) = f_Model_feed_L18 a1 a2 a3 a4 a5 f 14 (Jn n, upd g (n + 13) (fb a4 16)) := by
  have e : f_Model_feed_L18 a1 a2 a3 a4 a5 (f + 1) 13 (Jn n, g) = gd (Jn n + 13) 8192 (f_Model_feed_L18 a1 a2 a3 a4 a5 f 14 (Jn n, upd g (Jn n + 13).toNatClampNeg (fb a4 16))) := by
    rw [f_Model_feed_L18]
    rfl
  rw [e, addL n 13, gd_Jn (by omega) (by omega), Jn_cl (by omega)]
theorem mf14 (a1 a2 a3 a4 a5 : Int32) (f : Nat) {n : Nat} (h : n + 20 ≤ 8192) (g : Nat → Int32) : f_Model_feed_L18 a1 a2 a3 a4 a5 (f + 1) 14 (Jn n, g) = f_Model_feed_L18 a1 a2 a3 a4 a5 f 15 (Jn n, upd g (n + 14) (fb a4 8)) := by
  have e : f_Model_feed_L18 a1 a2 a3 a4 a5 (f + 1) 14 (Jn n, g) = gd (Jn n + 14) 8192 (f_Model_feed_L18 a1 a2 a3 a4 a5 f 15 (Jn n, upd g (Jn n + 14).toNatClampNeg (fb a4 8))) := by
    rw [f_Model_feed_L18]
    rfl
  rw [e, addL n 14, gd_Jn (by omega) (by omega), Jn_cl (by omega)]
theorem mf15 (a1 a2 a3 a4 a5 : Int32) (f : Nat) {n : Nat} (h : n + 20 ≤ 8192) (g : Nat → Int32) : f_Model_feed_L18 a1 a2 a3 a4 a5 (f + 1) 15 (Jn n, g) = f_Model_feed_L18 a1 a2 a3 a4 a5 f 16 (Jn n, upd g (n + 15) (fb a4 0)) := by
  have e : f_Model_feed_L18 a1 a2 a3 a4 a5 (f + 1) 15 (Jn n, g) = gd (Jn n + 15) 8192 (f_Model_feed_L18 a1 a2 a3 a4 a5 f 16 (Jn n, upd g (Jn n + 15).toNatClampNeg (fb a4 0))) := by
    rw [f_Model_feed_L18]
    rfl
  rw [e, addL n 15, gd_Jn (by omega) (by omega), Jn_cl (by omega)]
theorem mf16 (a1 a2 a3 a4 a5 : Int32) (f : Nat) {n : Nat} (h : n + 20 ≤ 8192) (g : Nat → Int32) : f_Model_feed_L18 a1 a2 a3 a4 a5 (f + 1) 16 (Jn n, g) = f_Model_feed_L18 a1 a2 a3 a4 a5 f 17 (Jn n, upd g (n + 16) (fb a5 24)) := by
  have e : f_Model_feed_L18 a1 a2 a3 a4 a5 (f + 1) 16 (Jn n, g) = gd (Jn n + 16) 8192 (f_Model_feed_L18 a1 a2 a3 a4 a5 f 17 (Jn n, upd g (Jn n + 16).toNatClampNeg (fb a5 24))) := by
    rw [f_Model_feed_L18]
    rfl
  rw [e, addL n 16, gd_Jn (by omega) (by omega), Jn_cl (by omega)]
theorem mf17 (a1 a2 a3 a4 a5 : Int32) (f : Nat) {n : Nat} (h : n + 20 ≤ 8192) (g : Nat → Int32) : f_Model_feed_L18 a1 a2 a3 a4 a5 (f + 1) 17 (Jn n, g) = f_Model_feed_L18 a1 a2 a3 a4 a5 f 18 (Jn n, upd g (n + 17) (fb a5 16)) := by
  have e : f_Model_feed_L18 a1 a2 a3 a4 a5 (f + 1) 17 (Jn n, g) = gd (Jn n + 17) 8192 (f_Model_feed_L18 a1 a2 a3 a4 a5 f 18 (Jn n, upd g (Jn n + 17).toNatClampNeg (fb a5 16))) := by
    rw [f_Model_feed_L18]
    rfl
  rw [e, addL n 17, gd_Jn (by omega) (by omega), Jn_cl (by omega)]
theorem mf18 (a1 a2 a3 a4 a5 : Int32) (f : Nat) {n : Nat} (h : n + 20 ≤ 8192) (g : Nat → Int32) : f_Model_feed_L18 a1 a2 a3 a4 a5 (f + 1) 18 (Jn n, g) = f_Model_feed_L18 a1 a2 a3 a4 a5 f 19 (Jn n, upd g (n + 18) (fb a5 8)) := by
  have e : f_Model_feed_L18 a1 a2 a3 a4 a5 (f + 1) 18 (Jn n, g) = gd (Jn n + 18) 8192 (f_Model_feed_L18 a1 a2 a3 a4 a5 f 19 (Jn n, upd g (Jn n + 18).toNatClampNeg (fb a5 8))) := by
    rw [f_Model_feed_L18]
    rfl
  rw [e, addL n 18, gd_Jn (by omega) (by omega), Jn_cl (by omega)]
theorem mf19 (a1 a2 a3 a4 a5 : Int32) (f : Nat) {n : Nat} (h : n + 20 ≤ 8192) (g : Nat → Int32) : f_Model_feed_L18 a1 a2 a3 a4 a5 (f + 1) 19 (Jn n, g) = f_Model_feed_L18 a1 a2 a3 a4 a5 f 20 (Jn n, upd g (n + 19) (fb a5 0)) := by
  have e : f_Model_feed_L18 a1 a2 a3 a4 a5 (f + 1) 19 (Jn n, g) = gd (Jn n + 19) 8192 (f_Model_feed_L18 a1 a2 a3 a4 a5 f 20 (Jn n, upd g (Jn n + 19).toNatClampNeg (fb a5 0))) := by
    rw [f_Model_feed_L18]
    rfl
  rw [e, addL n 19, gd_Jn (by omega) (by omega), Jn_cl (by omega)]
theorem feed_m {g : Nat → Int32} {n : Nat} (h : n + 20 ≤ 8192) (a1 a2 a3 a4 a5 : Int32) : f_Model_feed (Jn n, g) a1 a2 a3 a4 a5 = some (Jn (n + 20), Jn (n + 20), put4 (put4 (put4 (put4 (put4 g n a1) (n + 4) a2) (n + 8) a3) (n + 12) a4) (n + 16) a5) := by
  unfold f_Model_feed
  dsimp only
  have e : f_Model_feed_L18 a1 a2 a3 a4 a5 FU 0 (Jn n, g) = some (Jn n, put4 (put4 (put4 (put4 (put4 g n a1) (n + 4) a2) (n + 8) a3) (n + 12) a4) (n + 16) a5) := by
    rw [show FU = 999979 + 1 + 1 + 1 + 1 + 1 + 1 + 1 + 1 + 1 + 1 + 1 + 1 + 1 + 1 + 1 + 1 + 1 + 1 + 1 + 1 + 1 from rfl]
    rw [mf0 _ _ _ _ _ _ h, mf1 _ _ _ _ _ _ h, mf2 _ _ _ _ _ _ h, mf3 _ _ _ _ _ _ h, mf4 _ _ _ _ _ _ h, mf5 _ _ _ _ _ _ h, mf6 _ _ _ _ _ _ h, mf7 _ _ _ _ _ _ h, mf8 _ _ _ _ _ _ h, mf9 _ _ _ _ _ _ h, mf10 _ _ _ _ _ _ h, mf11 _ _ _ _ _ _ h, mf12 _ _ _ _ _ _ h, mf13 _ _ _ _ _ _ h, mf14 _ _ _ _ _ _ h, mf15 _ _ _ _ _ _ h, mf16 _ _ _ _ _ _ h, mf17 _ _ _ _ _ _ h, mf18 _ _ _ _ _ _ h, mf19 _ _ _ _ _ _ h]
    rw [f_Model_feed_L18, if_pos (by decide)]
    rfl
  rw [addL n 20, if_pos (leR 8192 h), e, ob_some]
  dsimp only
  rw [addL n 20]
/-- one text under both sides' hands -/
def XT (cT : S_Bytes) (mX : S_MX) (n : Nat) : Prop := n ≤ 8192 ∧ cT.1 = Jn n ∧ mX.1 = Jn n ∧ ∀ k, k < n → cT.2 k = mX.2 k ∧ 0 ≤ (mX.2 k).toInt ∧ (mX.2 k).toInt ≤ 255
theorem XT.tx {cT : S_Bytes} {mX : S_MX} {n : Nat} (h : XT cT mX n) : TX cT mX n (fun k => if k < n then mX.2 k else -1) := by
  refine ⟨h.1, h.2.1, h.2.2.1, fun k hk => ?_, fun k hk => ?_⟩
  · dsimp only
    rw [if_pos hk]
    exact ⟨(h.2.2.2 k hk).1, rfl, (h.2.2.2 k hk).2⟩
  · dsimp only
    rw [if_neg (by omega)]
theorem XT.upd {f g : Nat → Int32} {n m : Nat} (h : ∀ k, k < n → f k = g k ∧ 0 ≤ (g k).toInt ∧ (g k).toInt ≤ 255) (hm : m ≤ n) {c : Int32} (hc : 0 ≤ c.toInt ∧ c.toInt ≤ 255) : ∀ k, k < n + 1 → upd f m c k = upd g m c k ∧ 0 ≤ (upd g m c k).toInt ∧ (upd g m c k).toInt ≤ 255 ∨ (k = n ∧ m ≠ n) := by
  intro k hk
  by_cases e : k = m
  · subst e
    rw [upd_self, upd_self]
    exact Or.inl ⟨rfl, hc⟩
  · by_cases e2 : k = n
    · exact Or.inr ⟨e2, fun h => e (by omega)⟩
    · rw [upd_ne _ _ e, upd_ne _ _ e]
      exact Or.inl (h k (by omega))
theorem agr4 {f g : Nat → Int32} {n : Nat} (h : ∀ k, k < n → f k = g k ∧ 0 ≤ (g k).toInt ∧ (g k).toInt ≤ 255) (w : Int32) : ∀ k, k < n + 4 → put4 f n w k = put4 g n w k ∧ 0 ≤ (put4 g n w k).toInt ∧ (put4 g n w k).toInt ≤ 255 := by
  have one : ∀ (f g : Nat → Int32) (n : Nat), (∀ k, k < n → f k = g k ∧ 0 ≤ (g k).toInt ∧ (g k).toInt ≤ 255) → ∀ s, ∀ k, k < n + 1 → upd f n (fb w s) k = upd g n (fb w s) k ∧ 0 ≤ (upd g n (fb w s) k).toInt ∧ (upd g n (fb w s) k).toInt ≤ 255 := by
    intro f g n h s k hk
    rcases XT.upd h (Nat.le_refl n) (fb_rng w s) k hk with x | ⟨_, x⟩
    · exact x
    · exact absurd rfl x
  exact one _ _ (n + 3) (one _ _ (n + 2) (one _ _ (n + 1) (one _ _ n h 24) 16) 8) 0
theorem feed_ok {cT : S_Bytes} {mX : S_MX} {n : Nat} (h : XT cT mX n) (a1 a2 a3 a4 a5 : Int32) : ∃ r cT' mX' n', f_Top_feed cT a1 a2 a3 a4 a5 = some (r, cT') ∧ f_Model_feed mX a1 a2 a3 a4 a5 = some (r, mX') ∧ XT cT' mX' n' := by
  obtain ⟨c1, c2⟩ := cT
  obtain ⟨m1, m2⟩ := mX
  obtain ⟨h1, h2, h3, h4⟩ := h
  dsimp only at h2 h3 h4
  subst h2
  subst h3
  by_cases c : n + 20 ≤ 8192
  · refine ⟨_, _, _, n + 20, feed_c c a1 a2 a3 a4 a5, feed_m c a1 a2 a3 a4 a5, c, rfl, rfl, ?_⟩
    exact agr4 (n := n + 16) (agr4 (n := n + 12) (agr4 (n := n + 8) (agr4 (n := n + 4) (agr4 h4 a1) a2) a3) a4) a5
  · refine ⟨-1, (Jn n, c2), (Jn n, m2), n, ?_, ?_, h1, rfl, rfl, h4⟩
    · unfold f_Top_feed
      dsimp only
      rw [addL n 20, if_neg (nleR 8192 (by omega))]
    · unfold f_Model_feed
      dsimp only
      rw [addL n 20, if_neg (nleR 8192 (by omega))]
theorem cut_c {f : Nat → Int32} {n m N : Nat} (hm : m ≤ n) (hn : n < 2147483648) : f_Bytes_cut N (Jn n, f) (Jn m) = some (Jn m, f) := by
  unfold f_Bytes_cut
  dsimp only
  rw [if_neg (J_nneg (by omega))]
  by_cases c : n = m
  · rw [if_pos (by rw [c]; exact Int32.le_refl _), c]
  · rw [if_neg (J_nle (by omega) hn)]
theorem clear_ok {cT : S_Bytes} {mX : S_MX} {n : Nat} (h : XT cT mX n) : ∃ r cT' mX', f_Top_clear cT = some (r, cT') ∧ f_Model_clear mX = some (r, mX') ∧ XT cT' mX' 0 := by
  obtain ⟨c1, c2⟩ := cT
  obtain ⟨m1, m2⟩ := mX
  obtain ⟨h1, h2, h3, h4⟩ := h
  dsimp only at h2 h3 h4
  subst h2
  subst h3
  refine ⟨Jn n, (Jn 0, c2), (0, m2), ?_, rfl, by omega, rfl, rfl, fun k hk => by omega⟩
  unfold f_Top_clear
  rw [show (0 : Int32) = Jn 0 from rfl, cut_c (Nat.zero_le _) (by omega), ob_some]
theorem end_ok {cT : S_Bytes} {mX : S_MX} {n : Nat} (h : XT cT mX n) (a : Int32) : ∃ r cT' mX' n', f_Top_end cT a = some (r, cT') ∧ f_Model_end mX a = some (r, mX') ∧ XT cT' mX' n' := by
  obtain ⟨c1, c2⟩ := cT
  obtain ⟨m1, m2⟩ := mX
  have hX := h
  obtain ⟨h1, h2, h3, h4⟩ := h
  dsimp only at h2 h3 h4
  subst h2
  subst h3
  unfold f_Top_end f_Model_end
  dsimp only
  by_cases c0 : a < 0
  · rw [if_pos c0, if_pos c0]
    exact ⟨_, _, _, n, rfl, rfl, hX⟩
  · rw [if_neg c0, if_neg c0]
    by_cases c1 : 20 < a
    · rw [if_pos c1, if_pos c1]
      exact ⟨_, _, _, n, rfl, rfl, hX⟩
    · rw [if_neg c1, if_neg c1]
      by_cases c2' : 20 ≤ Jn n
      · rw [if_pos c2', if_pos c2']
        have hn20 : 20 ≤ n := by
          have : Jn 20 ≤ Jn n := c2'
          rw [Jn_le (by omega) (by omega)] at this
          exact this
        obtain ⟨j, hj, rfl⟩ := Jn_of (x := a) (Int32.not_lt.mp c0)
        have hj20 : j ≤ 20 := by
          have : ¬ Jn 20 < Jn j := c1
          rw [Jn_lt (by omega) hj] at this
          omega
        rw [subL 20 hn20, Jn_add, cut_c (by omega) (by omega), ob_some]
        exact ⟨_, _, _, n - 20 + j, rfl, rfl, by omega, rfl, rfl, fun k hk => h4 k (by omega)⟩
      · rw [if_neg c2', if_neg c2']
        exact ⟨_, _, _, n, rfl, rfl, hX⟩
theorem change_ok {cT : S_Bytes} {mX : S_MX} {n : Nat} (h : XT cT mX n) (a v : Int32) : ∃ r cT' mX', f_Top_change cT a v = some (r, cT') ∧ f_Model_change mX a v = some (r, mX') ∧ XT cT' mX' n := by
  obtain ⟨c1, c2⟩ := cT
  obtain ⟨m1, m2⟩ := mX
  have hX := h
  obtain ⟨h1, h2, h3, h4⟩ := h
  dsimp only at h2 h3 h4
  subst h2
  subst h3
  unfold f_Top_change f_Model_change f_Bytes_swap
  dsimp only
  have out : ∀ (hget : f_Bytes_get 8192 (Jn n, c2) a = some (-1)), ∃ r cT' mX', (if v < 0 then some ((-1 : Int32), ((Jn n, c2) : S_Bytes)) else if v ≤ 255 then ((f_Bytes_get 8192 (Jn n, c2) a).bind fun r1 => if r1 = -1 then some (r1, ((Jn n, c2) : S_Bytes)) else if a < 0 then some (r1, (Jn n, c2)) else if Int32.ofNat 8192 ≤ a then some (r1, (Jn n, c2)) else gd a 8192 (some (r1, Jn n, upd c2 a.toNatClampNeg v))).bind fun r3 => some (r3.1, r3.2) else some (-1, (Jn n, c2))) = some (r, cT') ∧ some ((-1 : Int32), ((Jn n, m2) : S_MX)) = some (r, mX') ∧ XT cT' mX' n := by
    intro hget
    rw [hget]
    refine ⟨-1, (Jn n, c2), (Jn n, m2), ?_, rfl, hX⟩
    split
    · rfl
    · split
      · rfl
      · rfl
  by_cases ca : a < 0
  · rw [if_pos ca]
    exact out (by unfold f_Bytes_get; rw [if_pos ca])
  · rw [if_neg ca]
    obtain ⟨j, hj, rfl⟩ := Jn_of (x := a) (Int32.not_lt.mp ca)
    by_cases cj : n ≤ j
    · rw [if_pos (J_le cj hj)]
      exact out (by unfold f_Bytes_get; rw [if_neg ca]; dsimp only; rw [if_pos (J_le cj hj)])
    · rw [if_neg (J_nle (by omega) (by omega))]
      by_cases cv : v < 0
      · rw [if_pos cv, if_pos cv]
        exact ⟨_, _, _, rfl, rfl, hX⟩
      · rw [if_neg cv, if_neg cv]
        by_cases cv2 : v ≤ 255
        · rw [if_pos cv2, if_pos cv2]
          obtain ⟨q1, q2, q3⟩ := h4 j (by omega)
          have hget : f_Bytes_get 8192 (Jn n, c2) (Jn j) = some (m2 j) := by
            unfold f_Bytes_get
            dsimp only
            rw [if_neg ca, if_neg (J_nle (by omega) (by omega)), show (Int32.ofNat 8192) = Jn 8192 from rfl, if_neg (J_nle (by omega) (by omega)), gd_Jn (by omega) (by omega), Jn_cl hj, q1]
          have nm1 : ¬ m2 j = -1 := by
            intro e
            rw [e] at q2
            exact absurd q2 (by decide)
          rw [hget, ob_some, if_neg nm1, if_neg ca, show (Int32.ofNat 8192) = Jn 8192 from rfl, if_neg (J_nle (by omega) (by omega)), gd_Jn (by omega) (by omega), gd_Jn (by omega) (by omega), gd_Jn (by omega) (by omega), Jn_cl hj]
          refine ⟨m2 j, (Jn n, upd c2 j v), (Jn n, upd m2 j v), rfl, rfl, h1, rfl, rfl, ?_⟩
          intro k hk
          have hvr : 0 ≤ v.toInt ∧ v.toInt ≤ 255 := by
            have a1 : (0 : Int32) ≤ v := Int32.not_lt.mp cv
            rw [Int32.le_iff_toInt_le] at a1 cv2
            exact ⟨a1, cv2⟩
          dsimp only
          by_cases e : k = j
          · subst e
            rw [upd_self, upd_self]
            exact ⟨rfl, hvr⟩
          · rw [upd_ne _ _ e, upd_ne _ _ e]
            exact h4 k hk
        · rw [if_neg cv2, if_neg cv2]
          exact ⟨_, _, _, rfl, rfl, hX⟩
/-- what is written, under both sides' hands -/
def WV (o : S_Bytes) (V : S_MV) (acc : List Int32) : Prop := WRc o acc ∧ WRc V acc ∧ ∀ c, c ∈ acc → 0 ≤ c.toInt ∧ c.toInt ≤ 255
theorem byteAt_ok {o : S_Bytes} {V : S_MV} {acc : List Int32} (h : WV o V acc) (a : Int32) : ∃ r, f_Top_byteAt o a = some r ∧ f_Model_byteAt V a = some r := by
  obtain ⟨h1, h2, h3⟩ := h
  have hl := h1.2.1
  unfold f_Top_byteAt f_Model_byteAt
  rw [ob_id]
  by_cases ca : a < 0
  · rw [if_pos ca]
    exact ⟨-1, by unfold f_Bytes_get; rw [if_pos ca], rfl⟩
  · rw [if_neg ca]
    obtain ⟨j, hj, rfl⟩ := Jn_of (x := a) (Int32.not_lt.mp ca)
    by_cases cj : j < acc.length
    · rw [get_c h1 cj, h2.1, if_pos (J_lt cj (by omega)), gd_Jn (by omega) (by omega), Jn_cl hj, h2.2.2 j cj]
      exact ⟨_, rfl, rfl⟩
    · rw [h2.1, if_neg (J_nlt (by omega) hj)]
      exact ⟨-1, by unfold f_Bytes_get; rw [if_neg ca, h1.1, if_pos (J_le (by omega) hj)], rfl⟩
theorem back_ok {cT : S_Bytes} {mX : S_MX} {n : Nat} (h : XT cT mX n) {o : S_Bytes} {V : S_MV} {acc : List Int32} (hw : WV o V acc) : ∃ r cT' mX' n', f_Top_back cT o = some (r, cT') ∧ f_Model_back mX V = some (r, mX') ∧ XT cT' mX' n' := by
  obtain ⟨w1, w2, w3⟩ := hw
  have hl := w1.2.1
  unfold f_Top_back f_Model_back
  have e1 : o.1 = Jn acc.length := w1.1
  have e2 : V.1 = Jn acc.length := w2.1
  rw [e1, e2]
  by_cases c0 : acc.length = 0
  · rw [if_pos (eqR 0 c0), if_pos (eqR 0 c0)]
    exact ⟨_, _, _, n, rfl, rfl, h⟩
  · rw [if_neg (neR 0 c0), if_neg (neR 0 c0)]
    by_cases c1 : acc.length ≤ 8192
    · rw [if_pos (leR 8192 c1), if_pos (leR 8192 c1)]
      obtain ⟨t1, t2⟩ := cT
      have ht : t1 = Jn n := h.2.1
      have hn := h.1
      subst ht
      rw [show (0 : Int32) = Jn 0 from rfl, cut_c (Nat.zero_le _) (by omega), ob_some]
      have hC : ∀ (d k f : Nat) (t : Nat → Int32), acc.length - k < d → d ≤ f → k ≤ acc.length → (∀ j, j < k → t j = acc.getD j 0) → ∃ t', f_Top_back_L35 o f (Jn k) (Jn k, t) = some (Jn acc.length, t') ∧ ∀ j, j < acc.length → t' j = acc.getD j 0 := by
        intro d
        induction d with
        | zero => intro k f t h1; omega
        | succ d ih =>
          intro k f t h1 h2 h3 h4
          obtain ⟨f, rfl⟩ : ∃ g, f = g + 1 := ⟨f - 1, by omega⟩
          rw [f_Top_back_L35, e1]
          by_cases ck : k = acc.length
          · rw [if_pos (by rw [ck]; exact Int32.le_refl _)]
            exact ⟨t, by rw [ck], by rw [← ck]; exact h4⟩
          · rw [if_neg (J_nle (by omega) (by omega)), get_c w1 (by omega), ob_some, tput (by omega), ob_some, nm_eq, addL k 1]
            refine ih (k + 1) f _ (by omega) (by omega) (by omega) ?_
            intro j hj
            by_cases e : j = k
            · rw [e, upd_self]
            · rw [upd_ne _ _ e]; exact h4 j (by omega)
      have hM : ∀ (d k f : Nat) (x1 : Int32) (t : Nat → Int32), acc.length - k < d → d ≤ f → k ≤ acc.length → (∀ j, j < k → t j = acc.getD j 0) → ∃ t', f_Model_back_L21 V f (Jn k) (x1, t) = some (x1, t') ∧ ∀ j, j < acc.length → t' j = acc.getD j 0 := by
        intro d
        induction d with
        | zero => intro k f x1 t h1; omega
        | succ d ih =>
          intro k f x1 t h1 h2 h3 h4
          obtain ⟨f, rfl⟩ : ∃ g, f = g + 1 := ⟨f - 1, by omega⟩
          rw [f_Model_back_L21, e2]
          by_cases ck : k = acc.length
          · rw [if_pos (by rw [ck]; exact Int32.le_refl _)]
            exact ⟨t, rfl, by rw [← ck]; exact h4⟩
          · rw [if_neg (J_nle (by omega) (by omega)), gd_Jn (by omega) (by omega), nm_eq, gd_Jn (by omega) (by omega), nm_eq, addL k 1, Jn_cl (by omega), w2.2.2 k (by omega)]
            refine ih (k + 1) f _ _ (by omega) (by omega) (by omega) ?_
            intro j hj
            dsimp only
            by_cases e : j = k
            · rw [e, upd_self]
            · rw [upd_ne _ _ e]; exact h4 j (by omega)
      obtain ⟨t', q1, q2⟩ := hC 8193 0 FU t2 (by omega) (by decide) (by omega) (fun j hj => by omega)
      obtain ⟨x1, x2⟩ := mX
      obtain ⟨u', r1, r2⟩ := hM 8193 0 FU x1 x2 (by omega) (by decide) (by omega) (fun j hj => by omega)
      rw [q1, ob_some, r1, ob_some]
      refine ⟨_, _, _, acc.length, rfl, rfl, c1, rfl, rfl, ?_⟩
      intro k hk
      dsimp only
      rw [q2 k hk, r2 k hk]
      refine ⟨rfl, w3 _ ?_⟩
      rw [List.getD_eq_getElem?_getD, List.getElem?_eq_getElem hk]
      exact List.getElem_mem hk
    · rw [if_neg (nleR 8192 (by omega)), if_neg (nleR 8192 (by omega))]
      exact ⟨_, _, _, n, rfl, rfl, h⟩
end
section
/-! A text is read by both sides. -/
/-- both sides hold the same tree -/
def RDOK (cn : S_Names) (t : S_Tree) (mN : S_MN) (T : S_MT) (Q : S_MQ) : Prop :=
  ∃ (ns : List (List Int32)) (N : Nat) (ch : Nat → List Nat) (rk : Nat → Nat) (D : List Nat) (fo : FO),
    CNW cn ns ∧ MN mN ns ∧ GTr T N ch rk ∧ 0 < N ∧ par T 0 = -1 ∧ QR Q (0 :: D) ∧ (0 :: D).Nodup ∧ (∀ y, y ∈ 0 :: D → y < N) ∧ CT t ((0 :: D).map (ent T ch)) ∧ LKR t ch (0 :: D) ∧
    repF T ch [0] (one 0 0 0 fo) ∧ ATF t (-1) 0 0 (one 0 0 0 fo) ∧ (0 :: D).map (ent T ch) = (one 0 0 0 fo).flat ∧ goodF ns.length (one 0 0 0 fo) ∧ needF (one 0 0 0 fo) ≤ 2560 ∧
    (ren ns [] (tkF 0 0 0 fo)).length ≤ 16384 ∧ ∀ c, c ∈ ren ns [] (tkF 0 0 0 fo) → 0 ≤ c.toInt ∧ c.toInt ≤ 255
/-- neither side holds a tree -/
def RDNO (cn : S_Names) (t : S_Tree) (mN : S_MN) (Q : S_MQ) : Prop := CN cn WS [] ∧ mN.1 = 0 ∧ t.1 = 0 ∧ Q.1 = 0
def BYT (l : List Int32) : Prop := ∀ c, c ∈ l → 0 ≤ c.toInt ∧ c.toInt ≤ 255
theorem BYT.app {a b : List Int32} (h1 : BYT a) (h2 : BYT b) : BYT (a ++ b) := by
  intro c hc
  rcases List.mem_append.mp hc with x | x
  · exact h1 c x
  · exact h2 c x
theorem Jn_byt {a : Nat} (h : a ≤ 255) : 0 ≤ (Jn a).toInt ∧ (Jn a).toInt ≤ 255 := by
  rw [Jn_int (by omega)]; omega
theorem dgs_byt : ∀ (k a : Nat), BYT (dgs k a)
  | 0, a => by intro c hc; cases hc
  | k + 1, a => by
    intro c hc
    rw [dgs] at hc
    cases hc with
    | head => exact Jn_byt (by omega)
    | tail _ h => exact dgs_byt k a c h
theorem ren_byt {ns : List (List Int32)} : ∀ (X : List Tok) (acc : List Int32), BYT acc → (∀ t, t ∈ X → BYT (tkB ns t)) → BYT (ren ns acc X)
  | [], acc, h, _ => h
  | t :: X, acc, h, hX => by
    rw [ren]
    refine ren_byt X _ ?_ (fun s hs => hX s (List.mem_cons_of_mem _ hs))
    unfold ren1
    refine BYT.app (BYT.app h ?_) (hX t List.mem_cons_self)
    intro c hc
    split at hc
    · rw [List.mem_singleton] at hc
      subst hc
      decide
    · cases hc
theorem tks_mem {kd vl : Nat → Int32} {t : Tok} : ∀ (k i : Nat), t ∈ tks kd vl i k → ∃ j, i ≤ j ∧ j < i + k ∧ t = nzT (kd j) (vl j)
  | 0, i, h => by cases h
  | k + 1, i, h => by
    rw [tks] at h
    cases h with
    | head => exact ⟨i, Nat.le_refl _, by omega, rfl⟩
    | tail _ h =>
      obtain ⟨j, h1, h2, h3⟩ := tks_mem k (i + 1) h
      exact ⟨j, by omega, by omega, h3⟩
theorem nz_byt {b : Nat → Int32} {s e : Nat} {K V T : Int32} {ns : List (List Int32)} (hNB : NB ns) (hns : ns.length ≤ 8192) (h : TFG b s e K V ns) (hT : KM K T) (h4 : K ≠ 4) : BYT (tkB ns (nzT K V)) := by
  rcases h with ⟨_, _, w, w1, w2, w3⟩ | ⟨_, _, k1, a, a1, a2, a3⟩ | hF
  · have hnk : ¬ K = 1 ∧ ¬ K = 2 ∧ ¬ K = 3 := by
      rw [w2]
      exact ⟨neR 1 (by omega), neR 2 (by omega), neR 3 (by omega)⟩
    by_cases c32 : w = 32
    · subst c32
      have en : nzT K V = (38, 0) := by
        unfold nzT
        rw [if_neg hnk.1, if_neg hnk.2.1, if_neg hnk.2.2, if_pos (by rw [w2]; rfl)]
      rw [en]
      show BYT [38]
      intro c hc
      rw [List.mem_singleton] at hc
      subst hc
      decide
    · have en : nzT K V = (K, 0) := by
        unfold nzT
        rw [if_neg hnk.1, if_neg hnk.2.1, if_neg hnk.2.2, if_neg (by rw [w2]; exact neR 288 (by omega))]
      have hw : wordK K := by
        rw [w2]
        exact ⟨ltL 255 (by omega), ltR 297 (by omega)⟩
      have et : tkB ns (K, 0) = WS.getD w [] := by
        unfold tkB
        rw [if_neg hnk.1, if_neg hnk.2.1, if_neg hnk.2.2, if_pos hw]
        dsimp only
        rw [w2, subL 256 (by omega), Jn_cl (by omega), show 256 + w - 256 = w by omega]
      rw [en, et]
      have key : ∀ w, w < 41 → ∀ c, c ∈ WS.getD w [] → 0 ≤ c.toInt ∧ c.toInt ≤ 255 := by decide +kernel
      exact key w w1
  · have en : nzT K V = (1, V) := by
      unfold nzT
      rw [if_pos k1]
    have et : tkB ns (1, V) = ns.getD a [] := by
      unfold tkB
      rw [if_pos rfl]
      dsimp only
      rw [a1, Jn_cl (by omega)]
    rw [en, et]
    have hm : ns.getD a [] ∈ ns := by
      rw [List.getD_eq_getElem?_getD, List.getElem?_eq_getElem a2]
      exact List.getElem_mem a2
    exact (hNB _ hm).2
  · rcases hF with ⟨k1, _, _, a, a1, a2, a3⟩ | ⟨k1, _, a, a1, a2, a3⟩ | ⟨k1, k2, k3⟩
    · have en : nzT K V = (2, V) := by
        unfold nzT
        rw [if_neg (by rw [k1]; decide), if_pos k1]
      have et : tkB ns (2, V) = digs a := by
        unfold tkB
        rw [if_neg (show ¬ (2 : Int32) = 1 by decide), if_pos rfl]
        dsimp only
        rw [a1, Jn_cl a2]
      rw [en, et]
      exact dgs_byt _ _
    · have en : nzT K V = (3, V) := by
        unfold nzT
        rw [if_neg (by rw [k1]; decide), if_neg (by rw [k1]; decide), if_pos k1]
      have et : tkB ns (3, V) = plB a := by
        unfold tkB
        rw [if_neg (show ¬ (3 : Int32) = 1 by decide), if_neg (show ¬ (3 : Int32) = 2 by decide), if_pos rfl]
        dsimp only
        rw [a1, Jn_cl (by omega)]
      rw [en, et]
      unfold plB
      have key : ∀ q : Fin 12, 0 ≤ (PL.getD q.1 0).toInt ∧ (PL.getD q.1 0).toInt ≤ 255 := by decide +kernel
      intro c hc
      cases hc with
      | head => decide
      | tail _ hc =>
        cases hc with
        | head => exact key ⟨2 * (a / 256), by omega⟩
        | tail _ hc =>
          cases hc with
          | head => exact key ⟨2 * (a / 256) + 1, by omega⟩
          | tail _ hc => exact dgs_byt _ _ c hc
    · have hnk : ¬ K = 1 ∧ ¬ K = 2 ∧ ¬ K = 3 := ⟨fun x => k1 (Or.inl x), fun x => k1 (Or.inr (Or.inl x)), fun x => k1 (Or.inr (Or.inr x))⟩
      obtain ⟨q1, q2, q3, q4⟩ := KM_sign hT k1 h4 k3
      have en : nzT K V = (K, 0) := by
        unfold nzT
        rw [if_neg hnk.1, if_neg hnk.2.1, if_neg hnk.2.2, if_neg q4]
      have et : tkB ns (K, 0) = sgB K := by
        unfold tkB
        rw [if_neg hnk.1, if_neg hnk.2.1, if_neg hnk.2.2, if_neg (show ¬ wordK K from k3)]
      rw [en, et]
      have key : ∀ p ∈ KMT, ¬ wordK p.1 → ∀ c, c ∈ sgB p.1 → 0 ≤ c.toInt ∧ c.toInt ≤ 255 := by decide +kernel
      exact key (K, T) hT k3
theorem NB_NBs {ns : List (List Int32)} (h : NB ns) (hl : ns.length ≤ 4096) : NBs ns := by
  refine ⟨hl, fun i hi => ?_⟩
  have hm : ns.getD i [] ∈ ns := by
    rw [List.getD_eq_getElem?_getD, List.getElem?_eq_getElem hi]
    exact List.getElem_mem hi
  refine ⟨(h _ hm).1, fun c hc e => ?_⟩
  have := ((h _ hm).2 c hc).1
  rw [e] at this
  exact absurd this (by decide)
theorem read_ok {cT : S_Bytes} {mX : S_MX} {n : Nat} (h : XT cT mX n) {C : S_MC} (hC : MC C) {cn : S_Names} {ns0 : List (List Int32)} (hcn : CN cn (WS ++ ns0) []) (tk0 : S_Tokens) (t0 : S_Tree) (p0 : S_Parser) (L0 : S_ML) (N0 : S_MN) (T0 : S_MT) (U0 : S_MU) (O0 : S_MO) (E0 : S_ME) (Q0 : S_MQ) :
    ∃ r cn' tk' t' p' L' N' T' U' O' E' Q', f_Top_read cT cn tk0 t0 p0 = some (r, cn', tk', t', p') ∧ f_Model_read C mX L0 N0 T0 U0 O0 E0 Q0 = some (r, L', N', T', U', O', E', Q') ∧ L'.2.2.2.2.2 = (pFau p', pFPl p') ∧ (RDNO cn' t' N' Q' ∨ RDOK cn' t' N' T' Q') := by
  have hn := h.1
  have hX := h.tx
  -- the names are forgotten
  obtain ⟨cn1, f1, f2⟩ := hcn.forget (by rw [List.length_append, WS_len]; omega)
  have tkW : (WS ++ ns0).take 41 = WS := by rw [List.take_append_of_le_length (by rw [WS_len]; omega), List.take_of_length_le (by rw [WS_len]; omega)]
  rw [tkW] at f2
  have hNR : NR cn1 (0, upd N0.2.1 (0 : Int32).toNatClampNeg 0, N0.2.2) [] 0 := by
    refine ⟨by rw [List.append_nil]; exact f2, ⟨rfl, by decide, by decide, ?_, fun k hk => absurd hk (by simp)⟩, by rw [List.append_nil]; exact WS_uq, by decide, by decide⟩
    intro i hi
    have : i = 0 := by simpa using hi
    subst this
    show upd N0.2.1 (0 : Int32).toNatClampNeg 0 (0 : Int32).toNatClampNeg = 0
    exact upd_self _ _ _
  -- the tokens
  obtain ⟨m, a', kd, pl, vl, cn2, Ls, s1, s2, s3, s4, s5, s6, s7, s8, s9, s10, s11, s12, s13⟩ := scanL hX hC (n + 1) 0 0 FU cn1 _ [] tk0.2.2.1 tk0.2.2.2.1 tk0.2.2.2.2 0 L0.2.1 L0.2.2.1 L0.2.2.2.2.1 (by omega) (by unfold FU; omega) (by omega) (by omega) hNR (fun _ => by decide) (fun h => by omega)
  have escan : f_Tokens_scan tk0 cT cn = some ((Jn m, a', kd, pl, vl), cn2) := by
    unfold f_Tokens_scan
    rw [f1, ob_some]
    have : f_Tokens_scan_L21 cT FU 0 1 (0, 0, tk0.2.2) cn1 = some ((Jn m, a', kd, pl, vl), cn2) := s1
    rw [this]
    rfl
  have hst : ∀ i, i + 1 < m → f_Model_step C mX (Ls i).1 (Ls i).2 = some (Ls (i + 1)) := fun i hi => s6 i (Nat.zero_le _) hi
  have htok : ∀ i, i < m → TOK kd pl vl i (Ls i).1 := fun i hi => s7 i (Nat.zero_le _) hi
  have hne : ∀ i, i + 1 < m → kd i ≠ 4 ∧ kd i ≠ 5 := fun i hi => s8 i (Nat.zero_le _) hi
  -- the tree
  obtain ⟨p', t', T1, U1, s', x1, x2, x3, x4, x5, x6⟩ := parse_ok (ar := a') hst htok hne s9 (by omega) (by omega) (fun hb => by have := s10 hb; omega) p0 t0 T0 U0 O0 E0
  have emread : f_Model_read C mX L0 N0 T0 U0 O0 E0 Q0 = (if s'.1.2.2.2.2.2.1 = 0 then (f_Model_number s'.2.2.1 (0, Q0.2)).bind fun r7 => some (s'.1.2.2.2.2.2.1, s'.1, s'.2.1, s'.2.2.1, s'.2.2.2.1, s'.2.2.2.2.1, s'.2.2.2.2.2, r7) else some (s'.1.2.2.2.2.2.1, s'.1, (0, s'.2.1.2), s'.2.2.1, s'.2.2.2.1, s'.2.2.2.2.1, s'.2.2.2.2.2, (0, Q0.2))) := by
    unfold f_Model_read
    rw [show gd 0 8193 = gd (Jn 0) 8193 from rfl, gd_Jn (by omega) (by omega), x2, ob_some, x3, ob_some]
    have : f_Model_step C mX (0, L0.2.1, L0.2.2.1, 0, L0.2.2.2.2.1, 0, -1) (0, upd N0.2.1 (0 : Int32).toNatClampNeg 0, N0.2.2) = some (Ls 0) := s5
    rw [this, ob_some, x4, ob_some]
  have ef : s'.1.2.2.2.2.2.1 = pFau p' := congrArg Prod.fst x5
  by_cases c0 : pFau p' = 0
  · -- all is well
    obtain ⟨y1, y2, ⟨ch, D, d1, ⟨rk, d2⟩, d3, d4, d5, d6⟩, y4, pb, fq, t1, r3, y5, y6, y7, y8, y9⟩ := x6 c0
    obtain ⟨ns, En, z1, z2, z3, z4⟩ := s11 y1
    have hNB : NB ns := z3 (fun x hx => by cases hx)
    have hnsl : ns.length ≤ 4096 := by have := z1.2.2.2.2; omega
    have hKM : ∀ i, i + 1 < m → ∃ T, KM (kd i) T := by
      intro i hi
      rcases htok i (by omega) with ⟨q, _⟩ | ⟨_, q, _⟩
      · exact absurd q (hne i hi).2
      · exact ⟨_, q⟩
    have tv : TV m kd vl ns.length := by
      intro i hi
      by_cases ce : i + 1 < m
      · obtain ⟨s, _, _, hF, _⟩ := z4.2 i (Nat.zero_le _) ce
        rcases hF with ⟨_, _, w, w1, w2, w3⟩ | ⟨_, _, k1, a, a1, a2, a3⟩ | ⟨k1, _, _, a, a1, a2, a3⟩ | ⟨k1, _, a, a1, a2, a3⟩ | ⟨k1, _, _⟩
        · refine ⟨fun e => ?_, fun e => ?_, fun e => ?_⟩
          · rw [w2] at e; exact absurd e (neR 1 (by omega))
          · rw [w2] at e; exact absurd e (neR 2 (by omega))
          · rw [w2] at e; exact absurd e (neR 3 (by omega))
        · refine ⟨fun _ => ⟨a, a1, a2⟩, fun e => ?_, fun e => ?_⟩
          · rw [k1] at e; exact absurd e (by decide)
          · rw [k1] at e; exact absurd e (by decide)
        · refine ⟨fun e => ?_, fun _ => ⟨a, a2, a1⟩, fun e => ?_⟩
          · rw [k1] at e; exact absurd e (by decide)
          · rw [k1] at e; exact absurd e (by decide)
        · refine ⟨fun e => ?_, fun e => ?_, fun _ => ⟨a, a1, a2⟩⟩
          · rw [k1] at e; exact absurd e (by decide)
          · rw [k1] at e; exact absurd e (by decide)
        · exact ⟨fun e => absurd (Or.inl e) k1, fun e => absurd (Or.inr (Or.inl e)) k1, fun e => absurd (Or.inr (Or.inr e)) k1⟩
      · have ei : i = m - 1 := by omega
        subst ei
        refine ⟨fun e => ?_, fun e => ?_, fun e => ?_⟩
        · rw [y1] at e; exact absurd e (by decide)
        · rw [y1] at e; exact absurd e (by decide)
        · rw [y1] at e; exact absurd e (by decide)
    obtain ⟨fo, g1, g2, g3, g4⟩ := parse_tree y4 tv y7 y6 y5 y8
    rw [y9] at g1
    have hDl : D.length < 16384 := by
      have := d1.2.1
      rw [List.length_map, List.length_cons] at this
      omega
    have hN0 : 0 < D.length + 1 := by omega
    obtain ⟨Q', n1, n2, n3, n4⟩ := number_ok d2 d6 hN0 d3 hDl (0, Q0.2)
    obtain ⟨t2, l1, l2, l3⟩ := link_ok d2 d6 hN0 d3 d1
    -- the lists are one
    have hlen : ((0 :: D).map (ent s'.2.2.1 ch)).length = (one 0 0 0 fo).flat.length := by
      have e := d1.1.symm.trans g1.1
      have b1 := d1.2.1
      have b2 := g1.2.1
      exact (Jn_eq (by omega) (by omega)).mp e
    have hflat : (0 :: D).map (ent s'.2.2.1 ch) = (one 0 0 0 fo).flat := by
      apply List.ext_getElem hlen
      intro k k1 k2
      have a1 := d1.2.2 k k1
      have a2 := g1.2.2 k k2
      have e1 : ((0 :: D).map (ent s'.2.2.1 ch)).getD k e0 = ((0 :: D).map (ent s'.2.2.1 ch))[k] := by
        rw [List.getD_eq_getElem?_getD, List.getElem?_eq_getElem k1]; rfl
      have e2 : (one 0 0 0 fo).flat.getD k e0 = (one 0 0 0 fo).flat[k] := by
        rw [List.getD_eq_getElem?_getD, List.getElem?_eq_getElem k2]; rfl
      rw [e1] at a1
      rw [e2] at a2
      have b1 := d1.2.1
      have b2 := g1.2.1
      have c4 : ((0 :: D).map (ent s'.2.2.1 ch))[k].2.2.2 = (one 0 0 0 fo).flat[k].2.2.2 := by
        have e := a1.2.2.2.1.symm.trans a2.2.2.2.1
        have q1 := a1.2.2.2.2
        have q2 := a2.2.2.2.2
        exact (Jn_eq (by omega) (by omega)).mp e
      exact Prod.ext (a1.1.symm.trans a2.1) (Prod.ext (a1.2.1.symm.trans a2.2.1) (Prod.ext (a1.2.2.1.symm.trans a2.2.2.1) c4))
    obtain ⟨w1, w2, w3, w4, w5⟩ := l3
    have hT2 : CT t2 ((0 :: D).map (ent s'.2.2.1 ch)) := ⟨by rw [w1]; exact d1.1, d1.2.1, fun i hi => by rw [w2, w3, w4, w5]; exact d1.2.2 i hi⟩
    obtain ⟨r1, r2⟩ := atf0 d2 n3 n4 hT2 l2 d3 (hflat ▸ hT2) hflat
    have hsub : (tkF 0 0 0 fo).Sublist (tks kd vl 0 (m - 1)) := by
      have := g4.2
      rw [Nat.sub_zero] at this
      exact this
    have hrl : (ren ns [] (tkF 0 0 0 fo)).length ≤ 16384 := by
      refine ren_len (b := fun k => if k < n then mX.2 k else -1) hn (by omega) z4 hKM (fun i hi => (hne i hi).1) (m - 1) 0 0 [] _ (by omega) hsub ?_ (by decide) (fun hx => absurd hx (by unfold nlB; decide))
      obtain ⟨s, q1, q2, q3⟩ := z4.1
      exact ⟨s, q1, q2, q3⟩
    have hrb : BYT (ren ns [] (tkF 0 0 0 fo)) := by
      refine ren_byt _ _ (fun c hc => by cases hc) ?_
      intro t ht
      obtain ⟨j, j1, j2, rfl⟩ := tks_mem _ _ (hsub.subset ht)
      obtain ⟨s, _, _, hF, _⟩ := z4.2 j (Nat.zero_le _) (by omega)
      obtain ⟨T, hT⟩ := hKM j (by omega)
      exact nz_byt hNB (by omega) hF hT (hne j (by omega)).1
    refine ⟨pFau p', cn2, (Jn m, a', kd, pl, vl), t2, p', s'.1, s'.2.1, s'.2.2.1, s'.2.2.2.1, s'.2.2.2.2.1, s'.2.2.2.2.2, Q', ?_, ?_, x5, Or.inr ?_⟩
    · unfold f_Top_read
      rw [escan, ob_some, x1, ob_some]
      dsimp only
      rw [if_pos c0, l1]
      rfl
    · rw [emread, if_pos (by rw [ef]; exact c0), n1, ob_some, ef]
    · rw [y2]
      exact ⟨ns, D.length + 1, ch, rk, D, fo, ⟨z1.1, NB_NBs hNB hnsl⟩, z1.2.1, d2, hN0, d6, n2, n3, n4, hT2, l2, r1, r2, hflat, g2, g3, hrl, hrb⟩
  · -- something cannot come
    obtain ⟨ns, z1⟩ := s12
    obtain ⟨cn3, u1, u2⟩ := z1.forget (by rw [List.length_append, WS_len]; omega)
    have tkW2 : (WS ++ ns).take 41 = WS := by rw [List.take_append_of_le_length (by rw [WS_len]; omega), List.take_of_length_le (by rw [WS_len]; omega)]
    rw [tkW2] at u2
    refine ⟨pFau p', cn3, (Jn m, a', kd, pl, vl), (0, t'.2), p', s'.1, (0, s'.2.1.2), s'.2.2.1, s'.2.2.2.1, s'.2.2.2.2.1, s'.2.2.2.2.2, (0, Q0.2), ?_, ?_, x5, Or.inl ⟨u2, rfl, rfl, rfl⟩⟩
    · unfold f_Top_read f_Tree_forget
      rw [escan, ob_some, x1, ob_some]
      dsimp only
      rw [if_neg c0, ob_some, u1]
      rfl
    · rw [emread, if_neg (by rw [ef]; exact c0), ef]
end
section
/-! Both sides answer alike: count, node, nameByte, write. -/
def SIM (cT o : S_Bytes) (cn : S_Names) (t : S_Tree) (p : S_Parser) (C : S_MC) (X : S_MX) (L : S_ML) (N : S_MN) (T : S_MT) (Q : S_MQ) (V : S_MV) : Prop :=
  (MC C) ∧
  (∃ n, XT cT X n) ∧
  (∃ acc, WV o V acc) ∧
  (L.2.2.2.2.2 = (pFau p, pFPl p)) ∧
  (RDNO cn t N Q ∨ RDOK cn t N T Q)
theorem SIM.mc {cT o : S_Bytes} {cn : S_Names} {t : S_Tree} {p : S_Parser} {C : S_MC} {X : S_MX} {L : S_ML} {N : S_MN} {T : S_MT} {Q : S_MQ} {V : S_MV} (h : SIM cT o cn t p C X L N T Q V) : MC C := h.1
theorem SIM.txt {cT o : S_Bytes} {cn : S_Names} {t : S_Tree} {p : S_Parser} {C : S_MC} {X : S_MX} {L : S_ML} {N : S_MN} {T : S_MT} {Q : S_MQ} {V : S_MV} (h : SIM cT o cn t p C X L N T Q V) : ∃ n, XT cT X n := h.2.1
theorem SIM.wri {cT o : S_Bytes} {cn : S_Names} {t : S_Tree} {p : S_Parser} {C : S_MC} {X : S_MX} {L : S_ML} {N : S_MN} {T : S_MT} {Q : S_MQ} {V : S_MV} (h : SIM cT o cn t p C X L N T Q V) : ∃ acc, WV o V acc := h.2.2.1
theorem SIM.fau {cT o : S_Bytes} {cn : S_Names} {t : S_Tree} {p : S_Parser} {C : S_MC} {X : S_MX} {L : S_ML} {N : S_MN} {T : S_MT} {Q : S_MQ} {V : S_MV} (h : SIM cT o cn t p C X L N T Q V) : L.2.2.2.2.2 = (pFau p, pFPl p) := h.2.2.2.1
theorem SIM.tree {cT o : S_Bytes} {cn : S_Names} {t : S_Tree} {p : S_Parser} {C : S_MC} {X : S_MX} {L : S_ML} {N : S_MN} {T : S_MT} {Q : S_MQ} {V : S_MV} (h : SIM cT o cn t p C X L N T Q V) : RDNO cn t N Q ∨ RDOK cn t N T Q := h.2.2.2.2
section
variable {cT o : S_Bytes} {cn : S_Names} {t : S_Tree} {p : S_Parser} {C : S_MC} {X : S_MX} {L : S_ML} {N : S_MN} {T : S_MT} {Q : S_MQ} {V : S_MV}
theorem SIM.size (h : SIM cT o cn t p C X L N T Q V) : t.1 = Q.1 := by
  rcases h.tree with ⟨_, _, h1, h2⟩ | ⟨ns, M, ch, rk, D, fo, q1, q2, q3, q4, q5, q6, q7, q8, q9, q10, q11, q12, q13, q14, q15, q16⟩
  · rw [h1, h2]
  · rw [q9.1, q6.1, List.length_map]
theorem SIM.names (h : SIM cT o cn t p C X L N T Q V) : cn.1 - 41 = N.1 := by
  rcases h.tree with ⟨h1, h2, _, _⟩ | ⟨ns, M, ch, rk, D, fo, q1, q2, q3, q4, q5, q6, q7, q8, q9, q10, q11, q12, q13, q14, q15, q16⟩
  · rw [h1.1, h2, WS_len]; rfl
  · rw [q1.1.1, q2.1, List.length_append, WS_len, subL 41 (by omega), show 41 + ns.length - 41 = ns.length by omega]
theorem count_ok (h : SIM cT o cn t p C X L N T Q V) (a : Int32) : ∃ r, f_Top_count cT o cn t p a = some r ∧ f_Model_count X L N Q V a = some r := by
  obtain ⟨n, hx⟩ := h.txt
  obtain ⟨acc, hw⟩ := h.wri
  have e0 : L.2.2.2.2.2.1 = pFau p := congrArg Prod.fst h.fau
  have e1 : L.2.2.2.2.2.2 = pFPl p := congrArg Prod.snd h.fau
  unfold f_Top_count f_Model_count
  rw [e0, e1, h.size, h.names, hx.2.1, hx.2.2.1, hw.1.1, hw.2.1.1]
  repeat' (first | exact ⟨_, rfl, rfl⟩ | split)
theorem has_no {k : Int32} (h : t.1 = 0) : f_Tree_has t k = some 0 := by
  unfold f_Tree_has
  by_cases c : k < 0
  · rw [if_pos c]
  · rw [if_neg c, h, if_pos (Int32.not_lt.mp c)]
theorem has_out {k M : Nat} (h : t.1 = Jn M) (hk : M ≤ k) (hk2 : k < 2147483648) : f_Tree_has t (Jn k) = some 0 := by
  unfold f_Tree_has
  rw [if_neg (J_nneg hk2), h, if_pos (J_le hk hk2)]
theorem node_none {a : Int32} (h : f_Tree_has t a = some 0) (b : Int32) : f_Top_node t a b = some (-1) := by
  unfold f_Top_node f_Tree_kind f_Tree_place f_Tree_value f_Tree_parent f_Tree_children
  rw [h]
  simp only [ob_some, if_true]
  repeat' split
  all_goals rfl
theorem node_ok (h : SIM cT o cn t p C X L N T Q V) (a b : Int32) : ∃ r, f_Top_node t a b = some r ∧ f_Model_node T Q a b = some r := by
  rcases h.tree with ⟨_, _, h1, h2⟩ | ⟨ns, M, ch, rk, D, fo, q1, q2, q3, q4, q5, q6, q7, q8, q9, q10, q11, q12, q13, q14, q15, q16⟩
  · refine ⟨-1, node_none (has_no h1) b, ?_⟩
    unfold f_Model_node
    by_cases c : a < 0
    · rw [if_pos c]
    · rw [if_neg c, h2, if_pos (Int32.not_lt.mp c)]
  · have hM := q3.2.1
    by_cases c : a < 0
    · refine ⟨-1, node_none (by unfold f_Tree_has; rw [if_pos c]) b, ?_⟩
      unfold f_Model_node
      rw [if_pos c]
    · obtain ⟨k, hk, rfl⟩ := Jn_of (x := a) (Int32.not_lt.mp c)
      obtain ⟨t1, t2, t3⟩ := q9
      rw [List.length_map] at t1 t2 t3
      by_cases ck : k < (0 :: D).length
      · obtain ⟨u1, u2, u3, u4, u5⟩ := t3 k ck
        rw [gd_map ck] at u1 u2 u3 u4 u5
        obtain ⟨v1, v2⟩ := q6.2 k ck
        have hyN : (0 :: D).getD k 0 < M := q8 _ (gdN ck)
        have hhas := has_in t1 ck t2
        have n10 : ¬ (1 : Int32) = 0 := by decide
        have hky : (Jn k).toNatClampNeg = k := Jn_cl (by omega)
        have hyc : (Jn ((0 :: D).getD k 0)).toNatClampNeg = (0 :: D).getD k 0 := Jn_cl (by omega)
        unfold ent dat at u1 u2 u3 u4 u5
        dsimp only at u1 u2 u3 u4 u5
        have gk : ∀ (x : Option Int32), gd (Jn k) 16384 x = x := fun x => gd_Jn (by omega) (by omega) x
        unfold f_Model_node
        rw [if_neg c, q6.1, if_neg (J_nle ck (by omega))]
        by_cases b0 : b = 0
        · subst b0
          refine ⟨T.2.2.1 ((0 :: D).getD k 0), ?_, ?_⟩
          · unfold f_Top_node f_Tree_kind
            rw [if_pos rfl, hhas, ob_some, if_neg n10, gk, hky, u1]
            rfl
          · rw [if_neg (by decide), if_pos (by decide), gd_Jn (by omega) (by omega), if_pos rfl, hky, v1, gd_Jn (by omega) (by omega), hyc]
        · by_cases b1 : b = 1
          · subst b1
            refine ⟨T.2.2.2.1 ((0 :: D).getD k 0), ?_, ?_⟩
            · unfold f_Top_node f_Tree_place
              rw [if_neg b0, if_pos rfl, hhas, ob_some, if_neg n10, gk, hky, u2]
              rfl
            · rw [if_neg (by decide), if_pos (by decide), gd_Jn (by omega) (by omega), if_neg b0, if_pos rfl, hky, v1, gd_Jn (by omega) (by omega), hyc]
          · by_cases b2 : b = 2
            · subst b2
              refine ⟨T.2.2.2.2.1 ((0 :: D).getD k 0), ?_, ?_⟩
              · unfold f_Top_node f_Tree_value
                rw [if_neg b0, if_neg b1, if_pos rfl, hhas, ob_some, if_neg n10, gk, hky, u3]
                rfl
              · rw [if_neg (by decide), if_pos (by decide), gd_Jn (by omega) (by omega), if_neg b0, if_neg b1, if_pos rfl, hky, v1, gd_Jn (by omega) (by omega), hyc]
            · by_cases b3 : b = 3
              · subst b3
                have hpar : f_Top_node t (Jn k) 3 = some (t.2.2.2.2.2.1 k) := by
                  unfold f_Top_node f_Tree_parent
                  rw [if_neg b0, if_neg b1, if_neg b2, if_pos rfl, hhas, ob_some, if_neg n10, gk, hky]
                  rfl
                rw [hpar, if_neg (by decide), if_pos (by decide), gd_Jn (by omega) (by omega), if_neg b0, if_neg b1, if_neg b2, if_pos rfl]
                by_cases k0 : k = 0
                · subst k0
                  obtain ⟨w1, w2⟩ := (q10 0 ck).1 rfl
                  rw [if_pos (show Jn 0 = 0 from rfl)]
                  exact ⟨-1, by rw [show t.2.2.2.2.2.1 0 = -1 from w1], rfl⟩
                · obtain ⟨j, i, w1, w2, w3, w4, w5⟩ := (q10 k ck).2 (by omega)
                  rw [if_neg (neR 0 k0), hky, v1, gd_Jn (by omega) (by omega), hyc]
                  have hjN : (0 :: D).getD j 0 < M := q8 _ (gdN (by omega))
                  obtain ⟨g1, g2, g3, g4⟩ := q3.2.2.2.1 _ i hjN w4
                  rw [w5] at g2
                  rw [g2, gd_Jn (by omega) (by omega), Jn_cl (by omega), (q6.2 j (by omega)).2]
                  exact ⟨Jn j, by rw [show t.2.2.2.2.2.1 k = Jn j from w2], rfl⟩
              · by_cases b4 : b = 4
                · subst b4
                  refine ⟨Jn (ch ((0 :: D).getD k 0)).length, ?_, ?_⟩
                  · unfold f_Top_node f_Tree_children
                    rw [if_neg b0, if_neg b1, if_neg b2, if_neg b3, if_pos rfl, hhas, ob_some, if_neg n10, gk, hky, u4]
                    rfl
                  · rw [if_neg (by decide), if_pos (by decide), gd_Jn (by omega) (by omega), if_neg b0, if_neg b1, if_neg b2, if_neg b3, hky, v1, children_ok q3 hyN (by omega)]
                    rfl
                · refine ⟨-1, ?_, ?_⟩
                  · unfold f_Top_node
                    rw [if_neg b0, if_neg b1, if_neg b2, if_neg b3, if_neg b4]
                  · by_cases bn : b < 0
                    · rw [if_pos bn]
                    · rw [if_neg bn, if_neg]
                      intro hle
                      obtain ⟨w, hw, rfl⟩ := Jn_of (x := b) (Int32.not_lt.mp bn)
                      have hw4 : w ≤ 4 := by
                        have : Jn w ≤ Jn 4 := hle
                        rw [Jn_le hw (by omega)] at this
                        exact this
                      have : w = 0 ∨ w = 1 ∨ w = 2 ∨ w = 3 ∨ w = 4 := by omega
                      rcases this with rfl | rfl | rfl | rfl | rfl
                      · exact b0 rfl
                      · exact b1 rfl
                      · exact b2 rfl
                      · exact b3 rfl
                      · exact b4 rfl
      · refine ⟨-1, node_none (has_out t1 (by omega) hk) b, ?_⟩
        unfold f_Model_node
        rw [if_neg c, q6.1, if_pos (J_le (by omega) hk)]
theorem nameByte_ok (h : SIM cT o cn t p C X L N T Q V) (a b : Int32) : ∃ r, f_Top_nameByte cn a b = some r ∧ f_Model_nameByte N a b = some r := by
  have hn := h.names
  unfold f_Top_nameByte f_Model_nameByte
  by_cases c : a < 0
  · rw [if_pos c, if_pos c]
    exact ⟨-1, rfl, rfl⟩
  · rw [if_neg c, if_neg c, hn]
    obtain ⟨k, hk, rfl⟩ := Jn_of (x := a) (Int32.not_lt.mp c)
    rcases h.tree with ⟨h1, h2, _, _⟩ | ⟨ns, M, ch, rk, D, fo, q1, q2, q3, q4, q5, q6, q7, q8, q9, q10, q11, q12, q13, q14, q15, q16⟩
    · rw [h2, if_neg c, if_pos (Int32.not_lt.mp c)]
      exact ⟨-1, rfl, rfl⟩
    · have hnl := q1.2.1
      have h3 := q2.2.2.1
      rw [q2.1]
      by_cases ck : k < ns.length
      · rw [if_pos (J_lt ck (by omega)), if_neg (J_nle ck (by omega))]
        have hb := offs_lt ns k ck
        have hs := offs_succ ns k ck
        by_cases cb : b < 0
        · refine ⟨-1, ?_, by rw [if_pos cb]⟩
          rw [ob_id, show (41 : Int32) + Jn k = Jn (41 + k) from Jn_add 41 k]
          unfold f_Names_letterOf
          rw [if_neg (J_nneg (by omega)), q1.1.1, List.length_append, WS_len, if_neg (J_nle (by omega) (by omega)), if_neg (nleL 4137 (by omega)), if_pos cb]
        · obtain ⟨j, hj, rfl⟩ := Jn_of (x := b) (Int32.not_lt.mp cb)
          have hL : 41 + k < (WS ++ ns).length := by rw [List.length_append, WS_len]; omega
          have e : (WS ++ ns).getD (41 + k) [] = ns.getD k [] := by
            have := getB (l := WS) (m := ns) (k := k)
            rw [wsF.1] at this
            exact this
          rw [ob_id, show (41 : Int32) + Jn k = Jn (41 + k) from Jn_add 41 k, q1.1.letter hL hj, e]
          refine ⟨_, rfl, ?_⟩
          rw [if_neg cb, addL k 1, gd_Jn (by omega) (by omega), gd_Jn (by omega) (by omega), Jn_cl (by omega), Jn_cl hk, q2.2.2.2.1 (k + 1) (by omega), q2.2.2.2.1 k (by omega), hs, Jn_sub (by omega), show offs ns k + (ns.getD k []).length - offs ns k = (ns.getD k []).length by omega]
          by_cases cj : j < (ns.getD k []).length
          · rw [if_pos (J_lt cj (by omega)), if_pos cj, gd_Jn (by omega) (by omega), Jn_add, gd_Jn (by omega) (by omega), Jn_cl (by omega), Arr.name (f := N.2.2) (m := []) (by rw [List.append_nil]; exact q2.2.2.2.2) ck cj]
          · rw [if_neg (J_nlt (by omega) hj), if_neg cj]
      · rw [if_neg (J_nlt (by omega) hk), if_pos (J_le (by omega) hk)]
        exact ⟨-1, rfl, rfl⟩
theorem write_ok (h : SIM cT o cn t p C X L N T Q V) (I : S_MI) : ∃ r o' V' I', f_Top_write o cn t = some (r, o') ∧ f_Model_write C N T Q V I = some (r, V', I') ∧ ∃ acc, WV o' V' acc := by
  obtain ⟨acc0, hw⟩ := h.wri
  rcases h.tree with ⟨h1, h2, h3, h4⟩ | ⟨ns, M, ch, rk, D, fo, q1, q2, q3, q4, q5, q6, q7, q8, q9, q10, q11, q12, q13, q14, q15, q16, q17⟩
  · refine ⟨-1, o, V, I, ?_, ?_, acc0, hw⟩
    · unfold f_Top_write
      rw [h3, if_pos rfl]
    · unfold f_Model_write
      rw [h4, if_pos rfl]
  · have hsz := q9.2.1
    rw [q13] at hsz
    have hT1 : t.1 = Jn (one 0 0 0 fo).flat.length := by rw [q9.1, q13]
    obtain ⟨o', a1, a2⟩ := write_c q1 hT1 hsz q14 q12 q16 hw.1
    have hpos : 0 < (one 0 0 0 fo).flat.length := by rw [flat_one, List.length_cons]; omega
    have hQ : Q.1 ≠ 0 := by
      rw [q6.1]
      exact neR 0 (by simp) (by have := q9.2.1; rw [List.length_map] at this; omega)
    obtain ⟨V', I', b1, b2⟩ := write_m q3 h.mc q2 q4 q11 q14 q15 hsz q16 hQ V I
    refine ⟨_, o', V', I', ?_, b1, _, a2, b2, q17⟩
    unfold f_Top_write
    rw [hT1, if_neg (neR 0 (by omega) (by omega)), a1, ob_some, a2.1]
end
end
