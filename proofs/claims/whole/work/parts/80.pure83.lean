section
/-! The reference's writer: every kind of node. -/
section
variable {C : S_MC} {Nm : S_MN} {T : S_MT} {ns : List (List Int32)} {N : Nat} {ch : Nat → List Nat} {rk : Nat → Nat}
/-- what is known of a node -/
def NX (C : S_MC) (Nm : S_MN) (T : S_MT) (ns : List (List Int32)) (N : Nat) (ch : Nat → List Nat) (rk : Nat → Nat) (x : Nat) (k v : Int32) (c : FO) : Prop :=
  (GTr T N ch rk) ∧
  (MC C) ∧
  (MN Nm ns) ∧
  (x < 20000) ∧
  (x < N) ∧
  (T.2.2.1 x = k) ∧
  (T.2.2.2.2.1 x = v) ∧
  (T.2.2.2.2.2.2.1 x = hdJ (ch x)) ∧
  (RWS C Nm T ns N ch (ch x) c)
theorem NX.gt {C : S_MC} {Nm : S_MN} {T : S_MT} {ns : List (List Int32)} {N : Nat} {ch : Nat → List Nat} {rk : Nat → Nat} {x : Nat} {k v : Int32} {c : FO} (h : NX C Nm T ns N ch rk x k v c) : GTr T N ch rk := h.1
theorem NX.mc {C : S_MC} {Nm : S_MN} {T : S_MT} {ns : List (List Int32)} {N : Nat} {ch : Nat → List Nat} {rk : Nat → Nat} {x : Nat} {k v : Int32} {c : FO} (h : NX C Nm T ns N ch rk x k v c) : MC C := h.2.1
theorem NX.mn {C : S_MC} {Nm : S_MN} {T : S_MT} {ns : List (List Int32)} {N : Nat} {ch : Nat → List Nat} {rk : Nat → Nat} {x : Nat} {k v : Int32} {c : FO} (h : NX C Nm T ns N ch rk x k v c) : MN Nm ns := h.2.2.1
theorem NX.hx {C : S_MC} {Nm : S_MN} {T : S_MT} {ns : List (List Int32)} {N : Nat} {ch : Nat → List Nat} {rk : Nat → Nat} {x : Nat} {k v : Int32} {c : FO} (h : NX C Nm T ns N ch rk x k v c) : x < 20000 := h.2.2.2.1
theorem NX.xN {C : S_MC} {Nm : S_MN} {T : S_MT} {ns : List (List Int32)} {N : Nat} {ch : Nat → List Nat} {rk : Nat → Nat} {x : Nat} {k v : Int32} {c : FO} (h : NX C Nm T ns N ch rk x k v c) : x < N := h.2.2.2.2.1
theorem NX.kind {C : S_MC} {Nm : S_MN} {T : S_MT} {ns : List (List Int32)} {N : Nat} {ch : Nat → List Nat} {rk : Nat → Nat} {x : Nat} {k v : Int32} {c : FO} (h : NX C Nm T ns N ch rk x k v c) : T.2.2.1 x = k := h.2.2.2.2.2.1
theorem NX.val {C : S_MC} {Nm : S_MN} {T : S_MT} {ns : List (List Int32)} {N : Nat} {ch : Nat → List Nat} {rk : Nat → Nat} {x : Nat} {k v : Int32} {c : FO} (h : NX C Nm T ns N ch rk x k v c) : T.2.2.2.2.1 x = v := h.2.2.2.2.2.2.1
theorem NX.fst {C : S_MC} {Nm : S_MN} {T : S_MT} {ns : List (List Int32)} {N : Nat} {ch : Nat → List Nat} {rk : Nat → Nat} {x : Nat} {k v : Int32} {c : FO} (h : NX C Nm T ns N ch rk x k v c) : T.2.2.2.2.2.2.1 x = hdJ (ch x) := h.2.2.2.2.2.2.2.1
theorem NX.rws {C : S_MC} {Nm : S_MN} {T : S_MT} {ns : List (List Int32)} {N : Nat} {ch : Nat → List Nat} {rk : Nat → Nat} {x : Nat} {k v : Int32} {c : FO} (h : NX C Nm T ns N ch rk x k v c) : RWS C Nm T ns N ch (ch x) c := h.2.2.2.2.2.2.2.2
abbrev GOAL (C : S_MC) (Nm : S_MN) (T : S_MT) (ns : List (List Int32)) (x : Nat) (k v : Int32) (c : FO) : Prop := EMI C Nm T ns [(1, Jn x)] (innT k v c) (nk k + needF c) (20 * (FO.flat c).length + 14)
theorem n20 : (20000 : Nat) < 2147483648 := by omega
/-- a block's part that lays items down -/
theorem openP {x : Nat} {its : List Itm} {X : List Tok} {r w : Nat} {F : S_MI → Option S_MI} (ho : ∀ V I, f_Model_openItem C Nm T V I 1 (Jn x) = (F I).bind fun I' => some (V, I')) (hp : PSH F its) (h : EMI C Nm T ns its X r w) (hr : its.length ≤ r) : EMI C Nm T ns [(1, Jn x)] X r (w + 1) := EMI.opn ho hp h hr
theorem RWS.chain {xs : List Nat} {fo : FO} (h : GTr T N ch rk) (hw : RWS C Nm T ns N ch xs fo) {K V : Int32} (i : Nat) (hK : opK K) (hs : ∀ i k, sepT K V i k = []) : EMI C Nm T ns [(2, hdJ xs)] (tkF K V i fo) (2 + needF fo) (20 * (FO.flat fo).length + 1) := chainI h hK hs fo xs i hw.rep hw.tl hw.each
theorem tk0 (hC : MC C) : EMI C Nm T ns [(0, 0)] [(256, 0)] 1 1 := tW hC 0 (by decide)
theorem tk1 (hC : MC C) : EMI C Nm T ns [(0, 1)] [(257, 0)] 1 1 := tW hC 1 (by decide)
theorem tk2 (hC : MC C) : EMI C Nm T ns [(0, 2)] [(258, 0)] 1 1 := tW hC 2 (by decide)
theorem tk3 (hC : MC C) : EMI C Nm T ns [(0, 3)] [(259, 0)] 1 1 := tW hC 3 (by decide)
theorem tk4 (hC : MC C) : EMI C Nm T ns [(0, 4)] [(260, 0)] 1 1 := tW hC 4 (by decide)
theorem tk5 (hC : MC C) : EMI C Nm T ns [(0, 5)] [(261, 0)] 1 1 := tW hC 5 (by decide)
theorem tk6 (hC : MC C) : EMI C Nm T ns [(0, 6)] [(262, 0)] 1 1 := tW hC 6 (by decide)
theorem tk7 (hC : MC C) : EMI C Nm T ns [(0, 7)] [(263, 0)] 1 1 := tW hC 7 (by decide)
theorem tk8 (hC : MC C) : EMI C Nm T ns [(0, 8)] [(264, 0)] 1 1 := tW hC 8 (by decide)
theorem tk9 (hC : MC C) : EMI C Nm T ns [(0, 9)] [(265, 0)] 1 1 := tW hC 9 (by decide)
theorem tk10 (hC : MC C) : EMI C Nm T ns [(0, 10)] [(266, 0)] 1 1 := tW hC 10 (by decide)
theorem tk11 (hC : MC C) : EMI C Nm T ns [(0, 11)] [(267, 0)] 1 1 := tW hC 11 (by decide)
theorem tk12 (hC : MC C) : EMI C Nm T ns [(0, 12)] [(268, 0)] 1 1 := tW hC 12 (by decide)
theorem tk13 (hC : MC C) : EMI C Nm T ns [(0, 13)] [(269, 0)] 1 1 := tW hC 13 (by decide)
theorem tk14 (hC : MC C) : EMI C Nm T ns [(0, 14)] [(270, 0)] 1 1 := tW hC 14 (by decide)
theorem tk15 (hC : MC C) : EMI C Nm T ns [(0, 15)] [(271, 0)] 1 1 := tW hC 15 (by decide)
theorem tk16 (hC : MC C) : EMI C Nm T ns [(0, 16)] [(272, 0)] 1 1 := tW hC 16 (by decide)
theorem tk17 (hC : MC C) : EMI C Nm T ns [(0, 17)] [(273, 0)] 1 1 := tW hC 17 (by decide)
theorem tk18 (hC : MC C) : EMI C Nm T ns [(0, 18)] [(274, 0)] 1 1 := tW hC 18 (by decide)
theorem tk19 (hC : MC C) : EMI C Nm T ns [(0, 19)] [(275, 0)] 1 1 := tW hC 19 (by decide)
theorem tk20 (hC : MC C) : EMI C Nm T ns [(0, 20)] [(276, 0)] 1 1 := tW hC 20 (by decide)
theorem tk21 (hC : MC C) : EMI C Nm T ns [(0, 21)] [(277, 0)] 1 1 := tW hC 21 (by decide)
theorem tk22 (hC : MC C) : EMI C Nm T ns [(0, 22)] [(278, 0)] 1 1 := tW hC 22 (by decide)
theorem tk23 (hC : MC C) : EMI C Nm T ns [(0, 23)] [(279, 0)] 1 1 := tW hC 23 (by decide)
theorem tk24 (hC : MC C) : EMI C Nm T ns [(0, 24)] [(280, 0)] 1 1 := tW hC 24 (by decide)
theorem tk25 (hC : MC C) : EMI C Nm T ns [(0, 25)] [(281, 0)] 1 1 := tW hC 25 (by decide)
theorem tk26 (hC : MC C) : EMI C Nm T ns [(0, 26)] [(282, 0)] 1 1 := tW hC 26 (by decide)
theorem tk27 (hC : MC C) : EMI C Nm T ns [(0, 27)] [(283, 0)] 1 1 := tW hC 27 (by decide)
theorem tk28 (hC : MC C) : EMI C Nm T ns [(0, 28)] [(284, 0)] 1 1 := tW hC 28 (by decide)
theorem tk29 (hC : MC C) : EMI C Nm T ns [(0, 29)] [(285, 0)] 1 1 := tW hC 29 (by decide)
theorem tk30 (hC : MC C) : EMI C Nm T ns [(0, 30)] [(286, 0)] 1 1 := tW hC 30 (by decide)
theorem tk31 (hC : MC C) : EMI C Nm T ns [(0, 31)] [(287, 0)] 1 1 := tW hC 31 (by decide)
theorem tk32 (hC : MC C) : EMI C Nm T ns [(0, 32)] [(288, 0)] 1 1 := tW hC 32 (by decide)
theorem tk33 (hC : MC C) : EMI C Nm T ns [(0, 33)] [(289, 0)] 1 1 := tW hC 33 (by decide)
theorem tk34 (hC : MC C) : EMI C Nm T ns [(0, 34)] [(290, 0)] 1 1 := tW hC 34 (by decide)
theorem tk35 (hC : MC C) : EMI C Nm T ns [(0, 35)] [(291, 0)] 1 1 := tW hC 35 (by decide)
theorem tk36 (hC : MC C) : EMI C Nm T ns [(0, 36)] [(292, 0)] 1 1 := tW hC 36 (by decide)
theorem tk37 (hC : MC C) : EMI C Nm T ns [(0, 37)] [(293, 0)] 1 1 := tW hC 37 (by decide)
theorem tk38 (hC : MC C) : EMI C Nm T ns [(0, 38)] [(294, 0)] 1 1 := tW hC 38 (by decide)
theorem tk39 (hC : MC C) : EMI C Nm T ns [(0, 39)] [(295, 0)] 1 1 := tW hC 39 (by decide)
theorem tk40 (hC : MC C) : EMI C Nm T ns [(0, 40)] [(296, 0)] 1 1 := tW hC 40 (by decide)
theorem tk50 (hC : MC C) : EMI C Nm T ns [(0, 50)] [(14909, 0)] 1 1 := tS hC 50 14909 (by decide) (by decide) (by decide)
theorem tk51 (hC : MC C) : EMI C Nm T ns [(0, 51)] [(11822, 0)] 1 1 := tS hC 51 11822 (by decide) (by decide) (by decide)
theorem tk52 (hC : MC C) : EMI C Nm T ns [(0, 52)] [(15421, 0)] 1 1 := tS hC 52 15421 (by decide) (by decide) (by decide)
theorem tk53 (hC : MC C) : EMI C Nm T ns [(0, 53)] [(15933, 0)] 1 1 := tS hC 53 15933 (by decide) (by decide) (by decide)
theorem tk54 (hC : MC C) : EMI C Nm T ns [(0, 54)] [(15422, 0)] 1 1 := tS hC 54 15422 (by decide) (by decide) (by decide)
theorem tk55 (hC : MC C) : EMI C Nm T ns [(0, 55)] [(40, 0)] 1 1 := tS hC 55 40 (by decide) (by decide) (by decide)
theorem tk56 (hC : MC C) : EMI C Nm T ns [(0, 56)] [(41, 0)] 1 1 := tS hC 56 41 (by decide) (by decide) (by decide)
theorem tk57 (hC : MC C) : EMI C Nm T ns [(0, 57)] [(91, 0)] 1 1 := tS hC 57 91 (by decide) (by decide) (by decide)
theorem tk58 (hC : MC C) : EMI C Nm T ns [(0, 58)] [(93, 0)] 1 1 := tS hC 58 93 (by decide) (by decide) (by decide)
theorem tk59 (hC : MC C) : EMI C Nm T ns [(0, 59)] [(44, 0)] 1 1 := tS hC 59 44 (by decide) (by decide) (by decide)
theorem tk60 (hC : MC C) : EMI C Nm T ns [(0, 60)] [(59, 0)] 1 1 := tS hC 60 59 (by decide) (by decide) (by decide)
theorem tk61 (hC : MC C) : EMI C Nm T ns [(0, 61)] [(58, 0)] 1 1 := tS hC 61 58 (by decide) (by decide) (by decide)
theorem tk62 (hC : MC C) : EMI C Nm T ns [(0, 62)] [(46, 0)] 1 1 := tS hC 62 46 (by decide) (by decide) (by decide)
theorem tk63 (hC : MC C) : EMI C Nm T ns [(0, 63)] [(43, 0)] 1 1 := tS hC 63 43 (by decide) (by decide) (by decide)
theorem tk64 (hC : MC C) : EMI C Nm T ns [(0, 64)] [(45, 0)] 1 1 := tS hC 64 45 (by decide) (by decide) (by decide)
theorem tk65 (hC : MC C) : EMI C Nm T ns [(0, 65)] [(42, 0)] 1 1 := tS hC 65 42 (by decide) (by decide) (by decide)
theorem tk66 (hC : MC C) : EMI C Nm T ns [(0, 66)] [(47, 0)] 1 1 := tS hC 66 47 (by decide) (by decide) (by decide)
theorem tk67 (hC : MC C) : EMI C Nm T ns [(0, 67)] [(61, 0)] 1 1 := tS hC 67 61 (by decide) (by decide) (by decide)
theorem tk68 (hC : MC C) : EMI C Nm T ns [(0, 68)] [(60, 0)] 1 1 := tS hC 68 60 (by decide) (by decide) (by decide)
theorem tk69 (hC : MC C) : EMI C Nm T ns [(0, 69)] [(62, 0)] 1 1 := tS hC 69 62 (by decide) (by decide) (by decide)
theorem tk70 (hC : MC C) : EMI C Nm T ns [(0, 70)] [(38, 0)] 1 1 := tS hC 70 38 (by decide) (by decide) (by decide)
theorem tk71 (hC : MC C) : EMI C Nm T ns [(0, 71)] [(124, 0)] 1 1 := tS hC 71 124 (by decide) (by decide) (by decide)

theorem RWS.row {xs : List Nat} {fo : FO} (h : GTr T N ch rk) (hC : MC C) (hw : RWS C Nm T ns N ch xs fo) {K V : Int32} (hK : opK K) (hs0 : ∀ k, sepT K V 0 k = []) (hs : ∀ i k, sepT K V (i + 1) k = [(44, 0)]) : EMI C Nm T ns [(3, hdJ xs)] (tkF K V 0 fo) (3 + needF fo) (20 * (FO.flat fo).length + 1) := by
  cases fo with
  | leaf =>
    have : xs = [] := List.length_eq_zero_iff.mp hw.rep.len
    subst this
    exact (EMI.none (by decide) (by decide) (by decide)).mono (by omega) (by omega)
  | inner p k v c r =>
    cases xs with
    | nil => have := hw.rep; rw [repF] at this; exact this.elim
    | cons x xs =>
      rw [tkF_cons (nbrk hK), hs0, List.nil_append]
      exact rowI h hC hK hs r k p v c x xs 0 hw.rep hw.tl hw.each
theorem sep19 {v k : Int32} {i : Nat} (hk : k ≠ 11) : sepT 19 v i k = sgT (if i = 0 then -1 else if i = 1 then 280 else 281) := by
  have e : sepT 19 v i k = sgT (if k = 11 then 282 else if i = 0 then -1 else if i = 1 then 280 else 281) := rfl
  rw [e, if_neg hk]
theorem sep19a {v k : Int32} (hk : k ≠ 11) : sepT 19 v 0 k = [] := sep19 hk
theorem sep19b {v k : Int32} (hk : k ≠ 11) : sepT 19 v 1 k = [(280, 0)] := sep19 hk
theorem sep19c {v k : Int32} (hk : k ≠ 11) : sepT 19 v 2 k = [(281, 0)] := sep19 hk
theorem nd_text {x : Nat} {c : FO} (h : NX C Nm T ns N ch rk x 0 0 c) : GOAL C Nm T ns x 0 0 c := by
  have e := h.rws.chain h.gt (K := 0) (V := 0) 0 ⟨by decide, by decide⟩ (fun _ _ => rfl)
  have ei : innT 0 0 c = tkF 0 0 0 c := by
    unfold innT
    rw [show begT 0 0 = [] from rfl, show finT 0 (FO.len c) = [] from rfl, List.append_nil, List.nil_append]
  show EMI C Nm T ns _ (innT 0 0 c) _ _
  rw [ei]
  rw [← h.fst] at e
  refine (openP (fun V I => ?_) (al_nn h.hx 2) e (by (first | omega | (simp only [List.length_cons, List.length_nil, List.length_append]; omega)))).mono (by unfold nk; simp (decide := true) only [if_false]; omega) (by omega)
  rw [opB h.hx (by rw [h.kind]; decide)]
  unfold f_Model_openBlock
  rw [gd_Jn h.hx n20, Jn_cl (by have := h.hx; omega), h.kind, if_neg (by decide), if_neg (by decide), if_neg (by decide), if_neg (by decide), if_neg (by decide), if_neg (by decide), if_neg (by decide), if_neg (by decide), if_neg (by decide), if_neg (by decide)]
theorem nd_asg {x : Nat} {c : FO} {k1 k2 : Int32} (h : NX C Nm T ns N ch rk x 12 0 c) (hks : c.ks = [k1, k2]) : GOAL C Nm T ns x 12 0 c := by
  have hxl := Jn_cl (show x < 2147483648 by have := h.hx; omega)
  have hN := h.gt.2.1
  obtain ⟨p1, v1, c1, r1, a1, as1, rfl, q1, hch, ka1, va1, n1, s1, e1, w1, lo1⟩ := h.rws.one h.gt hks
  have b1 : a1 < 20000 := by omega
  have nq1 := nk3 k1
  have l1 := Jn_cl (show a1 < 2147483648 by omega)
  obtain ⟨p2, v2, c2, r2, a2, as2, rfl, q2, rfl, ka2, va2, n2, s2, e2, w2, lo2⟩ := w1.one h.gt q1
  have b2 : a2 < 20000 := by omega
  have nq2 := nk3 k2
  have l2 := Jn_cl (show a2 < 2147483648 by omega)
  have hc0 := ks_nil q2
  subst hc0
  have has : as2 = [] := List.length_eq_zero_iff.mp w2.rep.len
  subst has
  have hf : T.2.2.2.2.2.2.1 x = Jn a1 := by rw [h.fst, hch]; rfl
  have s1' : T.2.2.2.2.2.2.2.2 a1 = Jn a2 := s1
  have s2' : T.2.2.2.2.2.2.2.2 a2 = -1 := s2
  have ei : innT 12 0 (FO.cons k1 p1 v1 c1 (FO.cons k2 p2 v2 c2 FO.nil)) = innT k1 v1 c1 ++ ([(14909, 0)] ++ (innT k2 v2 c2 ++ ([(59, 0)]))) := by
    unfold innT
    rw [tkF_cons (nbrk ⟨by decide, by decide⟩), tkF_cons (nbrk ⟨by decide, by decide⟩), tkF]
    show [] ++ (([] ++ (innT k1 v1 c1 ++ ([(14909, 0)] ++ (innT k2 v2 c2 ++ ([]))))) ++ [(59, 0)]) = innT k1 v1 c1 ++ ([(14909, 0)] ++ (innT k2 v2 c2 ++ ([(59, 0)])))
    simp only [List.append_assoc, List.cons_append, List.nil_append, List.append_nil]
  show EMI C Nm T ns _ (innT 12 0 (FO.cons k1 p1 v1 c1 (FO.cons k2 p2 v2 c2 FO.nil))) _ _
  rw [ei]
  have hp : PSH (fun I => f_Model_openStatement T I (Jn x)) [(1, (Jn a1)), (0, 50), (1, (Jn a2)), (0, 60)] := by
    refine PSH.cong (PSH.item 0 60 (PSH.item 1 (Jn a2) (PSH.item 0 50 (PSH.last 1 (Jn a1))))) fun I => ?_
    unfold f_Model_openStatement
    simp (decide := true) only [gd_Jn h.hx n20, hxl, h.kind, h.val, hf, ob_some, ob_id, if_true, if_false, l1, s1', gd_Jn b1 n20, ka1, l2, s2', gd_Jn b2 n20, ka2, second_ok h.hx b1 hf, f_Model_itemAll, f_Model_itemFor, Option.bind_assoc, nm_eq]
  exact (openP (fun V I => opS h.hx (by rw [h.kind]; decide) (by rw [h.kind]; decide) V I) hp (EMI.cons e1 (EMI.cons (tk50 h.mc) (EMI.cons e2 (tk60 h.mc)))) (by first | omega | (simp only [List.length_cons, List.length_nil, List.length_append]; omega))).mono (by show _ ≤ 10 + needF _; (try simp only [nf_cons]); first | omega | (simp only [List.length_cons, List.length_nil, List.length_append]; omega)) (by (try simp only [fl_cons]); first | omega | (simp only [List.length_cons, List.length_nil, List.length_append]; omega))
theorem nd_inv {x : Nat} {v : Int32} {c : FO} {ks : List Int32} (h : NX C Nm T ns N ch rk x 13 v c) (hks : c.ks = ks) (hn : nmd ns.length v) : GOAL C Nm T ns x 13 v c := by
  have hxl := Jn_cl (show x < 2147483648 by have := h.hx; omega)
  have hN := h.gt.2.1
  have hf := h.fst
  have ei : innT 13 v c = [(1, v)] ++ ([(40, 0)] ++ (tkF 13 v 0 c ++ ([(41, 0)] ++ ([(59, 0)])))) := by
    unfold innT
    show [(1, v), (40, 0)] ++ ((tkF 13 v 0 c) ++ [(41, 0), (59, 0)]) = [(1, v)] ++ ([(40, 0)] ++ (tkF 13 v 0 c ++ ([(41, 0)] ++ ([(59, 0)]))))
    simp only [List.append_assoc, List.cons_append, List.nil_append, List.append_nil]
  show EMI C Nm T ns _ (innT 13 v c) _ _
  rw [ei]
  have hp : PSH (fun I => f_Model_openStatement T I (Jn x)) [(8, v), (0, 55), (3, (T.2.2.2.2.2.2.1 x)), (0, 56), (0, 60)] := by
    refine PSH.cong (PSH.item 0 60 (PSH.item 0 56 (PSH.item 3 (T.2.2.2.2.2.2.1 x) (PSH.item 0 55 (PSH.last 8 v))))) fun I => ?_
    unfold f_Model_openStatement
    simp (decide := true) only [gd_Jn h.hx n20, hxl, h.kind, h.val, hf, ob_some, ob_id, if_true, if_false, f_Model_itemAll, f_Model_itemFor, Option.bind_assoc, nm_eq]
  exact (openP (fun V I => opS h.hx (by rw [h.kind]; decide) (by rw [h.kind]; decide) V I) hp (EMI.cons (tN h.mn hn) (EMI.cons (tk55 h.mc) (EMI.cons (h.fst ▸ h.rws.row h.gt h.mc (K := 13) (V := v) ⟨by decide, by decide⟩ (fun _ => rfl) (fun _ _ => rfl)) (EMI.cons (tk56 h.mc) (tk60 h.mc))))) (by first | omega | (simp only [List.length_cons, List.length_nil, List.length_append]; omega))).mono (by show _ ≤ 10 + needF _; (try simp only [nf_cons]); first | omega | (simp only [List.length_cons, List.length_nil, List.length_append]; omega)) (by (try simp only [fl_cons]); first | omega | (simp only [List.length_cons, List.length_nil, List.length_append]; omega))
theorem nd_par {x : Nat} {v : Int32} {c : FO} {k1 : Int32} (h : NX C Nm T ns N ch rk x 14 v c) (hks : c.ks = [k1]) (hn : nmd ns.length v) : GOAL C Nm T ns x 14 v c := by
  have hxl := Jn_cl (show x < 2147483648 by have := h.hx; omega)
  have hN := h.gt.2.1
  obtain ⟨p1, v1, c1, r1, a1, as1, rfl, q1, hch, ka1, va1, n1, s1, e1, w1, lo1⟩ := h.rws.one h.gt hks
  have b1 : a1 < 20000 := by omega
  have nq1 := nk3 k1
  have l1 := Jn_cl (show a1 < 2147483648 by omega)
  have hc0 := ks_nil q1
  subst hc0
  have has : as1 = [] := List.length_eq_zero_iff.mp w1.rep.len
  subst has
  have hf : T.2.2.2.2.2.2.1 x = Jn a1 := by rw [h.fst, hch]; rfl
  have s1' : T.2.2.2.2.2.2.2.2 a1 = -1 := s1
  have ei : innT 14 v (FO.cons k1 p1 v1 c1 FO.nil) = [(1, v)] ++ ([(14909, 0)] ++ (innT k1 v1 c1)) := by
    unfold innT
    rw [tkF_cons (nbrk ⟨by decide, by decide⟩), tkF]
    show [(1, v), (14909, 0)] ++ (([] ++ (innT k1 v1 c1 ++ ([]))) ++ []) = [(1, v)] ++ ([(14909, 0)] ++ (innT k1 v1 c1))
    simp only [List.append_assoc, List.cons_append, List.nil_append, List.append_nil]
  show EMI C Nm T ns _ (innT 14 v (FO.cons k1 p1 v1 c1 FO.nil)) _ _
  rw [ei]
  have hp : PSH (fun I => f_Model_openStatement T I (Jn x)) [(8, v), (0, 50), (1, (Jn a1))] := by
    refine PSH.cong (PSH.item 1 (Jn a1) (PSH.item 0 50 (PSH.last 8 v))) fun I => ?_
    unfold f_Model_openStatement
    simp (decide := true) only [gd_Jn h.hx n20, hxl, h.kind, h.val, hf, ob_some, ob_id, if_true, if_false, l1, s1', gd_Jn b1 n20, ka1, f_Model_itemAll, f_Model_itemFor, Option.bind_assoc, nm_eq]
  exact (openP (fun V I => opS h.hx (by rw [h.kind]; decide) (by rw [h.kind]; decide) V I) hp (EMI.cons (tN h.mn hn) (EMI.cons (tk50 h.mc) e1)) (by first | omega | (simp only [List.length_cons, List.length_nil, List.length_append]; omega))).mono (by show _ ≤ 3 + needF _; (try simp only [nf_cons]); first | omega | (simp only [List.length_cons, List.length_nil, List.length_append]; omega)) (by (try simp only [fl_cons]); first | omega | (simp only [List.length_cons, List.length_nil, List.length_append]; omega))
theorem nd_iff {x : Nat} {c : FO} {k1 : Int32} {ks : List Int32} (h : NX C Nm T ns N ch rk x 15 0 c) (hks : c.ks = k1 :: 11 :: ks) (hi : ifP ks) : GOAL C Nm T ns x 15 0 c := by
  have hxl := Jn_cl (show x < 2147483648 by have := h.hx; omega)
  have hN := h.gt.2.1
  obtain ⟨p1, v1, c1, r1, a1, as1, rfl, q1, hch, ka1, va1, n1, s1, e1, w1, lo1⟩ := h.rws.one h.gt hks
  have b1 : a1 < 20000 := by omega
  have nq1 := nk3 k1
  have l1 := Jn_cl (show a1 < 2147483648 by omega)
  obtain ⟨p2, v2, c2, r2, a2, as2, rfl, q2, rfl, ka2, va2, n2, s2, e2, w2, lo2⟩ := w1.one h.gt q1
  have b2 : a2 < 20000 := by omega
  have nq2 := nk3 11
  have l2 := Jn_cl (show a2 < 2147483648 by omega)
  have hf : T.2.2.2.2.2.2.1 x = Jn a1 := by rw [h.fst, hch]; rfl
  have s1' : T.2.2.2.2.2.2.2.2 a1 = Jn a2 := s1
  have s2' := s2
  have ei : innT 15 0 (FO.cons k1 p1 v1 c1 (FO.cons 11 p2 v2 c2 r2)) = [(272, 0)] ++ (innT k1 v1 c1 ++ ([(273, 0)] ++ (innT 11 v2 c2 ++ (tkF 15 0 2 r2 ++ ([(276, 0)] ++ ([(59, 0)])))))) := by
    unfold innT
    rw [tkF_cons (nbrk ⟨by decide, by decide⟩), tkF_cons (nbrk ⟨by decide, by decide⟩)]
    show [(272, 0)] ++ (([] ++ (innT k1 v1 c1 ++ ([(273, 0)] ++ (innT 11 v2 c2 ++ (tkF 15 0 2 r2))))) ++ [(276, 0), (59, 0)]) = [(272, 0)] ++ (innT k1 v1 c1 ++ ([(273, 0)] ++ (innT 11 v2 c2 ++ (tkF 15 0 2 r2 ++ ([(276, 0)] ++ ([(59, 0)]))))))
    simp only [List.append_assoc, List.cons_append, List.nil_append, List.append_nil]
  show EMI C Nm T ns _ (innT 15 0 (FO.cons k1 p1 v1 c1 (FO.cons 11 p2 v2 c2 r2))) _ _
  rw [ei]
  have hp : PSH (fun I => f_Model_openStatement T I (Jn x)) [(0, 16), (1, (Jn a1)), (0, 17), (1, (Jn a2)), (4, (hdJ as2)), (0, 20), (0, 60)] := by
    refine PSH.cong (PSH.item 0 60 (PSH.item 0 20 (PSH.item 4 (hdJ as2) (PSH.item 1 (Jn a2) (PSH.item 0 17 (PSH.item 1 (Jn a1) (PSH.last 0 16))))))) fun I => ?_
    unfold f_Model_openStatement
    simp (decide := true) only [gd_Jn h.hx n20, hxl, h.kind, h.val, hf, ob_some, ob_id, if_true, if_false, l1, s1', gd_Jn b1 n20, ka1, l2, s2', gd_Jn b2 n20, ka2, second_ok h.hx b1 hf, f_Model_itemAll, f_Model_itemFor, Option.bind_assoc, nm_eq]
  exact (openP (fun V I => opS h.hx (by rw [h.kind]; decide) (by rw [h.kind]; decide) V I) hp (EMI.cons (tk16 h.mc) (EMI.cons e1 (EMI.cons (tk17 h.mc) (EMI.cons e2 (EMI.cons (ifsI h.gt h.mc r2 as2 0 w2.rep w2.tl w2.each (by rw [q2]; exact hi)) (EMI.cons (tk20 h.mc) (tk60 h.mc))))))) (by first | omega | (simp only [List.length_cons, List.length_nil, List.length_append]; omega))).mono (by show _ ≤ 10 + needF _; (try simp only [nf_cons]); first | omega | (simp only [List.length_cons, List.length_nil, List.length_append]; omega)) (by (try simp only [fl_cons]); first | omega | (simp only [List.length_cons, List.length_nil, List.length_append]; omega))
theorem nd_range1 {x : Nat} {c : FO} {k1 : Int32} (h : NX C Nm T ns N ch rk x 18 0 c) (hks : c.ks = [k1]) : GOAL C Nm T ns x 18 0 c := by
  have hxl := Jn_cl (show x < 2147483648 by have := h.hx; omega)
  have hN := h.gt.2.1
  obtain ⟨p1, v1, c1, r1, a1, as1, rfl, q1, hch, ka1, va1, n1, s1, e1, w1, lo1⟩ := h.rws.one h.gt hks
  have b1 : a1 < 20000 := by omega
  have nq1 := nk3 k1
  have l1 := Jn_cl (show a1 < 2147483648 by omega)
  have hc0 := ks_nil q1
  subst hc0
  have has : as1 = [] := List.length_eq_zero_iff.mp w1.rep.len
  subst has
  have hf : T.2.2.2.2.2.2.1 x = Jn a1 := by rw [h.fst, hch]; rfl
  have s1' : T.2.2.2.2.2.2.2.2 a1 = -1 := s1
  have ei : innT 18 0 (FO.cons k1 p1 v1 c1 FO.nil) = innT k1 v1 c1 := by
    unfold innT
    rw [tkF_cons (nbrk ⟨by decide, by decide⟩), tkF]
    show [] ++ (([] ++ (innT k1 v1 c1 ++ ([]))) ++ []) = innT k1 v1 c1
    simp only [List.append_assoc, List.cons_append, List.nil_append, List.append_nil]
  show EMI C Nm T ns _ (innT 18 0 (FO.cons k1 p1 v1 c1 FO.nil)) _ _
  rw [ei]
  have hp : PSH (fun I => f_Model_openStatement T I (Jn x)) [(1, (Jn a1))] := by
    refine PSH.cong (PSH.last 1 (Jn a1)) fun I => ?_
    unfold f_Model_openStatement
    simp (decide := true) only [gd_Jn h.hx n20, hxl, h.kind, h.val, hf, ob_some, ob_id, if_true, if_false, l1, s1', gd_Jn b1 n20, ka1, second_ok h.hx b1 hf, f_Model_itemAll, f_Model_itemFor, Option.bind_assoc, nm_eq]
  exact (openP (fun V I => opS h.hx (by rw [h.kind]; decide) (by rw [h.kind]; decide) V I) hp e1 (by first | omega | (simp only [List.length_cons, List.length_nil, List.length_append]; omega))).mono (by show _ ≤ 10 + needF _; (try simp only [nf_cons]); first | omega | (simp only [List.length_cons, List.length_nil, List.length_append]; omega)) (by (try simp only [fl_cons]); first | omega | (simp only [List.length_cons, List.length_nil, List.length_append]; omega))
theorem nd_range2 {x : Nat} {c : FO} {k1 k2 : Int32} (h : NX C Nm T ns N ch rk x 18 0 c) (hks : c.ks = [k1, k2]) : GOAL C Nm T ns x 18 0 c := by
  have hxl := Jn_cl (show x < 2147483648 by have := h.hx; omega)
  have hN := h.gt.2.1
  obtain ⟨p1, v1, c1, r1, a1, as1, rfl, q1, hch, ka1, va1, n1, s1, e1, w1, lo1⟩ := h.rws.one h.gt hks
  have b1 : a1 < 20000 := by omega
  have nq1 := nk3 k1
  have l1 := Jn_cl (show a1 < 2147483648 by omega)
  obtain ⟨p2, v2, c2, r2, a2, as2, rfl, q2, rfl, ka2, va2, n2, s2, e2, w2, lo2⟩ := w1.one h.gt q1
  have b2 : a2 < 20000 := by omega
  have nq2 := nk3 k2
  have l2 := Jn_cl (show a2 < 2147483648 by omega)
  have hc0 := ks_nil q2
  subst hc0
  have has : as2 = [] := List.length_eq_zero_iff.mp w2.rep.len
  subst has
  have hf : T.2.2.2.2.2.2.1 x = Jn a1 := by rw [h.fst, hch]; rfl
  have s1' : T.2.2.2.2.2.2.2.2 a1 = Jn a2 := s1
  have s2' : T.2.2.2.2.2.2.2.2 a2 = -1 := s2
  have ei : innT 18 0 (FO.cons k1 p1 v1 c1 (FO.cons k2 p2 v2 c2 FO.nil)) = innT k1 v1 c1 ++ ([(11822, 0)] ++ (innT k2 v2 c2)) := by
    unfold innT
    rw [tkF_cons (nbrk ⟨by decide, by decide⟩), tkF_cons (nbrk ⟨by decide, by decide⟩), tkF]
    show [] ++ (([] ++ (innT k1 v1 c1 ++ ([(11822, 0)] ++ (innT k2 v2 c2 ++ ([]))))) ++ []) = innT k1 v1 c1 ++ ([(11822, 0)] ++ (innT k2 v2 c2))
    simp only [List.append_assoc, List.cons_append, List.nil_append, List.append_nil]
  show EMI C Nm T ns _ (innT 18 0 (FO.cons k1 p1 v1 c1 (FO.cons k2 p2 v2 c2 FO.nil))) _ _
  rw [ei]
  have hp : PSH (fun I => f_Model_openStatement T I (Jn x)) [(1, (Jn a1)), (0, 51), (1, (Jn a2))] := by
    refine PSH.cong (PSH.item 1 (Jn a2) (PSH.item 0 51 (PSH.last 1 (Jn a1)))) fun I => ?_
    unfold f_Model_openStatement
    simp (decide := true) only [gd_Jn h.hx n20, hxl, h.kind, h.val, hf, ob_some, ob_id, if_true, if_false, l1, s1', gd_Jn b1 n20, ka1, l2, s2', gd_Jn b2 n20, ka2, second_ok h.hx b1 hf, if_neg (J_nm1 (show a2 < 2147483648 by omega)), f_Model_itemAll, f_Model_itemFor, Option.bind_assoc, nm_eq]
  exact (openP (fun V I => opS h.hx (by rw [h.kind]; decide) (by rw [h.kind]; decide) V I) hp (EMI.cons e1 (EMI.cons (tk51 h.mc) e2)) (by first | omega | (simp only [List.length_cons, List.length_nil, List.length_append]; omega))).mono (by show _ ≤ 10 + needF _; (try simp only [nf_cons]); first | omega | (simp only [List.length_cons, List.length_nil, List.length_append]; omega)) (by (try simp only [fl_cons]); first | omega | (simp only [List.length_cons, List.length_nil, List.length_append]; omega))
theorem nd_for3 {x : Nat} {v : Int32} {c : FO} {k1 k2 : Int32} (h : NX C Nm T ns N ch rk x 19 v c) (hks : c.ks = [k1, k2, 11]) (hn : nmd ns.length v) (h1 : k1 ≠ 11) (h2 : k2 ≠ 11) : GOAL C Nm T ns x 19 v c := by
  have hxl := Jn_cl (show x < 2147483648 by have := h.hx; omega)
  have hN := h.gt.2.1
  obtain ⟨p1, v1, c1, r1, a1, as1, rfl, q1, hch, ka1, va1, n1, s1, e1, w1, lo1⟩ := h.rws.one h.gt hks
  have b1 : a1 < 20000 := by omega
  have nq1 := nk3 k1
  have l1 := Jn_cl (show a1 < 2147483648 by omega)
  obtain ⟨p2, v2, c2, r2, a2, as2, rfl, q2, rfl, ka2, va2, n2, s2, e2, w2, lo2⟩ := w1.one h.gt q1
  have b2 : a2 < 20000 := by omega
  have nq2 := nk3 k2
  have l2 := Jn_cl (show a2 < 2147483648 by omega)
  obtain ⟨p3, v3, c3, r3, a3, as3, rfl, q3, rfl, ka3, va3, n3, s3, e3, w3, lo3⟩ := w2.one h.gt q2
  have b3 : a3 < 20000 := by omega
  have nq3 := nk3 11
  have l3 := Jn_cl (show a3 < 2147483648 by omega)
  have hc0 := ks_nil q3
  subst hc0
  have has : as3 = [] := List.length_eq_zero_iff.mp w3.rep.len
  subst has
  have hf : T.2.2.2.2.2.2.1 x = Jn a1 := by rw [h.fst, hch]; rfl
  have s1' : T.2.2.2.2.2.2.2.2 a1 = Jn a2 := s1
  have s2' : T.2.2.2.2.2.2.2.2 a2 = Jn a3 := s2
  have s3' : T.2.2.2.2.2.2.2.2 a3 = -1 := s3
  have ei : innT 19 v (FO.cons k1 p1 v1 c1 (FO.cons k2 p2 v2 c2 (FO.cons 11 p3 v3 c3 FO.nil))) = [(279, 0)] ++ ([(1, v)] ++ ([(14909, 0)] ++ (innT k1 v1 c1 ++ ([(280, 0)] ++ (innT k2 v2 c2 ++ ([(282, 0)] ++ (innT 11 v3 c3 ++ ([(283, 0)] ++ ([(59, 0)]))))))))) := by
    unfold innT
    rw [tkF_cons (nbrk ⟨by decide, by decide⟩), tkF_cons (nbrk ⟨by decide, by decide⟩), tkF_cons (nbrk ⟨by decide, by decide⟩), tkF]
    show [(279, 0), (1, v), (14909, 0)] ++ ((sepT 19 v 0 k1 ++ (innT k1 v1 c1 ++ (sepT 19 v 1 k2 ++ (innT k2 v2 c2 ++ ([(282, 0)] ++ (innT 11 v3 c3 ++ ([]))))))) ++ [(283, 0), (59, 0)]) = [(279, 0)] ++ ([(1, v)] ++ ([(14909, 0)] ++ (innT k1 v1 c1 ++ ([(280, 0)] ++ (innT k2 v2 c2 ++ ([(282, 0)] ++ (innT 11 v3 c3 ++ ([(283, 0)] ++ ([(59, 0)])))))))))
    rw [sep19a h1, sep19b h2]
    simp only [List.append_assoc, List.cons_append, List.nil_append, List.append_nil]
  show EMI C Nm T ns _ (innT 19 v (FO.cons k1 p1 v1 c1 (FO.cons k2 p2 v2 c2 (FO.cons 11 p3 v3 c3 FO.nil)))) _ _
  rw [ei]
  have hp : PSH (fun I => f_Model_openStatement T I (Jn x)) [(0, 23), (8, v), (0, 50), (1, (Jn a1)), (0, 24), (1, (Jn a2)), (0, 26), (1, (Jn a3)), (0, 27), (0, 60)] := by
    refine PSH.cong (PSH.item 0 60 (PSH.item 0 27 (PSH.item 1 (Jn a3) (PSH.item 0 26 (PSH.item 1 (Jn a2) (PSH.item 0 24 (PSH.item 1 (Jn a1) (PSH.item 0 50 (PSH.item 8 v (PSH.last 0 23)))))))))) fun I => ?_
    unfold f_Model_openStatement
    simp (decide := true) only [gd_Jn h.hx n20, hxl, h.kind, h.val, hf, ob_some, ob_id, if_true, if_false, l1, s1', gd_Jn b1 n20, ka1, l2, s2', gd_Jn b2 n20, ka2, l3, s3', gd_Jn b3 n20, ka3, second_ok h.hx b1 hf, f_Model_itemAll, f_Model_itemFor, Option.bind_assoc, nm_eq]
  exact (openP (fun V I => opS h.hx (by rw [h.kind]; decide) (by rw [h.kind]; decide) V I) hp (EMI.cons (tk23 h.mc) (EMI.cons (tN h.mn hn) (EMI.cons (tk50 h.mc) (EMI.cons e1 (EMI.cons (tk24 h.mc) (EMI.cons e2 (EMI.cons (tk26 h.mc) (EMI.cons e3 (EMI.cons (tk27 h.mc) (tk60 h.mc)))))))))) (by first | omega | (simp only [List.length_cons, List.length_nil, List.length_append]; omega))).mono (by show _ ≤ 12 + needF _; (try simp only [nf_cons]); first | omega | (simp only [List.length_cons, List.length_nil, List.length_append]; omega)) (by (try simp only [fl_cons]); first | omega | (simp only [List.length_cons, List.length_nil, List.length_append]; omega))
theorem nd_for4 {x : Nat} {v : Int32} {c : FO} {k1 k2 k3 : Int32} (h : NX C Nm T ns N ch rk x 19 v c) (hks : c.ks = [k1, k2, k3, 11]) (hn : nmd ns.length v) (h1 : k1 ≠ 11) (h2 : k2 ≠ 11) (h3 : k3 ≠ 11) : GOAL C Nm T ns x 19 v c := by
  have hxl := Jn_cl (show x < 2147483648 by have := h.hx; omega)
  have hN := h.gt.2.1
  obtain ⟨p1, v1, c1, r1, a1, as1, rfl, q1, hch, ka1, va1, n1, s1, e1, w1, lo1⟩ := h.rws.one h.gt hks
  have b1 : a1 < 20000 := by omega
  have nq1 := nk3 k1
  have l1 := Jn_cl (show a1 < 2147483648 by omega)
  obtain ⟨p2, v2, c2, r2, a2, as2, rfl, q2, rfl, ka2, va2, n2, s2, e2, w2, lo2⟩ := w1.one h.gt q1
  have b2 : a2 < 20000 := by omega
  have nq2 := nk3 k2
  have l2 := Jn_cl (show a2 < 2147483648 by omega)
  obtain ⟨p3, v3, c3, r3, a3, as3, rfl, q3, rfl, ka3, va3, n3, s3, e3, w3, lo3⟩ := w2.one h.gt q2
  have b3 : a3 < 20000 := by omega
  have nq3 := nk3 k3
  have l3 := Jn_cl (show a3 < 2147483648 by omega)
  obtain ⟨p4, v4, c4, r4, a4, as4, rfl, q4, rfl, ka4, va4, n4, s4, e4, w4, lo4⟩ := w3.one h.gt q3
  have b4 : a4 < 20000 := by omega
  have nq4 := nk3 11
  have l4 := Jn_cl (show a4 < 2147483648 by omega)
  have hc0 := ks_nil q4
  subst hc0
  have has : as4 = [] := List.length_eq_zero_iff.mp w4.rep.len
  subst has
  have hf : T.2.2.2.2.2.2.1 x = Jn a1 := by rw [h.fst, hch]; rfl
  have s1' : T.2.2.2.2.2.2.2.2 a1 = Jn a2 := s1
  have s2' : T.2.2.2.2.2.2.2.2 a2 = Jn a3 := s2
  have s3' : T.2.2.2.2.2.2.2.2 a3 = Jn a4 := s3
  have s4' : T.2.2.2.2.2.2.2.2 a4 = -1 := s4
  have ei : innT 19 v (FO.cons k1 p1 v1 c1 (FO.cons k2 p2 v2 c2 (FO.cons k3 p3 v3 c3 (FO.cons 11 p4 v4 c4 FO.nil)))) = [(279, 0)] ++ ([(1, v)] ++ ([(14909, 0)] ++ (innT k1 v1 c1 ++ ([(280, 0)] ++ (innT k2 v2 c2 ++ ([(281, 0)] ++ (innT k3 v3 c3 ++ ([(282, 0)] ++ (innT 11 v4 c4 ++ ([(283, 0)] ++ ([(59, 0)]))))))))))) := by
    unfold innT
    rw [tkF_cons (nbrk ⟨by decide, by decide⟩), tkF_cons (nbrk ⟨by decide, by decide⟩), tkF_cons (nbrk ⟨by decide, by decide⟩), tkF_cons (nbrk ⟨by decide, by decide⟩), tkF]
    show [(279, 0), (1, v), (14909, 0)] ++ ((sepT 19 v 0 k1 ++ (innT k1 v1 c1 ++ (sepT 19 v 1 k2 ++ (innT k2 v2 c2 ++ (sepT 19 v 2 k3 ++ (innT k3 v3 c3 ++ ([(282, 0)] ++ (innT 11 v4 c4 ++ ([]))))))))) ++ [(283, 0), (59, 0)]) = [(279, 0)] ++ ([(1, v)] ++ ([(14909, 0)] ++ (innT k1 v1 c1 ++ ([(280, 0)] ++ (innT k2 v2 c2 ++ ([(281, 0)] ++ (innT k3 v3 c3 ++ ([(282, 0)] ++ (innT 11 v4 c4 ++ ([(283, 0)] ++ ([(59, 0)])))))))))))
    rw [sep19a h1, sep19b h2, sep19c h3]
    simp only [List.append_assoc, List.cons_append, List.nil_append, List.append_nil]
  show EMI C Nm T ns _ (innT 19 v (FO.cons k1 p1 v1 c1 (FO.cons k2 p2 v2 c2 (FO.cons k3 p3 v3 c3 (FO.cons 11 p4 v4 c4 FO.nil))))) _ _
  rw [ei]
  have hp : PSH (fun I => f_Model_openStatement T I (Jn x)) [(0, 23), (8, v), (0, 50), (1, (Jn a1)), (0, 24), (1, (Jn a2)), (0, 25), (1, (Jn a3)), (0, 26), (1, (Jn a4)), (0, 27), (0, 60)] := by
    refine PSH.cong (PSH.item 0 60 (PSH.item 0 27 (PSH.item 1 (Jn a4) (PSH.item 0 26 (PSH.item 1 (Jn a3) (PSH.item 0 25 (PSH.item 1 (Jn a2) (PSH.item 0 24 (PSH.item 1 (Jn a1) (PSH.item 0 50 (PSH.item 8 v (PSH.last 0 23)))))))))))) fun I => ?_
    unfold f_Model_openStatement
    simp (decide := true) only [gd_Jn h.hx n20, hxl, h.kind, h.val, hf, ob_some, ob_id, if_true, if_false, l1, s1', gd_Jn b1 n20, ka1, l2, s2', gd_Jn b2 n20, ka2, l3, s3', gd_Jn b3 n20, ka3, l4, s4', gd_Jn b4 n20, ka4, second_ok h.hx b1 hf, if_neg h3, f_Model_itemAll, f_Model_itemFor, Option.bind_assoc, nm_eq]
  exact (openP (fun V I => opS h.hx (by rw [h.kind]; decide) (by rw [h.kind]; decide) V I) hp (EMI.cons (tk23 h.mc) (EMI.cons (tN h.mn hn) (EMI.cons (tk50 h.mc) (EMI.cons e1 (EMI.cons (tk24 h.mc) (EMI.cons e2 (EMI.cons (tk25 h.mc) (EMI.cons e3 (EMI.cons (tk26 h.mc) (EMI.cons e4 (EMI.cons (tk27 h.mc) (tk60 h.mc)))))))))))) (by first | omega | (simp only [List.length_cons, List.length_nil, List.length_append]; omega))).mono (by show _ ≤ 12 + needF _; (try simp only [nf_cons]); first | omega | (simp only [List.length_cons, List.length_nil, List.length_append]; omega)) (by (try simp only [fl_cons]); first | omega | (simp only [List.length_cons, List.length_nil, List.length_append]; omega))
theorem nd_exit {x : Nat} {c : FO} (h : NX C Nm T ns N ch rk x 20 0 c) (hks : c.ks = []) : GOAL C Nm T ns x 20 0 c := by
  have hxl := Jn_cl (show x < 2147483648 by have := h.hx; omega)
  have hN := h.gt.2.1
  have hc0 := ks_nil hks
  subst hc0
  have hch : ch x = [] := List.length_eq_zero_iff.mp h.rws.rep.len
  have hf := h.fst
  have ei : innT 20 0 FO.nil = [(284, 0)] ++ ([(59, 0)]) := by
    unfold innT
    show [(284, 0)] ++ (([]) ++ [(59, 0)]) = [(284, 0)] ++ ([(59, 0)])
    simp only [List.append_assoc, List.cons_append, List.nil_append, List.append_nil]
  show EMI C Nm T ns _ (innT 20 0 FO.nil) _ _
  rw [ei]
  have hp : PSH (fun I => f_Model_openStatement T I (Jn x)) [(0, 28), (0, 60)] := by
    refine PSH.cong (PSH.item 0 60 (PSH.last 0 28)) fun I => ?_
    unfold f_Model_openStatement
    simp (decide := true) only [gd_Jn h.hx n20, hxl, h.kind, h.val, hf, ob_some, ob_id, if_true, if_false, f_Model_itemAll, f_Model_itemFor, Option.bind_assoc, nm_eq]
  exact (openP (fun V I => opS h.hx (by rw [h.kind]; decide) (by rw [h.kind]; decide) V I) hp (EMI.cons (tk28 h.mc) (tk60 h.mc)) (by first | omega | (simp only [List.length_cons, List.length_nil, List.length_append]; omega))).mono (by show _ ≤ 10 + needF _; (try simp only [nf_cons]); first | omega | (simp only [List.length_cons, List.length_nil, List.length_append]; omega)) (by (try simp only [fl_cons]); first | omega | (simp only [List.length_cons, List.length_nil, List.length_append]; omega))
theorem nd_ret {x : Nat} {c : FO} (h : NX C Nm T ns N ch rk x 21 0 c) (hks : c.ks = []) : GOAL C Nm T ns x 21 0 c := by
  have hxl := Jn_cl (show x < 2147483648 by have := h.hx; omega)
  have hN := h.gt.2.1
  have hc0 := ks_nil hks
  subst hc0
  have hch : ch x = [] := List.length_eq_zero_iff.mp h.rws.rep.len
  have hf := h.fst
  have ei : innT 21 0 FO.nil = [(285, 0)] ++ ([(59, 0)]) := by
    unfold innT
    show [(285, 0)] ++ (([]) ++ [(59, 0)]) = [(285, 0)] ++ ([(59, 0)])
    simp only [List.append_assoc, List.cons_append, List.nil_append, List.append_nil]
  show EMI C Nm T ns _ (innT 21 0 FO.nil) _ _
  rw [ei]
  have hp : PSH (fun I => f_Model_openStatement T I (Jn x)) [(0, 29), (0, 60)] := by
    refine PSH.cong (PSH.item 0 60 (PSH.last 0 29)) fun I => ?_
    unfold f_Model_openStatement
    simp (decide := true) only [gd_Jn h.hx n20, hxl, h.kind, h.val, hf, ob_some, ob_id, if_true, if_false, f_Model_itemAll, f_Model_itemFor, Option.bind_assoc, nm_eq]
  exact (openP (fun V I => opS h.hx (by rw [h.kind]; decide) (by rw [h.kind]; decide) V I) hp (EMI.cons (tk29 h.mc) (tk60 h.mc)) (by first | omega | (simp only [List.length_cons, List.length_nil, List.length_append]; omega))).mono (by show _ ≤ 10 + needF _; (try simp only [nf_cons]); first | omega | (simp only [List.length_cons, List.length_nil, List.length_append]; omega)) (by (try simp only [fl_cons]); first | omega | (simp only [List.length_cons, List.length_nil, List.length_append]; omega))
theorem nd_lad {x : Nat} {c : FO} {ks : List Int32} (h : NX C Nm T ns N ch rk x 22 0 c) (hks : c.ks = ks) : GOAL C Nm T ns x 22 0 c := by
  have hxl := Jn_cl (show x < 2147483648 by have := h.hx; omega)
  have hN := h.gt.2.1
  have hf := h.fst
  have ei : innT 22 0 c = [(293, 0)] ++ (tkF 22 0 0 c ++ ([(294, 0)])) := by
    unfold innT
    show [(293, 0)] ++ ((tkF 22 0 0 c) ++ [(294, 0)]) = [(293, 0)] ++ (tkF 22 0 0 c ++ ([(294, 0)]))
    simp only [List.append_assoc, List.cons_append, List.nil_append, List.append_nil]
  show EMI C Nm T ns _ (innT 22 0 c) _ _
  rw [ei]
  refine (openP (F := fun I0 => (f_Model_item I0 0 38).bind fun I1 => (f_Model_item I1 2 (T.2.2.2.2.2.2.1 x)).bind fun I2 => f_Model_item I2 0 37) (its := [(0, 37), (2, (T.2.2.2.2.2.2.1 x)), (0, 38)]) (fun V I => ?_) (PSH.item 0 38 (PSH.item 2 (T.2.2.2.2.2.2.1 x) (PSH.last 0 37))) (EMI.cons (tk37 h.mc) (EMI.cons (h.fst ▸ h.rws.chain h.gt (K := 22) (V := 0) 0 ⟨by decide, by decide⟩ (fun _ _ => rfl)) (tk38 h.mc))) (by first | omega | (simp only [List.length_cons, List.length_nil, List.length_append]; omega))).mono (by show _ ≤ 10 + needF _; (try simp only [nf_cons]); first | omega | (simp only [List.length_cons, List.length_nil, List.length_append]; omega)) (by (try simp only [fl_cons]); first | omega | (simp only [List.length_cons, List.length_nil, List.length_append]; omega))
  rw [opR h.hx (by rw [h.kind]; decide) (by rw [h.kind]; decide)]
  unfold f_Model_openRung
  simp (decide := true) only [gd_Jn h.hx n20, hxl, h.kind, h.val, hf, ob_some, ob_id, if_true, if_false, f_Model_itemAll, f_Model_itemBlock, f_Model_itemArray, Option.bind_assoc, nm_eq]
theorem nd_rung {x : Nat} {c : FO} {ks : List Int32} (h : NX C Nm T ns N ch rk x 23 0 c) (hks : c.ks = ks) : GOAL C Nm T ns x 23 0 c := by
  have hxl := Jn_cl (show x < 2147483648 by have := h.hx; omega)
  have hN := h.gt.2.1
  have hf := h.fst
  have ei : innT 23 0 c = [(295, 0)] ++ (tkF 23 0 0 c ++ ([(296, 0)])) := by
    unfold innT
    show [(295, 0)] ++ ((tkF 23 0 0 c) ++ [(296, 0)]) = [(295, 0)] ++ (tkF 23 0 0 c ++ ([(296, 0)]))
    simp only [List.append_assoc, List.cons_append, List.nil_append, List.append_nil]
  show EMI C Nm T ns _ (innT 23 0 c) _ _
  rw [ei]
  refine (openP (F := fun I0 => (f_Model_item I0 0 40).bind fun I1 => (f_Model_item I1 2 (T.2.2.2.2.2.2.1 x)).bind fun I2 => f_Model_item I2 0 39) (its := [(0, 39), (2, (T.2.2.2.2.2.2.1 x)), (0, 40)]) (fun V I => ?_) (PSH.item 0 40 (PSH.item 2 (T.2.2.2.2.2.2.1 x) (PSH.last 0 39))) (EMI.cons (tk39 h.mc) (EMI.cons (h.fst ▸ h.rws.chain h.gt (K := 23) (V := 0) 0 ⟨by decide, by decide⟩ (fun _ _ => rfl)) (tk40 h.mc))) (by first | omega | (simp only [List.length_cons, List.length_nil, List.length_append]; omega))).mono (by show _ ≤ 10 + needF _; (try simp only [nf_cons]); first | omega | (simp only [List.length_cons, List.length_nil, List.length_append]; omega)) (by (try simp only [fl_cons]); first | omega | (simp only [List.length_cons, List.length_nil, List.length_append]; omega))
  rw [opR h.hx (by rw [h.kind]; decide) (by rw [h.kind]; decide)]
  unfold f_Model_openRung
  simp (decide := true) only [gd_Jn h.hx n20, hxl, h.kind, h.val, hf, ob_some, ob_id, if_true, if_false, f_Model_itemAll, f_Model_itemBlock, f_Model_itemArray, Option.bind_assoc, nm_eq]
theorem nd_row {x : Nat} {c : FO} {ks : List Int32} (h : NX C Nm T ns N ch rk x 24 0 c) (hks : c.ks = ks) : GOAL C Nm T ns x 24 0 c := by
  have hxl := Jn_cl (show x < 2147483648 by have := h.hx; omega)
  have hN := h.gt.2.1
  have hf := h.fst
  have ei : innT 24 0 c = tkF 24 0 0 c ++ ([(59, 0)]) := by
    unfold innT
    show [] ++ ((tkF 24 0 0 c) ++ [(59, 0)]) = tkF 24 0 0 c ++ ([(59, 0)])
    simp only [List.append_assoc, List.cons_append, List.nil_append, List.append_nil]
  show EMI C Nm T ns _ (innT 24 0 c) _ _
  rw [ei]
  refine (openP (F := fun I0 => (f_Model_item I0 0 60).bind fun I1 => f_Model_item I1 2 (T.2.2.2.2.2.2.1 x)) (its := [(2, (T.2.2.2.2.2.2.1 x)), (0, 60)]) (fun V I => ?_) (PSH.item 0 60 (PSH.last 2 (T.2.2.2.2.2.2.1 x))) (EMI.cons (h.fst ▸ h.rws.chain h.gt (K := 24) (V := 0) 0 ⟨by decide, by decide⟩ (fun _ _ => rfl)) (tk60 h.mc)) (by first | omega | (simp only [List.length_cons, List.length_nil, List.length_append]; omega))).mono (by show _ ≤ 10 + needF _; (try simp only [nf_cons]); first | omega | (simp only [List.length_cons, List.length_nil, List.length_append]; omega)) (by (try simp only [fl_cons]); first | omega | (simp only [List.length_cons, List.length_nil, List.length_append]; omega))
  rw [opR h.hx (by rw [h.kind]; decide) (by rw [h.kind]; decide)]
  unfold f_Model_openRung
  simp (decide := true) only [gd_Jn h.hx n20, hxl, h.kind, h.val, hf, ob_some, ob_id, if_true, if_false, f_Model_itemAll, f_Model_itemBlock, f_Model_itemArray, Option.bind_assoc, nm_eq]
theorem nd_cont0 {x : Nat} {c : FO} {k1 : Int32} (h : NX C Nm T ns N ch rk x 25 0 c) (hks : c.ks = [k1]) : GOAL C Nm T ns x 25 0 c := by
  have hxl := Jn_cl (show x < 2147483648 by have := h.hx; omega)
  have hN := h.gt.2.1
  obtain ⟨p1, v1, c1, r1, a1, as1, rfl, q1, hch, ka1, va1, n1, s1, e1, w1, lo1⟩ := h.rws.one h.gt hks
  have b1 : a1 < 20000 := by omega
  have nq1 := nk3 k1
  have l1 := Jn_cl (show a1 < 2147483648 by omega)
  have hc0 := ks_nil q1
  subst hc0
  have has : as1 = [] := List.length_eq_zero_iff.mp w1.rep.len
  subst has
  have hf : T.2.2.2.2.2.2.1 x = Jn a1 := by rw [h.fst, hch]; rfl
  have s1' : T.2.2.2.2.2.2.2.2 a1 = -1 := s1
  have ei : innT 25 0 (FO.cons k1 p1 v1 c1 FO.nil) = innT k1 v1 c1 := by
    unfold innT
    rw [tkF_cons (nbrk ⟨by decide, by decide⟩), tkF]
    show [] ++ (([] ++ (innT k1 v1 c1 ++ ([]))) ++ []) = innT k1 v1 c1
    simp only [List.append_assoc, List.cons_append, List.nil_append, List.append_nil]
  show EMI C Nm T ns _ (innT 25 0 (FO.cons k1 p1 v1 c1 FO.nil)) _ _
  rw [ei]
  refine (openP (F := fun I0 => f_Model_item I0 1 (Jn a1)) (its := [(1, (Jn a1))]) (fun V I => ?_) (PSH.last 1 (Jn a1)) e1 (by first | omega | (simp only [List.length_cons, List.length_nil, List.length_append]; omega))).mono (by show _ ≤ 10 + needF _; (try simp only [nf_cons]); first | omega | (simp only [List.length_cons, List.length_nil, List.length_append]; omega)) (by (try simp only [fl_cons]); first | omega | (simp only [List.length_cons, List.length_nil, List.length_append]; omega))
  rw [opR h.hx (by rw [h.kind]; decide) (by rw [h.kind]; decide)]
  unfold f_Model_openRung
  simp (decide := true) only [gd_Jn h.hx n20, hxl, h.kind, h.val, hf, ob_some, ob_id, if_true, if_false, l1, s1', gd_Jn b1 n20, ka1, f_Model_itemAll, f_Model_itemBlock, f_Model_itemArray, Option.bind_assoc, nm_eq]
theorem nd_cont1 {x : Nat} {c : FO} {k1 : Int32} (h : NX C Nm T ns N ch rk x 25 1 c) (hks : c.ks = [k1]) : GOAL C Nm T ns x 25 1 c := by
  have hxl := Jn_cl (show x < 2147483648 by have := h.hx; omega)
  have hN := h.gt.2.1
  obtain ⟨p1, v1, c1, r1, a1, as1, rfl, q1, hch, ka1, va1, n1, s1, e1, w1, lo1⟩ := h.rws.one h.gt hks
  have b1 : a1 < 20000 := by omega
  have nq1 := nk3 k1
  have l1 := Jn_cl (show a1 < 2147483648 by omega)
  have hc0 := ks_nil q1
  subst hc0
  have has : as1 = [] := List.length_eq_zero_iff.mp w1.rep.len
  subst has
  have hf : T.2.2.2.2.2.2.1 x = Jn a1 := by rw [h.fst, hch]; rfl
  have s1' : T.2.2.2.2.2.2.2.2 a1 = -1 := s1
  have ei : innT 25 1 (FO.cons k1 p1 v1 c1 FO.nil) = [(47, 0)] ++ (innT k1 v1 c1) := by
    unfold innT
    rw [tkF_cons (nbrk ⟨by decide, by decide⟩), tkF]
    show [(47, 0)] ++ (([] ++ (innT k1 v1 c1 ++ ([]))) ++ []) = [(47, 0)] ++ (innT k1 v1 c1)
    simp only [List.append_assoc, List.cons_append, List.nil_append, List.append_nil]
  show EMI C Nm T ns _ (innT 25 1 (FO.cons k1 p1 v1 c1 FO.nil)) _ _
  rw [ei]
  refine (openP (F := fun I0 => (f_Model_item I0 1 (Jn a1)).bind fun I1 => f_Model_item I1 0 66) (its := [(0, 66), (1, (Jn a1))]) (fun V I => ?_) (PSH.item 1 (Jn a1) (PSH.last 0 66)) (EMI.cons (tk66 h.mc) e1) (by first | omega | (simp only [List.length_cons, List.length_nil, List.length_append]; omega))).mono (by show _ ≤ 10 + needF _; (try simp only [nf_cons]); first | omega | (simp only [List.length_cons, List.length_nil, List.length_append]; omega)) (by (try simp only [fl_cons]); first | omega | (simp only [List.length_cons, List.length_nil, List.length_append]; omega))
  rw [opR h.hx (by rw [h.kind]; decide) (by rw [h.kind]; decide)]
  unfold f_Model_openRung
  simp (decide := true) only [gd_Jn h.hx n20, hxl, h.kind, h.val, hf, ob_some, ob_id, if_true, if_false, l1, s1', gd_Jn b1 n20, ka1, f_Model_itemAll, f_Model_itemBlock, f_Model_itemArray, Option.bind_assoc, nm_eq]
theorem nd_cont2 {x : Nat} {c : FO} {k1 : Int32} (h : NX C Nm T ns N ch rk x 25 2 c) (hks : c.ks = [k1]) : GOAL C Nm T ns x 25 2 c := by
  have hxl := Jn_cl (show x < 2147483648 by have := h.hx; omega)
  have hN := h.gt.2.1
  obtain ⟨p1, v1, c1, r1, a1, as1, rfl, q1, hch, ka1, va1, n1, s1, e1, w1, lo1⟩ := h.rws.one h.gt hks
  have b1 : a1 < 20000 := by omega
  have nq1 := nk3 k1
  have l1 := Jn_cl (show a1 < 2147483648 by omega)
  have hc0 := ks_nil q1
  subst hc0
  have has : as1 = [] := List.length_eq_zero_iff.mp w1.rep.len
  subst has
  have hf : T.2.2.2.2.2.2.1 x = Jn a1 := by rw [h.fst, hch]; rfl
  have s1' : T.2.2.2.2.2.2.2.2 a1 = -1 := s1
  have ei : innT 25 2 (FO.cons k1 p1 v1 c1 FO.nil) = [(62, 0)] ++ (innT k1 v1 c1) := by
    unfold innT
    rw [tkF_cons (nbrk ⟨by decide, by decide⟩), tkF]
    show [(62, 0)] ++ (([] ++ (innT k1 v1 c1 ++ ([]))) ++ []) = [(62, 0)] ++ (innT k1 v1 c1)
    simp only [List.append_assoc, List.cons_append, List.nil_append, List.append_nil]
  show EMI C Nm T ns _ (innT 25 2 (FO.cons k1 p1 v1 c1 FO.nil)) _ _
  rw [ei]
  refine (openP (F := fun I0 => (f_Model_item I0 1 (Jn a1)).bind fun I1 => f_Model_item I1 0 69) (its := [(0, 69), (1, (Jn a1))]) (fun V I => ?_) (PSH.item 1 (Jn a1) (PSH.last 0 69)) (EMI.cons (tk69 h.mc) e1) (by first | omega | (simp only [List.length_cons, List.length_nil, List.length_append]; omega))).mono (by show _ ≤ 10 + needF _; (try simp only [nf_cons]); first | omega | (simp only [List.length_cons, List.length_nil, List.length_append]; omega)) (by (try simp only [fl_cons]); first | omega | (simp only [List.length_cons, List.length_nil, List.length_append]; omega))
  rw [opR h.hx (by rw [h.kind]; decide) (by rw [h.kind]; decide)]
  unfold f_Model_openRung
  simp (decide := true) only [gd_Jn h.hx n20, hxl, h.kind, h.val, hf, ob_some, ob_id, if_true, if_false, l1, s1', gd_Jn b1 n20, ka1, f_Model_itemAll, f_Model_itemBlock, f_Model_itemArray, Option.bind_assoc, nm_eq]
theorem nd_cont3 {x : Nat} {c : FO} {k1 : Int32} (h : NX C Nm T ns N ch rk x 25 3 c) (hks : c.ks = [k1]) : GOAL C Nm T ns x 25 3 c := by
  have hxl := Jn_cl (show x < 2147483648 by have := h.hx; omega)
  have hN := h.gt.2.1
  obtain ⟨p1, v1, c1, r1, a1, as1, rfl, q1, hch, ka1, va1, n1, s1, e1, w1, lo1⟩ := h.rws.one h.gt hks
  have b1 : a1 < 20000 := by omega
  have nq1 := nk3 k1
  have l1 := Jn_cl (show a1 < 2147483648 by omega)
  have hc0 := ks_nil q1
  subst hc0
  have has : as1 = [] := List.length_eq_zero_iff.mp w1.rep.len
  subst has
  have hf : T.2.2.2.2.2.2.1 x = Jn a1 := by rw [h.fst, hch]; rfl
  have s1' : T.2.2.2.2.2.2.2.2 a1 = -1 := s1
  have ei : innT 25 3 (FO.cons k1 p1 v1 c1 FO.nil) = [(60, 0)] ++ (innT k1 v1 c1) := by
    unfold innT
    rw [tkF_cons (nbrk ⟨by decide, by decide⟩), tkF]
    show [(60, 0)] ++ (([] ++ (innT k1 v1 c1 ++ ([]))) ++ []) = [(60, 0)] ++ (innT k1 v1 c1)
    simp only [List.append_assoc, List.cons_append, List.nil_append, List.append_nil]
  show EMI C Nm T ns _ (innT 25 3 (FO.cons k1 p1 v1 c1 FO.nil)) _ _
  rw [ei]
  refine (openP (F := fun I0 => (f_Model_item I0 1 (Jn a1)).bind fun I1 => f_Model_item I1 0 68) (its := [(0, 68), (1, (Jn a1))]) (fun V I => ?_) (PSH.item 1 (Jn a1) (PSH.last 0 68)) (EMI.cons (tk68 h.mc) e1) (by first | omega | (simp only [List.length_cons, List.length_nil, List.length_append]; omega))).mono (by show _ ≤ 10 + needF _; (try simp only [nf_cons]); first | omega | (simp only [List.length_cons, List.length_nil, List.length_append]; omega)) (by (try simp only [fl_cons]); first | omega | (simp only [List.length_cons, List.length_nil, List.length_append]; omega))
  rw [opR h.hx (by rw [h.kind]; decide) (by rw [h.kind]; decide)]
  unfold f_Model_openRung
  simp (decide := true) only [gd_Jn h.hx n20, hxl, h.kind, h.val, hf, ob_some, ob_id, if_true, if_false, l1, s1', gd_Jn b1 n20, ka1, f_Model_itemAll, f_Model_itemBlock, f_Model_itemArray, Option.bind_assoc, nm_eq]
theorem nd_coil0 {x : Nat} {c : FO} {k1 : Int32} (h : NX C Nm T ns N ch rk x 28 0 c) (hks : c.ks = [k1]) : GOAL C Nm T ns x 28 0 c := by
  have hxl := Jn_cl (show x < 2147483648 by have := h.hx; omega)
  have hN := h.gt.2.1
  obtain ⟨p1, v1, c1, r1, a1, as1, rfl, q1, hch, ka1, va1, n1, s1, e1, w1, lo1⟩ := h.rws.one h.gt hks
  have b1 : a1 < 20000 := by omega
  have nq1 := nk3 k1
  have l1 := Jn_cl (show a1 < 2147483648 by omega)
  have hc0 := ks_nil q1
  subst hc0
  have has : as1 = [] := List.length_eq_zero_iff.mp w1.rep.len
  subst has
  have hf : T.2.2.2.2.2.2.1 x = Jn a1 := by rw [h.fst, hch]; rfl
  have s1' : T.2.2.2.2.2.2.2.2 a1 = -1 := s1
  have ei : innT 28 0 (FO.cons k1 p1 v1 c1 FO.nil) = [(40, 0)] ++ (innT k1 v1 c1 ++ ([(41, 0)])) := by
    unfold innT
    rw [tkF_cons (nbrk ⟨by decide, by decide⟩), tkF]
    show [(40, 0)] ++ (([] ++ (innT k1 v1 c1 ++ ([]))) ++ [(41, 0)]) = [(40, 0)] ++ (innT k1 v1 c1 ++ ([(41, 0)]))
    simp only [List.append_assoc, List.cons_append, List.nil_append, List.append_nil]
  show EMI C Nm T ns _ (innT 28 0 (FO.cons k1 p1 v1 c1 FO.nil)) _ _
  rw [ei]
  refine (openP (F := fun I0 => (f_Model_item I0 0 56).bind fun I1 => (f_Model_item I1 1 (Jn a1)).bind fun I2 => f_Model_item I2 0 55) (its := [(0, 55), (1, (Jn a1)), (0, 56)]) (fun V I => ?_) (PSH.item 0 56 (PSH.item 1 (Jn a1) (PSH.last 0 55))) (EMI.cons (tk55 h.mc) (EMI.cons e1 (tk56 h.mc))) (by first | omega | (simp only [List.length_cons, List.length_nil, List.length_append]; omega))).mono (by show _ ≤ 10 + needF _; (try simp only [nf_cons]); first | omega | (simp only [List.length_cons, List.length_nil, List.length_append]; omega)) (by (try simp only [fl_cons]); first | omega | (simp only [List.length_cons, List.length_nil, List.length_append]; omega))
  rw [opR h.hx (by rw [h.kind]; decide) (by rw [h.kind]; decide)]
  unfold f_Model_openRung
  simp (decide := true) only [gd_Jn h.hx n20, hxl, h.kind, h.val, hf, ob_some, ob_id, if_true, if_false, l1, s1', gd_Jn b1 n20, ka1, f_Model_itemAll, f_Model_itemBlock, f_Model_itemArray, Option.bind_assoc, nm_eq]
theorem nd_coil1 {x : Nat} {c : FO} {k1 : Int32} (h : NX C Nm T ns N ch rk x 28 1 c) (hks : c.ks = [k1]) : GOAL C Nm T ns x 28 1 c := by
  have hxl := Jn_cl (show x < 2147483648 by have := h.hx; omega)
  have hN := h.gt.2.1
  obtain ⟨p1, v1, c1, r1, a1, as1, rfl, q1, hch, ka1, va1, n1, s1, e1, w1, lo1⟩ := h.rws.one h.gt hks
  have b1 : a1 < 20000 := by omega
  have nq1 := nk3 k1
  have l1 := Jn_cl (show a1 < 2147483648 by omega)
  have hc0 := ks_nil q1
  subst hc0
  have has : as1 = [] := List.length_eq_zero_iff.mp w1.rep.len
  subst has
  have hf : T.2.2.2.2.2.2.1 x = Jn a1 := by rw [h.fst, hch]; rfl
  have s1' : T.2.2.2.2.2.2.2.2 a1 = -1 := s1
  have ei : innT 28 1 (FO.cons k1 p1 v1 c1 FO.nil) = [(40, 0)] ++ ([(47, 0)] ++ (innT k1 v1 c1 ++ ([(41, 0)]))) := by
    unfold innT
    rw [tkF_cons (nbrk ⟨by decide, by decide⟩), tkF]
    show [(40, 0), (47, 0)] ++ (([] ++ (innT k1 v1 c1 ++ ([]))) ++ [(41, 0)]) = [(40, 0)] ++ ([(47, 0)] ++ (innT k1 v1 c1 ++ ([(41, 0)])))
    simp only [List.append_assoc, List.cons_append, List.nil_append, List.append_nil]
  show EMI C Nm T ns _ (innT 28 1 (FO.cons k1 p1 v1 c1 FO.nil)) _ _
  rw [ei]
  refine (openP (F := fun I0 => (f_Model_item I0 0 56).bind fun I1 => (f_Model_item I1 1 (Jn a1)).bind fun I2 => (f_Model_item I2 0 66).bind fun I3 => f_Model_item I3 0 55) (its := [(0, 55), (0, 66), (1, (Jn a1)), (0, 56)]) (fun V I => ?_) (PSH.item 0 56 (PSH.item 1 (Jn a1) (PSH.item 0 66 (PSH.last 0 55)))) (EMI.cons (tk55 h.mc) (EMI.cons (tk66 h.mc) (EMI.cons e1 (tk56 h.mc)))) (by first | omega | (simp only [List.length_cons, List.length_nil, List.length_append]; omega))).mono (by show _ ≤ 10 + needF _; (try simp only [nf_cons]); first | omega | (simp only [List.length_cons, List.length_nil, List.length_append]; omega)) (by (try simp only [fl_cons]); first | omega | (simp only [List.length_cons, List.length_nil, List.length_append]; omega))
  rw [opR h.hx (by rw [h.kind]; decide) (by rw [h.kind]; decide)]
  unfold f_Model_openRung
  simp (decide := true) only [gd_Jn h.hx n20, hxl, h.kind, h.val, hf, ob_some, ob_id, if_true, if_false, l1, s1', gd_Jn b1 n20, ka1, f_Model_itemAll, f_Model_itemBlock, f_Model_itemArray, Option.bind_assoc, nm_eq]
theorem nd_coil2 {x : Nat} {c : FO} {k1 : Int32} (h : NX C Nm T ns N ch rk x 28 2 c) (hks : c.ks = [k1]) : GOAL C Nm T ns x 28 2 c := by
  have hxl := Jn_cl (show x < 2147483648 by have := h.hx; omega)
  have hN := h.gt.2.1
  obtain ⟨p1, v1, c1, r1, a1, as1, rfl, q1, hch, ka1, va1, n1, s1, e1, w1, lo1⟩ := h.rws.one h.gt hks
  have b1 : a1 < 20000 := by omega
  have nq1 := nk3 k1
  have l1 := Jn_cl (show a1 < 2147483648 by omega)
  have hc0 := ks_nil q1
  subst hc0
  have has : as1 = [] := List.length_eq_zero_iff.mp w1.rep.len
  subst has
  have hf : T.2.2.2.2.2.2.1 x = Jn a1 := by rw [h.fst, hch]; rfl
  have s1' : T.2.2.2.2.2.2.2.2 a1 = -1 := s1
  have ei : innT 28 2 (FO.cons k1 p1 v1 c1 FO.nil) = [(40, 0)] ++ ([(43, 0)] ++ (innT k1 v1 c1 ++ ([(41, 0)]))) := by
    unfold innT
    rw [tkF_cons (nbrk ⟨by decide, by decide⟩), tkF]
    show [(40, 0), (43, 0)] ++ (([] ++ (innT k1 v1 c1 ++ ([]))) ++ [(41, 0)]) = [(40, 0)] ++ ([(43, 0)] ++ (innT k1 v1 c1 ++ ([(41, 0)])))
    simp only [List.append_assoc, List.cons_append, List.nil_append, List.append_nil]
  show EMI C Nm T ns _ (innT 28 2 (FO.cons k1 p1 v1 c1 FO.nil)) _ _
  rw [ei]
  refine (openP (F := fun I0 => (f_Model_item I0 0 56).bind fun I1 => (f_Model_item I1 1 (Jn a1)).bind fun I2 => (f_Model_item I2 0 63).bind fun I3 => f_Model_item I3 0 55) (its := [(0, 55), (0, 63), (1, (Jn a1)), (0, 56)]) (fun V I => ?_) (PSH.item 0 56 (PSH.item 1 (Jn a1) (PSH.item 0 63 (PSH.last 0 55)))) (EMI.cons (tk55 h.mc) (EMI.cons (tk63 h.mc) (EMI.cons e1 (tk56 h.mc)))) (by first | omega | (simp only [List.length_cons, List.length_nil, List.length_append]; omega))).mono (by show _ ≤ 10 + needF _; (try simp only [nf_cons]); first | omega | (simp only [List.length_cons, List.length_nil, List.length_append]; omega)) (by (try simp only [fl_cons]); first | omega | (simp only [List.length_cons, List.length_nil, List.length_append]; omega))
  rw [opR h.hx (by rw [h.kind]; decide) (by rw [h.kind]; decide)]
  unfold f_Model_openRung
  simp (decide := true) only [gd_Jn h.hx n20, hxl, h.kind, h.val, hf, ob_some, ob_id, if_true, if_false, l1, s1', gd_Jn b1 n20, ka1, f_Model_itemAll, f_Model_itemBlock, f_Model_itemArray, Option.bind_assoc, nm_eq]
theorem nd_coil3 {x : Nat} {c : FO} {k1 : Int32} (h : NX C Nm T ns N ch rk x 28 3 c) (hks : c.ks = [k1]) : GOAL C Nm T ns x 28 3 c := by
  have hxl := Jn_cl (show x < 2147483648 by have := h.hx; omega)
  have hN := h.gt.2.1
  obtain ⟨p1, v1, c1, r1, a1, as1, rfl, q1, hch, ka1, va1, n1, s1, e1, w1, lo1⟩ := h.rws.one h.gt hks
  have b1 : a1 < 20000 := by omega
  have nq1 := nk3 k1
  have l1 := Jn_cl (show a1 < 2147483648 by omega)
  have hc0 := ks_nil q1
  subst hc0
  have has : as1 = [] := List.length_eq_zero_iff.mp w1.rep.len
  subst has
  have hf : T.2.2.2.2.2.2.1 x = Jn a1 := by rw [h.fst, hch]; rfl
  have s1' : T.2.2.2.2.2.2.2.2 a1 = -1 := s1
  have ei : innT 28 3 (FO.cons k1 p1 v1 c1 FO.nil) = [(40, 0)] ++ ([(45, 0)] ++ (innT k1 v1 c1 ++ ([(41, 0)]))) := by
    unfold innT
    rw [tkF_cons (nbrk ⟨by decide, by decide⟩), tkF]
    show [(40, 0), (45, 0)] ++ (([] ++ (innT k1 v1 c1 ++ ([]))) ++ [(41, 0)]) = [(40, 0)] ++ ([(45, 0)] ++ (innT k1 v1 c1 ++ ([(41, 0)])))
    simp only [List.append_assoc, List.cons_append, List.nil_append, List.append_nil]
  show EMI C Nm T ns _ (innT 28 3 (FO.cons k1 p1 v1 c1 FO.nil)) _ _
  rw [ei]
  refine (openP (F := fun I0 => (f_Model_item I0 0 56).bind fun I1 => (f_Model_item I1 1 (Jn a1)).bind fun I2 => (f_Model_item I2 0 64).bind fun I3 => f_Model_item I3 0 55) (its := [(0, 55), (0, 64), (1, (Jn a1)), (0, 56)]) (fun V I => ?_) (PSH.item 0 56 (PSH.item 1 (Jn a1) (PSH.item 0 64 (PSH.last 0 55)))) (EMI.cons (tk55 h.mc) (EMI.cons (tk64 h.mc) (EMI.cons e1 (tk56 h.mc)))) (by first | omega | (simp only [List.length_cons, List.length_nil, List.length_append]; omega))).mono (by show _ ≤ 10 + needF _; (try simp only [nf_cons]); first | omega | (simp only [List.length_cons, List.length_nil, List.length_append]; omega)) (by (try simp only [fl_cons]); first | omega | (simp only [List.length_cons, List.length_nil, List.length_append]; omega))
  rw [opR h.hx (by rw [h.kind]; decide) (by rw [h.kind]; decide)]
  unfold f_Model_openRung
  simp (decide := true) only [gd_Jn h.hx n20, hxl, h.kind, h.val, hf, ob_some, ob_id, if_true, if_false, l1, s1', gd_Jn b1 n20, ka1, f_Model_itemAll, f_Model_itemBlock, f_Model_itemArray, Option.bind_assoc, nm_eq]
theorem nd_elem {x : Nat} {v : Int32} {c : FO} {k1 : Int32} (h : NX C Nm T ns N ch rk x 32 v c) (hks : c.ks = [k1]) (hn : nmd ns.length v) : GOAL C Nm T ns x 32 v c := by
  have hxl := Jn_cl (show x < 2147483648 by have := h.hx; omega)
  have hN := h.gt.2.1
  obtain ⟨p1, v1, c1, r1, a1, as1, rfl, q1, hch, ka1, va1, n1, s1, e1, w1, lo1⟩ := h.rws.one h.gt hks
  have b1 : a1 < 20000 := by omega
  have nq1 := nk3 k1
  have l1 := Jn_cl (show a1 < 2147483648 by omega)
  have hc0 := ks_nil q1
  subst hc0
  have has : as1 = [] := List.length_eq_zero_iff.mp w1.rep.len
  subst has
  have hf : T.2.2.2.2.2.2.1 x = Jn a1 := by rw [h.fst, hch]; rfl
  have s1' : T.2.2.2.2.2.2.2.2 a1 = -1 := s1
  have ei : innT 32 v (FO.cons k1 p1 v1 c1 FO.nil) = [(1, v)] ++ ([(91, 0)] ++ (innT k1 v1 c1 ++ ([(93, 0)]))) := by
    unfold innT
    rw [tkF_cons (nbrk ⟨by decide, by decide⟩), tkF]
    show [(1, v), (91, 0)] ++ (([] ++ (innT k1 v1 c1 ++ ([]))) ++ [(93, 0)]) = [(1, v)] ++ ([(91, 0)] ++ (innT k1 v1 c1 ++ ([(93, 0)])))
    simp only [List.append_assoc, List.cons_append, List.nil_append, List.append_nil]
  show EMI C Nm T ns _ (innT 32 v (FO.cons k1 p1 v1 c1 FO.nil)) _ _
  rw [ei]
  refine (openP (F := fun I0 => (f_Model_item I0 0 58).bind fun I1 => (f_Model_item I1 1 (Jn a1)).bind fun I2 => (f_Model_item I2 0 57).bind fun I3 => f_Model_item I3 8 v) (its := [(8, v), (0, 57), (1, (Jn a1)), (0, 58)]) (fun V I => ?_) (PSH.item 0 58 (PSH.item 1 (Jn a1) (PSH.item 0 57 (PSH.last 8 v)))) (EMI.cons (tN h.mn hn) (EMI.cons (tk57 h.mc) (EMI.cons e1 (tk58 h.mc)))) (by first | omega | (simp only [List.length_cons, List.length_nil, List.length_append]; omega))).mono (by show _ ≤ 4 + needF _; (try simp only [nf_cons]); first | omega | (simp only [List.length_cons, List.length_nil, List.length_append]; omega)) (by (try simp only [fl_cons]); first | omega | (simp only [List.length_cons, List.length_nil, List.length_append]; omega))
  rw [opO h.hx (by rw [h.kind]; decide)]
  unfold f_Model_openOperand
  simp (decide := true) only [gd_Jn h.hx n20, hxl, h.kind, h.val, hf, ob_some, ob_id, if_true, if_false, l1, s1', gd_Jn b1 n20, ka1, f_Model_itemAll, f_Model_itemBlock, f_Model_itemArray, Option.bind_assoc, nm_eq]
theorem nd_outp {x : Nat} {v : Int32} {c : FO} {k1 : Int32} (h : NX C Nm T ns N ch rk x 33 v c) (hks : c.ks = [k1]) (hn : nmd ns.length v) : GOAL C Nm T ns x 33 v c := by
  have hxl := Jn_cl (show x < 2147483648 by have := h.hx; omega)
  have hN := h.gt.2.1
  obtain ⟨p1, v1, c1, r1, a1, as1, rfl, q1, hch, ka1, va1, n1, s1, e1, w1, lo1⟩ := h.rws.one h.gt hks
  have b1 : a1 < 20000 := by omega
  have nq1 := nk3 k1
  have l1 := Jn_cl (show a1 < 2147483648 by omega)
  have hc0 := ks_nil q1
  subst hc0
  have has : as1 = [] := List.length_eq_zero_iff.mp w1.rep.len
  subst has
  have hf : T.2.2.2.2.2.2.1 x = Jn a1 := by rw [h.fst, hch]; rfl
  have s1' : T.2.2.2.2.2.2.2.2 a1 = -1 := s1
  have ei : innT 33 v (FO.cons k1 p1 v1 c1 FO.nil) = [(1, v)] ++ ([(46, 0)] ++ (innT k1 v1 c1)) := by
    unfold innT
    rw [tkF_cons (nbrk ⟨by decide, by decide⟩), tkF]
    show [(1, v), (46, 0)] ++ (([] ++ (innT k1 v1 c1 ++ ([]))) ++ []) = [(1, v)] ++ ([(46, 0)] ++ (innT k1 v1 c1))
    simp only [List.append_assoc, List.cons_append, List.nil_append, List.append_nil]
  show EMI C Nm T ns _ (innT 33 v (FO.cons k1 p1 v1 c1 FO.nil)) _ _
  rw [ei]
  refine (openP (F := fun I0 => (f_Model_item I0 1 (Jn a1)).bind fun I1 => (f_Model_item I1 0 62).bind fun I2 => f_Model_item I2 8 v) (its := [(8, v), (0, 62), (1, (Jn a1))]) (fun V I => ?_) (PSH.item 1 (Jn a1) (PSH.item 0 62 (PSH.last 8 v))) (EMI.cons (tN h.mn hn) (EMI.cons (tk62 h.mc) e1)) (by first | omega | (simp only [List.length_cons, List.length_nil, List.length_append]; omega))).mono (by show _ ≤ 10 + needF _; (try simp only [nf_cons]); first | omega | (simp only [List.length_cons, List.length_nil, List.length_append]; omega)) (by (try simp only [fl_cons]); first | omega | (simp only [List.length_cons, List.length_nil, List.length_append]; omega))
  rw [opO h.hx (by rw [h.kind]; decide)]
  unfold f_Model_openOperand
  simp (decide := true) only [gd_Jn h.hx n20, hxl, h.kind, h.val, hf, ob_some, ob_id, if_true, if_false, l1, s1', gd_Jn b1 n20, ka1, f_Model_itemAll, f_Model_itemBlock, f_Model_itemArray, Option.bind_assoc, nm_eq]
theorem nd_call {x : Nat} {v : Int32} {c : FO} {ks : List Int32} (h : NX C Nm T ns N ch rk x 34 v c) (hks : c.ks = ks) (hn : nmd ns.length v) : GOAL C Nm T ns x 34 v c := by
  have hxl := Jn_cl (show x < 2147483648 by have := h.hx; omega)
  have hN := h.gt.2.1
  have hf := h.fst
  have ei : innT 34 v c = [(1, v)] ++ ([(40, 0)] ++ (tkF 34 v 0 c ++ ([(41, 0)]))) := by
    unfold innT
    show [(1, v), (40, 0)] ++ ((tkF 34 v 0 c) ++ [(41, 0)]) = [(1, v)] ++ ([(40, 0)] ++ (tkF 34 v 0 c ++ ([(41, 0)])))
    simp only [List.append_assoc, List.cons_append, List.nil_append, List.append_nil]
  show EMI C Nm T ns _ (innT 34 v c) _ _
  rw [ei]
  refine (openP (F := fun I0 => (f_Model_item I0 0 56).bind fun I1 => (f_Model_item I1 3 (T.2.2.2.2.2.2.1 x)).bind fun I2 => (f_Model_item I2 0 55).bind fun I3 => f_Model_item I3 8 v) (its := [(8, v), (0, 55), (3, (T.2.2.2.2.2.2.1 x)), (0, 56)]) (fun V I => ?_) (PSH.item 0 56 (PSH.item 3 (T.2.2.2.2.2.2.1 x) (PSH.item 0 55 (PSH.last 8 v)))) (EMI.cons (tN h.mn hn) (EMI.cons (tk55 h.mc) (EMI.cons (h.fst ▸ h.rws.row h.gt h.mc (K := 34) (V := v) ⟨by decide, by decide⟩ (fun _ => rfl) (fun _ _ => rfl)) (tk56 h.mc)))) (by first | omega | (simp only [List.length_cons, List.length_nil, List.length_append]; omega))).mono (by show _ ≤ 4 + needF _; (try simp only [nf_cons]); first | omega | (simp only [List.length_cons, List.length_nil, List.length_append]; omega)) (by (try simp only [fl_cons]); first | omega | (simp only [List.length_cons, List.length_nil, List.length_append]; omega))
  rw [opO h.hx (by rw [h.kind]; decide)]
  unfold f_Model_openOperand
  simp (decide := true) only [gd_Jn h.hx n20, hxl, h.kind, h.val, hf, ob_some, ob_id, if_true, if_false, f_Model_itemAll, f_Model_itemBlock, f_Model_itemArray, Option.bind_assoc, nm_eq]
theorem nd_func {x : Nat} {v : Int32} {c : FO} {k1 : Int32} {ks : List Int32} (h : NX C Nm T ns N ch rk x 1 v c) (hks : c.ks = k1 :: ks) (hn : nmd ns.length v) : GOAL C Nm T ns x 1 v c := by
  have hxl := Jn_cl (show x < 2147483648 by have := h.hx; omega)
  have hN := h.gt.2.1
  obtain ⟨p1, v1, c1, r1, a1, as1, rfl, q1, hch, ka1, va1, n1, s1, e1, w1, lo1⟩ := h.rws.one h.gt hks
  have b1 : a1 < 20000 := by omega
  have nq1 := nk3 k1
  have l1 := Jn_cl (show a1 < 2147483648 by omega)
  have hf : T.2.2.2.2.2.2.1 x = Jn a1 := by rw [h.fst, hch]; rfl
  have s1' := s1
  have ei : innT 1 v (FO.cons k1 p1 v1 c1 r1) = [(256, 0)] ++ ([(1, v)] ++ ([(58, 0)] ++ (innT k1 v1 c1 ++ (tkF 1 v 1 r1 ++ ([(257, 0)]))))) := by
    unfold innT
    rw [tkF_cons (nbrk ⟨by decide, by decide⟩)]
    show [(256, 0), (1, v), (58, 0)] ++ (([] ++ (innT k1 v1 c1 ++ (tkF 1 v 1 r1))) ++ [(257, 0)]) = [(256, 0)] ++ ([(1, v)] ++ ([(58, 0)] ++ (innT k1 v1 c1 ++ (tkF 1 v 1 r1 ++ ([(257, 0)])))))
    simp only [List.append_assoc, List.cons_append, List.nil_append, List.append_nil]
  show EMI C Nm T ns _ (innT 1 v (FO.cons k1 p1 v1 c1 r1)) _ _
  rw [ei]
  refine (openP (F := fun I0 => (f_Model_item I0 0 1).bind fun I1 => (f_Model_item I1 2 (hdJ as1)).bind fun I2 => (f_Model_item I2 1 (Jn a1)).bind fun I3 => (f_Model_item I3 0 61).bind fun I4 => (f_Model_item I4 8 v).bind fun I5 => f_Model_item I5 0 0) (its := [(0, 0), (8, v), (0, 61), (1, (Jn a1)), (2, (hdJ as1)), (0, 1)]) (fun V I => ?_) (PSH.item 0 1 (PSH.item 2 (hdJ as1) (PSH.item 1 (Jn a1) (PSH.item 0 61 (PSH.item 8 v (PSH.last 0 0)))))) (EMI.cons (tk0 h.mc) (EMI.cons (tN h.mn hn) (EMI.cons (tk61 h.mc) (EMI.cons e1 (EMI.cons (w1.chain h.gt (K := 1) (V := v) 1 ⟨by decide, by decide⟩ (fun _ _ => rfl)) (tk1 h.mc)))))) (by first | omega | (simp only [List.length_cons, List.length_nil, List.length_append]; omega))).mono (by show _ ≤ 10 + needF _; (try simp only [nf_cons]); first | omega | (simp only [List.length_cons, List.length_nil, List.length_append]; omega)) (by (try simp only [fl_cons]); first | omega | (simp only [List.length_cons, List.length_nil, List.length_append]; omega))
  rw [opB h.hx (by rw [h.kind]; decide)]
  unfold f_Model_openBlock
  simp (decide := true) only [gd_Jn h.hx n20, hxl, h.kind, h.val, hf, ob_some, ob_id, if_true, if_false, l1, s1', gd_Jn b1 n20, ka1, second_ok h.hx b1 hf, f_Model_itemAll, f_Model_itemBlock, f_Model_itemArray, Option.bind_assoc, nm_eq]
theorem nd_blk {x : Nat} {v : Int32} {c : FO} {ks : List Int32} (h : NX C Nm T ns N ch rk x 2 v c) (hks : c.ks = ks) (hn : nmd ns.length v) : GOAL C Nm T ns x 2 v c := by
  have hxl := Jn_cl (show x < 2147483648 by have := h.hx; omega)
  have hN := h.gt.2.1
  have hf := h.fst
  have ei : innT 2 v c = [(258, 0)] ++ ([(1, v)] ++ (tkF 2 v 0 c ++ ([(259, 0)]))) := by
    unfold innT
    show [(258, 0), (1, v)] ++ ((tkF 2 v 0 c) ++ [(259, 0)]) = [(258, 0)] ++ ([(1, v)] ++ (tkF 2 v 0 c ++ ([(259, 0)])))
    simp only [List.append_assoc, List.cons_append, List.nil_append, List.append_nil]
  show EMI C Nm T ns _ (innT 2 v c) _ _
  rw [ei]
  refine (openP (F := fun I0 => (f_Model_item I0 0 3).bind fun I1 => (f_Model_item I1 2 (T.2.2.2.2.2.2.1 x)).bind fun I2 => (f_Model_item I2 8 v).bind fun I3 => f_Model_item I3 0 2) (its := [(0, 2), (8, v), (2, (T.2.2.2.2.2.2.1 x)), (0, 3)]) (fun V I => ?_) (PSH.item 0 3 (PSH.item 2 (T.2.2.2.2.2.2.1 x) (PSH.item 8 v (PSH.last 0 2)))) (EMI.cons (tk2 h.mc) (EMI.cons (tN h.mn hn) (EMI.cons (h.fst ▸ h.rws.chain h.gt (K := 2) (V := v) 0 ⟨by decide, by decide⟩ (fun _ _ => rfl)) (tk3 h.mc)))) (by first | omega | (simp only [List.length_cons, List.length_nil, List.length_append]; omega))).mono (by show _ ≤ 10 + needF _; (try simp only [nf_cons]); first | omega | (simp only [List.length_cons, List.length_nil, List.length_append]; omega)) (by (try simp only [fl_cons]); first | omega | (simp only [List.length_cons, List.length_nil, List.length_append]; omega))
  rw [opB h.hx (by rw [h.kind]; decide)]
  unfold f_Model_openBlock
  simp (decide := true) only [gd_Jn h.hx n20, hxl, h.kind, h.val, hf, ob_some, ob_id, if_true, if_false, f_Model_itemAll, f_Model_itemBlock, f_Model_itemArray, Option.bind_assoc, nm_eq]
theorem nd_prog {x : Nat} {v : Int32} {c : FO} {ks : List Int32} (h : NX C Nm T ns N ch rk x 3 v c) (hks : c.ks = ks) (hn : nmd ns.length v) : GOAL C Nm T ns x 3 v c := by
  have hxl := Jn_cl (show x < 2147483648 by have := h.hx; omega)
  have hN := h.gt.2.1
  have hf := h.fst
  have ei : innT 3 v c = [(260, 0)] ++ ([(1, v)] ++ (tkF 3 v 0 c ++ ([(261, 0)]))) := by
    unfold innT
    show [(260, 0), (1, v)] ++ ((tkF 3 v 0 c) ++ [(261, 0)]) = [(260, 0)] ++ ([(1, v)] ++ (tkF 3 v 0 c ++ ([(261, 0)])))
    simp only [List.append_assoc, List.cons_append, List.nil_append, List.append_nil]
  show EMI C Nm T ns _ (innT 3 v c) _ _
  rw [ei]
  refine (openP (F := fun I0 => (f_Model_item I0 0 5).bind fun I1 => (f_Model_item I1 2 (T.2.2.2.2.2.2.1 x)).bind fun I2 => (f_Model_item I2 8 v).bind fun I3 => f_Model_item I3 0 4) (its := [(0, 4), (8, v), (2, (T.2.2.2.2.2.2.1 x)), (0, 5)]) (fun V I => ?_) (PSH.item 0 5 (PSH.item 2 (T.2.2.2.2.2.2.1 x) (PSH.item 8 v (PSH.last 0 4)))) (EMI.cons (tk4 h.mc) (EMI.cons (tN h.mn hn) (EMI.cons (h.fst ▸ h.rws.chain h.gt (K := 3) (V := v) 0 ⟨by decide, by decide⟩ (fun _ _ => rfl)) (tk5 h.mc)))) (by first | omega | (simp only [List.length_cons, List.length_nil, List.length_append]; omega))).mono (by show _ ≤ 10 + needF _; (try simp only [nf_cons]); first | omega | (simp only [List.length_cons, List.length_nil, List.length_append]; omega)) (by (try simp only [fl_cons]); first | omega | (simp only [List.length_cons, List.length_nil, List.length_append]; omega))
  rw [opB h.hx (by rw [h.kind]; decide)]
  unfold f_Model_openBlock
  simp (decide := true) only [gd_Jn h.hx n20, hxl, h.kind, h.val, hf, ob_some, ob_id, if_true, if_false, f_Model_itemAll, f_Model_itemBlock, f_Model_itemArray, Option.bind_assoc, nm_eq]
theorem nd_sect0 {x : Nat} {c : FO} {ks : List Int32} (h : NX C Nm T ns N ch rk x 4 0 c) (hks : c.ks = ks) : GOAL C Nm T ns x 4 0 c := by
  have hxl := Jn_cl (show x < 2147483648 by have := h.hx; omega)
  have hN := h.gt.2.1
  have hf := h.fst
  have ei : innT 4 0 c = [(262, 0)] ++ (tkF 4 0 0 c ++ ([(265, 0)])) := by
    unfold innT
    show [(262, 0)] ++ ((tkF 4 0 0 c) ++ [(265, 0)]) = [(262, 0)] ++ (tkF 4 0 0 c ++ ([(265, 0)]))
    simp only [List.append_assoc, List.cons_append, List.nil_append, List.append_nil]
  show EMI C Nm T ns _ (innT 4 0 c) _ _
  rw [ei]
  refine (openP (F := fun I0 => (f_Model_item I0 0 9).bind fun I1 => (f_Model_item I1 2 (T.2.2.2.2.2.2.1 x)).bind fun I2 => f_Model_item I2 0 6) (its := [(0, 6), (2, (T.2.2.2.2.2.2.1 x)), (0, 9)]) (fun V I => ?_) (PSH.item 0 9 (PSH.item 2 (T.2.2.2.2.2.2.1 x) (PSH.last 0 6))) (EMI.cons (tk6 h.mc) (EMI.cons (h.fst ▸ h.rws.chain h.gt (K := 4) (V := 0) 0 ⟨by decide, by decide⟩ (fun _ _ => rfl)) (tk9 h.mc))) (by first | omega | (simp only [List.length_cons, List.length_nil, List.length_append]; omega))).mono (by show _ ≤ 10 + needF _; (try simp only [nf_cons]); first | omega | (simp only [List.length_cons, List.length_nil, List.length_append]; omega)) (by (try simp only [fl_cons]); first | omega | (simp only [List.length_cons, List.length_nil, List.length_append]; omega))
  rw [opB h.hx (by rw [h.kind]; decide)]
  unfold f_Model_openBlock
  simp (decide := true) only [gd_Jn h.hx n20, hxl, h.kind, h.val, hf, ob_some, ob_id, if_true, if_false, show (6 : Int32) + 0 = 6 from by decide, f_Model_itemAll, f_Model_itemBlock, f_Model_itemArray, Option.bind_assoc, nm_eq]
theorem nd_sect1 {x : Nat} {c : FO} {ks : List Int32} (h : NX C Nm T ns N ch rk x 4 1 c) (hks : c.ks = ks) : GOAL C Nm T ns x 4 1 c := by
  have hxl := Jn_cl (show x < 2147483648 by have := h.hx; omega)
  have hN := h.gt.2.1
  have hf := h.fst
  have ei : innT 4 1 c = [(263, 0)] ++ (tkF 4 1 0 c ++ ([(265, 0)])) := by
    unfold innT
    show [(263, 0)] ++ ((tkF 4 1 0 c) ++ [(265, 0)]) = [(263, 0)] ++ (tkF 4 1 0 c ++ ([(265, 0)]))
    simp only [List.append_assoc, List.cons_append, List.nil_append, List.append_nil]
  show EMI C Nm T ns _ (innT 4 1 c) _ _
  rw [ei]
  refine (openP (F := fun I0 => (f_Model_item I0 0 9).bind fun I1 => (f_Model_item I1 2 (T.2.2.2.2.2.2.1 x)).bind fun I2 => f_Model_item I2 0 7) (its := [(0, 7), (2, (T.2.2.2.2.2.2.1 x)), (0, 9)]) (fun V I => ?_) (PSH.item 0 9 (PSH.item 2 (T.2.2.2.2.2.2.1 x) (PSH.last 0 7))) (EMI.cons (tk7 h.mc) (EMI.cons (h.fst ▸ h.rws.chain h.gt (K := 4) (V := 1) 0 ⟨by decide, by decide⟩ (fun _ _ => rfl)) (tk9 h.mc))) (by first | omega | (simp only [List.length_cons, List.length_nil, List.length_append]; omega))).mono (by show _ ≤ 10 + needF _; (try simp only [nf_cons]); first | omega | (simp only [List.length_cons, List.length_nil, List.length_append]; omega)) (by (try simp only [fl_cons]); first | omega | (simp only [List.length_cons, List.length_nil, List.length_append]; omega))
  rw [opB h.hx (by rw [h.kind]; decide)]
  unfold f_Model_openBlock
  simp (decide := true) only [gd_Jn h.hx n20, hxl, h.kind, h.val, hf, ob_some, ob_id, if_true, if_false, show (6 : Int32) + 1 = 7 from by decide, f_Model_itemAll, f_Model_itemBlock, f_Model_itemArray, Option.bind_assoc, nm_eq]
theorem nd_sect2 {x : Nat} {c : FO} {ks : List Int32} (h : NX C Nm T ns N ch rk x 4 2 c) (hks : c.ks = ks) : GOAL C Nm T ns x 4 2 c := by
  have hxl := Jn_cl (show x < 2147483648 by have := h.hx; omega)
  have hN := h.gt.2.1
  have hf := h.fst
  have ei : innT 4 2 c = [(264, 0)] ++ (tkF 4 2 0 c ++ ([(265, 0)])) := by
    unfold innT
    show [(264, 0)] ++ ((tkF 4 2 0 c) ++ [(265, 0)]) = [(264, 0)] ++ (tkF 4 2 0 c ++ ([(265, 0)]))
    simp only [List.append_assoc, List.cons_append, List.nil_append, List.append_nil]
  show EMI C Nm T ns _ (innT 4 2 c) _ _
  rw [ei]
  refine (openP (F := fun I0 => (f_Model_item I0 0 9).bind fun I1 => (f_Model_item I1 2 (T.2.2.2.2.2.2.1 x)).bind fun I2 => f_Model_item I2 0 8) (its := [(0, 8), (2, (T.2.2.2.2.2.2.1 x)), (0, 9)]) (fun V I => ?_) (PSH.item 0 9 (PSH.item 2 (T.2.2.2.2.2.2.1 x) (PSH.last 0 8))) (EMI.cons (tk8 h.mc) (EMI.cons (h.fst ▸ h.rws.chain h.gt (K := 4) (V := 2) 0 ⟨by decide, by decide⟩ (fun _ _ => rfl)) (tk9 h.mc))) (by first | omega | (simp only [List.length_cons, List.length_nil, List.length_append]; omega))).mono (by show _ ≤ 10 + needF _; (try simp only [nf_cons]); first | omega | (simp only [List.length_cons, List.length_nil, List.length_append]; omega)) (by (try simp only [fl_cons]); first | omega | (simp only [List.length_cons, List.length_nil, List.length_append]; omega))
  rw [opB h.hx (by rw [h.kind]; decide)]
  unfold f_Model_openBlock
  simp (decide := true) only [gd_Jn h.hx n20, hxl, h.kind, h.val, hf, ob_some, ob_id, if_true, if_false, show (6 : Int32) + 2 = 8 from by decide, f_Model_itemAll, f_Model_itemBlock, f_Model_itemArray, Option.bind_assoc, nm_eq]
theorem nd_decl {x : Nat} {c : FO} {ks : List Int32} (h : NX C Nm T ns N ch rk x 5 0 c) (hks : c.ks = 6 :: ks) (hd : ∀ k, k ∈ ks → k = 6 ∨ k = 7 ∨ k = 8 ∨ k = 9 ∨ k = 10 ∨ k = 30 ∨ k = 31) : GOAL C Nm T ns x 5 0 c := by
  have hxl := Jn_cl (show x < 2147483648 by have := h.hx; omega)
  have hN := h.gt.2.1
  obtain ⟨p1, v1, c1, r1, a1, as1, rfl, q1, hch, ka1, va1, n1, s1, e1, w1, lo1⟩ := h.rws.one h.gt hks
  have b1 : a1 < 20000 := by omega
  have nq1 := nk3 6
  have l1 := Jn_cl (show a1 < 2147483648 by omega)
  have hf : T.2.2.2.2.2.2.1 x = Jn a1 := by rw [h.fst, hch]; rfl
  have s1' := s1
  have ei : innT 5 0 (FO.cons 6 p1 v1 c1 r1) = innT 6 v1 c1 ++ (tkF 5 0 1 r1 ++ [(59, 0)]) := by
    unfold innT
    rw [tkF_cons (nbrk ⟨by decide, by decide⟩)]
    show [] ++ (([] ++ (innT 6 v1 c1 ++ (tkF 5 0 1 r1))) ++ [(59, 0)]) = innT 6 v1 c1 ++ (tkF 5 0 1 r1 ++ [(59, 0)])
    simp only [List.append_assoc, List.cons_append, List.nil_append, List.append_nil]
  show EMI C Nm T ns _ (innT 5 0 (FO.cons 6 p1 v1 c1 r1)) _ _
  rw [ei]
  refine (openP (F := fun I0 => (f_Model_item I0 7 (hdJ as1)).bind fun I1 => f_Model_item I1 1 (Jn a1)) (its := [(1, (Jn a1)), (7, (hdJ as1))]) (fun V I => ?_) (PSH.item 7 (hdJ as1) (PSH.last 1 (Jn a1))) (EMI.cons e1 (partsI h.gt h.mc r1 as1 0 w1.rep w1.tl w1.each (by rw [q1]; exact hd))) (by first | omega | (simp only [List.length_cons, List.length_nil, List.length_append]; omega))).mono (by show _ ≤ 10 + needF _; (try simp only [nf_cons]); first | omega | (simp only [List.length_cons, List.length_nil, List.length_append]; omega)) (by (try simp only [fl_cons]); first | omega | (simp only [List.length_cons, List.length_nil, List.length_append]; omega))
  rw [opB h.hx (by rw [h.kind]; decide)]
  unfold f_Model_openBlock
  simp (decide := true) only [gd_Jn h.hx n20, hxl, h.kind, h.val, hf, ob_some, ob_id, if_true, if_false, l1, s1', gd_Jn b1 n20, ka1, second_ok h.hx b1 hf, f_Model_itemAll, f_Model_itemBlock, f_Model_itemArray, Option.bind_assoc, nm_eq]
theorem nd_array {x : Nat} {c : FO} {k1 k2 k3 : Int32} (h : NX C Nm T ns N ch rk x 9 0 c) (hks : c.ks = [k1, k2, k3]) : GOAL C Nm T ns x 9 0 c := by
  have hxl := Jn_cl (show x < 2147483648 by have := h.hx; omega)
  have hN := h.gt.2.1
  obtain ⟨p1, v1, c1, r1, a1, as1, rfl, q1, hch, ka1, va1, n1, s1, e1, w1, lo1⟩ := h.rws.one h.gt hks
  have b1 : a1 < 20000 := by omega
  have nq1 := nk3 k1
  have l1 := Jn_cl (show a1 < 2147483648 by omega)
  obtain ⟨p2, v2, c2, r2, a2, as2, rfl, q2, rfl, ka2, va2, n2, s2, e2, w2, lo2⟩ := w1.one h.gt q1
  have b2 : a2 < 20000 := by omega
  have nq2 := nk3 k2
  have l2 := Jn_cl (show a2 < 2147483648 by omega)
  obtain ⟨p3, v3, c3, r3, a3, as3, rfl, q3, rfl, ka3, va3, n3, s3, e3, w3, lo3⟩ := w2.one h.gt q2
  have b3 : a3 < 20000 := by omega
  have nq3 := nk3 k3
  have l3 := Jn_cl (show a3 < 2147483648 by omega)
  have hc0 := ks_nil q3
  subst hc0
  have has : as3 = [] := List.length_eq_zero_iff.mp w3.rep.len
  subst has
  have hf : T.2.2.2.2.2.2.1 x = Jn a1 := by rw [h.fst, hch]; rfl
  have s1' : T.2.2.2.2.2.2.2.2 a1 = Jn a2 := s1
  have s2' : T.2.2.2.2.2.2.2.2 a2 = Jn a3 := s2
  have s3' : T.2.2.2.2.2.2.2.2 a3 = -1 := s3
  have ei : innT 9 0 (FO.cons k1 p1 v1 c1 (FO.cons k2 p2 v2 c2 (FO.cons k3 p3 v3 c3 FO.nil))) = [(270, 0)] ++ ([(91, 0)] ++ (innT k1 v1 c1 ++ ([(11822, 0)] ++ (innT k2 v2 c2 ++ ([(93, 0)] ++ ([(271, 0)] ++ (innT k3 v3 c3))))))) := by
    unfold innT
    rw [tkF_cons (nbrk ⟨by decide, by decide⟩), tkF_cons (nbrk ⟨by decide, by decide⟩), tkF_cons (nbrk ⟨by decide, by decide⟩), tkF]
    show [(270, 0), (91, 0)] ++ (([] ++ (innT k1 v1 c1 ++ ([(11822, 0)] ++ (innT k2 v2 c2 ++ ([(93, 0), (271, 0)] ++ (innT k3 v3 c3 ++ ([]))))))) ++ []) = [(270, 0)] ++ ([(91, 0)] ++ (innT k1 v1 c1 ++ ([(11822, 0)] ++ (innT k2 v2 c2 ++ ([(93, 0)] ++ ([(271, 0)] ++ (innT k3 v3 c3)))))))
    simp only [List.append_assoc, List.cons_append, List.nil_append, List.append_nil]
  show EMI C Nm T ns _ (innT 9 0 (FO.cons k1 p1 v1 c1 (FO.cons k2 p2 v2 c2 (FO.cons k3 p3 v3 c3 FO.nil)))) _ _
  rw [ei]
  refine (openP (F := fun I0 => (f_Model_item I0 1 (Jn a3)).bind fun I1 => (f_Model_item I1 0 15).bind fun I2 => (f_Model_item I2 0 58).bind fun I3 => (f_Model_item I3 1 (Jn a2)).bind fun I4 => (f_Model_item I4 0 51).bind fun I5 => (f_Model_item I5 1 (Jn a1)).bind fun I6 => (f_Model_item I6 0 57).bind fun I7 => f_Model_item I7 0 14) (its := [(0, 14), (0, 57), (1, (Jn a1)), (0, 51), (1, (Jn a2)), (0, 58), (0, 15), (1, (Jn a3))]) (fun V I => ?_) (PSH.item 1 (Jn a3) (PSH.item 0 15 (PSH.item 0 58 (PSH.item 1 (Jn a2) (PSH.item 0 51 (PSH.item 1 (Jn a1) (PSH.item 0 57 (PSH.last 0 14)))))))) (EMI.cons (tk14 h.mc) (EMI.cons (tk57 h.mc) (EMI.cons e1 (EMI.cons (tk51 h.mc) (EMI.cons e2 (EMI.cons (tk58 h.mc) (EMI.cons (tk15 h.mc) e3))))))) (by first | omega | (simp only [List.length_cons, List.length_nil, List.length_append]; omega))).mono (by show _ ≤ 10 + needF _; (try simp only [nf_cons]); first | omega | (simp only [List.length_cons, List.length_nil, List.length_append]; omega)) (by (try simp only [fl_cons]); first | omega | (simp only [List.length_cons, List.length_nil, List.length_append]; omega))
  rw [opB h.hx (by rw [h.kind]; decide)]
  unfold f_Model_openBlock
  simp (decide := true) only [gd_Jn h.hx n20, hxl, h.kind, h.val, hf, ob_some, ob_id, if_true, if_false, l1, s1', gd_Jn b1 n20, ka1, l2, s2', gd_Jn b2 n20, ka2, l3, s3', gd_Jn b3 n20, ka3, second_ok h.hx b1 hf, f_Model_itemAll, f_Model_itemBlock, f_Model_itemArray, Option.bind_assoc, nm_eq]
theorem nd_body {x : Nat} {c : FO} {ks : List Int32} (h : NX C Nm T ns N ch rk x 11 0 c) (hks : c.ks = ks) : GOAL C Nm T ns x 11 0 c := by
  have hxl := Jn_cl (show x < 2147483648 by have := h.hx; omega)
  have hN := h.gt.2.1
  have hf := h.fst
  have ei : innT 11 0 c = tkF 11 0 0 c := by
    unfold innT
    show [] ++ ((tkF 11 0 0 c) ++ []) = tkF 11 0 0 c
    simp only [List.append_assoc, List.cons_append, List.nil_append, List.append_nil]
  show EMI C Nm T ns _ (innT 11 0 c) _ _
  rw [ei]
  refine (openP (F := fun I0 => f_Model_item I0 2 (T.2.2.2.2.2.2.1 x)) (its := [(2, (T.2.2.2.2.2.2.1 x))]) (fun V I => ?_) (PSH.last 2 (T.2.2.2.2.2.2.1 x)) (h.fst ▸ h.rws.chain h.gt (K := 11) (V := 0) 0 ⟨by decide, by decide⟩ (fun _ _ => rfl)) (by first | omega | (simp only [List.length_cons, List.length_nil, List.length_append]; omega))).mono (by show _ ≤ 10 + needF _; (try simp only [nf_cons]); first | omega | (simp only [List.length_cons, List.length_nil, List.length_append]; omega)) (by (try simp only [fl_cons]); first | omega | (simp only [List.length_cons, List.length_nil, List.length_append]; omega))
  rw [opB h.hx (by rw [h.kind]; decide)]
  unfold f_Model_openBlock
  simp (decide := true) only [gd_Jn h.hx n20, hxl, h.kind, h.val, hf, ob_some, ob_id, if_true, if_false, f_Model_itemAll, f_Model_itemBlock, f_Model_itemArray, Option.bind_assoc, nm_eq]
end
end
