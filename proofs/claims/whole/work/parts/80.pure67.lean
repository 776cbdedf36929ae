section
/-! Invocations, statements, bodies: their trees. -/
section
variable {C : S_MC} {mX : S_MX} {m : Nat} {ar : Int32} {kd pl vl : Nat → Int32} {Ls : Nat → S_ML × S_MN} {nn : Nat}
theorem invL_ck (h : LX C mX m kd pl vl Ls) (tv : TV m kd vl nn) {l0 : List E4} {idx : Nat} {i0 op : Nat} {b : Int} (hb : b ≤ 8) (hop : op ≤ 60) {V : Int32} {pre : List Tok} : ∀ (f tn : Nat) (more : Int32) (p : S_Parser) (t : S_Tree) (r : S_Parser × S_Tree), CK m kd pl vl i0 p (WST kd vl l0 idx t i0 0 op b (QM nn 703 13 V pre (fun k => k = 14) (more ≠ 0) tn)) → f_Parser_invocation_L37 (Jn idx) (Jn m, ar, kd, pl, vl) f (Jn tn) more p t = some r → CK m kd pl vl i0 r.1 (WST kd vl l0 idx r.2 i0 0 op b (fun ts X => goodF nn ts ∧ needF ts ≤ 703 ∧ X = pre ++ tkF 13 V 0 ts)) := by
  intro f
  have endit : ∀ (tn : Nat) (more : Prop) (p : S_Parser) (t : S_Tree), CK m kd pl vl i0 p (WST kd vl l0 idx t i0 0 op b (QM nn 703 13 V pre (fun k => k = 14) more tn)) → CK m kd pl vl i0 p (WST kd vl l0 idx t i0 0 op b (fun ts X => goodF nn ts ∧ needF ts ≤ 703 ∧ X = pre ++ tkF 13 V 0 ts)) := by
    intro tn more p t hc
    refine ws_conv (row_end hc) (Int.le_refl _) ?_
    rintro ts X ⟨q1, q2, q3, q4, q5⟩
    exact ⟨X, ⟨q1, q2, q5⟩, List.Sublist.refl _⟩
  induction f with
  | zero => intro tn more p t r _ e; exact absurd e (by unfold f_Parser_invocation_L37; simp)
  | succ f ih =>
    intro tn more p t r hc e
    unfold f_Parser_invocation_L37 at e
    split at e
    · injection e with e; subst e
      exact endit tn _ _ _ hc
    next hm =>
    split at e
    · injection e with e; subst e
      exact endit tn _ _ _ hc
    · obtain ⟨⟨nv, p1⟩, e1, e⟩ := unb e
      obtain ⟨⟨n, t2⟩, e2, e⟩ := unb e
      obtain ⟨p3, e3, e⟩ := unb e
      obtain ⟨r4, e4, e⟩ := unb e
      obtain ⟨⟨mo, p6⟩, e6, efin⟩ := unb e
      rw [nm_eq, addL tn 1] at efin
      dsimp only at e2 e3 e4 e6 efin
      unfold f_Parser_takeName at e1
      obtain ⟨p1', e1', e1⟩ := unb e1
      injection e1 with e1
      injection e1 with ea eb
      rw [← eb] at e3
      have s5 : CK m kd pl vl i0 r4.1 (WST kd vl l0 idx r4.2 i0 0 op b (Q1 nn 703 (fun k => k = 14) (QM nn 703 13 V pre (fun k => k = 14) (more ≠ 0) tn))) := by
        refine ws_one (nn := nn) (F := some r4) (r := r4) hc rfl ?_ ?_
        · intro i ts hs ha hl
          have hmm := h.2.2.2.2.2
          have hi := hs.1
          obtain ⟨hn, ha2⟩ := ha.down (by omega) e2
          rw [hn] at e4
          have s1 : CK m kd pl vl i p1' (WST kd vl (nx l0 idx ts (14, p.2.2.1, nv, 0)) (atL l0 ts) t2 i 0 op (b - 1) (fun ts' X' => ts' = FO.nil ∧ X' = [(1, nv)] ∧ nmd nn nv)) := by
            refine (ck_take h hs (by decide) e1').mono ?_
            rintro i2 sg2 op2 hi2 hs2 ⟨z1, z2, z3, z4, _⟩
            subst z1; subst z2; subst z3
            have hv : nv = vl i := by rw [← ea, hs.kind.2.2]
            refine ⟨rfl, rfl, FO.nil, _, ha2, ?_, ⟨rfl, rfl, ?_⟩, ?_⟩
            · have := SubT.tok (kd := kd) (vl := vl) i
              rw [z4, show nzT 1 (vl i) = (1, vl i) from by simp (decide := true) [nzT], ← hv] at this
              exact this
            · rw [hv]; exact (tv i hs.1).1 z4
            · rw [atL_nx]
              simp only [FO.flat, List.length_nil]; omega
          have s3 := ws_take h s1 (by decide) (by decide) (by decide) e3
          have s4 := ws_one (nn := nn) s3 e4 (fun i ts hs ha hl => outer_ck h tv hs hop ha hl (by omega) e4) (fun i td hd => dm_outermost hd _ _ _)
          refine ws_up ha.1 s4 (by omega) rfl ?_
          rintro c X ⟨ts2, X2, k2, pp2, v2, c2, ⟨X3, ⟨z1, z2, z3⟩, z4⟩, x1, x2, x3, x4, x5⟩
          subst x4; subst x5; subst z4; subst z1; subst z2
          refine ⟨LOC.par _ _ z3, x2, ?_, ?_⟩
          · rw [show nk 14 = 3 from by decide, show FO.nil.app (one k2 pp2 v2 c2) = one k2 pp2 v2 c2 from rfl]; omega
          · rw [innT_app, tk_snoc (by decide) (by decide)]
            simp (decide := true) [begT, finT, fstc, nxtc, lstc, sgT, bears, semi, tkF, sepT, sepc]
        · intro i td hd
          refine ⟨r4, rfl, ?_⟩
          have d1 := dmE (Pq := fun b => PD b i td) (dm_take hd _ 1 (by decide)) e1'
          have d3 := dmE (Pq := fun b => PD b i td) (dm_take d1 _ 14909 (by decide)) e3
          exact dmE (Pq := fun b => PD b.1 i td) (dm_outermost d3 _ _ _) e4
      have sp0 : ∀ k, k = 14 → sepT 13 V 0 k = [] := by rintro k rfl; simp (decide := true) [sepT, sepc, sgT]
      have sp1 : ∀ (i : Nat) k, i ≠ 0 → k = 14 → sepT 13 V i k = [(44, 0)] := by
        rintro i k hi rfl
        simp (decide := true) [sepT, sepc, sgT, hi]
      exact ih (tn + 1) _ _ _ _ (comma_ck h hm (by decide) (Nat.le_refl _) sp0 sp1 s5 e6) efin
theorem inv_ck (h : LX C mX m kd pl vl Ls) (tv : TV m kd vl nn) {l0 : List E4} {idx : Nat} {ts : FO} {t : S_Tree} {p : S_Parser} {i op : Nat} {b : Int} {r : S_Parser × S_Tree} {P : Int32} (ck : kd i = 1) (hs : SP m kd pl vl p (i + 1) 0 op) (hop : op ≤ 60) (ha : AT l0 idx ts t) (hl : (atL l0 ts : Int) ≤ 2 * i + b) (hb : b ≤ 8) (hk : p.2.1 = 40) (e : f_Parser_invocation p (Jn m, ar, kd, pl, vl) t (Jn idx) P (vl i) = some r) : CK m kd pl vl i r.1 (R1S kd vl l0 idx ts r.2 i op b nn) := by
  have hm := h.2.2.2.2.2
  have hi := hs.1
  have hnm := (tv i (by omega)).1 ck
  have t1 := SubT.tok (kd := kd) (vl := vl) i
  rw [ck, show nzT 1 (vl i) = (1, vl i) from by simp (decide := true) [nzT]] at t1
  unfold f_Parser_invocation at e
  obtain ⟨⟨n, t2⟩, e2, e⟩ := unb e
  obtain ⟨p3, e3, e⟩ := unb e
  dsimp only at e
  obtain ⟨hn, ha2⟩ := ha.down (by omega) e2
  rw [hn] at e
  have s1 := ws_from (i0 := i) (b := b - 1) (by omega) hs ha2 t1 (by
    rw [atL_nx]
    simp only [FO.flat, List.length_nil]; omega)
  have s3 := ws_open h hk (by decide) (by decide) hop s1 e3
  have fin : ∀ (q : S_Parser × S_Tree), CK m kd pl vl i q.1 (WST kd vl (nx l0 idx ts (13, P, vl i, 0)) (atL l0 ts) q.2 i 0 (op + 1) (b - 3) (fun ts X => goodF nn ts ∧ needF ts ≤ 703 ∧ X = [(1, vl i), (40, 0)] ++ tkF 13 (vl i) 0 ts)) → ((f_Parser_takeClosing q.1 (Jn m, ar, kd, pl, vl) 41).bind fun r7 => some (r7, q.2)) = some r → CK m kd pl vl i r.1 (R1S kd vl l0 idx ts r.2 i op b nn) := by
    intro q s8 e
    obtain ⟨p9, e9, e⟩ := unb e
    injection e with e
    subst e
    have s9 := ws_close h s8 (by decide) (by decide) (by decide) e9
    refine ws_upS ha.1 s9 (by omega) ?_
    rintro c X ⟨X0, ⟨q1, q2, q3⟩, q4⟩
    subst q4; subst q3
    refine ⟨LOC.inv _ _ hnm, q1, ?_, ?_⟩
    · have : nk 13 = 10 := by decide
      unfold nS; omega
    · have e1 : begT 13 (vl i) = [(1, vl i), (40, 0)] := by simp (decide := true) [begT, fstc, nxtc, sgT, bears]
      have e2 : ∀ n, finT 13 n = [(41, 0), (59, 0)] := by intro n; simp (decide := true) [finT, lstc, sgT, semi]
      rw [innT_app, e1, e2]
      simp only [List.append_assoc, List.cons_append, List.nil_append]
  -- the parameters
  have loop : ∀ (more : Int32) (q : S_Parser × S_Tree), f_Parser_invocation_L37 (Jn (atL l0 ts)) (Jn m, ar, kd, pl, vl) FU 0 more p3 t2 = some q → CK m kd pl vl i q.1 (WST kd vl (nx l0 idx ts (13, P, vl i, 0)) (atL l0 ts) q.2 i 0 (op + 1) (b - 3) (fun ts X => goodF nn ts ∧ needF ts ≤ 703 ∧ X = [(1, vl i), (40, 0)] ++ tkF 13 (vl i) 0 ts)) := by
    intro more q eq
    rcases s3 with ⟨j, td, hd⟩ | ⟨i3, sg3, op3, y1, y2, y3, H⟩
    · by_cases c : more = 0
      · rw [c, FU1, dm_L37z] at eq
        injection eq with eq
        subst eq
        exact Or.inl ⟨j, td, hd⟩
      · -- a lost parser
        have : ∀ (f : Nat) (w mo : Int32) (p : S_Parser) (t : S_Tree) (q : S_Parser × S_Tree), PD p j td → f_Parser_invocation_L37 (Jn (atL l0 ts)) (Jn m, ar, kd, pl, vl) f w mo p t = some q → PD q.1 j td := by
          intro f
          induction f with
          | zero => intro w mo p t q _ e; exact absurd e (by unfold f_Parser_invocation_L37; simp)
          | succ f ih =>
            intro w mo p t q hp e
            unfold f_Parser_invocation_L37 at e
            split at e
            · injection e with e; subst e; exact hp
            · split at e
              · injection e with e; subst e; exact hp
              · obtain ⟨⟨nv, p1⟩, e1, e⟩ := unb e
                obtain ⟨⟨n, t2⟩, e2, e⟩ := unb e
                obtain ⟨p3, e3, e⟩ := unb e
                obtain ⟨r4, e4, e⟩ := unb e
                obtain ⟨⟨mo, p6⟩, e6, efin⟩ := unb e
                rw [nm_eq] at efin
                have d1 := dmE (Pq := fun b => PD b.2 j td) (dm_takeName hp _) e1
                have d3 := dmE (Pq := fun b => PD b j td) (dm_take d1 _ 14909 (by decide)) e3
                have d4 := dmE (Pq := fun b => PD b.1 j td) (dm_outermost d3 _ _ _) e4
                rw [dm_takeComma d4] at e6
                injection e6 with e6
                injection e6 with ea eb
                refine ih _ _ _ _ _ ?_ efin
                dsimp only
                rw [← eb]; exact d4
        exact Or.inl ⟨j, td, this FU _ _ _ _ _ hd eq⟩
    · refine invL_ck h tv (by omega) H FU 0 more _ _ _ ?_ eq
      refine ws_conv (Or.inr ⟨i3, sg3, op3, y1, y2, y3⟩) (by omega) ?_
      rintro ts' X ⟨X0, ⟨z1, z2⟩, z3⟩
      subst z1; subst z2; subst z3
      exact ⟨_, ⟨trivial, by rw [needF]; omega, fun k hk => absurd hk List.not_mem_nil, rfl, Or.inr ⟨fun _ => rfl, rfl⟩⟩, by rw [tkF]; exact List.Sublist.refl _⟩
  split at e
  · obtain ⟨r5, e5, e⟩ := unb e
    exact fin r5 (loop 0 r5 e5) e
  · obtain ⟨r5, e5, e⟩ := unb e
    exact fin r5 (loop 1 r5 e5) e
/-- none or one tree in a chain -/
def R01 (kd vl : Nat → Int32) (l0 : List E4) (idx : Nat) (ts : FO) (t : S_Tree) (i0 op : Nat) (b : Int) (nn nd : Nat) (K V : Int32) (i' sg' op' : Nat) : Prop :=
  sg' = 0 ∧ op' = op ∧ ∃ new, AT l0 idx (ts.app new) t ∧ goodF nn new ∧ needF new ≤ nd ∧ SubT kd vl i0 i' (tkF K V ts.len new) ∧ (atL l0 (ts.app new) : Int) ≤ 2 * i' + b
theorem R01_of {l0 : List E4} {idx : Nat} {ts : FO} {t : S_Tree} {i0 op nd : Nat} {b : Int} {P : Int32 → Prop} {i' sg' op' : Nat} (h : R1 kd vl l0 idx ts t i0 0 op b nn nd P i' sg' op') : R01 kd vl l0 idx ts t i0 op b nn nd 11 0 i' sg' op' := by
  obtain ⟨w1, w2, k, pp, v, c, w3, w4, w5, w6, w7, w8⟩ := h
  refine ⟨w1, w2, _, w3, w5, w6, ?_, w8⟩
  rw [tkF_one (by
    rintro ⟨_, x | ⟨x, _⟩⟩
    · exact absurd x (by decide)
    · exact absurd x (by decide)), sep_chain (Or.inr (Or.inr (Or.inr (Or.inr (Or.inr (Or.inl rfl)))))), List.nil_append]
  exact w7
theorem semi_ck (h : LX C mX m kd pl vl Ls) {l0 : List E4} {idx : Nat} {ts : FO} {t : S_Tree} {p p' : S_Parser} {i op : Nat} {b : Int} (s : CK m kd pl vl i p (R1S kd vl l0 idx ts t i op b nn)) (e : f_Parser_take p (Jn m, ar, kd, pl, vl) 59 = some p') : CK m kd pl vl i p' (R01 kd vl l0 idx ts t i op b nn (nS op) 11 0) := by
  refine s.seq (fun q => q) e ?_ (fun i td hd => dm_take hd _ 59 (by decide))
  rintro i1 sg1 op1 hi1 hs1 ⟨w1, w2, k, pp, v, c, Y, w3, w4, w5, w6, w7, w8⟩
  subst w1; subst w2
  refine (ck_take h hs1 (by decide) e).mono ?_
  rintro i2 sg2 op2 hi2 hs2 ⟨z1, z2, z3, z4, _⟩
  subst z1; subst z2; subst z3
  refine R01_of (P := fun _ => True) ⟨rfl, rfl, k, pp, v, c, w3, trivial, w4, w5, ?_, by omega⟩
  rw [w7]
  have := w6.snoc
  rw [z4, show nzT 59 (vl i1) = (59, 0) from by simp (decide := true) [nzT]] at this
  exact this
theorem statement_ck (h : LX C mX m kd pl vl Ls) (tv : TV m kd vl nn) {fb : S_Parser → S_Tokens → S_Tree → Int32 → Option (S_Parser × S_Tree)} (hdb : DSP m ar kd pl vl fb) {l0 : List E4} {idx : Nat} {ts : FO} {t : S_Tree} {p : S_Parser} {i op : Nat} {b : Int} {r : Int32 × S_Parser × S_Tree} (hfb : op + 1 ≤ 60 → BSP m ar kd pl vl nn fb (op + 1)) (hs : SP m kd pl vl p i 0 op) (hop : op ≤ 60) (ha : AT l0 idx ts t) (hl : (atL l0 ts : Int) ≤ 2 * i + b) (hb : b ≤ 8) (e : f_Parser_statement fb p (Jn m, ar, kd, pl, vl) t (Jn idx) = some r) : CK m kd pl vl i r.2.1 (R01 kd vl l0 idx ts r.2.2 i op b nn (nS op) 11 0) := by
  have hm := h.2.2.2.2.2
  have hi := hs.1
  obtain ⟨k1, k2, k3⟩ := hs.kind
  unfold f_Parser_statement at e
  split at e
  next c1 =>
    have ck : kd i = 1 := by rw [← k1]; exact c1
    obtain ⟨⟨nv, p1⟩, e1, e⟩ := unb e
    unfold f_Parser_takeName at e1
    obtain ⟨p1', e1', e1⟩ := unb e1
    injection e1 with e1
    injection e1 with ea eb
    rw [k3] at ea
    rw [← ea, ← eb] at e
    dsimp only at e
    rcases ck_take h hs (by decide) e1' with ⟨j, td, hd⟩ | ⟨i1, sg1, op1, x1, hs1, v1, v2, v3, v4, _⟩
    · rw [if_neg (hd.ne 40 (by decide) (by decide))] at e
      obtain ⟨r4, e4, e⟩ := unb e
      obtain ⟨p5, e5, e⟩ := unb e
      injection e with e
      subst e
      have d4 := dmE (Pq := fun b => PD b.1 j td) (dm_assignment hd _ _ _ _ _) e4
      exact Or.inl ⟨j, td, dmE (Pq := fun b => PD b j td) (dm_take d4 _ 59 (by decide)) e5⟩
    subst v1; subst v2; subst v3
    split at e
    next c40 =>
      obtain ⟨r4, e4, e⟩ := unb e
      obtain ⟨p5, e5, e⟩ := unb e
      injection e with e
      subst e
      have sx := inv_ck h tv ck hs1 hop ha hl hb c40 e4
      exact semi_ck (p := r4.1) (t := r4.2) h sx e5
    next =>
      obtain ⟨r4, e4, e⟩ := unb e
      obtain ⟨p5, e5, e⟩ := unb e
      injection e with e
      subst e
      have sx := asg_ck h tv ck hs1 hop ha hl hb e4
      exact semi_ck (p := r4.1) (t := r4.2) h sx e5
  next =>
  split at e
  next c59 =>
    obtain ⟨p2, e2, e⟩ := unb e
    injection e with e
    subst e
    refine (ck_take h hs (by decide) e2).mono ?_
    rintro i2 sg2 op2 hi2 hs2 ⟨z1, z2, z3, z4, _⟩
    refine ⟨z2, z3, FO.nil, by rw [FO.app_nil]; exact ha, trivial, by rw [needF]; omega, by rw [tkF]; exact SubT.nil (by omega), by rw [FO.app_nil]; omega⟩
  next =>
  split at e
  next c =>
    obtain ⟨r4, e4, e⟩ := unb e
    obtain ⟨p5, e5, e⟩ := unb e
    injection e with e
    subst e
    have sx := if_ck h tv hdb hfb hs hop ha hl hb c e4
    exact semi_ck (p := r4.1) (t := r4.2) h sx e5
  next =>
  split at e
  next c =>
    obtain ⟨r4, e4, e⟩ := unb e
    obtain ⟨p5, e5, e⟩ := unb e
    injection e with e
    subst e
    have sx := case_ck h tv hdb hfb hs hop ha hl hb c e4
    exact semi_ck (p := r4.1) (t := r4.2) h sx e5
  next =>
  split at e
  next c =>
    obtain ⟨r4, e4, e⟩ := unb e
    obtain ⟨p5, e5, e⟩ := unb e
    injection e with e
    subst e
    have sx := for_ck h tv hdb hfb hs hop ha hl hb c e4
    exact semi_ck (p := r4.1) (t := r4.2) h sx e5
  next =>
  have lf : ∀ (K kk : Int32), ((K = 284 ∧ kk = 20) ∨ (K = 285 ∧ kk = 21)) → ((f_Tree_add t (Jn idx) kk p.2.2.1 0).bind fun r20 => (f_Parser_take p (Jn m, ar, kd, pl, vl) K).bind fun r21 => (f_Parser_take r21 (Jn m, ar, kd, pl, vl) 59).bind fun r22 => some ((1 : Int32), r22, r20.2)) = some r → CK m kd pl vl i r.2.1 (R01 kd vl l0 idx ts r.2.2 i op b nn (nS op) 11 0) := by
    intro K kk hK e
    obtain ⟨⟨n, t1⟩, e1, e⟩ := unb e
    obtain ⟨p2, e2, e⟩ := unb e
    obtain ⟨p3, e3, e⟩ := unb e
    injection e with e
    subst e
    refine semi_ck (p := p2) h ?_ e3
    refine (ck_take h hs (by rcases hK with ⟨x, _⟩ | ⟨x, _⟩ <;> rw [x] <;> decide) e2).mono ?_
    rintro i2 sg2 op2 hi2 hs2 ⟨z1, z2, z3, z4, _⟩
    refine ⟨z2, z3, kk, p.2.2.1, 0, FO.nil, [(K, 0)], ha.leaf (by omega) e1, good_one ?_ trivial, ?_, ?_, ?_, ?_⟩
    · rcases hK with ⟨_, x⟩ | ⟨_, x⟩ <;> rw [x]
      · exact LOC.exit
      · exact LOC.ret
    · rw [need_one, needF]
      have : nk kk = 10 := by rcases hK with ⟨_, x⟩ | ⟨_, x⟩ <;> rw [x] <;> decide
      unfold nS; omega
    · have := SubT.tok (kd := kd) (vl := vl) i
      rw [z4, ← z1] at this
      have hz : nzT K (vl i) = (K, 0) := by rcases hK with ⟨x, _⟩ | ⟨x, _⟩ <;> rw [x] <;> simp (decide := true) [nzT]
      rw [hz] at this
      exact this
    · rcases hK with ⟨x, y⟩ | ⟨x, y⟩ <;> rw [x, y] <;> decide
    · rw [atL_one]
      simp only [FO.flat, List.length_nil]; omega
  split at e
  · exact lf 284 20 (Or.inl ⟨rfl, rfl⟩) e
  split at e
  · exact lf 285 21 (Or.inr ⟨rfl, rfl⟩) e
  injection e with e
  subst e
  exact CK.ret hs ⟨rfl, rfl, FO.nil, by rw [FO.app_nil]; exact ha, trivial, by rw [needF]; omega, by rw [tkF]; exact SubT.nil (Nat.le_refl _), by rw [FO.app_nil]; exact hl⟩
theorem bodyL_ck (h : LX C mX m kd pl vl Ls) (tv : TV m kd vl nn) {fb : S_Parser → S_Tokens → S_Tree → Int32 → Option (S_Parser × S_Tree)} (hdb : DSP m ar kd pl vl fb) {l0 : List E4} {idx : Nat} {i0 op : Nat} {b : Int} (hfb : op + 1 ≤ 60 → BSP m ar kd pl vl nn fb (op + 1)) (hop : op ≤ 60) (hb : b ≤ 8) : ∀ (f : Nat) (w more : Int32) (p : S_Parser) (t : S_Tree) (r : S_Parser × S_Tree), CK m kd pl vl i0 p (WST kd vl l0 idx t i0 0 op b (QN nn (nS op) 11 0 [])) → f_Parser_body_o_L21 fb (Jn idx) (Jn m, ar, kd, pl, vl) f w more p t = some r → CK m kd pl vl i0 r.1 (WST kd vl l0 idx r.2 i0 0 op b (QN nn (nS op) 11 0 [])) := by
  intro f
  induction f with
  | zero => intro w more p t r _ e; exact absurd e (by unfold f_Parser_body_o_L21; simp)
  | succ f ih =>
    intro w more p t r hc e
    unfold f_Parser_body_o_L21 at e
    split at e
    · injection e with e; subst e; exact hc
    · split at e
      · injection e with e; subst e; exact hc
      · obtain ⟨r1, e1, e⟩ := unb e
        rw [nm_eq] at e
        refine ih _ _ _ _ _ ?_ e
        refine hc.seq (fun q => q.2.1) e1 ?_ (fun i td hd => ⟨_, dm_statement hd _ _ _ _, hd⟩)
        rintro i sg1 op1 hi hs ⟨w1, w2, ts, X, w3, w4, ⟨a1, a2, _, a4⟩, w6⟩
        subst w1; subst w2
        refine (statement_ck h tv hdb hfb hs hop w3 w6 hb e1).mono ?_
        rintro i2 sg2 op2 hi2 hs2 ⟨z1, z2, new, z3, z4, z5, z6, z7⟩
        refine ⟨z1, z2, _, _, z3, w4.app z6, ⟨goodF_app a1 z4, by rw [needF_app]; omega, trivial, ?_⟩, z7⟩
        rw [tkF_app, a4, Nat.zero_add]
        simp only [List.append_assoc]
theorem body_ck (h : LX C mX m kd pl vl Ls) (tv : TV m kd vl nn) {fb : S_Parser → S_Tokens → S_Tree → Int32 → Option (S_Parser × S_Tree)} (hdb : DSP m ar kd pl vl fb) {op : Nat} (hfb : op + 1 ≤ 60 → BSP m ar kd pl vl nn fb (op + 1)) (hop : op ≤ 60) : BSP m ar kd pl vl nn (f_Parser_body_o fb) op := by
  intro l0 idx ts t p i b r hs ha hl hb e
  unfold f_Parser_body_o at e
  obtain ⟨⟨n, t1⟩, e1, e⟩ := unb e
  obtain ⟨r2, e2, e⟩ := unb e
  injection e with e
  subst e
  obtain ⟨hn, s1⟩ := ws_down h hs ha hl (by omega) e1
  dsimp only at e2
  rw [hn] at e2
  have s2 := bodyL_ck h tv hdb hfb hop (by omega) FU _ _ _ _ _ (ws_conv s1 (Int.le_refl _) (by
    rintro ts' X ⟨z1, z2⟩
    subst z1; subst z2
    exact ⟨_, QN.zero, List.Sublist.refl _⟩)) e2
  refine ws_up ha.1 s2 (by omega) rfl ?_
  rintro c X ⟨q1, q2, _, q4⟩
  subst q4
  refine ⟨LOC.body _, q1, ?_, ?_⟩
  · have : nk 11 = 10 := by decide
    omega
  · have e1 : begT 11 0 = [] := by decide
    have e2 : ∀ n, finT 11 n = [] := by intro n; simp (decide := true) [finT, lstc, sgT, semi]
    rw [innT_app, e1, e2, List.append_nil]
    exact List.Sublist.refl _
theorem GB_d (tk : S_Tokens) : ∀ (d : Nat) (t : S_Tree) (p : S_Parser) (i : Nat) (td a : Int32) (r : S_Parser × S_Tree), PD p i td → GB d p tk t a = some r → PD r.1 i td
  | 0, t, p, i, td, a, r, hp, e => absurd e (by simp [GB])
  | d + 1, t, p, i, td, a, r, hp, e => dmE (Pq := fun b => PD b.1 i td) (dm_body hp tk t a d) e
theorem GB_ck (h : LX C mX m kd pl vl Ls) (tv : TV m kd vl nn) : ∀ (d op : Nat), op ≤ 60 → BSP m ar kd pl vl nn (GB d) op
  | 0, op, _ => by intro l0 idx ts t p i b r _ _ _ _ e; exact absurd e (by simp [GB])
  | d + 1, op, hop => body_ck h tv (GB_d _ d) (fun H => GB_ck h tv d (op + 1) H) hop
end
end
section
/-! Ladders: their trees. -/
section
variable {C : S_MC} {mX : S_MX} {m : Nat} {ar : Int32} {kd pl vl : Nat → Int32} {Ls : Nat → S_ML × S_MN} {nn : Nat}
theorem conN_ck (h : LX C mX m kd pl vl Ls) (tv : TV m kd vl nn) {l0 : List E4} {idx : Nat} {t : S_Tree} {p : S_Parser} {i0 op : Nat} {b : Int} (hb : b ≤ 9) {Q : FO → List Tok → Prop} {r : S_Parser × S_Tree} (s : CK m kd pl vl i0 p (WST kd vl l0 idx t i0 0 op b Q))
    (e : ((f_Parser_takeName p (Jn m, ar, kd, pl, vl)).bind fun r4 => if r4.2.2.1 = 46 then (f_Parser_take r4.2 (Jn m, ar, kd, pl, vl) 46).bind fun r7 => (f_Tree_add t (Jn idx) 33 p.2.2.1 r4.1).bind fun r8 => (f_Parser_nameNode r7 (Jn m, ar, kd, pl, vl) r8.2 r8.1).bind fun r9 => some (r9.1, r9.2) else (f_Tree_add t (Jn idx) 6 p.2.2.1 r4.1).bind fun r6 => some (r4.2, r6.2)) = some r) : CK m kd pl vl i0 r.1 (WST kd vl l0 idx r.2 i0 0 op (b - 1) (Q1 nn 20 (fun k => k = 6 ∨ k = 33) Q)) := by
  have hm := h.2.2.2.2.2
  refine ws_one (nn := nn) s e ?_ ?_
  · intro i ts hs ha hl
    have hi := hs.1
    obtain ⟨⟨nv, p1⟩, e1, e⟩ := unb e
    unfold f_Parser_takeName at e1
    obtain ⟨p1', e1', e1⟩ := unb e1
    injection e1 with e1
    injection e1 with ea eb
    rw [hs.kind.2.2] at ea
    rw [← ea, ← eb] at e
    dsimp only at e
    rcases ck_take h hs (by decide) e1' with ⟨j, td, hd⟩ | ⟨i1, sg1, op1, x1, hs1, v1, v2, v3, v4, _⟩
    · rw [if_neg (hd.ne 46 (by decide) (by decide))] at e
      obtain ⟨⟨n, t'⟩, e2, e⟩ := unb e
      injection e with e
      subst e
      exact Or.inl ⟨j, td, hd⟩
    subst v1; subst v2; subst v3
    have hnm := (tv i hi).1 v4
    have t1 := SubT.tok (kd := kd) (vl := vl) i
    rw [v4, show nzT 1 (vl i) = (1, vl i) from by simp (decide := true) [nzT]] at t1
    split at e
    · obtain ⟨p2, e2, e⟩ := unb e
      obtain ⟨⟨n, t3⟩, e3, e⟩ := unb e
      obtain ⟨r4, e4, e⟩ := unb e
      injection e with e
      subst e
      dsimp only at e4
      obtain ⟨hn, ha3⟩ := ha.down (by omega) e3
      rw [hn] at e4
      have s2 := ws_take h (ws_from (i0 := i) (b := b - 1) (by omega) hs1 ha3 t1 (by
        rw [atL_nx]
        simp only [FO.flat, List.length_nil]; omega)) (by decide) (by decide) (by decide) e2
      have s4 := ws_one (nn := nn) s2 e4 (fun i ts hs ha hl => nameNode_ck h tv hs ha hl (by omega) e4) (fun i td hd => dm_nameNode hd _ _ _)
      refine ws_up ha.1 s4 (by omega) (Or.inr rfl) ?_
      rintro c X ⟨ts2, X2, k2, pp2, v2, c2, ⟨X3, ⟨z1, z2⟩, z4⟩, x1, x2, x3, x4, x5⟩
      subst x4; subst x5; subst z4; subst z1; subst z2
      refine ⟨LOC.outp _ _ hnm, x2, ?_, ?_⟩
      · rw [show nk 33 = 10 from by decide, show FO.nil.app (one k2 pp2 v2 c2) = one k2 pp2 v2 c2 from rfl]; omega
      · rw [innT_app, tk_snoc (by decide) (by decide)]
        simp (decide := true) [begT, finT, fstc, nxtc, lstc, sgT, bears, semi, tkF, sepT, sepc]
    · obtain ⟨⟨n, t2⟩, e2, e⟩ := unb e
      injection e with e
      subst e
      refine Or.inr ⟨i + 1, 0, op1, by omega, hs1, rfl, rfl, 6, p.2.2.1, vl i, FO.nil, ha.leaf (by omega) e2, Or.inl rfl, good_one (LOC.name _ hnm) trivial, by rw [need_one, needF]; decide, ?_, ?_⟩
      · have : innT 6 (vl i) FO.nil = [(1, vl i)] := by (simp (decide := true) [innT, begT, finT, fstc, nxtc, lstc, sgT, bears, semi, tkF, nzT])
        rw [this]; exact t1
      · rw [atL_one]
        simp only [FO.flat, List.length_nil]; omega
  · intro i td hd
    refine ⟨r, e, ?_⟩
    obtain ⟨⟨nv, p1⟩, e1, e⟩ := unb e
    have d1 := dmE (Pq := fun b => PD b.2 i td) (dm_takeName hd _) e1
    dsimp only at d1 e
    rw [if_neg (d1.ne 46 (by decide) (by decide))] at e
    obtain ⟨⟨n, t'⟩, e2, e⟩ := unb e
    injection e with e
    subst e
    exact d1
theorem contact_ck (h : LX C mX m kd pl vl Ls) (tv : TV m kd vl nn) {l0 : List E4} {idx : Nat} {ts : FO} {t : S_Tree} {p : S_Parser} {i op : Nat} {b : Int} {r : S_Parser × S_Tree} (hs : SP m kd pl vl p i 0 op) (ha : AT l0 idx ts t) (hl : (atL l0 ts : Int) ≤ 2 * i + b) (hb : b ≤ 8) (hk : p.2.1 = 1 ∨ p.2.1 = 47 ∨ p.2.1 = 60 ∨ p.2.1 = 62) (e : f_Parser_contact p (Jn m, ar, kd, pl, vl) t (Jn idx) = some r) : CK m kd pl vl i r.1 (R1 kd vl l0 idx ts r.2 i 0 op b nn 30 (fun _ => True)) := by
  unfold f_Parser_contact at e
  obtain ⟨v, ev, e⟩ := unb e
  obtain ⟨⟨n, t1⟩, e1, e⟩ := unb e
  obtain ⟨hn, s1⟩ := ws_down h hs ha hl (by omega) e1
  dsimp only at e
  rw [hn] at e
  have fin : ∀ (pre : List Tok) (q : S_Parser × S_Tree), (v = 0 ∨ v = 1 ∨ v = 2 ∨ v = 3) → begT 25 v = pre → CK m kd pl vl i q.1 (WST kd vl (nx l0 idx ts (25, p.2.2.1, v, 0)) (atL l0 ts) q.2 i 0 op b (Q1 nn 20 (fun k => k = 6 ∨ k = 33) (fun ts' X => ts' = FO.nil ∧ X = pre))) → CK m kd pl vl i q.1 (R1 kd vl l0 idx ts q.2 i 0 op b nn 30 (fun _ => True)) := by
    intro pre q hv hpre s4
    refine ws_up ha.1 s4 (by omega) trivial ?_
    rintro c X ⟨ts2, X2, k2, pp2, v2, c2, ⟨z1, z2⟩, x1, x2, x3, x4, x5⟩
    subst x4; subst x5; subst z1; subst z2
    refine ⟨LOC.cont _ _ hv, x2, ?_, ?_⟩
    · rw [show nk 25 = 10 from by decide, show FO.nil.app (one k2 pp2 v2 c2) = one k2 pp2 v2 c2 from rfl]; omega
    · have e2 : ∀ n, finT 25 n = [] := by intro n; simp (decide := true) [finT, lstc, sgT, semi]
      have sp : sepT 25 v FO.nil.len k2 = [] := by simp (decide := true) [sepT, sepc, sgT]
      rw [innT_app, tk_snoc (by decide) (by decide), hpre, e2, sp, tkF, List.append_nil, List.nil_append, List.nil_append]
      exact List.Sublist.refl _
  have hcv : (p.2.1 = 1 ∧ v = 0) ∨ (p.2.1 = 47 ∧ v = 1) ∨ (p.2.1 = 62 ∧ v = 2) ∨ (p.2.1 = 60 ∧ v = 3) := by
    unfold f_Parser_contactValue at ev
    rcases hk with x | x | x | x <;> rw [x] at ev ⊢ <;> simp (decide := true) at ev ⊢ <;> exact ev.symm
  split at e
  next c0 =>
    have ck : p.2.1 = 1 := by
      rcases hcv with ⟨x, _⟩ | ⟨_, y⟩ | ⟨_, y⟩ | ⟨_, y⟩
      · exact x
      · rw [y] at c0; exact absurd c0 (by decide)
      · rw [y] at c0; exact absurd c0 (by decide)
      · rw [y] at c0; exact absurd c0 (by decide)
    have s2 := conN_ck (nn := nn) h tv (by omega) s1 e
    refine fin [] r (Or.inl c0) (by rw [c0]; decide) (ws_conv s2 (by omega) (fun ts X hq => ⟨X, hq, List.Sublist.refl _⟩))
  next c0 =>
    obtain ⟨p2, e2, e⟩ := unb e
    have s2 := ws_take h s1 (by rcases hk with x | x | x | x <;> rw [x] <;> decide) (by rcases hk with x | x | x | x <;> rw [x] <;> decide) (by
      rcases hcv with ⟨_, y⟩ | ⟨x, _⟩ | ⟨x, _⟩ | ⟨x, _⟩
      · exact absurd y c0
      · rw [x]; decide
      · rw [x]; decide
      · rw [x]; decide) e2
    have s3 := conN_ck (nn := nn) h tv (by omega) s2 e
    have hv : v = 0 ∨ v = 1 ∨ v = 2 ∨ v = 3 := by
      rcases hcv with ⟨_, y⟩ | ⟨_, y⟩ | ⟨_, y⟩ | ⟨_, y⟩
      · exact Or.inl y
      · exact Or.inr (Or.inl y)
      · exact Or.inr (Or.inr (Or.inl y))
      · exact Or.inr (Or.inr (Or.inr y))
    refine fin [(p.2.1, 0)] r hv ?_ (ws_conv s3 (by omega) ?_)
    · rcases hcv with ⟨_, y⟩ | ⟨x, y⟩ | ⟨x, y⟩ | ⟨x, y⟩
      · exact absurd y c0
      · rw [x, y]; decide
      · rw [x, y]; decide
      · rw [x, y]; decide
    · rintro ts' X ⟨ts2, X2, k2, pp2, v2, c2, ⟨X0, ⟨z1, z2⟩, z3⟩, x1⟩
      subst z1; subst z2; subst z3
      exact ⟨X, ⟨FO.nil, _, k2, pp2, v2, c2, ⟨rfl, rfl⟩, x1⟩, List.Sublist.refl _⟩
theorem coil_ck (h : LX C mX m kd pl vl Ls) (tv : TV m kd vl nn) {l0 : List E4} {idx : Nat} {ts : FO} {t : S_Tree} {p : S_Parser} {i op : Nat} {b : Int} {r : S_Parser × S_Tree} (hs : SP m kd pl vl p i 0 op) (ha : AT l0 idx ts t) (hl : (atL l0 ts : Int) ≤ 2 * i + b) (hb : b ≤ 8) (e : f_Parser_coil p (Jn m, ar, kd, pl, vl) t (Jn idx) = some r) : CK m kd pl vl i r.1 (R1 kd vl l0 idx ts r.2 i 0 op b nn 30 (fun _ => True)) := by
  have hm := h.2.2.2.2.2
  have hi := hs.1
  unfold f_Parser_coil at e
  obtain ⟨p1, e1, e⟩ := unb e
  obtain ⟨v, ev, e⟩ := unb e
  obtain ⟨⟨n, t1⟩, e2, e⟩ := unb e
  obtain ⟨hn, ha2⟩ := ha.down (by omega) e2
  dsimp only at e
  rw [hn] at e
  have hcv : v = 0 ∨ (p1.2.1 = 47 ∧ v = 1) ∨ (p1.2.1 = 43 ∧ v = 2) ∨ (p1.2.1 = 45 ∧ v = 3) := by
    unfold f_Parser_coilValue at ev
    by_cases c1 : p1.2.1 = 43
    · rw [if_pos c1] at ev; injection ev with ev; exact Or.inr (Or.inr (Or.inl ⟨c1, ev.symm⟩))
    rw [if_neg c1] at ev
    by_cases c2 : p1.2.1 = 44
    · rw [if_pos c2] at ev; injection ev with ev; exact Or.inl ev.symm
    rw [if_neg c2] at ev
    by_cases c3 : p1.2.1 = 45
    · rw [if_pos c3] at ev; injection ev with ev; exact Or.inr (Or.inr (Or.inr ⟨c3, ev.symm⟩))
    rw [if_neg c3] at ev
    by_cases c4 : p1.2.1 = 46
    · rw [if_pos c4] at ev; injection ev with ev; exact Or.inl ev.symm
    rw [if_neg c4] at ev
    by_cases c5 : p1.2.1 = 47
    · rw [if_pos c5] at ev; injection ev with ev; exact Or.inr (Or.inl ⟨c5, ev.symm⟩)
    rw [if_neg c5] at ev; injection ev with ev; exact Or.inl ev.symm
  have hv : v = 0 ∨ v = 1 ∨ v = 2 ∨ v = 3 := by
    rcases hcv with y | ⟨_, y⟩ | ⟨_, y⟩ | ⟨_, y⟩
    · exact Or.inl y
    · exact Or.inr (Or.inl y)
    · exact Or.inr (Or.inr (Or.inl y))
    · exact Or.inr (Or.inr (Or.inr y))
  have s1 : CK m kd pl vl i p1 (WST kd vl (nx l0 idx ts (28, p.2.2.1, v, 0)) (atL l0 ts) t1 i 0 op (b - 1) (fun ts' X => ts' = FO.nil ∧ X = [(40, 0)])) := by
    refine (ck_take h hs (by decide) e1).mono ?_
    rintro i2 sg2 op2 hi2 hs2 ⟨z1, z2, z3, z4, _⟩
    subst z1; subst z2; subst z3
    refine ⟨rfl, rfl, FO.nil, _, ha2, ?_, ⟨rfl, rfl⟩, ?_⟩
    · have := SubT.tok (kd := kd) (vl := vl) i
      rw [z4, show nzT 40 (vl i) = (40, 0) from by simp (decide := true) [nzT]] at this
      exact this
    · rw [atL_nx]
      simp only [FO.flat, List.length_nil]; omega
  have fin : ∀ (pre : List Tok) (q q2 : S_Parser) (t4 : S_Tree) (r4 : S_Parser × S_Tree), begT 28 v = pre → CK m kd pl vl i q (WST kd vl (nx l0 idx ts (28, p.2.2.1, v, 0)) (atL l0 ts) t4 i 0 op (b - 1) (fun ts' X => ts' = FO.nil ∧ X = pre)) → f_Parser_nameNode q (Jn m, ar, kd, pl, vl) t4 (Jn (atL l0 ts)) = some r4 → f_Parser_take r4.1 (Jn m, ar, kd, pl, vl) 41 = some q2 → CK m kd pl vl i q2 (R1 kd vl l0 idx ts r4.2 i 0 op b nn 30 (fun _ => True)) := by
    intro pre q q2 t4 r4 hpre s3 e4 e5
    have s4 := ws_one (nn := nn) s3 e4 (fun i ts hs ha hl => nameNode_ck h tv hs ha hl (by omega) e4) (fun i td hd => dm_nameNode hd _ _ _)
    have s5 := ws_take h s4 (by decide) (by decide) (by decide) e5
    refine ws_up ha.1 s5 (by omega) trivial ?_
    rintro c X ⟨X5, ⟨ts2, X2, k2, pp2, v2, c2, ⟨z1, z2⟩, x1, x2, x3, x4, x5⟩, x6⟩
    subst x6; subst x4; subst x5; subst z1; subst z2
    refine ⟨LOC.coil _ _ hv, x2, ?_, ?_⟩
    · rw [show nk 28 = 10 from by decide, show FO.nil.app (one k2 pp2 v2 c2) = one k2 pp2 v2 c2 from rfl]; omega
    · have e2 : ∀ n, finT 28 n = [(41, 0)] := by intro n; simp (decide := true) [finT, lstc, sgT, semi]
      have sp : sepT 28 v FO.nil.len k2 = [] := by simp (decide := true) [sepT, sepc, sgT]
      rw [innT_app, tk_snoc (by decide) (by decide), hpre, e2, sp, tkF]
      simp only [List.nil_append, List.append_assoc]
      exact List.Sublist.refl _
  split at e
  next c0 =>
    obtain ⟨r4, e4, e⟩ := unb e
    obtain ⟨p5, e5, e⟩ := unb e
    injection e with e
    subst e
    exact fin [(40, 0)] _ _ _ r4 (by rw [c0]; decide) s1 e4 e5
  next c0 =>
    obtain ⟨p3, e3, e⟩ := unb e
    obtain ⟨r4, e4, e⟩ := unb e
    obtain ⟨p5, e5, e⟩ := unb e
    injection e with e
    subst e
    rcases hcv with y | hcv
    · exact absurd y c0
    have s2 := ws_take h s1 (by rcases hcv with ⟨x, _⟩ | ⟨x, _⟩ | ⟨x, _⟩ <;> rw [x] <;> decide) (by rcases hcv with ⟨x, _⟩ | ⟨x, _⟩ | ⟨x, _⟩ <;> rw [x] <;> decide) (by rcases hcv with ⟨x, _⟩ | ⟨x, _⟩ | ⟨x, _⟩ <;> rw [x] <;> decide) e3
    refine fin [(40, 0), (p1.2.1, 0)] _ _ _ r4 (by rcases hcv with ⟨x, y⟩ | ⟨x, y⟩ | ⟨x, y⟩ <;> rw [x, y] <;> decide) (ws_conv s2 (by omega) ?_) e4 e5
    rintro ts' X ⟨X0, ⟨z1, z2⟩, z3⟩
    subst z1; subst z2; subst z3
    exact ⟨_, ⟨rfl, rfl⟩, List.Sublist.refl _⟩
theorem cell_ck (h : LX C mX m kd pl vl Ls) (tv : TV m kd vl nn) {l0 : List E4} {idx : Nat} {ts : FO} {t : S_Tree} {p : S_Parser} {i op : Nat} {b : Int} {r : S_Parser × S_Tree} (hs : SP m kd pl vl p i 0 op) (ha : AT l0 idx ts t) (hl : (atL l0 ts : Int) ≤ 2 * i + b) (hb : b ≤ 8) (e : f_Parser_cell p (Jn m, ar, kd, pl, vl) t (Jn idx) = some r) : CK m kd pl vl i r.1 (R1 kd vl l0 idx ts r.2 i 0 op b nn 30 (fun _ => True)) := by
  have lf : ∀ (K k : Int32), ((K = 42 ∧ k = 27) ∨ (K = 45 ∧ k = 26)) → ((f_Tree_add t (Jn idx) k p.2.2.1 0).bind fun r6 => (f_Parser_take p (Jn m, ar, kd, pl, vl) K).bind fun r7 => some (r7, r6.2)) = some r → CK m kd pl vl i r.1 (R1 kd vl l0 idx ts r.2 i 0 op b nn 30 (fun _ => True)) := by
    intro K k hK e
    obtain ⟨⟨n, t'⟩, e1, e⟩ := unb e
    obtain ⟨p', e2, e⟩ := unb e
    injection e with e
    subst e
    refine (leaf_ck (Pk := fun _ => True) h hs ha hl (by omega) e1 e2 (by rcases hK with ⟨x, _⟩ | ⟨x, _⟩ <;> rw [x] <;> decide) (fun _ => trivial) (fun _ => ?_) (fun hk => ?_) (by rcases hK with ⟨_, x⟩ | ⟨_, x⟩ <;> rw [x] <;> decide)).mono (fun i' sg' op' _ _ ⟨w1, w2, k, pp, v, c, w3, w4, w5, w6, w7, w8⟩ => ⟨w1, w2, k, pp, v, c, w3, w4, w5, by omega, w7, by omega⟩)
    · rcases hK with ⟨_, x⟩ | ⟨_, x⟩ <;> rw [x]
      · exact LOC.gap
      · exact LOC.wire
    · rw [hk]
      rcases hK with ⟨x, y⟩ | ⟨x, y⟩ <;> subst x <;> subst y <;> (simp (decide := true) [innT, begT, finT, fstc, nxtc, lstc, sgT, bears, semi, tkF, nzT])
  have un1 : ∀ {F : Option (S_Parser × S_Tree)}, (F.bind fun r2 => some (r2.1, r2.2)) = some r → F = some r := by
    intro F hF
    obtain ⟨r1, x1, x2⟩ := unb hF
    injection x2 with x2
    rw [x1, ← x2]
  unfold f_Parser_cell at e
  split at e
  next c => exact contact_ck h tv hs ha hl hb (Or.inl c) (un1 e)
  next =>
  split at e
  · exact coil_ck h tv hs ha hl hb (un1 e)
  split at e
  · exact lf 42 27 (Or.inl ⟨rfl, rfl⟩) e
  split at e
  · exact lf 45 26 (Or.inr ⟨rfl, rfl⟩) e
  split at e
  next c => exact contact_ck h tv hs ha hl hb (Or.inr (Or.inl c)) (un1 e)
  next =>
  split at e
  next c => exact contact_ck h tv hs ha hl hb (Or.inr (Or.inr (Or.inl c))) (un1 e)
  next =>
  split at e
  next c => exact contact_ck h tv hs ha hl hb (Or.inr (Or.inr (Or.inr c))) (un1 e)
  next =>
  injection e with e
  subst e
  obtain ⟨hi, h5, pb, fq, rfl, hpb⟩ := hs
  exact Or.inl ⟨i, 0, rfl, Or.inr rfl, rfl⟩
end
end
section
/-! Rows, rungs, ladders, blocks, the whole text: their trees. -/
section
variable {C : S_MC} {mX : S_MX} {m : Nat} {ar : Int32} {kd pl vl : Nat → Int32} {Ls : Nat → S_ML × S_MN} {nn : Nat}
theorem ch24 : (24 : Int32) = 0 ∨ (24 : Int32) = 1 ∨ (24 : Int32) = 2 ∨ (24 : Int32) = 3 ∨ (24 : Int32) = 4 ∨ (24 : Int32) = 11 ∨ (24 : Int32) = 22 ∨ (24 : Int32) = 23 ∨ (24 : Int32) = 24 := by decide
theorem ch23 : (23 : Int32) = 0 ∨ (23 : Int32) = 1 ∨ (23 : Int32) = 2 ∨ (23 : Int32) = 3 ∨ (23 : Int32) = 4 ∨ (23 : Int32) = 11 ∨ (23 : Int32) = 22 ∨ (23 : Int32) = 23 ∨ (23 : Int32) = 24 := by decide
theorem ch22 : (22 : Int32) = 0 ∨ (22 : Int32) = 1 ∨ (22 : Int32) = 2 ∨ (22 : Int32) = 3 ∨ (22 : Int32) = 4 ∨ (22 : Int32) = 11 ∨ (22 : Int32) = 22 ∨ (22 : Int32) = 23 ∨ (22 : Int32) = 24 := by decide
theorem ch0 : (0 : Int32) = 0 ∨ (0 : Int32) = 1 ∨ (0 : Int32) = 2 ∨ (0 : Int32) = 3 ∨ (0 : Int32) = 4 ∨ (0 : Int32) = 11 ∨ (0 : Int32) = 22 ∨ (0 : Int32) = 23 ∨ (0 : Int32) = 24 := by decide
theorem rowL_ck (h : LX C mX m kd pl vl Ls) (tv : TV m kd vl nn) {l0 : List E4} {idx : Nat} {i0 op : Nat} {b : Int} (hb : b ≤ 8) : ∀ (f : Nat) (w : Int32) (p : S_Parser) (t : S_Tree) (r : S_Parser × S_Tree), CK m kd pl vl i0 p (WST kd vl l0 idx t i0 0 op b (QN nn 30 24 0 [])) → f_Parser_row_L23 (Jn idx) (Jn m, ar, kd, pl, vl) f w p t = some r → CK m kd pl vl i0 r.1 (WST kd vl l0 idx r.2 i0 0 op b (QN nn 30 24 0 [])) := by
  intro f
  induction f with
  | zero => intro w p t r _ e; exact absurd e (by unfold f_Parser_row_L23; simp)
  | succ f ih =>
    intro w p t r hc e
    have cell : ∀ (q : S_Parser) (t2 : S_Tree) (r2 : S_Parser × S_Tree), CK m kd pl vl i0 q (WST kd vl l0 idx t2 i0 0 op b (QN nn 30 24 0 [])) → f_Parser_cell q (Jn m, ar, kd, pl, vl) t2 (Jn idx) = some r2 → CK m kd pl vl i0 r2.1 (WST kd vl l0 idx r2.2 i0 0 op b (QN nn 30 24 0 [])) := by
      intro q t2 r2 s e
      have s2 := ws_one (nn := nn) s e (fun i ts hs ha hl => cell_ck h tv hs ha hl hb e) (fun i td hd => dm_cell hd _ _ _)
      exact ws_conv s2 (by omega) (fun ts X hq => QN.step ch24 (Nat.le_refl _) hq)
    have link : ∀ (q : S_Parser) (t2 : S_Tree) (n2 : Int32) (t3 : S_Tree) (q3 : S_Parser), CK m kd pl vl i0 q (WST kd vl l0 idx t2 i0 0 op b (QN nn 30 24 0 [])) → f_Tree_add t2 (Jn idx) 29 q.2.2.1 0 = some (n2, t3) → f_Parser_take q (Jn m, ar, kd, pl, vl) 124 = some q3 → CK m kd pl vl i0 q3 (WST kd vl l0 idx t3 i0 0 op b (QN nn 30 24 0 [])) := by
      intro q t2 n2 t3 q3 s e1 e2
      have s2 : CK m kd pl vl i0 q3 (WST kd vl l0 idx t3 i0 0 op (b - 1) (Q1 nn 10 (fun _ => True) (QN nn 30 24 0 []))) := by
        refine ws_one (nn := nn) (F := some (q3, t3)) (r := (q3, t3)) s rfl ?_ ?_
        · intro i ts hs ha hl
          exact leaf_ck (Pk := fun _ => True) h hs ha hl (by omega) e1 e2 (by decide) (fun _ => trivial) (fun _ => LOC.link) (fun hk => by rw [hk]; (simp (decide := true) [innT, begT, finT, fstc, nxtc, lstc, sgT, bears, semi, tkF, nzT])) (by decide)
        · intro i td hd
          exact ⟨_, rfl, dmE (Pq := fun b => PD b i td) (dm_take hd _ 124 (by decide)) e2⟩
      exact ws_conv s2 (by omega) (fun ts X hq => QN.step ch24 (by omega) hq)
    unfold f_Parser_row_L23 at e
    split at e
    · injection e with e; subst e; exact hc
    · split at e
      next c =>
        obtain ⟨⟨n, t1⟩, e1, e⟩ := unb e
        obtain ⟨p2, e2, e⟩ := unb e
        obtain ⟨r3, e3, e⟩ := unb e
        rw [nm_eq] at e
        exact ih _ _ _ _ (cell _ _ _ (link _ _ _ _ _ hc e1 e2) e3) e
      next c =>
        obtain ⟨s, es, e⟩ := unb e
        split at e
        · injection e with e; subst e; exact hc
        · obtain ⟨r3, e3, e⟩ := unb e
          rw [nm_eq] at e
          exact ih _ _ _ _ (cell _ _ _ hc e3) e
theorem row_ck (h : LX C mX m kd pl vl Ls) (tv : TV m kd vl nn) {l0 : List E4} {idx : Nat} {ts : FO} {t : S_Tree} {p : S_Parser} {i op : Nat} {b : Int} {r : S_Parser × S_Tree} (hs : SP m kd pl vl p i 0 op) (ha : AT l0 idx ts t) (hl : (atL l0 ts : Int) ≤ 2 * i + b) (hb : b ≤ 7) (e : f_Parser_row p (Jn m, ar, kd, pl, vl) t (Jn idx) = some r) : CK m kd pl vl i r.1 (R1 kd vl l0 idx ts r.2 i 0 op b nn 40 (fun _ => True)) := by
  unfold f_Parser_row at e
  obtain ⟨⟨n, t1⟩, e1, e⟩ := unb e
  obtain ⟨r2, e2, e⟩ := unb e
  obtain ⟨r3, e3, e⟩ := unb e
  obtain ⟨p4, e4, e⟩ := unb e
  injection e with e
  subst e
  obtain ⟨hn, s1⟩ := ws_down h hs ha hl (by omega) e1
  dsimp only at e2 e3
  rw [hn] at e2 e3
  have s1' := ws_conv (Q' := QN nn 30 24 0 []) s1 (Int.le_refl _) (by
    rintro ts' X ⟨z1, z2⟩
    subst z1; subst z2
    exact ⟨_, QN.zero, List.Sublist.refl _⟩)
  have s2 := ws_one (nn := nn) s1' e2 (fun i ts hs ha hl => cell_ck h tv hs ha hl (by omega) e2) (fun i td hd => dm_cell hd _ _ _)
  have s3 := rowL_ck h tv (by omega) FU _ _ _ _ (ws_conv s2 (Int.le_refl _) (fun ts X hq => QN.step ch24 (Nat.le_refl _) hq)) e3
  have s4 := ws_take h s3 (by decide) (by decide) (by decide) e4
  refine ws_up ha.1 s4 (by omega) trivial ?_
  rintro c X ⟨X0, ⟨q1, q2, _, q4⟩, q5⟩
  subst q5; subst q4
  refine ⟨LOC.row _, q1, ?_, ?_⟩
  · have : nk 24 = 10 := by decide
    omega
  · have e1 : begT 24 0 = [] := by decide
    have e2 : ∀ n, finT 24 n = [(59, 0)] := by intro n; simp (decide := true) [finT, lstc, sgT, semi]
    rw [innT_app, e1, e2]
    exact List.Sublist.refl _
theorem rungL_ck (h : LX C mX m kd pl vl Ls) (tv : TV m kd vl nn) {l0 : List E4} {idx : Nat} {i0 op : Nat} {b : Int} (hb : b ≤ 7) {pre : List Tok} : ∀ (f : Nat) (w : Int32) (p : S_Parser) (t : S_Tree) (r : S_Parser × S_Tree), CK m kd pl vl i0 p (WST kd vl l0 idx t i0 0 op b (QN nn 40 23 0 pre)) → f_Parser_ladder_L75 (Jn idx) (Jn m, ar, kd, pl, vl) f w p t = some r → CK m kd pl vl i0 r.1 (WST kd vl l0 idx r.2 i0 0 op b (QN nn 40 23 0 pre)) := by
  intro f
  induction f with
  | zero => intro w p t r _ e; exact absurd e (by unfold f_Parser_ladder_L75; simp)
  | succ f ih =>
    intro w p t r hc e
    unfold f_Parser_ladder_L75 at e
    split at e
    · injection e with e; subst e; exact hc
    · obtain ⟨s, es, e⟩ := unb e
      split at e
      · injection e with e; subst e; exact hc
      · obtain ⟨r2, e2, e⟩ := unb e
        rw [nm_eq] at e
        have s2 := ws_one (nn := nn) hc e2 (fun i ts hs ha hl => row_ck h tv hs ha hl hb e2) (fun i td hd => dm_row hd _ _ _)
        exact ih _ _ _ _ (ws_conv s2 (Int.le_refl _) (fun ts X hq => QN.step ch23 (Nat.le_refl _) hq)) e
theorem ladL_ck (h : LX C mX m kd pl vl Ls) (tv : TV m kd vl nn) {l0 : List E4} {idx : Nat} {i0 op : Nat} {b : Int} (hb : b ≤ 7) {pre : List Tok} : ∀ (f : Nat) (w : Int32) (p : S_Parser) (t : S_Tree) (r : S_Parser × S_Tree), CK m kd pl vl i0 p (WST kd vl l0 idx t i0 0 op b (QN nn 50 22 0 pre)) → f_Parser_ladder_L25 (Jn idx) (Jn m, ar, kd, pl, vl) f w p t = some r → CK m kd pl vl i0 r.1 (WST kd vl l0 idx r.2 i0 0 op b (QN nn 50 22 0 pre)) := by
  intro f
  induction f with
  | zero => intro w p t r _ e; exact absurd e (by unfold f_Parser_ladder_L25; simp)
  | succ f ih =>
    intro w p t r hc e
    unfold f_Parser_ladder_L25 at e
    split at e
    · injection e with e; subst e; exact hc
    · split at e
      next c295 =>
        obtain ⟨⟨n, t1⟩, e1, e⟩ := unb e
        obtain ⟨p2, e2, e⟩ := unb e
        obtain ⟨r3, e3, e⟩ := unb e
        obtain ⟨r4, e4, e⟩ := unb e
        obtain ⟨p5, e5, efin⟩ := unb e
        rw [nm_eq] at efin
        refine ih _ _ _ _ ?_ efin
        have s5 : CK m kd pl vl i0 p5 (WST kd vl l0 idx r4.2 i0 0 op b (Q1 nn 50 (fun _ => True) (QN nn 50 22 0 pre))) := by
          refine ws_one (nn := nn) (F := some (p5, r4.2)) (r := (p5, r4.2)) hc rfl ?_ ?_
          · intro i ts hs ha hl
            obtain ⟨hn, s1⟩ := ws_down h hs ha hl (by omega) e1
            dsimp only at e3 e4
            rw [hn] at e3 e4
            have s2 := ws_take h s1 (by decide) (by decide) (by decide) e2
            have s2' := ws_conv (b' := b - 1) (Q' := QN nn 40 23 0 [(295, 0)]) s2 (by omega) (by
              rintro ts' X ⟨X0, ⟨z1, z2⟩, z3⟩
              subst z1; subst z2; subst z3
              exact ⟨_, QN.zero, List.Sublist.refl _⟩)
            have s3 := ws_one (nn := nn) s2' e3 (fun i ts hs ha hl => row_ck h tv hs ha hl (by omega) e3) (fun i td hd => dm_row hd _ _ _)
            have s4 := rungL_ck h tv (by omega) FU _ _ _ _ (ws_conv s3 (Int.le_refl _) (fun ts X hq => QN.step ch23 (Nat.le_refl _) hq)) e4
            have s5 := ws_take h s4 (by decide) (by decide) (by decide) e5
            refine ws_up ha.1 s5 (by omega) trivial ?_
            rintro c X ⟨X0, ⟨q1, q2, _, q4⟩, q5⟩
            subst q5; subst q4
            refine ⟨LOC.rung _, q1, ?_, ?_⟩
            · have : nk 23 = 10 := by decide
              omega
            · have e1 : begT 23 0 = [(295, 0)] := by decide
              have e2 : ∀ n, finT 23 n = [(296, 0)] := by intro n; simp (decide := true) [finT, lstc, sgT, semi]
              rw [innT_app, e1, e2]
              simp only [List.append_assoc]
              exact List.Sublist.refl _
          · intro i td hd
            exact absurd c295 (hd.ne 295 (by decide) (by decide))
        exact ws_conv s5 (by omega) (fun ts X hq => QN.step ch22 (Nat.le_refl _) hq)
      next => injection e with e; subst e; exact hc
theorem ladder_ck (h : LX C mX m kd pl vl Ls) (tv : TV m kd vl nn) {l0 : List E4} {idx : Nat} {ts : FO} {t : S_Tree} {p : S_Parser} {i op : Nat} {b : Int} {r : S_Parser × S_Tree} (hs : SP m kd pl vl p i 0 op) (ha : AT l0 idx ts t) (hl : (atL l0 ts : Int) ≤ 2 * i + b) (hb : b ≤ 6) (e : f_Parser_ladder p (Jn m, ar, kd, pl, vl) t (Jn idx) = some r) : CK m kd pl vl i r.1 (R1 kd vl l0 idx ts r.2 i 0 op b nn 60 (fun _ => True)) := by
  unfold f_Parser_ladder at e
  obtain ⟨⟨n, t1⟩, e1, e⟩ := unb e
  obtain ⟨p2, e2, e⟩ := unb e
  obtain ⟨r3, e3, e⟩ := unb e
  obtain ⟨p4, e4, e⟩ := unb e
  injection e with e
  subst e
  obtain ⟨hn, s1⟩ := ws_down h hs ha hl (by omega) e1
  dsimp only at e3
  rw [hn] at e3
  have s2 := ws_take h s1 (by decide) (by decide) (by decide) e2
  have s3 := ladL_ck h tv (by omega) FU _ _ _ _ (ws_conv (b' := b) (Q' := QN nn 50 22 0 [(293, 0)]) s2 (by omega) (by
    rintro ts' X ⟨X0, ⟨z1, z2⟩, z3⟩
    subst z1; subst z2; subst z3
    exact ⟨_, QN.zero, List.Sublist.refl _⟩)) e3
  have s4 := ws_take h s3 (by decide) (by decide) (by decide) e4
  refine ws_up ha.1 s4 (by omega) trivial ?_
  rintro c X ⟨X0, ⟨q1, q2, _, q4⟩, q5⟩
  subst q5; subst q4
  refine ⟨LOC.lad _, q1, ?_, ?_⟩
  · have : nk 22 = 10 := by decide
    omega
  · have e1 : begT 22 0 = [(293, 0)] := by decide
    have e2 : ∀ n, finT 22 n = [(294, 0)] := by intro n; simp (decide := true) [finT, lstc, sgT, semi]
    rw [innT_app, e1, e2]
    simp only [List.append_assoc]
    exact List.Sublist.refl _
end
end
section
/-! Blocks and the whole text: their trees. -/
section
variable {C : S_MC} {mX : S_MX} {m : Nat} {ar : Int32} {kd pl vl : Nat → Int32} {Ls : Nat → S_ML × S_MN} {nn : Nat}
theorem chB {k : Int32} (h : k = 1 ∨ k = 2 ∨ k = 3) : k = 0 ∨ k = 1 ∨ k = 2 ∨ k = 3 ∨ k = 4 ∨ k = 11 ∨ k = 22 ∨ k = 23 ∨ k = 24 := by
  rcases h with x | x | x
  · exact Or.inr (Or.inl x)
  · exact Or.inr (Or.inr (Or.inl x))
  · exact Or.inr (Or.inr (Or.inr (Or.inl x)))
/-- word of a block, its node's kind, its end -/
def BLK (K k c : Int32) : Prop := (K = 256 ∧ k = 1 ∧ c = 257) ∨ (K = 258 ∧ k = 2 ∧ c = 259) ∨ (K = 260 ∧ k = 3 ∧ c = 261)
theorem head_ck (h : LX C mX m kd pl vl Ls) (tv : TV m kd vl nn) {l0 : List E4} {idx : Nat} {ts : FO} {t : S_Tree} {p : S_Parser} {i : Nat} {b : Int} {k c : Int32} (hK : BLK p.2.1 k c) {r : Int32 × S_Parser × S_Tree} (hs : SP m kd pl vl p i 0 0) (ha : AT l0 idx ts t) (hl : (atL l0 ts : Int) ≤ 2 * i + b) (hb : b ≤ 6) (e : f_Parser_blockHead p (Jn m, ar, kd, pl, vl) t (Jn idx) = some r) :
    ∃ v, r.1 = Jn (atL l0 ts) ∧ CK m kd pl vl i r.2.1 (WST kd vl (nx l0 idx ts (k, p.2.2.1, v, 0)) (atL l0 ts) r.2.2 i 0 0 (b - 1) (QC nn 40 k v (begT k v) (fun ks => nmd nn v ∧ (k = 1 → ∃ a l, ks = a :: l)))) := by
  have hm := h.2.2.2.2.2
  have hi := hs.1
  have ck := hs.kind.1
  unfold f_Parser_blockHead at e
  obtain ⟨p1, e1, e⟩ := unb e
  obtain ⟨kk, ek, e⟩ := unb e
  obtain ⟨⟨nv, p3⟩, e3, e⟩ := unb e
  obtain ⟨⟨n, t4⟩, e4, ez⟩ := unb e
  have hkk : kk = k := by
    unfold f_Parser_kindOfBlock at ek
    rcases hK with ⟨x, y, _⟩ | ⟨x, y, _⟩ | ⟨x, y, _⟩ <;> rw [x] at ek <;> simp (decide := true) at ek <;> rw [y, ← ek]
  unfold f_Parser_takeName at e3
  obtain ⟨p3', e3', e3⟩ := unb e3
  injection e3 with e3
  injection e3 with ea eb
  dsimp only at e4 ez
  rw [hkk] at e4
  rw [← eb] at ez
  obtain ⟨hn, ha4⟩ := ha.down (by omega) e4
  rw [hn] at ez
  refine ⟨nv, ?_⟩
  have s3 : CK m kd pl vl i p3' (WST kd vl (nx l0 idx ts (k, p.2.2.1, nv, 0)) (atL l0 ts) t4 i 0 0 (b - 3) (fun ts' X => ts' = FO.nil ∧ X = [(p.2.1, 0), (1, nv)] ∧ nmd nn nv)) := by
    refine (ck_take h hs (by rcases hK with ⟨x, _⟩ | ⟨x, _⟩ | ⟨x, _⟩ <;> rw [x] <;> decide) e1).seq (fun q => q) e3' ?_ (fun i td hd => dm_take hd _ 1 (by decide))
    rintro i1 sg1 op1 hi1 hs1 ⟨y1, y2, y3, y4, _⟩
    subst y1; subst y2; subst y3
    refine (ck_take h hs1 (by decide) e3').mono ?_
    rintro i2 sg2 op2 hi2 hs2 ⟨z1, z2, z3, z4, _⟩
    subst z1; subst z2; subst z3
    have hv : nv = vl (i + 1) := by rw [← ea, hs1.kind.2.2]
    refine ⟨rfl, rfl, FO.nil, _, ha4, ?_, ⟨rfl, rfl, ?_⟩, ?_⟩
    · have t0 := (SubT.tok (kd := kd) (vl := vl) i).snoc
      rw [← ck, z4, show nzT 1 (vl (i + 1)) = (1, vl (i + 1)) from by simp (decide := true) [nzT], ← hv] at t0
      have hz : nzT p.2.1 (vl i) = (p.2.1, 0) := by rcases hK with ⟨x, _⟩ | ⟨x, _⟩ | ⟨x, _⟩ <;> rw [x] <;> simp (decide := true) [nzT]
      rw [hz] at t0
      exact t0
    · rw [hv]; exact (tv (i + 1) hs1.1).1 z4
    · rw [atL_nx]
      simp only [FO.flat, List.length_nil]; omega
  rcases hK with ⟨x, y, _⟩ | ⟨x, y, _⟩ | ⟨x, y, _⟩
  · rw [if_pos x] at ez
    obtain ⟨p5, e5, ez⟩ := unb ez
    obtain ⟨r6, e6, ez⟩ := unb ez
    injection ez with ez
    subst ez
    refine ⟨rfl, ?_⟩
    have s5 := ws_take h s3 (by decide) (by decide) (by decide) e5
    have s6 := ws_one (nn := nn) s5 e6 (fun i ts hs ha hl => simple_ck h hs ha hl (by omega) e6) (fun i td hd => dm_simpleType hd _ _ _)
    refine ws_conv s6 (by omega) ?_
    rintro ts' X ⟨ts2, X2, k2, pp2, v2, c2, ⟨X3, ⟨z1, z2, z3⟩, z4⟩, x1, x2, x3, x4, x5⟩
    subst x4; subst x5; subst z4; subst z1; subst z2; subst y
    refine ⟨_, ⟨x2, by rw [show FO.nil.app (one k2 pp2 v2 c2) = one k2 pp2 v2 c2 from rfl]; omega, ⟨z3, fun _ => ⟨k2, [], rfl⟩⟩, rfl⟩, ?_⟩
    rw [tk_snoc (by decide) (by decide), sep_chain (Or.inr (Or.inl rfl)), tkF, x]
    simp (decide := true) [begT, fstc, nxtc, sgT, bears]
  · rw [if_neg (by rw [x]; decide)] at ez
    injection ez with ez
    subst ez
    refine ⟨rfl, ?_⟩
    refine ws_conv s3 (by omega) ?_
    rintro ts' X ⟨z1, z2, z3⟩
    subst z1; subst z2; subst y
    refine ⟨_, ⟨trivial, by rw [needF]; omega, ⟨z3, fun hc => absurd hc (by decide)⟩, rfl⟩, ?_⟩
    rw [tkF, x]
    simp (decide := true) [begT, fstc, nxtc, sgT, bears]
  · rw [if_neg (by rw [x]; decide)] at ez
    injection ez with ez
    subst ez
    refine ⟨rfl, ?_⟩
    refine ws_conv s3 (by omega) ?_
    rintro ts' X ⟨z1, z2, z3⟩
    subst z1; subst z2; subst y
    refine ⟨_, ⟨trivial, by rw [needF]; omega, ⟨z3, fun hc => absurd hc (by decide)⟩, rfl⟩, ?_⟩
    rw [tkF, x]
    simp (decide := true) [begT, fstc, nxtc, sgT, bears]
theorem blocksL_ck (h : LX C mX m kd pl vl Ls) (tv : TV m kd vl nn) {l0 : List E4} {idx : Nat} {i0 : Nat} {b : Int} (hb : b ≤ 4) : ∀ (f : Nat) (w : Int32) (p : S_Parser) (t : S_Tree) (r : S_Parser × S_Tree), CK m kd pl vl i0 p (WST kd vl l0 idx t i0 0 0 b (QN nn 2550 0 0 [])) → f_Parser_parse_L51 (Jn idx) (Jn m, ar, kd, pl, vl) f w p t = some r → CK m kd pl vl i0 r.1 (WST kd vl l0 idx r.2 i0 0 0 b (QN nn 2550 0 0 [])) := by
  intro f
  induction f with
  | zero => intro w p t r _ e; exact absurd e (by unfold f_Parser_parse_L51; simp)
  | succ f ih =>
    intro w p t r hc e
    unfold f_Parser_parse_L51 at e
    split at e
    · injection e with e; subst e; exact hc
    · rcases startsBlock_eq p with ⟨e0, hk, es⟩ | ⟨n1, n2, n3, es⟩
      · rw [es, ob_some, if_neg (show ¬ (1 : Int32) = 0 by decide)] at e
        obtain ⟨r1, e1, e⟩ := unb e
        obtain ⟨r2, e2, e⟩ := unb e
        obtain ⟨k, c, hB, hec⟩ : ∃ k c, BLK p.2.1 k c ∧ f_Parser_endOfBlock p.2.1 = some c := by
          rcases hk with ⟨x, _⟩ | ⟨x, _⟩ | ⟨x, _⟩
          · exact ⟨1, 257, Or.inl ⟨x, rfl, rfl⟩, by rw [x]; decide⟩
          · exact ⟨2, 259, Or.inr (Or.inl ⟨x, rfl, rfl⟩), by rw [x]; decide⟩
          · exact ⟨3, 261, Or.inr (Or.inr ⟨x, rfl, rfl⟩), by rw [x]; decide⟩
        have h123 : k = 1 ∨ k = 2 ∨ k = 3 := by
          rcases hB with ⟨_, x, _⟩ | ⟨_, x, _⟩ | ⟨_, x, _⟩
          · exact Or.inl x
          · exact Or.inr (Or.inl x)
          · exact Or.inr (Or.inr x)
        rw [hec] at e
        -- the block, when its body and its end are read
        have node : ∀ (r3 : S_Parser × S_Tree) (p4 : S_Parser), ((r2.1.2.1 = 293 ∧ f_Parser_ladder r2.1 (Jn m, ar, kd, pl, vl) r2.2 r1.1 = some r3) ∨ (¬ r2.1.2.1 = 293 ∧ f_Parser_body r2.1 (Jn m, ar, kd, pl, vl) r2.2 r1.1 = some r3)) → f_Parser_take r3.1 (Jn m, ar, kd, pl, vl) c = some p4 → CK m kd pl vl i0 p4 (WST kd vl l0 idx r3.2 i0 0 0 b (QN nn 2550 0 0 [])) := by
          intro r3 p4 h3 e4
          have s4 : CK m kd pl vl i0 p4 (WST kd vl l0 idx r3.2 i0 0 0 b (Q1 nn 2550 (fun _ => True) (QN nn 2550 0 0 []))) := by
            refine ws_one (nn := nn) (F := some (p4, r3.2)) (r := (p4, r3.2)) hc rfl ?_ ?_
            · intro i ts hs ha hl
              obtain ⟨v, hn, s1⟩ := head_ck (nn := nn) h tv hB hs ha hl (by omega) e1
              rw [hn] at e2 h3
              have hS : ∀ (ks : List Int32) (z : Int32), (nmd nn v ∧ (k = 1 → ∃ a l, ks = a :: l)) → (nmd nn v ∧ (k = 1 → ∃ a l, ks ++ [z] = a :: l)) := by
                rintro ks z ⟨q1, q2⟩
                refine ⟨q1, fun hk1 => ?_⟩
                obtain ⟨a, l, hks⟩ := q2 hk1
                exact ⟨a, l ++ [z], by rw [hks]; rfl⟩
              have s2 := sections_ck h tv h123 hS (by omega) s1 e2
              have s2' := ws_conv (b' := b - 1) (Q' := QC nn 2540 k v (begT k v) (fun ks => nmd nn v ∧ (k = 1 → ∃ a l, ks = a :: l))) s2 (by omega) (by
                rintro ts' X ⟨q1, q2, q3, q4⟩
                exact ⟨X, ⟨q1, by omega, q3, q4⟩, List.Sublist.refl _⟩)
              have s3 : CK m kd pl vl i r3.1 (WST kd vl (nx l0 idx ts (k, p.2.2.1, v, 0)) (atL l0 ts) r3.2 i 0 0 b (QC nn 2540 k v (begT k v) (fun ks => nmd nn v ∧ (k = 1 → ∃ a l, ks = a :: l)))) := by
                rcases h3 with ⟨c293, h3⟩ | ⟨_, h3⟩
                · have s3 := ws_one (nn := nn) s2' h3 (fun i ts hs ha hl => ladder_ck h tv hs ha hl (by omega) h3) (fun i td hd => absurd c293 (hd.ne 293 (by decide) (by decide)))
                  exact ws_conv s3 (by omega) (fun ts X hq => QC.chain (chB h123) hS (by omega) hq)
                · have s3 := ws_one (nn := nn) s2' h3 (fun i ts hs ha hl => GB_ck h tv DB 0 (by omega) _ _ _ _ _ _ _ _ hs ha hl (by omega) h3) (fun i td hd => dm_body hd _ _ _ 65)
                  exact ws_conv s3 (by omega) (fun ts X hq => QC.chain (chB h123) hS (by unfold nS; omega) hq)
              have s4 := ws_take h s3 (by rcases hB with ⟨_, _, x⟩ | ⟨_, _, x⟩ | ⟨_, _, x⟩ <;> rw [x] <;> decide) (by rcases hB with ⟨_, _, x⟩ | ⟨_, _, x⟩ | ⟨_, _, x⟩ <;> rw [x] <;> decide) (by rcases hB with ⟨_, _, x⟩ | ⟨_, _, x⟩ | ⟨_, _, x⟩ <;> rw [x] <;> decide) e4
              refine ws_up ha.1 s4 (by omega) trivial ?_
              rintro cc X ⟨X0, ⟨q1, q2, ⟨q3, q3'⟩, q4⟩, q5⟩
              subst q5; subst q4
              refine ⟨?_, q1, ?_, ?_⟩
              · rcases hB with ⟨_, x, _⟩ | ⟨_, x, _⟩ | ⟨_, x, _⟩
                · obtain ⟨a, l, hks⟩ := q3' x
                  rw [x, hks]; exact LOC.func _ _ _ q3
                · rw [x]; exact LOC.blk _ _ q3
                · rw [x]; exact LOC.prog _ _ q3
              · have : nk k = 10 := by rcases h123 with x | x | x <;> rw [x] <;> decide
                omega
              · have e2 : ∀ n, finT k n = [(c, 0)] := by
                  intro n
                  rcases hB with ⟨_, x, y⟩ | ⟨_, x, y⟩ | ⟨_, x, y⟩ <;> rw [x, y] <;> simp (decide := true) [finT, lstc, sgT, semi]
                rw [innT_app, e2]
                simp only [List.append_assoc]
                exact List.Sublist.refl _
            · intro i td hd
              exfalso
              rcases hk with ⟨x, _⟩ | ⟨x, _⟩ | ⟨x, _⟩
              · exact hd.ne 256 (by decide) (by decide) x
              · exact hd.ne 258 (by decide) (by decide) x
              · exact hd.ne 260 (by decide) (by decide) x
          exact ws_conv s4 (by omega) (fun ts X hq => QN.step ch0 (Nat.le_refl _) hq)
        split at e
        next c293 =>
          obtain ⟨r3, e3, e⟩ := unb e
          rw [ob_some] at e
          obtain ⟨p4, e4, e⟩ := unb e
          rw [nm_eq] at e
          exact ih _ _ _ _ (node r3 p4 (Or.inl ⟨c293, e3⟩) e4) e
        next c293 =>
          obtain ⟨r3, e3, e⟩ := unb e
          rw [ob_some] at e
          obtain ⟨p4, e4, e⟩ := unb e
          rw [nm_eq] at e
          exact ih _ _ _ _ (node r3 p4 (Or.inr ⟨c293, e3⟩) e4) e
      · rw [es, ob_some, if_pos rfl] at e
        injection e with e; subst e; exact hc
/-- the tree of a text that was read -/
theorem parse_tree (h : LX C mX m kd pl vl Ls) (tv : TV m kd vl nn) {pb : Int32} {fq : Int32 × Int32} {t1 : S_Tree} {r3 : S_Parser × S_Tree} (h5 : kd 0 ≠ 5) (h1 : CT t1 [(0, 0, 0, 0)]) (e : f_Parser_parse_L51 0 (Jn m, ar, kd, pl, vl) FU 0 (Jn 0, kd 0, pl 0, vl 0, pb, Jn 0, Jn 0, 0, fq) t1 = some r3) (hs : SP m kd pl vl r3.1 (m - 1) 0 0) : ∃ fo, CT r3.2 (one 0 0 0 fo).flat ∧ goodF nn (one 0 0 0 fo) ∧ needF (one 0 0 0 fo) ≤ 2560 ∧ SubT kd vl 0 (m - 1) (tkF 0 0 0 fo) := by
  have hs0 : SP m kd pl vl (Jn 0, kd 0, pl 0, vl 0, pb, Jn 0, Jn 0, 0, fq) 0 0 0 := ⟨h.2.2.2.2.1, h5, _, _, rfl, fun h => by omega⟩
  have ha : AT [((0 : Int32), (0 : Int32), (0 : Int32), 0)] 0 FO.nil t1 := by
    refine ⟨by decide, ?_⟩
    rw [show FO.nil.len = 0 from rfl, bump_zero, show FO.nil.flat = [] from rfl, List.append_nil]
    exact h1
  have s1 := ws_begin (b := 1) hs0 ha (by decide)
  have s2 := blocksL_ck (idx := 0) h tv (by omega) FU 0 _ _ _ (ws_conv (b' := 1) (Q' := QN nn 2550 0 0 []) s1 (by omega) (by
    rintro ts' X ⟨z1, z2⟩
    subst z1; subst z2
    exact ⟨_, QN.zero, List.Sublist.refl _⟩)) e
  rcases s2 with ⟨j, td, hd⟩ | ⟨i, sg, op, y1, y2, y3, y4, fo, X, y5, y6, ⟨q1, q2, _, q4⟩, y7⟩
  · exfalso
    have kk := hs.kind.1
    have hi := hs.1
    have n6 := KM_n6 (tokF h hi hs.2.1).1
    rcases hd.2.1 with x | x
    · exact hs.2.1 (by rw [← kk]; exact x)
    · exact n6 (by rw [← kk]; exact x)
  · have ei : i = m - 1 := by
      obtain ⟨hi, _, pb1, fq1, hp1, _⟩ := y2
      obtain ⟨hi2, _, pb2, fq2, hp2, _⟩ := hs
      rw [hp1] at hp2
      injection hp2 with hp2 _
      have hm := h.2.2.2.2.2
      exact (Jn_eq (by omega) (by omega)).mp hp2
    subst ei
    refine ⟨fo, ?_, good_one (LOC.text _) q1, ?_, ?_⟩
    · have := y5.2
      rw [flat_one]
      have e1 : bump [((0 : Int32), (0 : Int32), (0 : Int32), 0)] 0 fo.len ++ fo.flat = (0, 0, 0, fo.len) :: fo.flat := by
        show inc (0, 0, 0, 0) fo.len :: ([] ++ fo.flat) = _
        unfold inc
        dsimp only
        rw [Nat.zero_add]; rfl
      rw [e1] at this
      exact this
    · rw [need_one, show nk 0 = 10 from by decide]; omega
    · rw [q4] at y6
      exact y6
end
end
