section
/-! IF, CASE, FOR, invocations: their trees. -/
def ifE : List Int32 → Prop
  | [] => True
  | [_] => False
  | k :: k2 :: l => k ≠ 11 ∧ k2 = 11 ∧ ifE l
theorem ifE_len : ∀ {l : List Int32}, ifE l → l.length % 2 = 0
  | [], _ => rfl
  | [_], h => h.elim
  | k :: k2 :: l, h => by
    have := ifE_len h.2.2
    simp only [List.length_cons]; omega
theorem ifE_snoc : ∀ {l : List Int32} {k : Int32}, ifE l → k ≠ 11 → ifE (l ++ [k] ++ [11])
  | [], k, _, hk => ⟨hk, rfl, trivial⟩
  | [_], _, h, _ => h.elim
  | a :: b :: l, k, h, hk => ⟨h.1, h.2.1, ifE_snoc h.2.2 hk⟩
theorem ifE_P : ∀ {l : List Int32}, ifE l → ifP l
  | [], _ => trivial
  | [_], h => h.elim
  | a :: b :: l, h => ⟨h.1, h.2.1, ifE_P h.2.2⟩
theorem ifE_else : ∀ {l : List Int32}, ifE l → ifP (l ++ [11])
  | [], _ => rfl
  | [_], h => h.elim
  | a :: b :: l, h => ⟨h.1, h.2.1, ifE_else h.2.2⟩
section
variable (m : Nat) (ar : Int32) (kd pl vl : Nat → Int32) (nn : Nat)
def BSP (fb : S_Parser → S_Tokens → S_Tree → Int32 → Option (S_Parser × S_Tree)) (op : Nat) : Prop :=
  ∀ (l0 : List E4) (idx : Nat) (ts : FO) (t : S_Tree) (p : S_Parser) (i : Nat) (b : Int) (r : S_Parser × S_Tree), SP m kd pl vl p i 0 op → AT l0 idx ts t → (atL l0 ts : Int) ≤ 2 * i + b → b ≤ 7 → fb p (Jn m, ar, kd, pl, vl) t (Jn idx) = some r → CK m kd pl vl i r.1 (R1 kd vl l0 idx ts r.2 i 0 op (b + 1) nn (nS op + 10) (fun k => k = 11))
def DSP (fb : S_Parser → S_Tokens → S_Tree → Int32 → Option (S_Parser × S_Tree)) : Prop := ∀ (t : S_Tree) (p : S_Parser) (i : Nat) (td a : Int32) (r : S_Parser × S_Tree), PD p i td → fb p (Jn m, ar, kd, pl, vl) t a = some r → PD r.1 i td
end
section
variable {C : S_MC} {mX : S_MX} {m : Nat} {ar : Int32} {kd pl vl : Nat → Int32} {Ls : Nat → S_ML × S_MN} {nn : Nat}
/-- a further child, behind what stands before it -/
theorem ws_chl {l0 : List E4} {idx : Nat} {t : S_Tree} {p : S_Parser} {i0 sg op nd nd' : Nat} {b b' : Int} {K V : Int32} {pre seps : List Tok} {S S' : List Int32 → Prop} {P : Int32 → Prop} {F : Option (S_Parser × S_Tree)} {r : S_Parser × S_Tree} (hK : K ≠ 35 ∧ K ≠ 36) (hc : CK m kd pl vl i0 p (WST kd vl l0 idx t i0 sg op b (fun ts X => ∃ X0, QC nn nd K V pre S ts X0 ∧ X = X0 ++ seps))) (e : F = some r) (hnd : nd' ≤ nd) (hs : ∀ i ts, S ts.ks → SP m kd pl vl p i sg op → AT l0 idx ts t → (atL l0 ts : Int) ≤ 2 * i + b → CK m kd pl vl i r.1 (R1 kd vl l0 idx ts r.2 i sg op b' nn nd' P)) (hd : ∀ i td, PD p i td → ∃ r', F = some r' ∧ PD r'.1 i td) (hsep : ∀ (ts : FO) k, S ts.ks → P k → sepT K V ts.len k = seps) (hS : ∀ ks k, S ks → P k → S' (ks ++ [k])) : CK m kd pl vl i0 r.1 (WST kd vl l0 idx r.2 i0 sg op b' (QC nn nd K V pre S')) := by
  refine hc.seq (fun q => q.1) e ?_ hd
  rintro i sg' op' hi hsp ⟨w1, w2, ts, X, w3, w4, ⟨X0, w5, w7⟩, w6⟩
  subst w1; subst w2; subst w7
  refine (hs i ts w5.2.2.1 hsp w3 w6).mono ?_
  rintro i' sg2 op2 _ hs' ⟨v1, v2, k, pp, v, c, v3, v4, v5, v6, v7, v8⟩
  exact ⟨v1, v2, _, _, v3, w4.app v7, w5.step hK.1 hK.2 v5 (by omega) (hS _ _ w5.2.2.1 v4) (hsep ts k w5.2.2.1 v4), v8⟩
theorem ws_plain {l0 : List E4} {idx : Nat} {t : S_Tree} {p : S_Parser} {i0 sg op : Nat} {b : Int} {Q : FO → List Tok → Prop} (hc : CK m kd pl vl i0 p (WST kd vl l0 idx t i0 sg op b Q)) : CK m kd pl vl i0 p (WST kd vl l0 idx t i0 sg op b (fun ts X => ∃ X0, Q ts X0 ∧ X = X0 ++ [])) :=
  ws_conv hc (Int.le_refl _) (fun ts X hq => ⟨X, ⟨X, hq, (List.append_nil X).symm⟩, List.Sublist.refl _⟩)
/-- a node that opens has begun -/
theorem ws_node (h : LX C mX m kd pl vl Ls) {l0 : List E4} {idx : Nat} {ts : FO} {t t1 : S_Tree} {n k P v : Int32} {p p' : S_Parser} {i op nd : Nat} {b : Int} {c : Int32} (hs : SP m kd pl vl p i 0 op) (ha : AT l0 idx ts t) (hl : (atL l0 ts : Int) ≤ 2 * i + b) (hb : b ≤ 9) (hk : p.2.1 = c) (hc4 : c ≠ 4) (hz : nzT c 0 = (c, 0) ∧ c ≠ 1 ∧ c ≠ 2 ∧ c ≠ 3 ∧ c ≠ 5 ∧ c ≠ 6) (hop : op ≤ 60) (e1 : f_Tree_add t (Jn idx) k P v = some (n, t1)) (e2 : f_Parser_takeOpening p (Jn m, ar, kd, pl, vl) = some p') : n = Jn (atL l0 ts) ∧ CK m kd pl vl i p' (WST kd vl (nx l0 idx ts (k, P, v, 0)) (atL l0 ts) t1 i 0 (op + 1) (b - 1) (QC nn nd k v [(c, 0)] (fun ks => ks = [] ∧ op + 1 ≤ 60))) := by
  obtain ⟨hn, s1⟩ := ws_down h hs ha hl (by omega) e1
  refine ⟨hn, ?_⟩
  refine (ws_open h hk hc4 hz hop s1 e2).mono ?_
  rintro i' sg' op' _ _ ⟨⟨w1, w2, ts', X, w3, w4, ⟨X0, ⟨z1, z2⟩, z3⟩, w6⟩, hop1⟩
  subst z1; subst z2; subst z3
  refine ⟨w1, w2, FO.nil, [(c, 0)], w3, w4, ⟨trivial, by rw [needF]; omega, ⟨rfl, hop1⟩, by rw [tkF]; rfl⟩, by omega⟩
def ifS2 (H : Prop) (ks : List Int32) : Prop := ∃ k l, ks = k :: 11 :: l ∧ k ≠ 11 ∧ ifE l ∧ H
theorem ifL_ck (h : LX C mX m kd pl vl Ls) (tv : TV m kd vl nn) {fb : S_Parser → S_Tokens → S_Tree → Int32 → Option (S_Parser × S_Tree)} (hdb : DSP m ar kd pl vl fb) {l0 : List E4} {idx : Nat} {i0 op nd : Nat} {b : Int} (hb : b ≤ 7) (hfb : op ≤ 60 → BSP m ar kd pl vl nn fb op) (hnd : nS op + 10 ≤ nd) : ∀ (f : Nat) (w : Int32) (p : S_Parser) (t : S_Tree) (r : S_Parser × S_Tree), CK m kd pl vl i0 p (WST kd vl l0 idx t i0 0 op b (QC nn nd 15 0 [(272, 0)] (ifS2 (op ≤ 60)))) → f_Parser_ifStatement_L39 fb (Jn idx) (Jn m, ar, kd, pl, vl) f w p t = some r → CK m kd pl vl i0 r.1 (WST kd vl l0 idx r.2 i0 0 op b (QC nn nd 15 0 [(272, 0)] (ifS2 (op ≤ 60)))) := by
  intro f
  have hn7 : 700 ≤ nd := by unfold nS at hnd; omega
  induction f with
  | zero => intro w p t r _ e; exact absurd e (by unfold f_Parser_ifStatement_L39; simp)
  | succ f ih =>
    intro w p t r hc e
    unfold f_Parser_ifStatement_L39 at e
    split at e
    · injection e with e; subst e; exact hc
    · split at e
      · obtain ⟨p1, e1, e⟩ := unb e
        obtain ⟨r2, e2, e⟩ := unb e
        obtain ⟨p3, e3, e⟩ := unb e
        obtain ⟨r4, e4, e⟩ := unb e
        rw [nm_eq] at e
        refine ih _ _ _ _ ?_ e
        have s1 := ws_take h hc (by decide) (by decide) (by decide) e1
        have s2 := ws_chl (nn := nn) (S' := fun ks => ∃ k l k', ks = k :: 11 :: (l ++ [k']) ∧ k ≠ 11 ∧ ifE l ∧ k' ≠ 11 ∧ op ≤ 60) (by decide) s1 e2 hn7 (fun i ts hS hs ha hl => outer_ck h tv hs (by obtain ⟨k, l, _, _, _, H⟩ := hS; exact H) ha hl (by omega) e2) (fun i td hd => dm_outermost hd _ _ _) (by
          rintro ts k ⟨k0, l, hks, h1, h2, _⟩ hP
          have hlen : ts.len = 2 + l.length := by rw [← FO.ks_len, hks]; simp only [List.length_cons]; omega
          have ev := ifE_len h2
          have nk11 := hP.n11
          have p1 : ¬ (l.length % 2 = 1) := by omega
          have p2 : ¬ (2 + l.length = 0) := by omega
          rw [hlen]
          simp (decide := true) [sepT, sepc, sgT, p1, p2, nk11]) (by
          rintro ks k ⟨k0, l, hks, h1, h2, H⟩ hP
          exact ⟨k0, l, k, by rw [hks]; rfl, h1, h2, hP.n11, H⟩)
        have s3 := ws_take h s2 (by decide) (by decide) (by decide) e3
        have s4 := ws_chl (nn := nn) (S' := ifS2 (op ≤ 60)) (by decide) s3 e4 hnd (fun i ts hS hs ha hl => hfb (by obtain ⟨k, l, k', _, _, _, _, H⟩ := hS; exact H) _ _ _ _ _ _ _ _ hs ha hl (by omega) e4) (fun i td hd => ⟨r4, e4, hdb _ _ i td _ _ hd e4⟩) (by
          rintro ts k ⟨k0, l, k', hks, h1, h2, h3, _⟩ hP
          have hlen : ts.len = 2 + l.length + 1 := by rw [← FO.ks_len, hks]; simp only [List.length_cons, List.length_append, List.length_nil]; omega
          have ev := ifE_len h2
          have p1 : (2 + l.length + 1) % 2 = 1 := by omega
          rw [hlen]
          simp (decide := true) [sepT, sepc, sgT, p1]) (by
          rintro ks k ⟨k0, l, k', hks, h1, h2, h3, H⟩ hP
          refine ⟨k0, l ++ [k'] ++ [11], by rw [hks, hP]; simp, h1, ifE_snoc h2 h3, H⟩)
        exact ws_conv s4 (by omega) (fun ts X hq => ⟨X, hq, List.Sublist.refl _⟩)
      · injection e with e; subst e; exact hc
theorem if_ck (h : LX C mX m kd pl vl Ls) (tv : TV m kd vl nn) {fb : S_Parser → S_Tokens → S_Tree → Int32 → Option (S_Parser × S_Tree)} (hdb : DSP m ar kd pl vl fb) {l0 : List E4} {idx : Nat} {ts : FO} {t : S_Tree} {p : S_Parser} {i op : Nat} {b : Int} {r : S_Parser × S_Tree} (hfb : op + 1 ≤ 60 → BSP m ar kd pl vl nn fb (op + 1)) (hs : SP m kd pl vl p i 0 op) (hop : op ≤ 60) (ha : AT l0 idx ts t) (hl : (atL l0 ts : Int) ≤ 2 * i + b) (hb : b ≤ 8) (hk : p.2.1 = 272) (e : f_Parser_ifStatement fb p (Jn m, ar, kd, pl, vl) t (Jn idx) = some r) : CK m kd pl vl i r.1 (R1S kd vl l0 idx ts r.2 i op b nn) := by
  unfold f_Parser_ifStatement at e
  obtain ⟨⟨n, t1⟩, e1, e⟩ := unb e
  obtain ⟨p2, e2, e⟩ := unb e
  obtain ⟨r3, e3, e⟩ := unb e
  obtain ⟨p4, e4, e⟩ := unb e
  obtain ⟨r5, e5, e⟩ := unb e
  obtain ⟨r6, e6, e⟩ := unb e
  obtain ⟨hn, s2⟩ := ws_node (nn := nn) (nd := nS (op + 1) + 10) h hs ha hl (by omega) hk (by decide) (by decide) hop e1 e2
  dsimp only at e3 e5 e6 e
  rw [hn] at e3 e5 e6 e
  have s3 := ws_chl (nn := nn) (S' := fun ks => ∃ k, ks = [k] ∧ k ≠ 11 ∧ op + 1 ≤ 60) (by decide) (ws_plain s2) e3 (show 700 ≤ _ by unfold nS; omega) (fun i ts hS hs ha hl => outer_ck h tv hs hS.2 ha hl (by omega) e3) (fun i td hd => dm_outermost hd _ _ _) (by
    rintro ts k ⟨hks, _⟩ hP
    have hlen : ts.len = 0 := by rw [← FO.ks_len, hks]; rfl
    rw [hlen]
    simp (decide := true) [sepT, sepc, sgT]) (by
    rintro ks k ⟨hks, H⟩ hP
    exact ⟨k, by rw [hks]; rfl, hP.n11, H⟩)
  have s4 := ws_take h s3 (by decide) (by decide) (by decide) e4
  have s5 := ws_chl (nn := nn) (S' := ifS2 (op + 1 ≤ 60)) (by decide) s4 e5 (Nat.le_refl _) (fun i ts hS hs ha hl => hfb (by obtain ⟨k, _, _, H⟩ := hS; exact H) _ _ _ _ _ _ _ _ hs ha hl (by omega) e5) (fun i td hd => ⟨r5, e5, hdb _ _ i td _ _ hd e5⟩) (by
    rintro ts k ⟨k0, hks, _⟩ hP
    have hlen : ts.len = 1 := by rw [← FO.ks_len, hks]; rfl
    rw [hlen]
    simp (decide := true) [sepT, sepc, sgT]) (by
    rintro ks k ⟨k0, hks, h1, H⟩ hP
    exact ⟨k0, [], by rw [hks, hP]; rfl, h1, trivial, H⟩)
  have s6 := ifL_ck h tv hdb (b := b - 3) (by omega) hfb (Nat.le_refl _) FU _ _ _ _ (ws_conv s5 (by omega) (fun ts X hq => ⟨X, hq, List.Sublist.refl _⟩)) e6
  have fin : ∀ (q : S_Parser) (t8 : S_Tree) (q2 : S_Parser), CK m kd pl vl i q (WST kd vl (nx l0 idx ts (15, p.2.2.1, 0, 0)) (atL l0 ts) t8 i 0 (op + 1) (b - 2) (QC nn (nS (op + 1) + 10) 15 0 [(272, 0)] (fun ks => ∃ k l, ks = k :: 11 :: l ∧ k ≠ 11 ∧ ifP l ∧ op + 1 ≤ 60))) → f_Parser_takeClosing q (Jn m, ar, kd, pl, vl) 276 = some q2 → CK m kd pl vl i q2 (R1S kd vl l0 idx ts t8 i op b nn) := by
    intro q t8 q2 s8 e8
    have s9 := ws_close h s8 (by decide) (by decide) (by decide) e8
    refine ws_upS ha.1 s9 (by omega) ?_
    rintro c X ⟨X0, ⟨q1, q2, ⟨k, l, hks, h1, h2, H⟩, q4⟩, q5⟩
    subst q5; subst q4
    refine ⟨by rw [hks]; exact LOC.iff _ _ h1 h2, q1, ?_, ?_⟩
    · have : nk 15 = 10 := by decide
      unfold nS at q2 ⊢; omega
    · have e1 : begT 15 0 = [(272, 0)] := by decide
      have e2 : ∀ n, finT 15 n = [(276, 0), (59, 0)] := by intro n; simp (decide := true) [finT, lstc, sgT, semi]
      rw [innT_app, e1, e2]
      simp only [List.append_assoc, List.cons_append, List.nil_append]
  split at e
  · obtain ⟨p7, e7, e⟩ := unb e
    obtain ⟨r8, e8, e⟩ := unb e
    obtain ⟨p9, e9, e⟩ := unb e
    injection e with e
    subst e
    have s7 := ws_take h s6 (by decide) (by decide) (by decide) e7
    have s8 := ws_chl (nn := nn) (S' := fun ks => ∃ k l, ks = k :: 11 :: l ∧ k ≠ 11 ∧ ifP l ∧ op + 1 ≤ 60) (by decide) s7 e8 (Nat.le_refl _) (fun i ts hS hs ha hl => hfb (by obtain ⟨k, l, _, _, _, H⟩ := hS; exact H) _ _ _ _ _ _ _ _ hs ha hl (by omega) e8) (fun i td hd => ⟨r8, e8, hdb _ _ i td _ _ hd e8⟩) (by
      rintro ts k ⟨k0, l, hks, h1, h2, _⟩ hP
      have hlen : ts.len = 2 + l.length := by rw [← FO.ks_len, hks]; simp only [List.length_cons]; omega
      have ev := ifE_len h2
      have p1 : ¬ (l.length % 2 = 1) := by omega
      have p2 : ¬ (2 + l.length = 0) := by omega
      rw [hlen, hP]
      simp (decide := true) [sepT, sepc, sgT, p1, p2]) (by
      rintro ks k ⟨k0, l, hks, h1, h2, H⟩ hP
      exact ⟨k0, l ++ [11], by rw [hks, hP]; rfl, h1, ifE_else h2, H⟩)
    exact fin r8.1 r8.2 p9 (ws_conv s8 (by omega) (fun ts X hq => ⟨X, hq, List.Sublist.refl _⟩)) e9
  · obtain ⟨p9, e9, e⟩ := unb e
    injection e with e
    subst e
    refine fin r6.1 r6.2 p9 (ws_conv s6 (by omega) ?_) e9
    rintro ts X ⟨q1, q2, ⟨k, l, hks, h1, h2, H⟩, q4⟩
    exact ⟨X, ⟨q1, q2, ⟨k, l, hks, h1, ifE_P h2, H⟩, q4⟩, List.Sublist.refl _⟩
end
end
section
/-! CASE, FOR, invocations: their trees. -/
/-- a row with commas: with more to come, or all come -/
def QM (nn nd : Nat) (K V : Int32) (pre : List Tok) (P : Int32 → Prop) (more : Prop) (tn : Nat) (ts : FO) (X : List Tok) : Prop := goodF nn ts ∧ needF ts ≤ nd ∧ (∀ k, k ∈ ts.ks → P k) ∧ ts.len = tn ∧ ((more ∧ ts ≠ FO.nil ∧ X = pre ++ tkF K V 0 ts ++ [(44, 0)]) ∨ ((more → ts = FO.nil) ∧ X = pre ++ tkF K V 0 ts))
section
variable {C : S_MC} {mX : S_MX} {m : Nat} {ar : Int32} {kd pl vl : Nat → Int32} {Ls : Nat → S_ML × S_MN} {nn : Nat}
theorem len_ne {ts : FO} (h : ts ≠ FO.nil) : ts.len ≠ 0 := by
  cases ts with
  | leaf => exact absurd rfl h
  | inner p k v c r => exact Nat.succ_ne_zero _
/-- one more of the row, then perhaps a comma -/
theorem comma_ck (h : LX C mX m kd pl vl Ls) {l0 : List E4} {idx : Nat} {t2 : S_Tree} {p1 p2 : S_Parser} {i0 op nd nd' tn : Nat} {b : Int} {K V mo : Int32} {pre : List Tok} {P : Int32 → Prop} {more : Prop} (hm1 : more) (hK : K ≠ 35 ∧ K ≠ 36) (hnd : nd' ≤ nd) (hs0 : ∀ k, P k → sepT K V 0 k = []) (hs1 : ∀ i k, i ≠ 0 → P k → sepT K V i k = [(44, 0)]) (s1 : CK m kd pl vl i0 p1 (WST kd vl l0 idx t2 i0 0 op b (Q1 nn nd' P (QM nn nd K V pre P more tn)))) (e2 : f_Parser_takeComma p1 (Jn m, ar, kd, pl, vl) = some (mo, p2)) : CK m kd pl vl i0 p2 (WST kd vl l0 idx t2 i0 0 op b (QM nn nd K V pre P (mo ≠ 0) (tn + 1))) := by
  have s2 : CK m kd pl vl i0 p1 (WST kd vl l0 idx t2 i0 0 op b (fun ts X => goodF nn ts ∧ needF ts ≤ nd ∧ (∀ k, k ∈ ts.ks → P k) ∧ ts.len = tn + 1 ∧ X = pre ++ tkF K V 0 ts)) := by
    refine ws_conv s1 (Int.le_refl _) ?_
    rintro ts X ⟨ts0, X0, k, pp, v, c, ⟨q1, q2, q3, q4, q5⟩, y1, y2, y3, y4, y5⟩
    subst y4; subst y5
    refine ⟨X0 ++ innT k v c, ⟨goodF_app q1 y2, by rw [needF_app]; omega, ?_, by rw [FO.len_app, q4]; rfl, ?_⟩, List.Sublist.refl _⟩
    · intro x hx
      rw [FO.ks_app] at hx
      rcases List.mem_append.mp hx with z | z
      · exact q3 x z
      · rw [List.mem_singleton.mp z]; exact y1
    · rw [tk_snoc hK.1 hK.2]
      rcases q5 with ⟨_, z1, z2⟩ | ⟨z1, z2⟩
      · rw [hs1 _ _ (len_ne z1) y1, z2]
        simp only [List.append_assoc]
      · have := z1 hm1
        subst this
        rw [show FO.nil.len = 0 from rfl, hs0 _ y1, z2]
        simp only [List.append_assoc, List.nil_append]
  unfold f_Parser_takeComma at e2
  split at e2
  · obtain ⟨p3, e3, e2⟩ := unb e2
    injection e2 with e2
    injection e2 with ea eb
    subst ea; subst eb
    have s3 := ws_take h s2 (by decide) (by decide) (by decide) e3
    refine ws_conv s3 (by omega) ?_
    rintro ts X ⟨X0, ⟨q1, q2, q3, q4, q5⟩, q6⟩
    subst q6; subst q5
    have hne : ts ≠ FO.nil := by
      intro hz
      rw [hz] at q4
      exact absurd q4 (by rw [show FO.nil.len = 0 from rfl]; omega)
    exact ⟨_, ⟨q1, q2, q3, q4, Or.inl ⟨by decide, hne, rfl⟩⟩, List.Sublist.refl _⟩
  · injection e2 with e2
    injection e2 with ea eb
    subst ea; subst eb
    refine ws_conv s2 (Int.le_refl _) ?_
    rintro ts X ⟨q1, q2, q3, q4, q5⟩
    exact ⟨X, ⟨q1, q2, q3, q4, Or.inr ⟨fun hz => absurd rfl hz, q5⟩⟩, List.Sublist.refl _⟩
/-- the row's end -/
theorem row_end {l0 : List E4} {idx : Nat} {t : S_Tree} {p : S_Parser} {i0 op nd tn : Nat} {b : Int} {K V : Int32} {pre : List Tok} {P : Int32 → Prop} {more : Prop} (s : CK m kd pl vl i0 p (WST kd vl l0 idx t i0 0 op b (QM nn nd K V pre P more tn))) : CK m kd pl vl i0 p (WST kd vl l0 idx t i0 0 op b (fun ts X => goodF nn ts ∧ needF ts ≤ nd ∧ (∀ k, k ∈ ts.ks → P k) ∧ ts.len = tn ∧ X = pre ++ tkF K V 0 ts)) := by
  refine ws_conv s (Int.le_refl _) ?_
  rintro ts X ⟨q1, q2, q3, q4, q5⟩
  refine ⟨_, ⟨q1, q2, q3, q4, rfl⟩, ?_⟩
  rcases q5 with ⟨_, _, z⟩ | ⟨_, z⟩
  · rw [z]; exact List.sublist_append_left _ _
  · rw [z]; exact List.Sublist.refl _
def RGE (nn : Nat) (ts : FO) (X : List Tok) : Prop := goodF nn ts ∧ needF ts ≤ 20 ∧ (∀ k, k ∈ ts.ks → k = 18) ∧ ts ≠ FO.nil ∧ X = tkF 17 0 0 ts
theorem rangesL_ck (h : LX C mX m kd pl vl Ls) (tv : TV m kd vl nn) {l0 : List E4} {idx : Nat} {i0 op : Nat} {b : Int} (hb : b ≤ 8) : ∀ (f tn : Nat) (more : Int32) (p : S_Parser) (t : S_Tree) (r : S_Parser × S_Tree), (more = 0 → tn ≠ 0) → CK m kd pl vl i0 p (WST kd vl l0 idx t i0 0 op b (QM nn 20 17 0 [] (fun k => k = 18) (more ≠ 0) tn)) → f_Parser_ranges_L4 (Jn idx) (Jn m, ar, kd, pl, vl) f (Jn tn) more p t = some r → CK m kd pl vl i0 r.1 (WST kd vl l0 idx r.2 i0 0 op b (RGE nn)) := by
  intro f
  have endit : ∀ (tn : Nat) (more : Prop) (p : S_Parser) (t : S_Tree), tn ≠ 0 → CK m kd pl vl i0 p (WST kd vl l0 idx t i0 0 op b (QM nn 20 17 0 [] (fun k => k = 18) more tn)) → CK m kd pl vl i0 p (WST kd vl l0 idx t i0 0 op b (RGE nn)) := by
    intro tn more p t htn hc
    refine ws_conv (row_end hc) (Int.le_refl _) ?_
    rintro ts X ⟨q1, q2, q3, q4, q5⟩
    refine ⟨X, ⟨q1, q2, q3, ?_, q5⟩, List.Sublist.refl _⟩
    intro hz
    rw [hz] at q4
    exact htn q4.symm
  induction f with
  | zero => intro tn more p t r _ _ e; exact absurd e (by unfold f_Parser_ranges_L4; simp)
  | succ f ih =>
    intro tn more p t r hm0 hc e
    unfold f_Parser_ranges_L4 at e
    split at e
    next hm =>
      injection e with e; subst e
      exact endit tn _ _ _ (hm0 hm) hc
    next hm =>
    split at e
    next hw =>
      injection e with e; subst e
      refine endit tn _ _ _ ?_ hc
      intro hz
      rw [hz] at hw
      exact absurd hw (by decide)
    · obtain ⟨⟨n, t1⟩, e1, e⟩ := unb e
      obtain ⟨r2, e2, e⟩ := unb e
      dsimp only at e2 e
      -- one range
      have node : ∀ (r3 : S_Parser × S_Tree), ((r2.1.2.1 = 11822 ∧ ∃ p4, f_Parser_take r2.1 (Jn m, ar, kd, pl, vl) 11822 = some p4 ∧ f_Parser_constant p4 (Jn m, ar, kd, pl, vl) r2.2 n = some r3) ∨ (¬ r2.1.2.1 = 11822 ∧ r3 = r2)) → CK m kd pl vl i0 r3.1 (WST kd vl l0 idx r3.2 i0 0 op b (Q1 nn 20 (fun k => k = 18) (QM nn 20 17 0 [] (fun k => k = 18) (more ≠ 0) tn))) := by
        intro r3 h3
        refine ws_one (nn := nn) (F := some r3) (r := r3) hc rfl ?_ ?_
        · intro i ts hs ha hl
          obtain ⟨hn, s1⟩ := ws_down h hs ha hl (by omega) e1
          rw [hn] at e2 h3
          have s2 := ws_one (nn := nn) s1 e2 (fun i ts hs ha hl => constant_ck h tv hs ha hl (by omega) e2) (fun i td hd => dm_constant hd _ _ _)
          have n18 : nk 18 = 10 := by decide
          rcases h3 with ⟨_, p4, e4, e5⟩ | ⟨_, rfl⟩
          · have s4 := ws_take h s2 (by decide) (by decide) (by decide) e4
            have s5 := ws_one (nn := nn) s4 e5 (fun i ts hs ha hl => constant_ck h tv hs ha hl (by omega) e5) (fun i td hd => dm_constant hd _ _ _)
            refine ws_up ha.1 s5 (by omega) rfl ?_
            rintro c X ⟨ts2, X2, k2, pp2, v2, c2, ⟨X3, ⟨ts0, X0, k, pp, v, cc, ⟨z1, z2⟩, y1, y2, y3, y4, y5⟩, x6⟩, x1, x2, x3, x4, x5⟩
            subst x4; subst x5; subst x6; subst y4; subst y5; subst z1; subst z2
            refine ⟨LOC.range2 _ _, goodF_app y2 x2, by rw [needF_app, show FO.nil.app (one k pp v cc) = one k pp v cc from rfl]; omega, ?_⟩
            rw [innT_app, tk_snoc (by decide) (by decide), tk_snoc (by decide) (by decide)]
            simp (decide := true) [begT, finT, fstc, nxtc, lstc, sgT, bears, semi, tkF, sepT, sepc, FO.len, FO.app]
          · refine ws_up ha.1 s2 (by omega) rfl ?_
            rintro c X ⟨ts0, X0, k, pp, v, cc, ⟨z1, z2⟩, y1, y2, y3, y4, y5⟩
            subst y4; subst y5; subst z1; subst z2
            refine ⟨LOC.range1 _, y2, by rw [show FO.nil.app (one k pp v cc) = one k pp v cc from rfl]; omega, ?_⟩
            rw [innT_app, tk_snoc (by decide) (by decide)]
            simp (decide := true) [begT, finT, fstc, nxtc, lstc, sgT, bears, semi, tkF, sepT, sepc, FO.len, FO.app]
        · intro i td hd
          refine ⟨r3, rfl, ?_⟩
          have d2 := dmE (Pq := fun b => PD b.1 i td) (dm_constant hd _ _ _) e2
          rcases h3 with ⟨z, _⟩ | ⟨_, rfl⟩
          · exact absurd z (d2.ne 11822 (by decide) (by decide))
          · exact d2
      have sp0 : ∀ k, k = 18 → sepT 17 0 0 k = [] := by rintro k rfl; decide
      have sp1 : ∀ (i : Nat) k, i ≠ 0 → k = 18 → sepT 17 0 i k = [(44, 0)] := by
        rintro i k hi rfl
        simp (decide := true) [sepT, sepc, sgT, hi]
      split at e
      next c =>
        obtain ⟨p4, e4, e⟩ := unb e
        obtain ⟨r5, e5, e⟩ := unb e
        obtain ⟨⟨mo, p6⟩, e6, efin⟩ := unb e
        rw [nm_eq, addL tn 1] at efin
        have s5 := node r5 (Or.inl ⟨c, p4, e4, e5⟩)
        exact ih (tn + 1) _ _ _ _ (fun _ => by omega) (comma_ck h hm (by decide) (Nat.le_refl _) sp0 sp1 s5 e6) efin
      next c =>
        obtain ⟨⟨mo, p6⟩, e6, efin⟩ := unb e
        rw [nm_eq, addL tn 1] at efin
        have s5 := node r2 (Or.inr ⟨c, rfl⟩)
        exact ih (tn + 1) _ _ _ _ (fun _ => by omega) (comma_ck h hm (by decide) (Nat.le_refl _) sp0 sp1 s5 e6) efin
end
end
section
/-! CASE, FOR, invocations, statements, bodies: their trees. -/
section
variable {C : S_MC} {mX : S_MX} {m : Nat} {ar : Int32} {kd pl vl : Nat → Int32} {Ls : Nat → S_ML × S_MN} {nn : Nat}
def QK (nn nd : Nat) (H : Prop) (ts : FO) (X : List Tok) : Prop := goodF nn ts ∧ needF ts ≤ nd ∧ (∃ k l, ts.ks = k :: l ∧ k ≠ 11 ∧ (∀ x, x ∈ l → x = 17) ∧ H) ∧ X = [(277, 0)] ++ tkF 16 0 0 ts ++ (if ts.len = 1 then [(271, 0)] else [])
theorem lastP_17 : ∀ {l : List Int32}, (∀ x, x ∈ l → x = 17) → lastP l
  | [], _ => trivial
  | [_], _ => trivial
  | a :: b :: l, h => ⟨by rw [h a List.mem_cons_self]; decide, lastP_17 (fun x hx => h x (List.mem_cons_of_mem _ hx))⟩
theorem lastP_else : ∀ {l : List Int32} {z : Int32}, (∀ x, x ∈ l → x ≠ 11) → lastP (l ++ [z])
  | [], _, _ => trivial
  | [a], _, h => ⟨h a List.mem_cons_self, trivial⟩
  | a :: b :: l, z, h => ⟨h a List.mem_cons_self, lastP_else (l := b :: l) (fun x hx => h x (List.mem_cons_of_mem _ hx))⟩
theorem caseL_ck (h : LX C mX m kd pl vl Ls) (tv : TV m kd vl nn) {fb : S_Parser → S_Tokens → S_Tree → Int32 → Option (S_Parser × S_Tree)} (hdb : DSP m ar kd pl vl fb) {l0 : List E4} {idx : Nat} {i0 op nd : Nat} {b : Int} (hb : b ≤ 6) (hfb : op ≤ 60 → BSP m ar kd pl vl nn fb op) (hnd : nS op + 20 ≤ nd) : ∀ (f : Nat) (w : Int32) (p : S_Parser) (t : S_Tree) (r : S_Parser × S_Tree), CK m kd pl vl i0 p (WST kd vl l0 idx t i0 0 op b (QK nn nd (op ≤ 60))) → f_Parser_caseStatement_L34 fb (Jn idx) (Jn m, ar, kd, pl, vl) f w p t = some r → CK m kd pl vl i0 r.1 (WST kd vl l0 idx r.2 i0 0 op b (QK nn nd (op ≤ 60))) := by
  intro f
  induction f with
  | zero => intro w p t r _ e; exact absurd e (by unfold f_Parser_caseStatement_L34; simp)
  | succ f ih =>
    intro w p t r hc e
    unfold f_Parser_caseStatement_L34 at e
    split at e
    · injection e with e; subst e; exact hc
    · obtain ⟨s, es, e⟩ := unb e
      split at e
      · injection e with e; subst e; exact hc
      next c0 =>
        obtain ⟨⟨n, t1⟩, e1, e⟩ := unb e
        obtain ⟨r2, e2, e⟩ := unb e
        obtain ⟨p3, e3, e⟩ := unb e
        obtain ⟨r4, e4, e⟩ := unb e
        rw [nm_eq] at e
        refine ih _ _ _ _ ?_ e
        dsimp only at e2 e4
        unfold f_Parser_ranges at e2
        obtain ⟨r2', e2', e2⟩ := unb e2
        injection e2 with e2
        subst e2
        dsimp only at e3 e4
        have s4 : CK m kd pl vl i0 r4.1 (WST kd vl l0 idx r4.2 i0 0 op b (fun ts X => ∃ ts0 X0 k p v c, QK nn nd (op ≤ 60) ts0 X0 ∧ k = 17 ∧ goodF nn (one k p v c) ∧ needF (one k p v c) ≤ nd ∧ ts = ts0.app (one k p v c) ∧ X = X0 ++ innT k v c)) := by
          rcases hc with ⟨j, td, hd⟩ | ⟨i, sg1, op1, hi, hs, w1, w2, ts, X, w3, w4, w5, w6⟩
          · -- a lost parser begins no choice
            exfalso
            rw [dm_startsConstant hd] at es
            injection es with es
            exact c0 es.symm
          · subst w1; subst w2
            obtain ⟨_, _, ⟨_, _, _, _, _, H⟩, _⟩ := id w5
            obtain ⟨hn, s1⟩ := ws_down h hs w3 w6 (by omega) e1
            rw [hn] at e2' e4
            have s2 := rangesL_ck h tv (by omega) FU 0 1 _ _ _ (fun z => absurd z (by decide)) (ws_conv s1 (Int.le_refl _) (by
              rintro ts' X' ⟨z1, z2⟩
              subst z1; subst z2
              exact ⟨[], ⟨trivial, by rw [needF]; omega, fun k hk => absurd hk List.not_mem_nil, rfl, Or.inr ⟨fun _ => rfl, by rw [tkF]; rfl⟩⟩, List.Sublist.refl _⟩)) e2'
            have s3 := ws_take h s2 (by decide) (by decide) (by decide) e3
            have s4 := ws_one (nn := nn) s3 e4 (fun i ts hs ha hl => hfb H _ _ _ _ _ _ _ _ hs ha hl (by omega) e4) (fun i td hd => ⟨r4, e4, hdb _ _ i td _ _ hd e4⟩)
            have s5 := ws_up (nn := nn) (nd := nd) (P := fun k => k = 17) (k := 17) w3.1 s4 (show _ ≤ b by omega) rfl (by
              rintro c X5 ⟨ts2, X2, k2, pp2, v2, c2, ⟨X3, ⟨q1, q2, q3, q4, q5⟩, q6⟩, x1, x2, x3, x4, x5⟩
              subst x4; subst x5; subst q6; subst q5; subst x1
              obtain ⟨k0, l, hl⟩ : ∃ k0 l, ts2.ks = k0 :: l := by
                cases ts2 with
                | leaf => exact absurd rfl q4
                | inner p k v c r => exact ⟨_, _, rfl⟩
              have hl17 : ∀ x, x ∈ k0 :: l → x ≠ 11 := by
                intro x hx
                rw [q3 x (by rw [hl]; exact hx)]; decide
              refine ⟨?_, goodF_app q1 x2, ?_, ?_⟩
              · rw [FO.ks_app, hl]
                exact LOC.choice k0 (l ++ [11]) (hl17 k0 List.mem_cons_self) (by have := lastP_else (z := 11) (l := k0 :: l) hl17; rw [List.cons_append] at this; exact this)
              · have : nk 17 = 10 := by decide
                have hn7 : 720 + 20 ≤ nd := by unfold nS at hnd; omega
                rw [needF_app]; omega
              · have sp : sepT 17 0 ts2.len 11 = [(58, 0)] := by simp (decide := true) [sepT, sepc, sgT]
                have e1 : begT 17 0 = [] := by decide
                have e2 : ∀ n, finT 17 n = [] := by intro n; simp (decide := true) [finT, lstc, sgT, semi]
                rw [innT_app, tk_snoc (by decide) (by decide), e1, e2, sp]
                simp only [List.nil_append, List.append_nil, List.append_assoc]
                exact List.Sublist.refl _)
            refine (s5.at hi).mono ?_
            rintro i' sg2 op2 _ hs' ⟨v1, v2, k, pp, v, c, v3, v4, v5, v6, v7, v8⟩
            exact ⟨v1, v2, _, _, v3, w4.app v7, ⟨ts, X, k, pp, v, c, w5, v4, v5, v6, rfl, rfl⟩, v8⟩
        refine ws_conv s4 (Int.le_refl _) ?_
        rintro ts X ⟨ts0, X0, k, pp, v, c, ⟨q1, q2, ⟨k0, l, hks, h1, h2, H⟩, q4⟩, y1, y2, y3, y4, y5⟩
        subst y4; subst y5; subst y1; subst q4
        have hlen : ts0.len = l.length + 1 := by rw [← FO.ks_len, hks, List.length_cons]
        refine ⟨_, ⟨goodF_app q1 y2, by rw [needF_app]; omega, ⟨k0, l ++ [17], by rw [FO.ks_app, hks]; rfl, h1, ?_, H⟩, rfl⟩, ?_⟩
        · intro x hx
          rcases List.mem_append.mp hx with z | z
          · exact h2 x z
          · exact List.mem_singleton.mp z
        · rw [tk_snoc (by decide) (by decide), FO.len_app, if_neg (show ¬ (ts0.len + (one 17 pp v c).len = 1) by rw [show (one 17 pp v c).len = 1 from rfl]; omega)]
          by_cases c1 : ts0.len = 1
          · have sp : sepT 16 0 ts0.len 17 = [(271, 0)] := by rw [c1]; decide
            rw [if_pos c1, sp]
            simp only [List.append_nil, List.append_assoc]
            exact List.Sublist.refl _
          · have sp : sepT 16 0 ts0.len 17 = [] := by simp (decide := true) [sepT, sepc, sgT, c1]
            rw [if_neg c1, sp]
            simp only [List.append_nil, List.nil_append, List.append_assoc]
            exact List.Sublist.refl _
theorem case_ck (h : LX C mX m kd pl vl Ls) (tv : TV m kd vl nn) {fb : S_Parser → S_Tokens → S_Tree → Int32 → Option (S_Parser × S_Tree)} (hdb : DSP m ar kd pl vl fb) {l0 : List E4} {idx : Nat} {ts : FO} {t : S_Tree} {p : S_Parser} {i op : Nat} {b : Int} {r : S_Parser × S_Tree} (hfb : op + 1 ≤ 60 → BSP m ar kd pl vl nn fb (op + 1)) (hs : SP m kd pl vl p i 0 op) (hop : op ≤ 60) (ha : AT l0 idx ts t) (hl : (atL l0 ts : Int) ≤ 2 * i + b) (hb : b ≤ 8) (hk : p.2.1 = 277) (e : f_Parser_caseStatement fb p (Jn m, ar, kd, pl, vl) t (Jn idx) = some r) : CK m kd pl vl i r.1 (R1S kd vl l0 idx ts r.2 i op b nn) := by
  unfold f_Parser_caseStatement at e
  obtain ⟨⟨n, t1⟩, e1, e⟩ := unb e
  obtain ⟨p2, e2, e⟩ := unb e
  obtain ⟨r3, e3, e⟩ := unb e
  obtain ⟨p4, e4, e⟩ := unb e
  obtain ⟨r5, e5, e⟩ := unb e
  obtain ⟨hn, s2⟩ := ws_node (nn := nn) (nd := nS (op + 1) + 20) h hs ha hl (by omega) hk (by decide) (by decide) hop e1 e2
  dsimp only at e3 e5 e
  rw [hn] at e3 e5 e
  have s3 := ws_chl (nn := nn) (S' := fun ks => ∃ k, ks = [k] ∧ k ≠ 11 ∧ op + 1 ≤ 60) (by decide) (ws_plain s2) e3 (show 700 ≤ _ by unfold nS; omega) (fun i ts hS hs ha hl => outer_ck h tv hs hS.2 ha hl (by omega) e3) (fun i td hd => dm_outermost hd _ _ _) (by
    rintro ts k ⟨hks, _⟩ hP
    have hlen : ts.len = 0 := by rw [← FO.ks_len, hks]; rfl
    have := hP.n11
    rw [hlen]
    simp (decide := true) [sepT, sepc, sgT, this]) (by
    rintro ks k ⟨hks, H⟩ hP
    exact ⟨k, by rw [hks]; rfl, hP.n11, H⟩)
  have s4 := ws_take h s3 (by decide) (by decide) (by decide) e4
  have s5 := caseL_ck h tv hdb (b := b - 2) (by omega) hfb (Nat.le_refl _) FU _ _ _ _ (ws_conv s4 (by omega) (by
    rintro ts' X ⟨X0, ⟨q1, q2, ⟨k, hks, h1, H⟩, q4⟩, q5⟩
    subst q5; subst q4
    refine ⟨_, ⟨q1, q2, ⟨k, [], hks, h1, fun x hx => absurd hx List.not_mem_nil, H⟩, rfl⟩, ?_⟩
    have hlen : ts'.len = 1 := by rw [← FO.ks_len, hks]; rfl
    rw [if_pos hlen]
    exact List.Sublist.refl _)) e5
  have fin : ∀ (q : S_Parser) (t8 : S_Tree) (q2 : S_Parser), CK m kd pl vl i q (WST kd vl (nx l0 idx ts (16, p.2.2.1, 0, 0)) (atL l0 ts) t8 i 0 (op + 1) (b - 1) (fun ts X => goodF nn ts ∧ needF ts ≤ nS (op + 1) + 20 ∧ (∃ k l, ts.ks = k :: l ∧ k ≠ 11 ∧ lastP l ∧ op + 1 ≤ 60) ∧ X = [(277, 0)] ++ tkF 16 0 0 ts ++ (if ts.len = 1 then [(271, 0)] else []))) → f_Parser_takeClosing q (Jn m, ar, kd, pl, vl) 278 = some q2 → CK m kd pl vl i q2 (R1S kd vl l0 idx ts t8 i op b nn) := by
    intro q t8 q2 s8 e8
    have s9 := ws_close h s8 (by decide) (by decide) (by decide) e8
    refine ws_upS ha.1 s9 (by omega) ?_
    rintro c X ⟨X0, ⟨q1, q2, ⟨k, l, hks, h1, h2, H⟩, q4⟩, q5⟩
    subst q5; subst q4
    refine ⟨by rw [hks]; exact LOC.case _ _ h1 h2, q1, ?_, ?_⟩
    · have : nk 16 = 10 := by decide
      unfold nS at q2 ⊢; omega
    · have e1 : begT 16 0 = [(277, 0)] := by decide
      rw [innT_app, e1]
      by_cases c1 : c.len = 1
      · have e2 : finT 16 c.len = [(271, 0), (278, 0), (59, 0)] := by simp (decide := true) [finT, lstc, sgT, semi, c1]
        rw [if_pos c1, e2]
        simp only [List.append_assoc, List.cons_append, List.nil_append]
      · have e2 : finT 16 c.len = [(278, 0), (59, 0)] := by simp (decide := true) [finT, lstc, sgT, semi, c1]
        rw [if_neg c1, e2]
        simp only [List.append_assoc, List.cons_append, List.nil_append]
  split at e
  · obtain ⟨p7, e7, e⟩ := unb e
    obtain ⟨r8, e8, e⟩ := unb e
    obtain ⟨p9, e9, e⟩ := unb e
    injection e with e
    subst e
    have s7 := ws_take h s5 (by decide) (by decide) (by decide) e7
    have s8 : CK m kd pl vl i r8.1 (WST kd vl (nx l0 idx ts (16, p.2.2.1, 0, 0)) (atL l0 ts) r8.2 i 0 (op + 1) (b - 2 - 2 + 1) (Q1 nn (nS (op + 1) + 10) (fun k => k = 11) (QT (QK nn (nS (op + 1) + 20) (op + 1 ≤ 60)) 275))) := by
      rcases s7 with ⟨j, td, hd⟩ | ⟨i7, sg7, op7, y1, y2, y3⟩
      · exact Or.inl ⟨j, td, hdb _ _ j td _ _ hd e8⟩
      · obtain ⟨_, _, ts7, X7, _, _, ⟨_, ⟨_, _, ⟨_, _, _, _, _, H⟩, _⟩, _⟩, _⟩ := id y3
        exact ws_one (nn := nn) (Or.inr ⟨i7, sg7, op7, y1, y2, y3⟩) e8 (fun i ts hs ha hl => hfb H _ _ _ _ _ _ _ _ hs ha hl (by omega) e8) (fun i td hd => ⟨r8, e8, hdb _ _ i td _ _ hd e8⟩)
    refine fin r8.1 r8.2 p9 (ws_conv s8 (by omega) ?_) e9
    rintro ts' X ⟨ts0, X0, k, pp, v, c, ⟨X1, ⟨q1, q2, ⟨k0, l, hks, h1, h2, H⟩, q4⟩, q5⟩, y1, y2, y3, y4, y5⟩
    subst y4; subst y5; subst y1; subst q5; subst q4
    have hlen : ts0.len = l.length + 1 := by rw [← FO.ks_len, hks, List.length_cons]
    refine ⟨_, ⟨goodF_app q1 y2, by rw [needF_app]; omega, ⟨k0, l ++ [11], by rw [FO.ks_app, hks]; rfl, h1, lastP_else (fun x hx => by rw [h2 x hx]; decide), H⟩, rfl⟩, ?_⟩
    rw [tk_snoc (by decide) (by decide), FO.len_app, if_neg (show ¬ (ts0.len + (one 11 pp v c).len = 1) by rw [show (one 11 pp v c).len = 1 from rfl]; omega)]
    by_cases c1 : ts0.len = 1
    · have sp : sepT 16 0 ts0.len 11 = [(271, 0), (275, 0)] := by rw [c1]; decide
      rw [if_pos c1, sp]
      simp only [List.append_nil, List.append_assoc, List.cons_append, List.nil_append]
      exact List.Sublist.refl _
    · have sp : sepT 16 0 ts0.len 11 = [(275, 0)] := by simp (decide := true) [sepT, sepc, sgT, c1]
      rw [if_neg c1, sp]
      simp only [List.append_nil, List.nil_append, List.append_assoc]
      exact List.Sublist.refl _
  · obtain ⟨p9, e9, e⟩ := unb e
    injection e with e
    subst e
    refine fin r5.1 r5.2 p9 (ws_conv s5 (by omega) ?_) e9
    rintro ts' X ⟨q1, q2, ⟨k0, l, hks, h1, h2, H⟩, q4⟩
    exact ⟨X, ⟨q1, q2, ⟨k0, l, hks, h1, lastP_17 h2, H⟩, q4⟩, List.Sublist.refl _⟩
end
end
section
/-! FOR, invocations, statements, bodies: their trees. -/
section
variable {C : S_MC} {mX : S_MX} {m : Nat} {ar : Int32} {kd pl vl : Nat → Int32} {Ls : Nat → S_ML × S_MN} {nn : Nat}
theorem for_ck (h : LX C mX m kd pl vl Ls) (tv : TV m kd vl nn) {fb : S_Parser → S_Tokens → S_Tree → Int32 → Option (S_Parser × S_Tree)} (hdb : DSP m ar kd pl vl fb) {l0 : List E4} {idx : Nat} {ts : FO} {t : S_Tree} {p : S_Parser} {i op : Nat} {b : Int} {r : S_Parser × S_Tree} (hfb : op + 1 ≤ 60 → BSP m ar kd pl vl nn fb (op + 1)) (hs : SP m kd pl vl p i 0 op) (hop : op ≤ 60) (ha : AT l0 idx ts t) (hl : (atL l0 ts : Int) ≤ 2 * i + b) (hb : b ≤ 8) (hk : p.2.1 = 279) (e : f_Parser_forStatement fb p (Jn m, ar, kd, pl, vl) t (Jn idx) = some r) : CK m kd pl vl i r.1 (R1S kd vl l0 idx ts r.2 i op b nn) := by
  have hm := h.2.2.2.2.2
  have hi := hs.1
  unfold f_Parser_forStatement at e
  obtain ⟨p1, e1, e⟩ := unb e
  obtain ⟨⟨nv, p2⟩, e2, e⟩ := unb e
  obtain ⟨⟨n, t3⟩, e3, e⟩ := unb e
  obtain ⟨p4, e4, e⟩ := unb e
  obtain ⟨r5, e5, e⟩ := unb e
  obtain ⟨p6, e6, e⟩ := unb e
  obtain ⟨r7, e7, ez⟩ := unb e
  unfold f_Parser_takeName at e2
  obtain ⟨p2', e2', e2⟩ := unb e2
  injection e2 with e2
  injection e2 with ea eb
  subst eb
  dsimp only at e3 e4 e5 e7 ez
  obtain ⟨hn, ha3⟩ := ha.down (by omega) e3
  rw [hn] at e5 e7 ez
  have ck : kd i = 279 := by rw [← hs.kind.1]; exact hk
  have t0 := SubT.tok (kd := kd) (vl := vl) i
  rw [ck, show nzT 279 (vl i) = (279, 0) from by simp (decide := true) [nzT]] at t0
  have s1 := ck_open h hs (by rw [ck]; decide) (by omega) e1
  have s2 : CK m kd pl vl i p2' (WST kd vl (nx l0 idx ts (19, p.2.2.1, nv, 0)) (atL l0 ts) t3 i 0 (op + 1) (b - 3) (fun ts' X' => ts' = FO.nil ∧ X' = [(279, 0), (1, nv)] ∧ nmd nn nv ∧ op + 1 ≤ 60)) := by
    refine s1.seq (fun q => q) e2' ?_ (fun i td hd => dm_take hd _ 1 (by decide))
    rintro i1 sg1 op1 hi1 hs1 ⟨y1, y2, y3, y4⟩
    subst y1; subst y2; subst y3
    refine (ck_take h hs1 (by decide) e2').mono ?_
    rintro i2 sg2 op2 hi2 hs2 ⟨z1, z2, z3, z4, _⟩
    subst z1; subst z2; subst z3
    have hv : nv = vl (i + 1) := by rw [← ea, hs1.kind.2.2]
    refine ⟨rfl, rfl, FO.nil, _, ha3, ?_, ⟨rfl, rfl, ?_, by omega⟩, ?_⟩
    · have := t0.snoc
      rw [z4, show nzT 1 (vl (i + 1)) = (1, vl (i + 1)) from by simp (decide := true) [nzT], ← hv] at this
      exact this
    · rw [hv]; exact (tv (i + 1) hs1.1).1 z4
    · rw [atL_nx]
      simp only [FO.flat, List.length_nil]; omega
  have s4 := ws_take h s2 (by decide) (by decide) (by decide) e4
  have s4' : CK m kd pl vl i p4 (WST kd vl (nx l0 idx ts (19, p.2.2.1, nv, 0)) (atL l0 ts) t3 i 0 (op + 1) (b - 5) (QC nn (nS (op + 1) + 10) 19 nv [(279, 0), (1, nv), (14909, 0)] (fun ks => ks = [] ∧ nmd nn nv ∧ op + 1 ≤ 60))) := ws_conv s4 (by omega) (by
    rintro ts' X ⟨X0, ⟨z1, z2, z3, z4⟩, z5⟩
    subst z1; subst z2; subst z5
    exact ⟨_, ⟨trivial, by rw [needF]; omega, ⟨rfl, z3, z4⟩, rfl⟩, by rw [tkF]; exact List.Sublist.refl _⟩)
  have n10 : 10 ≤ nS (op + 1) + 10 := by omega
  have s5 := ws_chl (nn := nn) (S' := fun ks => ∃ a, ks = [a] ∧ a ≠ 11 ∧ nmd nn nv ∧ op + 1 ≤ 60) (by decide) (ws_plain s4') e5 n10 (fun i ts hS hs ha hl => constant_ck h tv hs ha hl (by omega) e5) (fun i td hd => dm_constant hd _ _ _) (by
    rintro ts k ⟨hks, _⟩ hP
    have hlen : ts.len = 0 := by rw [← FO.ks_len, hks]; rfl
    have := hP.n11
    rw [hlen]
    simp (decide := true) [sepT, sepc, sgT, this]) (by
    rintro ks k ⟨hks, H⟩ hP
    exact ⟨k, by rw [hks]; rfl, hP.n11, H⟩)
  have s6 := ws_take h s5 (by decide) (by decide) (by decide) e6
  have s7 := ws_chl (nn := nn) (S' := fun ks => ∃ a b, ks = [a, b] ∧ a ≠ 11 ∧ b ≠ 11 ∧ nmd nn nv ∧ op + 1 ≤ 60) (by decide) s6 e7 n10 (fun i ts hS hs ha hl => constant_ck h tv hs ha hl (by omega) e7) (fun i td hd => dm_constant hd _ _ _) (by
    rintro ts k ⟨a, hks, _⟩ hP
    have hlen : ts.len = 1 := by rw [← FO.ks_len, hks]; rfl
    have := hP.n11
    rw [hlen]
    simp (decide := true) [sepT, sepc, sgT, this]) (by
    rintro ks k ⟨a, hks, h1, H⟩ hP
    exact ⟨a, k, by rw [hks]; rfl, h1, hP.n11, H⟩)
  -- DO, the body, END_FOR
  have fin : ∀ (S : List Int32 → Prop) (q : S_Parser) (t8 : S_Tree), (∀ ks, S ks → (∃ a b, ks = [a, b] ∧ a ≠ 11 ∧ b ≠ 11 ∧ nmd nn nv ∧ op + 1 ≤ 60) ∨ (∃ a b c, ks = [a, b, c] ∧ a ≠ 11 ∧ b ≠ 11 ∧ c ≠ 11 ∧ nmd nn nv ∧ op + 1 ≤ 60)) → CK m kd pl vl i q (WST kd vl (nx l0 idx ts (19, p.2.2.1, nv, 0)) (atL l0 ts) t8 i 0 (op + 1) (b - 5) (QC nn (nS (op + 1) + 10) 19 nv [(279, 0), (1, nv), (14909, 0)] S)) →
      ((f_Parser_take q (Jn m, ar, kd, pl, vl) 282).bind fun r9 => (fb r9 (Jn m, ar, kd, pl, vl) t8 (Jn (atL l0 ts))).bind fun r10 => (f_Parser_takeClosing r10.1 (Jn m, ar, kd, pl, vl) 283).bind fun r11 => some (r11, r10.2)) = some r → CK m kd pl vl i r.1 (R1S kd vl l0 idx ts r.2 i op b nn) := by
    intro S q t8 hSS s8 e
    obtain ⟨p9, e9, e⟩ := unb e
    obtain ⟨r10, e10, e⟩ := unb e
    obtain ⟨p11, e11, e⟩ := unb e
    injection e with e
    subst e
    have hH : ∀ ks, S ks → op + 1 ≤ 60 := by
      intro ks hks
      rcases hSS ks hks with ⟨_, _, _, _, _, _, H⟩ | ⟨_, _, _, _, _, _, _, _, H⟩
      · exact H
      · exact H
    have s9 := ws_take h s8 (by decide) (by decide) (by decide) e9
    have s10 := ws_chl (nn := nn) (S' := fun ks => op + 1 ≤ 60 ∧ ((∃ a b, ks = [a, b, 11] ∧ a ≠ 11 ∧ b ≠ 11 ∧ nmd nn nv) ∨ (∃ a b c, ks = [a, b, c, 11] ∧ a ≠ 11 ∧ b ≠ 11 ∧ c ≠ 11 ∧ nmd nn nv))) (by decide) s9 e10 (Nat.le_refl _) (fun i ts hS hs ha hl => hfb (hH _ hS) _ _ _ _ _ _ _ _ hs ha hl (by omega) e10) (fun i td hd => ⟨r10, e10, hdb _ _ i td _ _ hd e10⟩) (by
      rintro ts k hS hP
      rw [hP]
      simp (decide := true) [sepT, sepc, sgT]) (by
      rintro ks k hS hP
      refine ⟨hH ks hS, ?_⟩
      rcases hSS ks hS with ⟨a, b, hks, h1, h2, h3, _⟩ | ⟨a, b, c, hks, h1, h2, h3, h4, _⟩
      · exact Or.inl ⟨a, b, by rw [hks, hP]; rfl, h1, h2, h3⟩
      · exact Or.inr ⟨a, b, c, by rw [hks, hP]; rfl, h1, h2, h3, h4⟩)
    have s11 := ws_close h s10 (by decide) (by decide) (by decide) e11
    have s11' : CK m kd pl vl i p11 (WST kd vl (nx l0 idx ts (19, p.2.2.1, nv, 0)) (atL l0 ts) r10.2 i 0 op (b - 8) _) := ws_conv s11 (by omega) (fun ts X hq => ⟨X, hq, List.Sublist.refl _⟩)
    refine ws_upS ha.1 s11' (by omega) ?_
    rintro c X ⟨X0, ⟨q1, q2, ⟨ho, q3⟩, q4⟩, q5⟩
    subst q5; subst q4
    refine ⟨?_, q1, ?_, ?_⟩
    · rcases q3 with ⟨a, b, hks, h1, h2, h3⟩ | ⟨a, b, cc, hks, h1, h2, h3, h4⟩
      · rw [hks]; exact LOC.for3 _ _ _ h3 h1 h2
      · rw [hks]; exact LOC.for4 _ _ _ _ h4 h1 h2 h3
    · have : nk 19 = 12 := by decide
      unfold nS at q2 ⊢; omega
    · have e1 : begT 19 nv = [(279, 0), (1, nv), (14909, 0)] := by simp (decide := true) [begT, fstc, nxtc, sgT, bears]
      have e2 : ∀ n, finT 19 n = [(283, 0), (59, 0)] := by intro n; simp (decide := true) [finT, lstc, sgT, semi]
      rw [innT_app, e1, e2]
      simp only [List.append_assoc, List.cons_append, List.nil_append]
  split at ez
  · obtain ⟨p8, e8, ez⟩ := unb ez
    obtain ⟨r9, e9, ez⟩ := unb ez
    have s8 := ws_take h s7 (by decide) (by decide) (by decide) e8
    have s9 := ws_chl (nn := nn) (S' := fun ks => ∃ a b c, ks = [a, b, c] ∧ a ≠ 11 ∧ b ≠ 11 ∧ c ≠ 11 ∧ nmd nn nv ∧ op + 1 ≤ 60) (by decide) s8 e9 n10 (fun i ts hS hs ha hl => constant_ck h tv hs ha hl (by omega) e9) (fun i td hd => dm_constant hd _ _ _) (by
      rintro ts k ⟨a, b, hks, _⟩ hP
      have hlen : ts.len = 2 := by rw [← FO.ks_len, hks]; rfl
      have := hP.n11
      rw [hlen]
      simp (decide := true) [sepT, sepc, sgT, this]) (by
      rintro ks k ⟨a, b, hks, h1, h2, H⟩ hP
      exact ⟨a, b, k, by rw [hks]; rfl, h1, h2, hP.n11, H⟩)
    exact fin _ r9.1 r9.2 (fun ks hS => Or.inr hS) (ws_conv s9 (by omega) (fun ts X hq => ⟨X, hq, List.Sublist.refl _⟩)) ez
  · exact fin _ r7.1 r7.2 (fun ks hS => Or.inl hS) (ws_conv s7 (by omega) (fun ts X hq => ⟨X, hq, List.Sublist.refl _⟩)) ez
end
end
