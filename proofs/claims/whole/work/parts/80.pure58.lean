section
/-! Leaves, types, declarations, sections: their trees. -/
def TV (m : Nat) (kd vl : Nat → Int32) (nn : Nat) : Prop := ∀ i, i < m → (kd i = 1 → nmd nn (vl i)) ∧ (kd i = 2 → ∃ a : Nat, a < 2147483648 ∧ vl i = Jn a) ∧ (kd i = 3 → ∃ a : Nat, vl i = Jn a ∧ a < 1536)
/-- one tree was put -/
def R1 (kd vl : Nat → Int32) (l0 : List E4) (idx : Nat) (ts : FO) (t : S_Tree) (i0 sg op : Nat) (b : Int) (nn nd : Nat) (P : Int32 → Prop) (i' sg' op' : Nat) : Prop :=
  sg' = sg ∧ op' = op ∧ ∃ k p v c, AT l0 idx (ts.app (one k p v c)) t ∧ P k ∧ goodF nn (one k p v c) ∧ needF (one k p v c) ≤ nd ∧ SubT kd vl i0 i' (innT k v c) ∧ (atL l0 (ts.app (one k p v c)) : Int) ≤ 2 * i' + b
theorem atL_one (l0 : List E4) (ts : FO) (k p v : Int32) (c : FO) : atL l0 (ts.app (one k p v c)) = atL l0 ts + 1 + c.flat.length := by
  unfold atL
  rw [FO.flat_app, flat_one, List.length_append, List.length_cons]; omega
theorem atL_nx (l0 : List E4) (idx : Nat) (ts : FO) (e : E4) (c : FO) : atL (nx l0 idx ts e) c = atL l0 ts + 1 + c.flat.length := by
  unfold atL
  rw [nx_len]
theorem need_one (k p v : Int32) (c : FO) : needF (one k p v c) = nk k + needF c := by
  unfold one
  rw [needF, needF]; omega
section
variable {C : S_MC} {mX : S_MX} {m : Nat} {ar : Int32} {kd pl vl : Nat → Int32} {Ls : Nat → S_ML × S_MN} {nn : Nat}
theorem leaf_ck (h : LX C mX m kd pl vl Ls) {l0 : List E4} {idx : Nat} {ts : FO} {t t' : S_Tree} {p p' : S_Parser} {i sg op : Nat} {b : Int} {n k P v c : Int32} {Pk : Int32 → Prop} (hs : SP m kd pl vl p i sg op) (ha : AT l0 idx ts t) (hl : (atL l0 ts : Int) ≤ 2 * i + b) (hb : b ≤ 10) (e1 : f_Tree_add t (Jn idx) k P v = some (n, t')) (e2 : f_Parser_take p (Jn m, ar, kd, pl, vl) c = some p') (h4 : c ≠ 4) (hk : kd i = c → Pk k) (hloc : kd i = c → LOC nn k v []) (hT : kd i = c → innT k v FO.nil = [nzT (kd i) (vl i)]) (hnk : nk k ≤ 10) : CK m kd pl vl i p' (R1 kd vl l0 idx ts t' i sg op (b - 1) nn 10 Pk) := by
  have hm := h.2.2.2.2.2
  have hi := hs.1
  refine (ck_take h hs h4 e2).mono ?_
  rintro i' sg' op' _ hs' ⟨w1, w2, w3, w4, _⟩
  refine ⟨w2, w3, k, P, v, FO.nil, ha.leaf (by omega) e1, hk w4, good_one (hloc w4) trivial, by rw [need_one, needF]; omega, ?_, ?_⟩
  · rw [hT w4, w1]; exact SubT.tok i
  · rw [atL_one, w1]
    simp only [FO.flat, List.length_nil]; omega
theorem simple_ck (h : LX C mX m kd pl vl Ls) {l0 : List E4} {idx : Nat} {ts : FO} {t : S_Tree} {p : S_Parser} {i sg op : Nat} {b : Int} {r : S_Parser × S_Tree} (hs : SP m kd pl vl p i sg op) (ha : AT l0 idx ts t) (hl : (atL l0 ts : Int) ≤ 2 * i + b) (hb : b ≤ 10) (e : f_Parser_simpleType p (Jn m, ar, kd, pl, vl) t (Jn idx) = some r) : CK m kd pl vl i r.1 (R1 kd vl l0 idx ts r.2 i sg op (b - 1) nn 10 (fun k => k = 8)) := by
  obtain ⟨k1, k2, k3⟩ := hs.kind
  have key : ∀ c : Int32, (c = 267 ∨ c = 268 ∨ c = 269) → p.2.1 = c → ((f_Tree_add t (Jn idx) 8 p.2.2.1 (p.2.1 - 267)).bind fun r2 => (f_Parser_take p (Jn m, ar, kd, pl, vl) p.2.1).bind fun r3 => some (r3, r2.2)) = some r → CK m kd pl vl i r.1 (R1 kd vl l0 idx ts r.2 i sg op (b - 1) nn 10 (fun k => k = 8)) := by
    intro c hc hp e
    obtain ⟨⟨n, t'⟩, e1, e⟩ := unb e
    obtain ⟨p', e2, e⟩ := unb e
    injection e with e
    subst e
    rw [hp] at e1 e2
    refine leaf_ck h hs ha hl hb e1 e2 (by rcases hc with x | x | x <;> rw [x] <;> decide) (fun _ => rfl) (fun _ => ?_) (fun hk => ?_) (by decide)
    · rcases hc with x | x | x <;> subst x
      · exact LOC.type _ (Or.inl (by decide))
      · exact LOC.type _ (Or.inr (Or.inl (by decide)))
      · exact LOC.type _ (Or.inr (Or.inr (by decide)))
    · rw [hk]
      rcases hc with x | x | x <;> subst x <;> (simp (decide := true) [innT, begT, finT, fstc, nxtc, lstc, sgT, bears, semi, tkF, nzT])
  unfold f_Parser_simpleType at e
  by_cases c1 : p.2.1 = 267
  · rw [if_pos c1] at e
    exact key 267 (Or.inl rfl) c1 e
  rw [if_neg c1] at e
  by_cases c2 : p.2.1 = 268
  · rw [if_pos c2] at e
    exact key 268 (Or.inr (Or.inl rfl)) c2 e
  rw [if_neg c2] at e
  by_cases c3 : p.2.1 = 269
  · rw [if_pos c3] at e
    exact key 269 (Or.inr (Or.inr rfl)) c3 e
  rw [if_neg c3] at e
  injection e with e
  subst e
  obtain ⟨hi, h5, pb, fq, rfl, hpb⟩ := hs
  exact Or.inl ⟨i, 0, rfl, Or.inr rfl, rfl⟩
theorem literal_ck (h : LX C mX m kd pl vl Ls) (tv : TV m kd vl nn) {l0 : List E4} {idx : Nat} {ts : FO} {t : S_Tree} {p : S_Parser} {i sg op : Nat} {b : Int} {r : S_Parser × S_Tree} (hs : SP m kd pl vl p i sg op) (ha : AT l0 idx ts t) (hl : (atL l0 ts : Int) ≤ 2 * i + b) (hb : b ≤ 10) (e : f_Parser_literal p (Jn m, ar, kd, pl, vl) t (Jn idx) = some r) : CK m kd pl vl i r.1 (R1 kd vl l0 idx ts r.2 i sg op (b - 1) nn 10 CONK) := by
  obtain ⟨k1, k2, k3⟩ := hs.kind
  have hi := hs.1
  unfold f_Parser_literal at e
  by_cases c1 : p.2.1 = 2
  · rw [if_pos c1] at e
    obtain ⟨⟨n, t'⟩, e1, e⟩ := unb e
    obtain ⟨p', e2, e⟩ := unb e
    injection e with e
    subst e
    rw [k3] at e1
    have ck : kd i = 2 := by rw [← k1]; exact c1
    obtain ⟨a, ha1, ha2⟩ := (tv i hi).2.1 ck
    refine leaf_ck h hs ha hl hb e1 e2 (by decide) (fun _ => Or.inl rfl) (fun _ => LOC.num _ ⟨a, ha1, Or.inl ha2⟩) (fun _ => ?_) (by decide)
    rw [ck]
    have : ¬ vl i < 0 := by rw [ha2]; exact J_nneg ha1
    simp (decide := true) [innT, begT, finT, fstc, nxtc, lstc, sgT, bears, semi, tkF, nzT, numT, this]
  rw [if_neg c1] at e
  have tr : ∀ (c v : Int32), ((c = 291 ∧ v = 1) ∨ (c = 292 ∧ v = 0)) → p.2.1 = c → ∀ p' n t', f_Tree_add t (Jn idx) 31 p.2.2.1 v = some (n, t') → f_Parser_take p (Jn m, ar, kd, pl, vl) p.2.1 = some p' → CK m kd pl vl i p' (R1 kd vl l0 idx ts t' i sg op (b - 1) nn 10 CONK) := by
    intro c v hc hp p' n t' e1 e2
    rw [hp] at e2
    refine leaf_ck h hs ha hl hb e1 e2 (by rcases hc with ⟨x, _⟩ | ⟨x, _⟩ <;> rw [x] <;> decide) (fun _ => Or.inr rfl) (fun _ => LOC.truth _ (by rcases hc with ⟨_, x⟩ | ⟨_, x⟩ <;> rw [x] <;> decide)) (fun hk => ?_) (by decide)
    rw [hk]
    rcases hc with ⟨x, y⟩ | ⟨x, y⟩ <;> subst x <;> subst y <;> (simp (decide := true) [innT, begT, finT, fstc, nxtc, lstc, sgT, bears, semi, tkF, nzT])
  by_cases c2 : p.2.1 = 291
  · rw [if_pos c2] at e
    by_cases c3 : p.2.1 = 291
    · rw [if_pos c3] at e
      obtain ⟨⟨n, t'⟩, e1, e⟩ := unb e
      obtain ⟨p', e2, e⟩ := unb e
      injection e with e
      subst e
      exact tr 291 1 (Or.inl ⟨rfl, rfl⟩) c2 p' n t' e1 e2
    · exact absurd c2 c3
  rw [if_neg c2] at e
  by_cases c4 : p.2.1 = 292
  · rw [if_pos c4] at e
    by_cases c3 : p.2.1 = 291
    · exact absurd c3 c2
    · rw [if_neg c3] at e
      obtain ⟨⟨n, t'⟩, e1, e⟩ := unb e
      obtain ⟨p', e2, e⟩ := unb e
      injection e with e
      subst e
      exact tr 292 0 (Or.inr ⟨rfl, rfl⟩) c4 p' n t' e1 e2
  rw [if_neg c4] at e
  injection e with e
  subst e
  obtain ⟨hi, h5, pb, fq, rfl, hpb⟩ := hs
  exact Or.inl ⟨i, 0, rfl, Or.inr rfl, rfl⟩
theorem neg_lt {a : Nat} (ha : a < 2147483648) (h0 : 0 < a) : -(Jn a) < 0 := by
  rw [Int32.lt_iff_toInt_lt, Int32.toInt_neg, Jn_int ha]
  have e : ((-(a : Int))).bmod (2 ^ 32) = -(a : Int) := by
    rw [Int.bmod_eq_of_le] <;> omega
  rw [e]
  show -(a : Int) < 0
  omega
theorem constant_ck (h : LX C mX m kd pl vl Ls) (tv : TV m kd vl nn) {l0 : List E4} {idx : Nat} {ts : FO} {t : S_Tree} {p : S_Parser} {i sg op : Nat} {b : Int} {r : S_Parser × S_Tree} (hs : SP m kd pl vl p i sg op) (ha : AT l0 idx ts t) (hl : (atL l0 ts : Int) ≤ 2 * i + b) (hb : b ≤ 10) (e : f_Parser_constant p (Jn m, ar, kd, pl, vl) t (Jn idx) = some r) : CK m kd pl vl i r.1 (R1 kd vl l0 idx ts r.2 i sg op (b - 1) nn 10 CONK) := by
  have hm := h.2.2.2.2.2
  obtain ⟨k1, k2, k3⟩ := hs.kind
  have hi := hs.1
  unfold f_Parser_constant at e
  by_cases c1 : p.2.1 = 45
  · rw [if_pos c1] at e
    obtain ⟨p1, e1, e⟩ := unb e
    obtain ⟨⟨n, t'⟩, e2, e⟩ := unb e
    obtain ⟨p', e3, e⟩ := unb e
    injection e with e
    subst e
    have ck : kd i = 45 := by rw [← k1]; exact c1
    refine (ck_take h hs (by decide) e1).seq (fun q => q) e3 ?_ (fun i td hd => dm_take hd _ 2 (by decide))
    rintro i' sg' op' _ hs' ⟨w1, w2, w3, w4, _⟩
    subst w1; subst w2; subst w3
    refine (ck_take h hs' (by decide) e3).mono ?_
    rintro i2 sg2 op2 _ hs2 ⟨v1, v2, v3, v4, _⟩
    obtain ⟨a, ha1, ha2⟩ := (tv _ hs'.1).2.1 v4
    have e3v : p1.2.2.2.1 = Jn a := by rw [hs'.kind.2.2, ha2]
    rw [e3v] at e2
    refine ⟨v2, v3, 30, p.2.2.1, -(Jn a), FO.nil, ha.leaf (by omega) e2, Or.inl rfl, good_one (LOC.num _ ⟨a, ha1, Or.inr rfl⟩) trivial, by rw [need_one]; decide, ?_, ?_⟩
    · have t1 : SubT kd vl i (i + 1 + 1) [nzT (kd i) (vl i), nzT (kd (i + 1)) (vl (i + 1))] := (SubT.tok i).snoc
      rw [v1]
      refine t1.sub ?_
      rw [ck, v4, ha2]
      by_cases c0 : a = 0
      · subst c0
        have : innT 30 (-(Jn 0)) FO.nil = [(2, Jn 0)] := by decide
        rw [this]
        simp (decide := true) [nzT]
      · have hlt := neg_lt ha1 (by omega)
        have : innT 30 (-(Jn a)) FO.nil = [(45, 0), (2, Jn a)] := by
          simp (decide := true) [innT, begT, finT, fstc, nxtc, lstc, sgT, bears, semi, tkF, numT, hlt]
        rw [this]
        simp (decide := true) [nzT]
    · rw [atL_one, v1]
      simp only [FO.flat, List.length_nil]; omega
  · rw [if_neg c1] at e
    obtain ⟨r1, e1, e⟩ := unb e
    injection e with e
    subst e
    exact literal_ck h tv hs ha hl hb e1
theorem nameNode_ck (h : LX C mX m kd pl vl Ls) (tv : TV m kd vl nn) {l0 : List E4} {idx : Nat} {ts : FO} {t : S_Tree} {p : S_Parser} {i sg op : Nat} {b : Int} {r : S_Parser × S_Tree} (hs : SP m kd pl vl p i sg op) (ha : AT l0 idx ts t) (hl : (atL l0 ts : Int) ≤ 2 * i + b) (hb : b ≤ 10) (e : f_Parser_nameNode p (Jn m, ar, kd, pl, vl) t (Jn idx) = some r) : CK m kd pl vl i r.1 (R1 kd vl l0 idx ts r.2 i sg op (b - 1) nn 10 (fun k => k = 6)) := by
  obtain ⟨k1, k2, k3⟩ := hs.kind
  unfold f_Parser_nameNode at e
  obtain ⟨⟨n, t'⟩, e1, e⟩ := unb e
  obtain ⟨p', e2, e⟩ := unb e
  injection e with e
  subst e
  rw [k3] at e1
  refine leaf_ck h hs ha hl hb e1 e2 (by decide) (fun _ => rfl) (fun hk => LOC.name _ ((tv i hs.1).1 hk)) (fun hk => ?_) (by decide)
  rw [hk]; (simp (decide := true) [innT, begT, finT, fstc, nxtc, lstc, sgT, bears, semi, tkF, nzT])
/-- the state between two steps -/
def WST (kd vl : Nat → Int32) (l0 : List E4) (idx : Nat) (t : S_Tree) (i0 sg op : Nat) (b : Int) (Q : FO → List Tok → Prop) (i' sg' op' : Nat) : Prop :=
  sg' = sg ∧ op' = op ∧ ∃ ts X, AT l0 idx ts t ∧ SubT kd vl i0 i' X ∧ Q ts X ∧ (atL l0 ts : Int) ≤ 2 * i' + b
def QT (Q : FO → List Tok → Prop) (c : Int32) (ts : FO) (X : List Tok) : Prop := ∃ X0, Q ts X0 ∧ X = X0 ++ [(c, 0)]
def Q1 (nn nd : Nat) (P : Int32 → Prop) (Q : FO → List Tok → Prop) (ts : FO) (X : List Tok) : Prop := ∃ ts0 X0 k p v c, Q ts0 X0 ∧ P k ∧ goodF nn (one k p v c) ∧ needF (one k p v c) ≤ nd ∧ ts = ts0.app (one k p v c) ∧ X = X0 ++ innT k v c
theorem ws_begin {l0 : List E4} {idx : Nat} {ts : FO} {t : S_Tree} {p : S_Parser} {i sg op : Nat} {b : Int} (hs : SP m kd pl vl p i sg op) (ha : AT l0 idx ts t) (hl : (atL l0 ts : Int) ≤ 2 * i + b) : CK m kd pl vl i p (WST kd vl l0 idx t i sg op b (fun ts' X => ts' = ts ∧ X = [])) :=
  CK.ret hs ⟨rfl, rfl, ts, [], ha, SubT.nil (Nat.le_refl _), ⟨rfl, rfl⟩, hl⟩
theorem ws_down (h : LX C mX m kd pl vl Ls) {l0 : List E4} {idx : Nat} {ts : FO} {t t' : S_Tree} {n k P v : Int32} {p : S_Parser} {i sg op : Nat} {b : Int} (hs : SP m kd pl vl p i sg op) (ha : AT l0 idx ts t) (hl : (atL l0 ts : Int) ≤ 2 * i + b) (hb : b ≤ 10) (e : f_Tree_add t (Jn idx) k P v = some (n, t')) : n = Jn (atL l0 ts) ∧ CK m kd pl vl i p (WST kd vl (nx l0 idx ts (k, P, v, 0)) (atL l0 ts) t' i sg op (b + 1) (fun ts' X => ts' = FO.nil ∧ X = [])) := by
  have hm := h.2.2.2.2.2
  have hi := hs.1
  obtain ⟨h1, h2⟩ := ha.down (by omega) e
  refine ⟨h1, CK.ret hs ⟨rfl, rfl, FO.nil, [], h2, SubT.nil (Nat.le_refl _), ⟨rfl, rfl⟩, ?_⟩⟩
  rw [atL_nx]
  simp only [FO.flat, List.length_nil]; omega
theorem ws_take (h : LX C mX m kd pl vl Ls) {l0 : List E4} {idx : Nat} {t : S_Tree} {p p' : S_Parser} {i0 sg op : Nat} {b : Int} {Q : FO → List Tok → Prop} {c : Int32} (hc : CK m kd pl vl i0 p (WST kd vl l0 idx t i0 sg op b Q)) (h4 : c ≠ 4) (h5 : c ≠ 5) (hz : nzT c 0 = (c, 0) ∧ c ≠ 1 ∧ c ≠ 2 ∧ c ≠ 3) (e : f_Parser_take p (Jn m, ar, kd, pl, vl) c = some p') : CK m kd pl vl i0 p' (WST kd vl l0 idx t i0 sg op (b - 2) (QT Q c)) := by
  refine hc.seq (fun q => q) e ?_ (fun i td hd => dm_take hd _ c h5)
  rintro i sg' op' hi hs ⟨w1, w2, ts, X, w3, w4, w5, w6⟩
  subst w1; subst w2
  refine (ck_take h hs h4 e).mono ?_
  rintro i' sg2 op2 _ hs' ⟨v1, v2, v3, v4, _⟩
  refine ⟨v2, v3, ts, X ++ [(c, 0)], w3, ?_, ⟨X, w5, rfl⟩, by omega⟩
  have := w4.snoc
  have en : nzT (kd i) (vl i) = (c, 0) := by
    rw [v4, ← hz.1]
    unfold nzT
    rw [if_neg hz.2.1, if_neg hz.2.2.1, if_neg hz.2.2.2, if_neg hz.2.1, if_neg hz.2.2.1, if_neg hz.2.2.2]
  rw [en, ← v1] at this
  exact this
/-- a token that is not written -/
theorem ws_drop (h : LX C mX m kd pl vl Ls) {l0 : List E4} {idx : Nat} {t : S_Tree} {p p' : S_Parser} {i0 sg op : Nat} {b : Int} {Q : FO → List Tok → Prop} {c : Int32} (hc : CK m kd pl vl i0 p (WST kd vl l0 idx t i0 sg op b Q)) (h4 : c ≠ 4) (h5 : c ≠ 5) (e : f_Parser_take p (Jn m, ar, kd, pl, vl) c = some p') : CK m kd pl vl i0 p' (WST kd vl l0 idx t i0 sg op (b - 2) Q) := by
  refine hc.seq (fun q => q) e ?_ (fun i td hd => dm_take hd _ c h5)
  rintro i sg' op' hi hs ⟨w1, w2, ts, X, w3, w4, w5, w6⟩
  subst w1; subst w2
  refine (ck_take h hs h4 e).mono ?_
  rintro i' sg2 op2 _ hs' ⟨v1, v2, v3, v4, _⟩
  exact ⟨v2, v3, ts, X, w3, w4.ext (by omega), w5, by omega⟩
theorem ws_one {l0 : List E4} {idx : Nat} {t : S_Tree} {p : S_Parser} {i0 sg op nd : Nat} {b b' : Int} {Q : FO → List Tok → Prop} {P : Int32 → Prop} {F : Option (S_Parser × S_Tree)} {r : S_Parser × S_Tree} (hc : CK m kd pl vl i0 p (WST kd vl l0 idx t i0 sg op b Q)) (e : F = some r) (hs : ∀ i ts, SP m kd pl vl p i sg op → AT l0 idx ts t → (atL l0 ts : Int) ≤ 2 * i + b → CK m kd pl vl i r.1 (R1 kd vl l0 idx ts r.2 i sg op b' nn nd P)) (hd : ∀ i td, PD p i td → ∃ r', F = some r' ∧ PD r'.1 i td) : CK m kd pl vl i0 r.1 (WST kd vl l0 idx r.2 i0 sg op b' (Q1 nn nd P Q)) := by
  refine hc.seq (fun q => q.1) e ?_ hd
  rintro i sg' op' hi hsp ⟨w1, w2, ts, X, w3, w4, w5, w6⟩
  subst w1; subst w2
  refine (hs i ts hsp w3 w6).mono ?_
  rintro i' sg2 op2 _ hs' ⟨v1, v2, k, pp, v, c, v3, v4, v5, v6, v7, v8⟩
  exact ⟨v1, v2, _, _, v3, w4.app v7, ⟨ts, X, k, pp, v, c, w5, v4, v5, v6, rfl, rfl⟩, v8⟩
theorem ws_conv {l0 : List E4} {idx : Nat} {t : S_Tree} {p : S_Parser} {i0 sg op : Nat} {b b' : Int} {Q Q' : FO → List Tok → Prop} (hc : CK m kd pl vl i0 p (WST kd vl l0 idx t i0 sg op b Q)) (hb : b ≤ b') (hq : ∀ ts X, Q ts X → ∃ X', Q' ts X' ∧ X'.Sublist X) : CK m kd pl vl i0 p (WST kd vl l0 idx t i0 sg op b' Q') := by
  refine hc.mono ?_
  rintro i sg' op' _ _ ⟨w1, w2, ts, X, w3, w4, w5, w6⟩
  obtain ⟨X', q1, q2⟩ := hq ts X w5
  exact ⟨w1, w2, ts, X', w3, w4.sub q2, q1, by omega⟩
theorem ws_up {l0 : List E4} {idx : Nat} {ts : FO} {t : S_Tree} {p : S_Parser} {i sg op nd : Nat} {b b' : Int} {Q : FO → List Tok → Prop} {P : Int32 → Prop} {k pp v : Int32} (h0 : idx < l0.length) (hc : CK m kd pl vl i p (WST kd vl (nx l0 idx ts (k, pp, v, 0)) (atL l0 ts) t i sg op b Q)) (hb : b ≤ b') (hP : P k) (hq : ∀ c X, Q c X → LOC nn k v c.ks ∧ goodF nn c ∧ nk k + needF c ≤ nd ∧ (innT k v c).Sublist X) : CK m kd pl vl i p (R1 kd vl l0 idx ts t i sg op b' nn nd P) := by
  refine hc.mono ?_
  rintro i' sg' op' _ _ ⟨w1, w2, c, X, w3, w4, w5, w6⟩
  obtain ⟨q1, q2, q3, q4⟩ := hq c X w5
  refine ⟨w1, w2, k, pp, v, c, w3.up h0, hP, good_one q1 q2, by rw [need_one]; exact q3, w4.sub q4, ?_⟩
  rw [atL_nx] at w6
  rw [atL_one]; omega
theorem tk_snoc {K V : Int32} (h1 : K ≠ 35) (h2 : K ≠ 36) (ts : FO) (k p v : Int32) (c : FO) : tkF K V 0 (ts.app (one k p v c)) = tkF K V 0 ts ++ (sepT K V ts.len k ++ innT k v c) := by
  rw [tkF_app, Nat.zero_add, tkF_one (by
    rintro ⟨_, x | ⟨x, _⟩⟩
    · exact h2 x
    · exact h1 x)]
end
end
section
/-! Types, declarations, sections: their trees. -/
def QC (nn nd : Nat) (K V : Int32) (pre : List Tok) (S : List Int32 → Prop) (ts : FO) (X : List Tok) : Prop := goodF nn ts ∧ needF ts ≤ nd ∧ S ts.ks ∧ X = pre ++ tkF K V 0 ts
theorem QC.step {nn nd : Nat} {K V : Int32} {pre : List Tok} {S S' : List Int32 → Prop} {ts : FO} {X : List Tok} (h : QC nn nd K V pre S ts X) (h1 : K ≠ 35) (h2 : K ≠ 36) {k p v : Int32} {c : FO} (hg : goodF nn (one k p v c)) (hn : needF (one k p v c) ≤ nd) (hS : S' (ts.ks ++ [k])) {seps : List Tok} (hsep : sepT K V ts.len k = seps) : QC nn nd K V pre S' (ts.app (one k p v c)) (X ++ seps ++ innT k v c) := by
  obtain ⟨a1, a2, a3, a4⟩ := h
  refine ⟨goodF_app a1 hg, by rw [needF_app]; omega, by rw [FO.ks_app]; exact hS, ?_⟩
  rw [tk_snoc h1 h2, hsep, a4]
  simp only [List.append_assoc]
theorem sep_chain {K : Int32} (h : K = 0 ∨ K = 1 ∨ K = 2 ∨ K = 3 ∨ K = 4 ∨ K = 11 ∨ K = 22 ∨ K = 23 ∨ K = 24) (V : Int32) (i : Nat) (k : Int32) : sepT K V i k = [] := by
  unfold sepT sepc sgT
  rcases h with rfl | rfl | rfl | rfl | rfl | rfl | rfl | rfl | rfl <;> simp (decide := true)
theorem innT_app (k v : Int32) (c : FO) : innT k v c = begT k v ++ (tkF k v 0 c ++ finT k c.len) := rfl
theorem dmE {α : Type} {F : Option α} {b : α} {Pq : α → Prop} (h : ∃ b, F = some b ∧ Pq b) (e : F = some b) : Pq b := by
  obtain ⟨b', x1, x2⟩ := h
  rw [x1] at e
  injection e with e
  rw [← e]; exact x2
section
variable {C : S_MC} {mX : S_MX} {m : Nat} {ar : Int32} {kd pl vl : Nat → Int32} {Ls : Nat → S_ML × S_MN} {nn : Nat}
theorem type_ck (h : LX C mX m kd pl vl Ls) (tv : TV m kd vl nn) {l0 : List E4} {idx : Nat} {ts : FO} {t : S_Tree} {p : S_Parser} {i sg op : Nat} {b : Int} {r : S_Parser × S_Tree} (hs : SP m kd pl vl p i sg op) (ha : AT l0 idx ts t) (hl : (atL l0 ts : Int) ≤ 2 * i + b) (hb : b ≤ 9) (e : f_Parser_type p (Jn m, ar, kd, pl, vl) t (Jn idx) = some r) : CK m kd pl vl i r.1 (R1 kd vl l0 idx ts r.2 i sg op (b - 1) nn 20 (fun k => k = 8 ∨ k = 9 ∨ k = 10)) := by
  obtain ⟨k1, k2, k3⟩ := hs.kind
  unfold f_Parser_type at e
  by_cases c1 : p.2.1 = 1
  · rw [if_pos c1] at e
    obtain ⟨⟨n, t'⟩, e1, e⟩ := unb e
    obtain ⟨p', e2, e⟩ := unb e
    injection e with e
    subst e
    rw [k3] at e1
    refine (leaf_ck (Pk := fun k => k = 8 ∨ k = 9 ∨ k = 10) h hs ha hl (by omega) e1 e2 (by decide) (fun _ => Or.inr (Or.inr rfl)) (fun hk => LOC.btype _ ((tv i hs.1).1 hk)) (fun hk => ?_) (by decide)).mono ?_
    · rw [hk]; (simp (decide := true) [innT, begT, finT, fstc, nxtc, lstc, sgT, bears, semi, tkF, nzT])
    · rintro i' sg' op' _ _ ⟨w1, w2, k, pp, v, c, w3, w4, w5, w6, w7⟩
      exact ⟨w1, w2, k, pp, v, c, w3, w4, w5, by omega, w7⟩
  rw [if_neg c1] at e
  by_cases c2 : p.2.1 = 270
  · rw [if_pos c2] at e
    obtain ⟨⟨n, t1⟩, e1, e⟩ := unb e
    obtain ⟨p2, e2, e⟩ := unb e
    obtain ⟨p3, e3, e⟩ := unb e
    obtain ⟨r4, e4, e⟩ := unb e
    obtain ⟨p5, e5, e⟩ := unb e
    obtain ⟨r6, e6, e⟩ := unb e
    obtain ⟨p7, e7, e⟩ := unb e
    obtain ⟨p8, e8, e⟩ := unb e
    obtain ⟨r9, e9, e⟩ := unb e
    injection e with e
    subst e
    obtain ⟨hn, s1⟩ := ws_down h hs ha hl (by omega) e1
    dsimp only at e4 e6 e9
    rw [hn] at e4 e6 e9
    have s2 := ws_take h s1 (by decide) (by decide) (by decide) e2
    have s3 := ws_take h s2 (by decide) (by decide) (by decide) e3
    have s4 := ws_one (nn := nn) s3 e4 (fun i ts hs ha hl => constant_ck h tv hs ha hl (by omega) e4) (fun i td hd => dm_constant hd _ _ _)
    have s5 := ws_take h s4 (by decide) (by decide) (by decide) e5
    have s6 := ws_one (nn := nn) s5 e6 (fun i ts hs ha hl => constant_ck h tv hs ha hl (by omega) e6) (fun i td hd => dm_constant hd _ _ _)
    have s7 := ws_take h s6 (by decide) (by decide) (by decide) e7
    have s8 := ws_take h s7 (by decide) (by decide) (by decide) e8
    have s9 := ws_one (nn := nn) s8 e9 (fun i ts hs ha hl => simple_ck h hs ha hl (by omega) e9) (fun i td hd => dm_simpleType hd _ _ _)
    refine ws_up ha.1 s9 (by omega) (Or.inr (Or.inl rfl)) ?_
    rintro c X ⟨ts3, X3, ka, pa, va, ca, ⟨X8, ⟨X7, ⟨ts2, X6, kb, pb, vb, cb, ⟨X5, ⟨ts1, X4, kc, pc, vc, cc, ⟨X3', ⟨X2, ⟨z1, z2⟩, z3⟩, z4⟩, y1, y2, y3, y4, y5⟩, y6⟩, x1, x2, x3, x4, x5⟩, x6⟩, x7⟩, w1, w2, w3, w4, w5⟩
    subst w4; subst w5; subst x7; subst x6; subst x4; subst x5; subst y6; subst y4; subst y5; subst z4; subst z3; subst z1; subst z2
    refine ⟨LOC.array _ _ _, goodF_app (goodF_app y2 x2) w2, ?_, ?_⟩
    · have : needF ((((FO.nil.app (one kc pc vc cc))).app (one kb pb vb cb)).app (one ka pa va ca)) ≤ 10 := by
        rw [needF_app, needF_app, needF_app]
        rw [needF]; omega
      have n9 : nk 9 = 10 := by decide
      omega
    · rw [innT_app, tk_snoc (by decide) (by decide), tk_snoc (by decide) (by decide), tk_snoc (by decide) (by decide)]
      simp (decide := true) [begT, finT, fstc, nxtc, lstc, sgT, bears, semi, tkF, sepT, sepc, FO.len, FO.app]
  · rw [if_neg c2] at e
    obtain ⟨r1, e1, e⟩ := unb e
    injection e with e
    subst e
    refine (simple_ck (nn := nn) h hs ha hl (by omega) e1).mono ?_
    rintro i' sg' op' _ _ ⟨w1, w2, k, pp, v, c, w3, w4, w5, w6, w7⟩
    exact ⟨w1, w2, k, pp, v, c, w3, Or.inl w4, w5, by omega, w7⟩
def dcS (ks : List Int32) : Prop := ∃ l, ks = 6 :: l ∧ ∀ k, k ∈ l → k = 6 ∨ k = 7 ∨ k = 8 ∨ k = 9 ∨ k = 10 ∨ k = 30 ∨ k = 31
theorem dcS.snoc {ks : List Int32} {k : Int32} (h : dcS ks) (hk : k = 6 ∨ k = 7 ∨ k = 8 ∨ k = 9 ∨ k = 10 ∨ k = 30 ∨ k = 31) : dcS (ks ++ [k]) := by
  obtain ⟨l, e, hl⟩ := h
  refine ⟨l ++ [k], by rw [e]; rfl, fun x hx => ?_⟩
  rcases List.mem_append.mp hx with q | q
  · exact hl x q
  · rw [List.mem_singleton.mp q]; exact hk
theorem dcS.pos {ts : FO} (h : dcS ts.ks) : ts.len ≠ 0 := by
  obtain ⟨l, e, _⟩ := h
  rw [← FO.ks_len, e]
  simp
theorem sepD {i : Nat} (hi : i ≠ 0) {k : Int32} : (k = 6 → sepT 5 0 i k = [(44, 0)]) ∧ (k = 7 → sepT 5 0 i k = [(266, 0)]) ∧ ((k = 8 ∨ k = 9 ∨ k = 10) → sepT 5 0 i k = [(58, 0)]) ∧ (CONK k → sepT 5 0 i k = [(14909, 0)]) := by
  refine ⟨?_, ?_, ?_, ?_⟩
  · rintro rfl; simp (decide := true) [sepT, sepc, sgT, hi]
  · rintro rfl; simp (decide := true) [sepT, sepc, sgT, hi]
  · rintro (rfl | rfl | rfl) <;> simp (decide := true) [sepT, sepc, sgT, hi]
  · rintro (rfl | rfl) <;> simp (decide := true) [sepT, sepc, sgT, hi]
theorem declL_ck (h : LX C mX m kd pl vl Ls) (tv : TV m kd vl nn) {l0 : List E4} {idx : Nat} {i0 sg op : Nat} {b : Int} (hb : b ≤ 9) : ∀ (f : Nat) (w : Int32) (p : S_Parser) (t : S_Tree) (r : S_Parser × S_Tree), CK m kd pl vl i0 p (WST kd vl l0 idx t i0 sg op b (QC nn 20 5 0 [] dcS)) → f_Parser_declaration_L22 (Jn idx) (Jn m, ar, kd, pl, vl) f w p t = some r → CK m kd pl vl i0 r.1 (WST kd vl l0 idx r.2 i0 sg op b (QC nn 20 5 0 [] dcS)) := by
  intro f
  induction f with
  | zero => intro w p t r _ e; exact absurd e (by unfold f_Parser_declaration_L22; simp)
  | succ f ih =>
    intro w p t r hc e
    unfold f_Parser_declaration_L22 at e
    split at e
    · injection e with e; subst e; exact hc
    · split at e
      · obtain ⟨p1, e1, e⟩ := unb e
        obtain ⟨r2, e2, e⟩ := unb e
        rw [nm_eq] at e
        refine ih _ _ _ _ ?_ e
        have s1 := ws_take h hc (by decide) (by decide) (by decide) e1
        have s2 := ws_one (nn := nn) s1 e2 (fun i ts hs ha hl => nameNode_ck h tv hs ha hl (by omega) e2) (fun i td hd => dm_nameNode hd _ _ _)
        refine ws_conv s2 (by omega) ?_
        rintro ts X ⟨ts0, X0, k, pp, v, c, ⟨X1, q1, q2⟩, q3, q4, q5, q6, q7⟩
        subst q6; subst q7; subst q2
        exact ⟨_, q1.step (by decide) (by decide) q4 (by omega) (q1.2.2.1.snoc (Or.inl q3)) ((sepD q1.2.2.1.pos).1 q3), List.Sublist.refl _⟩
      · injection e with e; subst e; exact hc
theorem declaration_ck (h : LX C mX m kd pl vl Ls) (tv : TV m kd vl nn) {l0 : List E4} {idx : Nat} {ts : FO} {t : S_Tree} {p : S_Parser} {i sg op : Nat} {b : Int} {r : S_Parser × S_Tree} (hs : SP m kd pl vl p i sg op) (ha : AT l0 idx ts t) (hl : (atL l0 ts : Int) ≤ 2 * i + b) (hb : b ≤ 8) (e : f_Parser_declaration p (Jn m, ar, kd, pl, vl) t (Jn idx) = some r) : CK m kd pl vl i r.1 (R1 kd vl l0 idx ts r.2 i sg op b nn 30 (fun k => k = 5)) := by
  have hm := h.2.2.2.2.2
  unfold f_Parser_declaration at e
  obtain ⟨⟨n, t1⟩, e1, e⟩ := unb e
  obtain ⟨r2, e2, e⟩ := unb e
  obtain ⟨r3, e3, e⟩ := unb e
  obtain ⟨hn, s1⟩ := ws_down h hs ha hl (by omega) e1
  dsimp only at e2 e3 e
  rw [hn] at e2 e3 e
  have s2 := ws_one (nn := nn) s1 e2 (fun i ts hs ha hl => nameNode_ck h tv hs ha hl (by omega) e2) (fun i td hd => dm_nameNode hd _ _ _)
  have s3 := declL_ck h tv (by omega) FU _ _ _ _ (ws_conv (b' := b + 1) (Q' := QC nn 20 5 0 [] dcS) s2 (by omega) (by
    rintro ts X ⟨ts0, X0, k, pp, v, c, ⟨q1, q2⟩, q3, q4, q5, q6, q7⟩
    subst q6; subst q7; subst q1; subst q2
    refine ⟨_, ⟨q4, by rw [show FO.nil.app (one k pp v c) = one k pp v c from rfl]; omega, ⟨[], by rw [show FO.nil.app (one k pp v c) = one k pp v c from rfl]; rw [q3]; rfl, fun x hx => absurd hx List.not_mem_nil⟩, rfl⟩, ?_⟩
    rw [tk_snoc (by decide) (by decide), q3]
    simp (decide := true) [tkF, sepT, sepc, sgT, FO.len])) e3
  -- behind the type
  have tail : ∀ (p4 : S_Parser) (t4 : S_Tree), CK m kd pl vl i p4 (WST kd vl (nx l0 idx ts (5, p.2.2.1, 0, 0)) (atL l0 ts) t4 i sg op (b + 1) (QC nn 20 5 0 [] dcS)) →
      ((f_Parser_take p4 (Jn m, ar, kd, pl, vl) 58).bind fun r5 => (f_Parser_type r5 (Jn m, ar, kd, pl, vl) t4 (Jn (atL l0 ts))).bind fun r6 => if r6.1.2.1 = 14909 then (f_Parser_take r6.1 (Jn m, ar, kd, pl, vl) 14909).bind fun r9 => (f_Parser_constant r9 (Jn m, ar, kd, pl, vl) r6.2 (Jn (atL l0 ts))).bind fun r10 => (f_Parser_take r10.1 (Jn m, ar, kd, pl, vl) 59).bind fun r11 => some (r11, r10.2) else (f_Parser_take r6.1 (Jn m, ar, kd, pl, vl) 59).bind fun r8 => some (r8, r6.2)) = some r →
      CK m kd pl vl i r.1 (R1 kd vl l0 idx ts r.2 i sg op b nn 30 (fun k => k = 5)) := by
    intro p4 t4 s4 e
    obtain ⟨p5, e5, e⟩ := unb e
    obtain ⟨r6, e6, e⟩ := unb e
    have s5 := ws_take h s4 (by decide) (by decide) (by decide) e5
    have s6 := ws_one (nn := nn) s5 e6 (fun i ts hs ha hl => type_ck h tv hs ha hl (by omega) e6) (fun i td hd => dm_type hd _ _ _)
    have s7 := ws_conv (b' := b - 2) (Q' := QC nn 20 5 0 [] dcS) s6 (by omega) (by
      rintro ts X ⟨ts0, X0, k, pp, v, c, ⟨X1, q1, q2⟩, q3, q4, q5, q6, q7⟩
      subst q6; subst q7; subst q2
      refine ⟨_, q1.step (by decide) (by decide) q4 (by omega) (q1.2.2.1.snoc ?_) ((sepD q1.2.2.1.pos).2.2.1 q3), List.Sublist.refl _⟩
      rcases q3 with x | x | x
      · exact Or.inr (Or.inr (Or.inl x))
      · exact Or.inr (Or.inr (Or.inr (Or.inl x)))
      · exact Or.inr (Or.inr (Or.inr (Or.inr (Or.inl x)))))
    have fin : ∀ (p8 : S_Parser) (t8 : S_Tree) (p9 : S_Parser), CK m kd pl vl i p8 (WST kd vl (nx l0 idx ts (5, p.2.2.1, 0, 0)) (atL l0 ts) t8 i sg op (b - 2) (QC nn 20 5 0 [] dcS)) → f_Parser_take p8 (Jn m, ar, kd, pl, vl) 59 = some p9 → CK m kd pl vl i p9 (R1 kd vl l0 idx ts t8 i sg op b nn 30 (fun k => k = 5)) := by
      intro p8 t8 p9 s8 e9
      have s9 := ws_take h s8 (by decide) (by decide) (by decide) e9
      refine ws_up ha.1 s9 (by omega) rfl ?_
      rintro c X ⟨X0, ⟨q1, q2, ⟨l, q3, q3'⟩, q4⟩, q5⟩
      subst q5; subst q4
      refine ⟨by rw [q3]; exact LOC.decl l q3', q1, ?_, ?_⟩
      · have : nk 5 = 10 := by decide
        omega
      · rw [innT_app]
        simp (decide := true) [begT, finT, fstc, nxtc, lstc, sgT, bears, semi]
    split at e
    · obtain ⟨p7, e7, e⟩ := unb e
      obtain ⟨r8, e8, e⟩ := unb e
      obtain ⟨p9, e9, e⟩ := unb e
      injection e with e
      subst e
      have s8 := ws_take h s7 (by decide) (by decide) (by decide) e7
      have s9 := ws_one (nn := nn) s8 e8 (fun i ts hs ha hl => constant_ck h tv hs ha hl (by omega) e8) (fun i td hd => dm_constant hd _ _ _)
      refine fin r8.1 r8.2 p9 (ws_conv s9 (by omega) ?_) e9
      rintro ts X ⟨ts0, X0, k, pp, v, c, ⟨X1, q1, q2⟩, q3, q4, q5, q6, q7⟩
      subst q6; subst q7; subst q2
      refine ⟨_, q1.step (by decide) (by decide) q4 (by omega) (q1.2.2.1.snoc ?_) ((sepD q1.2.2.1.pos).2.2.2 q3), List.Sublist.refl _⟩
      rcases q3 with x | x
      · exact Or.inr (Or.inr (Or.inr (Or.inr (Or.inr (Or.inl x)))))
      · exact Or.inr (Or.inr (Or.inr (Or.inr (Or.inr (Or.inr x)))))
    · obtain ⟨p9, e9, e⟩ := unb e
      injection e with e
      subst e
      exact fin r6.1 r6.2 p9 s7 e9
  split at e
  · obtain ⟨p4, e4, e⟩ := unb e
    obtain ⟨⟨n5, t5⟩, e5, e⟩ := unb e
    obtain ⟨p6, e6, e⟩ := unb e
    dsimp only at e
    have s4 := ws_take h s3 (by decide) (by decide) (by decide) e4
    have s5 : CK m kd pl vl i p6 (WST kd vl (nx l0 idx ts (5, p.2.2.1, 0, 0)) (atL l0 ts) t5 i sg op (b - 2) (Q1 nn 10 (fun k => k = 7) (QT (QC nn 20 5 0 [] dcS) 266))) := by
      refine ws_one (nn := nn) (F := some (p6, t5)) (r := (p6, t5)) s4 rfl ?_ ?_
      · intro i2 ts2 hs2 ha2 hl2
        have k32 := hs2.kind.2.2
        rw [k32] at e5
        refine (leaf_ck (Pk := fun k => k = 7) h hs2 ha2 hl2 (by omega) e5 e6 (by decide) (fun _ => rfl) (fun hk => LOC.place _ ((tv i2 hs2.1).2.2 hk)) (fun hk => by rw [hk]; (simp (decide := true) [innT, begT, finT, fstc, nxtc, lstc, sgT, bears, semi, tkF, nzT])) (by decide)).mono (fun i' sg' op' _ _ ⟨w1, w2, k, pp, v, c, w3, w4, w5, w6, w7, w8⟩ => ⟨w1, w2, k, pp, v, c, w3, w4, w5, w6, w7, by omega⟩)
      · intro i2 td hd
        exact ⟨_, rfl, dmE (Pq := fun b => PD b i2 td) (dm_take hd _ 3 (by decide)) e6⟩
    refine tail p6 t5 (ws_conv s5 (by omega) ?_) e
    rintro ts X ⟨ts0, X0, k, pp, v, c, ⟨X1, q1, q2⟩, q3, q4, q5, q6, q7⟩
    subst q6; subst q7; subst q2
    exact ⟨_, q1.step (by decide) (by decide) q4 (by omega) (q1.2.2.1.snoc (Or.inr (Or.inl q3))) ((sepD q1.2.2.1.pos).2.1 q3), List.Sublist.refl _⟩
  · exact tail r3.1 r3.2 s3 e
/-- chains: trees without anything between them -/
def QN (nn nd : Nat) (K V : Int32) (pre : List Tok) : FO → List Tok → Prop := QC nn nd K V pre (fun _ => True)
theorem QN.step {nd : Nat} {K V : Int32} {pre : List Tok} (hK : K = 0 ∨ K = 1 ∨ K = 2 ∨ K = 3 ∨ K = 4 ∨ K = 11 ∨ K = 22 ∨ K = 23 ∨ K = 24) {P : Int32 → Prop} {nd' : Nat} (hnd : nd' ≤ nd) {ts : FO} {X : List Tok} (h : Q1 nn nd' P (QN nn nd K V pre) ts X) : ∃ X', QN nn nd K V pre ts X' ∧ X'.Sublist X := by
  obtain ⟨ts0, X0, k, pp, v, c, q1, q3, q4, q5, q6, q7⟩ := h
  subst q6; subst q7
  have := QC.step (S' := fun _ => True) q1 (by rcases hK with x | x | x | x | x | x | x | x | x <;> rw [x] <;> decide) (by rcases hK with x | x | x | x | x | x | x | x | x <;> rw [x] <;> decide) q4 (by omega) trivial (sep_chain hK V ts0.len k)
  rw [List.append_nil] at this
  exact ⟨_, this, List.Sublist.refl _⟩
theorem QN.zero {nd : Nat} {K V : Int32} {pre : List Tok} : QN nn nd K V pre FO.nil pre := ⟨trivial, by rw [needF]; omega, trivial, by rw [tkF, List.append_nil]⟩
theorem secD_ck (h : LX C mX m kd pl vl Ls) (tv : TV m kd vl nn) {l0 : List E4} {idx : Nat} {i0 sg op : Nat} {V : Int32} {pre : List Tok} {b : Int} (hb : b ≤ 8) : ∀ (f : Nat) (w : Int32) (p : S_Parser) (t : S_Tree) (r : S_Parser × S_Tree), CK m kd pl vl i0 p (WST kd vl l0 idx t i0 sg op b (QN nn 30 4 V pre)) → f_Parser_sections_L49 (Jn idx) (Jn m, ar, kd, pl, vl) f w p t = some r → CK m kd pl vl i0 r.1 (WST kd vl l0 idx r.2 i0 sg op b (QN nn 30 4 V pre)) := by
  intro f
  induction f with
  | zero => intro w p t r _ e; exact absurd e (by unfold f_Parser_sections_L49; simp)
  | succ f ih =>
    intro w p t r hc e
    unfold f_Parser_sections_L49 at e
    split at e
    · injection e with e; subst e; exact hc
    · split at e
      next c1 =>
        obtain ⟨r2, e2, e⟩ := unb e
        rw [nm_eq] at e
        refine ih _ _ _ _ ?_ e
        have s2 := ws_one (nn := nn) hc e2 (fun i ts hs ha hl => declaration_ck h tv hs ha hl hb e2) (fun i td hd => absurd c1 (hd.ne 1 (by decide) (by decide)))
        exact ws_conv s2 (by omega) (fun ts X hq => QN.step (Or.inr (Or.inr (Or.inr (Or.inr (Or.inl rfl))))) (by omega) hq)
      next => injection e with e; subst e; exact hc
theorem QC.chain {nd : Nat} {K V : Int32} {pre : List Tok} {S : List Int32 → Prop} (hK : K = 0 ∨ K = 1 ∨ K = 2 ∨ K = 3 ∨ K = 4 ∨ K = 11 ∨ K = 22 ∨ K = 23 ∨ K = 24) (hS : ∀ ks k, S ks → S (ks ++ [k])) {P : Int32 → Prop} {nd' : Nat} (hnd : nd' ≤ nd) {ts : FO} {X : List Tok} (h : Q1 nn nd' P (QC nn nd K V pre S) ts X) : ∃ X', QC nn nd K V pre S ts X' ∧ X'.Sublist X := by
  obtain ⟨ts0, X0, k, pp, v, c, q1, q3, q4, q5, q6, q7⟩ := h
  subst q6; subst q7
  have := QC.step (S' := S) q1 (by rcases hK with x | x | x | x | x | x | x | x | x <;> rw [x] <;> decide) (by rcases hK with x | x | x | x | x | x | x | x | x <;> rw [x] <;> decide) q4 (by omega) (hS _ _ q1.2.2.1) (sep_chain hK V ts0.len k)
  rw [List.append_nil] at this
  exact ⟨_, this, List.Sublist.refl _⟩
theorem secL_ck (h : LX C mX m kd pl vl Ls) (tv : TV m kd vl nn) {l0 : List E4} {idx : Nat} {i0 sg op : Nat} {K V : Int32} (hK : K = 1 ∨ K = 2 ∨ K = 3) {S : List Int32 → Prop} (hS : ∀ ks k, S ks → S (ks ++ [k])) {pre : List Tok} {b : Int} (hb : b ≤ 7) : ∀ (f : Nat) (w : Int32) (p : S_Parser) (t : S_Tree) (r : S_Parser × S_Tree), CK m kd pl vl i0 p (WST kd vl l0 idx t i0 sg op b (QC nn 40 K V pre S)) → f_Parser_sections_L2 (Jn idx) (Jn m, ar, kd, pl, vl) f w p t = some r → CK m kd pl vl i0 r.1 (WST kd vl l0 idx r.2 i0 sg op b (QC nn 40 K V pre S)) := by
  have hK9 : K = 0 ∨ K = 1 ∨ K = 2 ∨ K = 3 ∨ K = 4 ∨ K = 11 ∨ K = 22 ∨ K = 23 ∨ K = 24 := by
    rcases hK with x | x | x
    · exact Or.inr (Or.inl x)
    · exact Or.inr (Or.inr (Or.inl x))
    · exact Or.inr (Or.inr (Or.inr (Or.inl x)))
  intro f
  induction f with
  | zero => intro w p t r _ e; exact absurd e (by unfold f_Parser_sections_L2; simp)
  | succ f ih =>
    intro w p t r hc e
    unfold f_Parser_sections_L2 at e
    split at e
    · injection e with e; subst e; exact hc
    · obtain ⟨s, es, e⟩ := unb e
      split at e
      · injection e with e; subst e; exact hc
      next c0 =>
        obtain ⟨⟨n, t1⟩, e1, e⟩ := unb e
        obtain ⟨p2, e2, e⟩ := unb e
        obtain ⟨r3, e3, e⟩ := unb e
        obtain ⟨p4, e4, e⟩ := unb e
        rw [nm_eq] at e
        refine ih _ _ _ _ ?_ e
        have hsec : p.2.1 = 262 ∨ p.2.1 = 263 ∨ p.2.1 = 264 := by
          apply Classical.byContradiction
          intro hc'
          rw [(startsSection_eq p).2 hc'] at es
          injection es with es
          exact c0 es.symm
        have s4 : CK m kd pl vl i0 p4 (WST kd vl l0 idx r3.2 i0 sg op (b - 2) (Q1 nn 40 (fun k => k = 4) (QC nn 40 K V pre S))) := by
          refine ws_one (nn := nn) (F := some (p4, r3.2)) (r := (p4, r3.2)) hc rfl ?_ ?_
          · intro i ts hs ha hl
            have kk := hs.kind.1
            obtain ⟨hn, s1⟩ := ws_down h hs ha hl (by omega) e1
            dsimp only at e3
            rw [hn] at e3
            have hv : ∃ v : Int32, p.2.1 - 262 = v ∧ (v = 0 ∨ v = 1 ∨ v = 2) ∧ 262 + v = p.2.1 := by
              rcases hsec with x | x | x <;> rw [x]
              · exact ⟨0, by decide, Or.inl rfl, by decide⟩
              · exact ⟨1, by decide, Or.inr (Or.inl rfl), by decide⟩
              · exact ⟨2, by decide, Or.inr (Or.inr rfl), by decide⟩
            obtain ⟨v, v1, v2, v3⟩ := hv
            rw [v1] at s1
            have s2 := ws_take h s1 (by rcases hsec with x | x | x <;> rw [x] <;> decide) (by rcases hsec with x | x | x <;> rw [x] <;> decide) (by rcases hsec with x | x | x <;> rw [x] <;> decide) e2
            have s3 := secD_ck h tv (V := v) (pre := [(p.2.1, 0)]) (b := b) (by omega) FU _ _ _ _ (ws_conv s2 (by omega) (by
              rintro ts X ⟨X0, ⟨q1, q2⟩, q3⟩
              subst q1; subst q2; subst q3
              exact ⟨_, QN.zero, List.Sublist.refl _⟩)) e3
            have s4 := ws_take h s3 (by decide) (by decide) (by decide) e4
            refine (ws_up (nd := 40) (P := fun k => k = 4) ha.1 s4 (Int.le_refl _) rfl ?_).mono (fun i' sg' op' _ _ ⟨w1, w2, k, pp, v, c, w3, w4, w5, w6, w7, w8⟩ => ⟨w1, w2, k, pp, v, c, w3, w4, w5, w6, w7, by omega⟩)
            rintro c X ⟨X0, ⟨q1, q2, _, q4⟩, q5⟩
            subst q5; subst q4
            refine ⟨LOC.sect v _ v2, q1, ?_, ?_⟩
            · have : nk 4 = 10 := by decide
              omega
            · rw [innT_app]
              have hne : ¬ (262 + v = -1) := by rcases v2 with x | x | x <;> rw [x] <;> decide
              simp (decide := true) [begT, finT, fstc, nxtc, lstc, sgT, bears, semi, ← v3, hne]
          · intro i td hd
            exfalso
            rcases hsec with x | x | x
            · exact hd.ne 262 (by decide) (by decide) x
            · exact hd.ne 263 (by decide) (by decide) x
            · exact hd.ne 264 (by decide) (by decide) x
        exact ws_conv s4 (by omega) (fun ts X hq => QC.chain hK9 hS (Nat.le_refl _) hq)
theorem sections_ck (h : LX C mX m kd pl vl Ls) (tv : TV m kd vl nn) {l0 : List E4} {idx : Nat} {i0 sg op : Nat} {K V : Int32} (hK : K = 1 ∨ K = 2 ∨ K = 3) {S : List Int32 → Prop} (hS : ∀ ks k, S ks → S (ks ++ [k])) {pre : List Tok} {b : Int} (hb : b ≤ 7) {p : S_Parser} {t : S_Tree} {r : S_Parser × S_Tree} (hc : CK m kd pl vl i0 p (WST kd vl l0 idx t i0 sg op b (QC nn 40 K V pre S))) (e : f_Parser_sections p (Jn m, ar, kd, pl, vl) t (Jn idx) = some r) : CK m kd pl vl i0 r.1 (WST kd vl l0 idx r.2 i0 sg op b (QC nn 40 K V pre S)) := by
  unfold f_Parser_sections at e
  obtain ⟨r1, e1, e⟩ := unb e
  injection e with e
  subst e
  exact secL_ck h tv hK hS hb FU _ _ _ _ hc e1
end
end
section
/-! Expressions: their trees. -/
def brT (k v : Int32) (c : FO) : List Tok := (40, 0) :: (innT k v c ++ [(41, 0)])
def cxT (K V : Int32) (i : Nat) (k v : Int32) (c : FO) : List Tok := if brk K V i k v then brT k v c else innT k v c
theorem tkF_cx {K V : Int32} {i : Nat} {k p v : Int32} {c : FO} : tkF K V i (one k p v c) = sepT K V i k ++ cxT K V i k v c := by
  unfold cxT
  by_cases h : brk K V i k v
  · have hk := h.1
    subst hk
    rw [if_pos h]
    exact tkF_oneB h
  · rw [if_neg h]
    exact tkF_one h
theorem sign_cases {K v : Int32} (h : f_Sign_operation K = some v) : v = -1 ∨ ((∃ j : Nat, v = Jn j ∧ j < 14) ∧ (∀ x, nzT K x = (betw v, 0)) ∧ K ≠ 4 ∧ K ≠ 5 ∧ f_Sign_binding v = some (bindN v) ∧ 0 ≤ bindN v) := by
  have key : ∀ (K0 : Int32) (j : Nat), (j < 14 ∧ nzT K0 0 = (betw (Jn j), 0) ∧ K0 ≠ 4 ∧ K0 ≠ 5 ∧ K0 ≠ 1 ∧ K0 ≠ 2 ∧ K0 ≠ 3 ∧ f_Sign_binding (Jn j) = some (bindN (Jn j)) ∧ 0 ≤ bindN (Jn j)) → ((∃ j' : Nat, Jn j = Jn j' ∧ j' < 14) ∧ (∀ x, nzT K0 x = (betw (Jn j), 0)) ∧ K0 ≠ 4 ∧ K0 ≠ 5 ∧ f_Sign_binding (Jn j) = some (bindN (Jn j)) ∧ 0 ≤ bindN (Jn j)) := by
    rintro K0 j ⟨h1, h2, h3, h4, h5, h6, h7, h8, h9⟩
    refine ⟨⟨j, rfl, h1⟩, fun x => ?_, h3, h4, h8, h9⟩
    rw [← h2]
    unfold nzT
    rw [if_neg h5, if_neg h6, if_neg h7, if_neg h5, if_neg h6, if_neg h7]
  unfold f_Sign_operation at h
  by_cases c0 : K = 38
  · rw [if_pos c0] at h
    injection h with h
    subst h
    rw [c0]
    exact Or.inr (key 38 2 (by decide))
  rw [if_neg c0] at h
  by_cases c1 : K = 42
  · rw [if_pos c1] at h
    injection h with h
    subst h
    rw [c1]
    exact Or.inr (key 42 11 (by decide))
  rw [if_neg c1] at h
  by_cases c2 : K = 43
  · rw [if_pos c2] at h
    injection h with h
    subst h
    rw [c2]
    exact Or.inr (key 43 9 (by decide))
  rw [if_neg c2] at h
  by_cases c3 : K = 45
  · rw [if_pos c3] at h
    injection h with h
    subst h
    rw [c3]
    exact Or.inr (key 45 10 (by decide))
  rw [if_neg c3] at h
  by_cases c4 : K = 47
  · rw [if_pos c4] at h
    injection h with h
    subst h
    rw [c4]
    exact Or.inr (key 47 12 (by decide))
  rw [if_neg c4] at h
  by_cases c5 : K = 60
  · rw [if_pos c5] at h
    injection h with h
    subst h
    rw [c5]
    exact Or.inr (key 60 5 (by decide))
  rw [if_neg c5] at h
  by_cases c6 : K = 61
  · rw [if_pos c6] at h
    injection h with h
    subst h
    rw [c6]
    exact Or.inr (key 61 3 (by decide))
  rw [if_neg c6] at h
  by_cases c7 : K = 62
  · rw [if_pos c7] at h
    injection h with h
    subst h
    rw [c7]
    exact Or.inr (key 62 6 (by decide))
  rw [if_neg c7] at h
  by_cases c8 : K = 286
  · rw [if_pos c8] at h
    injection h with h
    subst h
    rw [c8]
    exact Or.inr (key 286 0 (by decide))
  rw [if_neg c8] at h
  by_cases c9 : K = 287
  · rw [if_pos c9] at h
    injection h with h
    subst h
    rw [c9]
    exact Or.inr (key 287 1 (by decide))
  rw [if_neg c9] at h
  by_cases c10 : K = 288
  · rw [if_pos c10] at h
    injection h with h
    subst h
    rw [c10]
    exact Or.inr (key 288 2 (by decide))
  rw [if_neg c10] at h
  by_cases c11 : K = 289
  · rw [if_pos c11] at h
    injection h with h
    subst h
    rw [c11]
    exact Or.inr (key 289 13 (by decide))
  rw [if_neg c11] at h
  by_cases c12 : K = 15421
  · rw [if_pos c12] at h
    injection h with h
    subst h
    rw [c12]
    exact Or.inr (key 15421 7 (by decide))
  rw [if_neg c12] at h
  by_cases c13 : K = 15422
  · rw [if_pos c13] at h
    injection h with h
    subst h
    rw [c13]
    exact Or.inr (key 15422 4 (by decide))
  rw [if_neg c13] at h
  by_cases c14 : K = 15933
  · rw [if_pos c14] at h
    injection h with h
    subst h
    rw [c14]
    exact Or.inr (key 15933 8 (by decide))
  rw [if_neg c14] at h
  injection h with h
  exact Or.inl h.symm
theorem LOC35 {nn : Nat} {v : Int32} {ks : List Int32} (h : LOC nn 35 v ks) : ∃ j : Nat, v = Jn j ∧ j < 14 := by
  refine (?_ : ∀ k, LOC nn k v ks → k = 35 → ∃ j : Nat, v = Jn j ∧ j < 14) 35 h rfl
  intro k h
  apply LOC.elim (motive := fun k v _ => k = 35 → ∃ j : Nat, v = Jn j ∧ j < 14) (h := h)
  all_goals (intros; rename_i h9; first | exact absurd h9 (by decide) | assumption)
theorem LOC6 {nn : Nat} {v : Int32} {ks : List Int32} (h : LOC nn 6 v ks) : ks = [] := by
  refine (?_ : ∀ k, LOC nn k v ks → k = 6 → ks = []) 6 h rfl
  intro k h
  apply LOC.elim (motive := fun k _ ks => k = 6 → ks = []) (h := h)
  all_goals (intros; rename_i h9; first | exact absurd h9 (by decide) | rfl)
theorem sign_none {K : Int32} (h : K = 5 ∨ K = 6) : f_Sign_operation K = some (-1) ∧ f_Sign_binding (-1) = some (-1) := by
  rcases h with rfl | rfl <;> decide
/-- a sign that comes binds less close -/
def less (K : Int32) (le : Int32) : Prop := ∀ v x, f_Sign_operation K = some v → f_Sign_binding v = some x → x < le
def RX (kd vl : Nat → Int32) (l0 : List E4) (idx : Nat) (ts : FO) (t : S_Tree) (i0 sg op : Nat) (b : Int) (nn : Nat) (E : Int32 → FO → Nat → Prop) (i' sg' op' : Nat) : Prop :=
  op' = op ∧ sg ≤ sg' ∧ op + sg' ≤ 60 ∧ ∃ k p v c, AT l0 idx (ts.app (one k p v c)) t ∧ EXPK k ∧ goodF nn (one k p v c) ∧ needF (one k p v c) + 4 * op ≤ 7 * (sg' - sg) + 270 ∧ SubT kd vl i0 i' (innT k v c) ∧ (k = 35 → SubT kd vl i0 i' (brT k v c) ∨ E v c i') ∧ (atL l0 (ts.app (one k p v c)) : Int) ≤ 2 * i' + b
section
variable (C : S_MC) (mX : S_MX) (m : Nat) (ar : Int32) (kd pl vl : Nat → Int32) (Ls : Nat → S_ML × S_MN) (nn : Nat)
def ESP (fe : S_Parser → S_Tokens → S_Tree → Int32 → Int32 → Option (S_Parser × S_Tree)) : Prop :=
  (∀ (l0 : List E4) (idx : Nat) (ts : FO) (t : S_Tree) (p : S_Parser) (i sg op : Nat) (b : Int) (le : Int32) (r : S_Parser × S_Tree), SP m kd pl vl p i sg op → op + sg ≤ 60 → AT l0 idx ts t → (atL l0 ts : Int) ≤ 2 * i + b → b ≤ 9 → 0 ≤ le → fe p (Jn m, ar, kd, pl, vl) t (Jn idx) le = some r → CK m kd pl vl i r.1 (fun i' sg' op' => RX kd vl l0 idx ts r.2 i sg op (b - 1) nn (fun v _ _ => le ≤ bindN v) i' sg' op' ∧ less (kd i') le)) ∧
  (∀ (t : S_Tree) (p : S_Parser) (i : Nat) (td a le : Int32) (r : S_Parser × S_Tree), PD p i td → 0 ≤ le → fe p (Jn m, ar, kd, pl, vl) t a le = some r → PD r.1 i td)
def OSP (fo : S_Parser → S_Tokens → S_Tree → Int32 → Option (S_Parser × S_Tree)) : Prop :=
  (∀ (l0 : List E4) (idx : Nat) (ts : FO) (t : S_Tree) (p : S_Parser) (i sg op : Nat) (b : Int) (r : S_Parser × S_Tree), SP m kd pl vl p i sg op → op + sg ≤ 60 → AT l0 idx ts t → (atL l0 ts : Int) ≤ 2 * i + b → b ≤ 9 → fo p (Jn m, ar, kd, pl, vl) t (Jn idx) = some r → CK m kd pl vl i r.1 (RX kd vl l0 idx ts r.2 i sg op (b - 1) nn (fun _ _ _ => False))) ∧
  (∀ (t : S_Tree) (p : S_Parser) (i : Nat) (td a : Int32) (r : S_Parser × S_Tree), PD p i td → fo p (Jn m, ar, kd, pl, vl) t a = some r → PD r.1 i td)
end
section
variable {C : S_MC} {mX : S_MX} {m : Nat} {ar : Int32} {kd pl vl : Nat → Int32} {Ls : Nat → S_ML × S_MN} {nn : Nat}
theorem L16_doom {fe : S_Parser → S_Tokens → S_Tree → Int32 → Int32 → Option (S_Parser × S_Tree)} {tk : S_Tokens} {w le : Int32} (hle : 0 ≤ le) {f : Nat} {v : Int32} {p : S_Parser} {t : S_Tree} {r : S_Parser × S_Tree} {i : Nat} {td : Int32} (hp : PD p i td) (e : f_Parser_expression_o_L16 fe tk w le f v p t = some r) : PD r.1 i td := by
  cases f with
  | zero => unfold f_Parser_expression_o_L16 at e; exact absurd e (by simp)
  | succ f =>
    unfold f_Parser_expression_o_L16 at e
    split at e
    · injection e with e; subst e; exact hp
    · obtain ⟨s1, s2⟩ := sign_none hp.2.1
      rw [s1, ob_some, s2, ob_some, if_pos (by
        rw [Int32.lt_iff_toInt_lt]
        rw [Int32.le_iff_toInt_le] at hle
        have h1 : (-1 : Int32).toInt = -1 := by decide
        have h0 : (0 : Int32).toInt = 0 := by decide
        omega)] at e
      injection e with e; subst e; exact hp
theorem mayOpen_ck {p : S_Parser} {i sg op : Nat} (hs : SP m kd pl vl p i sg op) (hle : op + sg ≤ 60) {q : Int32 × S_Parser} (e : f_Parser_mayOpen p = some q) : (q.1 = 0 ∧ PD q.2 i 1) ∨ (¬ q.1 = 0 ∧ q.2 = p ∧ op + sg < 60) := by
  obtain ⟨hi, h5, pb, fq, rfl, hpb⟩ := id hs
  unfold f_Parser_mayOpen at e
  dsimp only at e
  rw [show Jn op + Jn sg = Jn (op + sg) from J_add] at e
  by_cases c : 60 ≤ op + sg
  · rw [if_pos (leL 60 c (by omega))] at e
    injection e with e
    subst e
    exact Or.inl ⟨rfl, rfl, Or.inr rfl, rfl⟩
  · rw [if_neg (nleL 60 (by omega))] at e
    injection e with e
    subst e
    exact Or.inr ⟨show ¬ (1 : Int32) = 0 by decide, rfl, by omega⟩
theorem L16_ck (h : LX C mX m kd pl vl Ls) {fe : S_Parser → S_Tokens → S_Tree → Int32 → Int32 → Option (S_Parser × S_Tree)} (hfe : ESP m ar kd pl vl nn fe) {l0 : List E4} {idx : Nat} {ts : FO} {i0 sg op : Nat} {b : Int} (hb : b ≤ 9) {le : Int32} (hle : 0 ≤ le) : ∀ (f tn : Nat) (p : S_Parser) (t : S_Tree) (i sg1 : Nat) (r : S_Parser × S_Tree), i0 ≤ i → tn ≤ i → SP m kd pl vl p i sg1 op → RX kd vl l0 idx ts t i0 sg op (b - 1) nn (fun v _ i' => le ≤ bindN v ∧ less (kd i') (bindN v + 1)) i sg1 op → f_Parser_expression_o_L16 fe (Jn m, ar, kd, pl, vl) (Jn (atL l0 ts)) le f (Jn tn) p t = some r →
    CK m kd pl vl i0 r.1 (fun i' sg' op' => RX kd vl l0 idx ts r.2 i0 sg op (b - 1) nn (fun v _ _ => le ≤ bindN v) i' sg' op' ∧ less (kd i') le) := by
  have hm := h.2.2.2.2.2
  intro f
  induction f with
  | zero => intro tn p t i sg1 r _ _ _ _ e; exact absurd e (by unfold f_Parser_expression_o_L16; simp)
  | succ f ih =>
    intro tn p t i sg1 r hi0 htn hs hR e
    have hi := hs.1
    obtain ⟨_, hsg, hop, k, pp, v, c, ha, hk, hg, hn, hT, hbr, hl⟩ := hR
    unfold f_Parser_expression_o_L16 at e
    rw [if_neg (nleL 8192 (by omega))] at e
    obtain ⟨o, eo, e⟩ := unb e
    obtain ⟨x, ex, e⟩ := unb e
    rw [hs.kind.1] at eo
    by_cases cl : x < le
    · rw [if_pos cl] at e
      injection e with e
      subst e
      refine Or.inr ⟨i, sg1, op, hi0, hs, ⟨rfl, hsg, hop, k, pp, v, c, ha, hk, hg, hn, hT, fun hk35 => (hbr hk35).imp id (fun z => z.1), hl⟩, ?_⟩
      intro v' x' h1 h2
      rw [eo] at h1
      injection h1 with h1
      subst h1
      rw [ex] at h2
      injection h2 with h2
      subst h2
      exact cl
    · rw [if_neg cl] at e
      obtain ⟨q, eq, e⟩ := unb e
      rcases mayOpen_ck hs hop eq with ⟨q1, q2⟩ | ⟨q1, q2, q3⟩
      · rw [if_pos q1] at e
        injection e with e
        subst e
        exact Or.inl ⟨i, 1, q2⟩
      · rw [if_neg q1, q2] at e
        obtain ⟨t1, et, e⟩ := unb e
        obtain ⟨p2, ep, e⟩ := unb e
        obtain ⟨r3, er, efin⟩ := unb e
        rw [nm_eq, addL tn 1] at efin
        rcases sign_cases eo with hm1 | ⟨hj, hz, n4, n5, hbi, hb0⟩
        · exfalso
          subst hm1
          rw [(sign_none (Or.inl rfl : (5 : Int32) = 5 ∨ (5 : Int32) = 6)).2] at ex
          injection ex with ex
          subst ex
          apply cl
          rw [Int32.lt_iff_toInt_lt]
          rw [Int32.le_iff_toInt_le] at hle
          have h1 : (-1 : Int32).toInt = -1 := by decide
          have h0 : (0 : Int32).toInt = 0 := by decide
          omega
        rw [hbi] at ex
        injection ex with ex
        subst ex
        have hlx : le ≤ bindN o := Int32.not_lt.mp cl
        -- the node above what was read so far
        have haW := ha.wrap (by rw [atL_one] at hl ⊢; omega) et
        -- the sign is taken
        obtain ⟨hi', h5, pb, fq, hpp, hpb⟩ := id hs
        rw [hpp] at ep
        dsimp only at ep
        rw [addL sg1 1] at ep
        have hs1 : SP m kd pl vl (Jn i, kd i, pl i, vl i, pb, Jn (sg1 + 1), Jn op, 0, fq) i (sg1 + 1) op := ⟨hi', h5, pb, fq, rfl, hpb⟩
        have s2 := ck_take h hs1 n4 ep
        have hlW : (atL (nx l0 idx ts (35, p.2.2.1, o, 0)) (one k pp v c) : Int) ≤ 2 * (i + 1 : Nat) + (b - 2) := by
          rw [atL_nx, flat_one, List.length_cons]
          rw [atL_one] at hl
          omega
        have ob14 : ∀ j, j < 14 → 0 ≤ bindN (Jn j) + 1 := by decide
        have hle1 : 0 ≤ bindN o + 1 := by
          obtain ⟨j, rfl, hj⟩ := hj
          exact ob14 j hj
        have lt14 : ∀ j, j < 14 → bindN (Jn j) < bindN (Jn j) + 1 := by decide
        have s3 : CK m kd pl vl i r3.1 (fun i' sg' op' => i + 1 ≤ i' ∧ RX kd vl l0 idx ts r3.2 i0 sg op (b - 1) nn (fun v _ i' => le ≤ bindN v ∧ less (kd i') (bindN v + 1)) i' sg' op') := by
          refine s2.seq (fun q => q.1) er ?_ (fun i2 td hd => ⟨r3, er, hfe.2 _ _ i2 td _ _ _ hd hle1 er⟩)
          rintro i2 sg2 op2 hi2 hs2 ⟨w1, w2, w3, w4, _⟩
          subst w1; subst w2; subst w3
          have s3 := hfe.1 _ _ _ _ _ _ _ _ (b - 2) _ _ hs2 (by omega) haW hlW (by omega) hle1 er
          refine s3.mono ?_
          rintro i3 sg3 op3 hi3 hs3 ⟨⟨y0, y1, y2, k2, pp2, v2, c2, y3, y4, y5, y6, y7, y8, y9⟩, y10⟩
          refine ⟨hi3, y0, by omega, by omega, 35, p.2.2.1, o, (one k pp v c).app (one k2 pp2 v2 c2), y3.up ha.1, Or.inr (Or.inr (Or.inr (Or.inr (Or.inr (Or.inr (Or.inl rfl)))))), ?_, ?_, ?_, ?_, ?_⟩
          · exact good_one (LOC.two _ _ _ hj) (goodF_app hg y5)
          · rw [need_one, needF_app, show nk 35 = 7 from by decide]
            omega
          · rw [innT_app]
            have e1 : begT 35 o = [] := by simp (decide := true) [begT, fstc, nxtc, sgT, bears]
            have e2 : ∀ n, finT 35 n = [] := by
              intro n
              simp (decide := true) [finT, lstc, sgT, semi]
            have lb : ∀ j, j < 14 → ∀ j2, j2 < 14 → bindN (Jn j) + 1 ≤ bindN (Jn j2) → ¬ (bindN (Jn j2) < bindN (Jn j) ∨ bindN (Jn j2) = bindN (Jn j)) := by decide
            rw [e1, e2, List.nil_append, List.append_nil, tkF_app, tkF_cx, tkF_cx]
            have sp0 : sepT 35 o 0 k = [] := by simp (decide := true) [sepT, sepc, sgT]
            have sp1 : sepT 35 o 1 k2 = [(betw o, 0)] := by simp (decide := true) [sepT, sepc, sgT]
            rw [show 0 + (one k pp v c).len = 1 from rfl, sp0, sp1, List.nil_append]
            have tA : SubT kd vl i0 i (cxT 35 o 0 k v c) := by
              unfold cxT
              by_cases hbk : brk 35 o 0 k v
              · rw [if_pos hbk]
                rcases hbr hbk.1 with z | ⟨z1, z2⟩
                · exact z
                · exfalso
                  have hlt := z2 o _ eo hbi
                  rcases hbk.2 with z | ⟨_, z | ⟨_, z⟩⟩
                  · exact absurd z (by decide)
                  · -- the sign binds closer than the one before: it can't
                    have hv : ∃ j : Nat, v = Jn j ∧ j < 14 := by
                      have := hg.1
                      rw [hbk.1] at this
                      exact LOC35 this
                    obtain ⟨j, rfl, hj1⟩ := hv
                    obtain ⟨j2, rfl, hj2⟩ := hj
                    have lb2 : ∀ j, j < 14 → ∀ j2, j2 < 14 → bindN (Jn j2) < bindN (Jn j) + 1 → ¬ bindN (Jn j) < bindN (Jn j2) := by decide
                    exact lb2 j hj1 j2 hj2 hlt z
                  · exact absurd z (by decide)
              · rw [if_neg hbk]; exact hT
            have tB : SubT kd vl (i + 1) i3 (cxT 35 o 1 k2 v2 c2) := by
              unfold cxT
              by_cases hbk : brk 35 o 1 k2 v2
              · rw [if_pos hbk]
                rcases y8 hbk.1 with z | z
                · exact z
                · exfalso
                  have hv : ∃ j : Nat, v2 = Jn j ∧ j < 14 := by
                    have := y5.1
                    rw [hbk.1] at this
                    exact LOC35 this
                  obtain ⟨j2, rfl, hj2⟩ := hv
                  obtain ⟨j, rfl, hj1⟩ := hj
                  rcases hbk.2 with z' | ⟨_, z' | ⟨z', _⟩⟩
                  · exact absurd z' (by decide)
                  · exact lb j hj1 j2 hj2 z (Or.inl z')
                  · exact lb j hj1 j2 hj2 z (Or.inr z')
              · rw [if_neg hbk]; exact y7
            have tC := (SubT.tok (kd := kd) (vl := vl) i).app tB
            rw [hz] at tC
            exact tA.app tC
          · intro _
            right
            exact ⟨hlx, y10⟩
          · rw [atL_one, FO.flat_app, List.length_append]
            unfold atL at y9
            rw [nx_len, FO.flat_app, List.length_append] at y9
            unfold atL at y9 ⊢
            omega
        rcases s3 with s3 | ⟨i3, sg3, op3, y1, y2, y3, y4⟩
        · obtain ⟨i3, td, hd⟩ := s3
          exact Or.inl ⟨i3, td, L16_doom hle hd efin⟩
        · have eop := y4.1
          subst eop
          have := ih (tn + 1) _ _ i3 sg3 r (by omega) (by omega) y2 y4 efin
          exact this
end
end
section
/-! Operands: their trees. -/
section
variable {C : S_MC} {mX : S_MX} {m : Nat} {ar : Int32} {kd pl vl : Nat → Int32} {Ls : Nat → S_ML × S_MN} {nn : Nat}
theorem RX_of_R1 {l0 : List E4} {idx : Nat} {ts : FO} {t : S_Tree} {i0 sg op : Nat} {b : Int} {P : Int32 → Prop} {E : Int32 → FO → Nat → Prop} {i' sg' op' : Nat} (hle : op + sg ≤ 60) (hP : ∀ k, P k → EXPK k ∧ k ≠ 35) (h : R1 kd vl l0 idx ts t i0 sg op b nn 10 P i' sg' op') : RX kd vl l0 idx ts t i0 sg op b nn E i' sg' op' := by
  obtain ⟨w1, w2, k, pp, v, c, w3, w4, w5, w6, w7, w8⟩ := h
  subst w1
  exact ⟨w2, Nat.le_refl _, hle, k, pp, v, c, w3, (hP k w4).1, w5, by omega, w7, fun hk => absurd hk (hP k w4).2, w8⟩
/-- the arguments of a call -/
def CA (kd vl : Nat → Int32) (l0 : List E4) (idx : Nat) (t : S_Tree) (i0 sg op : Nat) (b : Int) (nn : Nat) (v : Int32) (more : Prop) (i' sg' op' : Nat) : Prop :=
  op' = op ∧ sg ≤ sg' ∧ op + sg' ≤ 60 ∧ ∃ ts X, AT l0 idx ts t ∧ SubT kd vl i0 i' X ∧ goodF nn ts ∧ needF ts + 4 * op ≤ 7 * (sg' - sg) + 270 ∧ ((more ∧ ts ≠ FO.nil ∧ X = [(1, v), (40, 0)] ++ tkF 34 v 0 ts ++ [(44, 0)]) ∨ ((more → ts = FO.nil) ∧ X = [(1, v), (40, 0)] ++ tkF 34 v 0 ts)) ∧ (atL l0 ts : Int) ≤ 2 * i' + b
theorem argsL_ck (h : LX C mX m kd pl vl Ls) {fe : S_Parser → S_Tokens → S_Tree → Int32 → Int32 → Option (S_Parser × S_Tree)} (hfe : ESP m ar kd pl vl nn fe) {l0 : List E4} {idx : Nat} {i0 sg op : Nat} {b : Int} (hb : b ≤ 9) {v : Int32} : ∀ (f : Nat) (w more : Int32) (p : S_Parser) (t : S_Tree) (r : S_Parser × S_Tree), CK m kd pl vl i0 p (CA kd vl l0 idx t i0 sg op b nn v (more ≠ 0)) → f_Parser_operandByName_L144 fe (Jn idx) (Jn m, ar, kd, pl, vl) f w more p t = some r → CK m kd pl vl i0 r.1 (CA kd vl l0 idx r.2 i0 sg op b nn v False) := by
  intro f
  have done : ∀ (more : Prop) (p : S_Parser) (t : S_Tree), CK m kd pl vl i0 p (CA kd vl l0 idx t i0 sg op b nn v more) → CK m kd pl vl i0 p (CA kd vl l0 idx t i0 sg op b nn v False) := by
    intro more p t hc
    refine hc.mono ?_
    rintro i' sg' op' _ _ ⟨w1, w2, w3, ts, X, w4, w5, w6, w7, w8, w9⟩
    rcases w8 with ⟨_, _, e⟩ | ⟨_, e⟩
    · refine ⟨w1, w2, w3, ts, _, w4, w5.sub (Y := [(1, v), (40, 0)] ++ tkF 34 v 0 ts) (by rw [e]; exact List.sublist_append_left _ _), w6, w7, Or.inr ⟨fun h => h.elim, rfl⟩, w9⟩
    · exact ⟨w1, w2, w3, ts, X, w4, w5, w6, w7, Or.inr ⟨fun h => h.elim, e⟩, w9⟩
  induction f with
  | zero => intro w more p t r _ e; exact absurd e (by unfold f_Parser_operandByName_L144; simp)
  | succ f ih =>
    intro w more p t r hc e
    unfold f_Parser_operandByName_L144 at e
    split at e
    · injection e with e; subst e; exact done _ _ _ hc
    next hmore =>
    split at e
    · injection e with e; subst e; exact done _ _ _ hc
    · obtain ⟨r1, e1, e⟩ := unb e
      obtain ⟨⟨mo, p2⟩, e2, efin⟩ := unb e
      rw [nm_eq] at efin
      dsimp only at efin
      refine ih _ _ _ _ _ ?_ efin
      have s1 : CK m kd pl vl i0 r1.1 (CA kd vl l0 idx r1.2 i0 sg op (b - 1) nn v False) := by
        refine hc.seq (fun q => q.1) e1 ?_ (fun i td hd => ⟨r1, e1, hfe.2 _ _ i td _ _ _ hd (by decide) e1⟩)
        rintro i sg1 op1 hi0 hs ⟨w1, w2, w3, ts, X, w4, w5, w6, w7, w8, w9⟩
        subst w1
        refine (hfe.1 _ _ _ _ _ _ _ _ b _ _ hs w3 w4 w9 hb (by decide) e1).mono ?_
        rintro i3 sg3 op3 hi3 hs3 ⟨⟨y0, y1, y2, k2, pp2, v2, c2, y3, y4, y5, y6, y7, y8, y9⟩, y10⟩
        subst y0
        refine ⟨rfl, by omega, y2, ts.app (one k2 pp2 v2 c2), X ++ innT k2 v2 c2, y3, w5.app y7, goodF_app w6 y5, ?_, Or.inr ⟨fun h => h.elim, ?_⟩, y9⟩
        · rw [needF_app]; omega
        · rw [tk_snoc (by decide) (by decide)]
          rcases w8 with ⟨_, hne, e⟩ | ⟨h0, e⟩
          · have hl : ts.len ≠ 0 := by
              cases ts with
              | leaf => exact absurd rfl hne
              | inner p k v c r => exact Nat.succ_ne_zero _
            have sp : sepT 34 v ts.len k2 = [(44, 0)] := by simp (decide := true) [sepT, sepc, sgT, hl]
            rw [e, sp]
            simp only [List.append_assoc]
          · have hz := h0 hmore
            subst hz
            have sp : sepT 34 v FO.nil.len k2 = [] := by simp (decide := true) [sepT, sepc, sgT, FO.len]
            rw [e, sp]
            simp only [List.append_assoc, List.nil_append]
      unfold f_Parser_takeComma at e2
      split at e2
      next c44 =>
        obtain ⟨p3, e3, e2⟩ := unb e2
        injection e2 with e2
        injection e2 with ea eb
        subst ea; subst eb
        refine s1.seq (fun q => q) e3 ?_ (fun i td hd => dm_take hd _ 44 (by decide))
        rintro i sg1 op1 hi0 hs ⟨w1, w2, w3, ts, X, w4, w5, w6, w7, w8, w9⟩
        subst w1
        refine (ck_take h hs (by decide) e3).mono ?_
        rintro i3 sg3 op3 hi3 hs3 ⟨v1, v2, v3, v4, _⟩
        subst v2; subst v3; subst v1
        rcases w8 with ⟨hf, _⟩ | ⟨_, e⟩
        · exact hf.elim
        · have tk := w5.snoc
          rw [v4, show nzT 44 (vl i) = (44, 0) from by simp (decide := true) [nzT]] at tk
          by_cases hz : ts = FO.nil
          · refine ⟨rfl, w2, w3, ts, X, w4, w5.ext (by omega), w6, w7, Or.inr ⟨fun _ => hz, e⟩, by omega⟩
          · exact ⟨rfl, w2, w3, ts, X ++ [(44, 0)], w4, tk, w6, w7, Or.inl ⟨by decide, hz, by rw [e]⟩, by omega⟩
      next =>
        injection e2 with e2
        injection e2 with ea eb
        subst ea; subst eb
        refine s1.mono ?_
        rintro i' sg' op' _ _ ⟨w1, w2, w3, ts, X, w4, w5, w6, w7, w8, w9⟩
        rcases w8 with ⟨hf, _⟩ | ⟨_, e⟩
        · exact hf.elim
        · exact ⟨w1, w2, w3, ts, X, w4, w5, w6, w7, Or.inr ⟨fun h => absurd rfl h, e⟩, by omega⟩
theorem byName_ck (h : LX C mX m kd pl vl Ls) (tv : TV m kd vl nn) {fe : S_Parser → S_Tokens → S_Tree → Int32 → Int32 → Option (S_Parser × S_Tree)} (hfe : ESP m ar kd pl vl nn fe) {l0 : List E4} {idx : Nat} {ts : FO} {t : S_Tree} {p : S_Parser} {i sg op : Nat} {b : Int} {r : S_Parser × S_Tree} (hs : SP m kd pl vl p i sg op) (hle : op + sg ≤ 60) (ha : AT l0 idx ts t) (hl : (atL l0 ts : Int) ≤ 2 * i + b) (hb : b ≤ 9) (ck : kd i = 1) (e : f_Parser_operandByName fe p (Jn m, ar, kd, pl, vl) t (Jn idx) = some r) : CK m kd pl vl i r.1 (RX kd vl l0 idx ts r.2 i sg op (b - 1) nn (fun _ _ _ => False)) := by
  have hm := h.2.2.2.2.2
  have hi := hs.1
  obtain ⟨k1, k2, k3⟩ := hs.kind
  have hnm := (tv i hi).1 ck
  unfold f_Parser_operandByName at e
  obtain ⟨⟨nv, p1⟩, e1, e⟩ := unb e
  unfold f_Parser_takeName at e1
  obtain ⟨p1', e1', e1⟩ := unb e1
  injection e1 with e1
  injection e1 with ea eb
  subst ea; subst eb
  dsimp only at e
  rw [k3] at e
  rcases ck_take h hs (by decide) e1' with ⟨j, td, hd⟩ | ⟨i1, sg1, op1, x1, hs1, v1, v2, v3, v4, _⟩
  · rw [if_neg (hd.ne 40 (by decide) (by decide)), if_neg (hd.ne 46 (by decide) (by decide)), if_neg (hd.ne 91 (by decide) (by decide))] at e
    obtain ⟨⟨n, t'⟩, e2, e⟩ := unb e
    injection e with e
    subst e
    exact Or.inl ⟨j, td, hd⟩
  subst v1; subst v2; subst v3
  have tn : nzT (kd i) (vl i) = (1, vl i) := by rw [ck]; simp (decide := true) [nzT]
  have t1 := SubT.tok (kd := kd) (vl := vl) i
  rw [tn] at t1
  split at e
  next c40 =>
    obtain ⟨⟨n, t2⟩, e2, e⟩ := unb e
    obtain ⟨p3, e3, e⟩ := unb e
    dsimp only at e
    obtain ⟨hn, ha2⟩ := ha.down (by omega) e2
    rw [hn] at e
    have ck1 : kd (i + 1) = 40 := by rw [← hs1.kind.1]; exact c40
    have s3 := ck_open h hs1 (by rw [ck1]; decide) hle e3
    have s4 : ∀ M : Prop, CK m kd pl vl i p3 (CA kd vl (nx l0 idx ts (34, p.2.2.1, vl i, 0)) (atL l0 ts) t2 i sg1 (op1 + 1) (b - 3) nn (vl i) M) := by
      intro M
      rcases s3 with s3 | ⟨i3, sg3, op3, y1, y2, y3, y4, y5, y6⟩
      · exact Or.inl s3
      · subst y3; subst y4; subst y5
        refine Or.inr ⟨_, _, _, by omega, y2, rfl, Nat.le_refl _, by omega, FO.nil, [(1, vl i), (40, 0)], ha2, ?_, trivial, by rw [needF]; omega, Or.inr ⟨fun _ => rfl, by rw [tkF]; rfl⟩, ?_⟩
        · have := t1.snoc
          rw [ck1, show nzT 40 (vl (i + 1)) = (40, 0) from by simp (decide := true) [nzT]] at this
          exact this
        · rw [atL_nx]
          simp only [FO.flat, List.length_nil]; omega
    -- the closing bracket
    have fin : ∀ (q : S_Parser × S_Tree), CK m kd pl vl i q.1 (CA kd vl (nx l0 idx ts (34, p.2.2.1, vl i, 0)) (atL l0 ts) q.2 i sg1 (op1 + 1) (b - 3) nn (vl i) False) → ((f_Parser_takeClosing q.1 (Jn m, ar, kd, pl, vl) 41).bind fun r9 => some (r9, q.2)) = some r → CK m kd pl vl i r.1 (RX kd vl l0 idx ts r.2 i sg1 op1 (b - 1) nn (fun _ _ _ => False)) := by
      intro q s5 e
      obtain ⟨p6, e6, e⟩ := unb e
      injection e with e
      subst e
      refine s5.seq (fun q => q) e6 ?_ (fun i td hd => dm_takeClosing hd _ 41 (by decide))
      rintro i5 sg5 op5 hi5 hs5 ⟨w1, w2, w3, ts5, X, w4, w5, w6, w7, w8, w9⟩
      subst w1
      refine (ck_close h hs5 (by decide) e6).mono ?_
      rintro i6 sg6 op6 hi6 hs6 ⟨v1, v2, v3, v4'⟩
      subst v1; subst v2; subst v3
      rcases w8 with ⟨hf, _⟩ | ⟨_, eX⟩
      · exact hf.elim
      refine ⟨rfl, w2, by omega, 34, p.2.2.1, vl i, ts5, w4.up ha.1, Or.inr (Or.inr (Or.inr (Or.inr (Or.inr (Or.inl rfl))))), good_one (LOC.call _ _ hnm) w6, ?_, ?_, fun hk => absurd hk (by decide), ?_⟩
      · rw [need_one, show nk 34 = 4 from by decide]; omega
      · have := w5.snoc
        rw [v4', show nzT 41 (vl i5) = (41, 0) from by simp (decide := true) [nzT], eX] at this
        rw [innT_app]
        have e1 : begT 34 (vl i) = [(1, vl i), (40, 0)] := by simp (decide := true) [begT, fstc, nxtc, sgT, bears]
        have e2 : finT 34 ts5.len = [(41, 0)] := by simp (decide := true) [finT, lstc, sgT, semi]
        rw [e1, e2]
        simp only [List.append_assoc] at this ⊢
        exact this
      · rw [atL_nx] at w9
        rw [atL_one]; omega
    split at e
    next c41 =>
      obtain ⟨r5, e5, e⟩ := unb e
      exact fin r5 (argsL_ck h hfe (by omega) FU 0 0 _ _ _ (s4 _) e5) e
    next =>
      obtain ⟨r5, e5, e⟩ := unb e
      exact fin r5 (argsL_ck h hfe (by omega) FU 0 1 _ _ _ (s4 _) e5) e
  next =>
  split at e
  next c46 =>
    obtain ⟨p2, e2, e⟩ := unb e
    obtain ⟨⟨n, t3⟩, e3, e⟩ := unb e
    obtain ⟨r4, e4, e⟩ := unb e
    injection e with e
    subst e
    dsimp only at e4
    obtain ⟨hn, ha3⟩ := ha.down (by omega) e3
    rw [hn] at e4
    have s2 := ck_take h hs1 (by decide) e2
    rcases s2 with ⟨j, td, hd⟩ | ⟨i2, sg2, op2, y1, hs2, y2, y3, y4, y5, _⟩
    · exact Or.inl ⟨j, td, dmE (Pq := fun b => PD b.1 j td) (dm_nameNode hd _ _ _) e4⟩
    subst y2; subst y3; subst y4
    have s4 := nameNode_ck (b := b - 3) h tv hs2 ha3 (by
      rw [atL_nx]
      simp only [FO.flat, List.length_nil]; omega) (by omega) e4
    rcases s4 with s4 | ⟨i4, sg4, op4, z1, hs4, z2, z3, k, pp, v, c, z4, z5, z6, z7, z8, z9⟩
    · exact Or.inl s4
    subst z2; subst z3; subst z5
    refine Or.inr ⟨i4, sg4, op4, by omega, hs4, rfl, Nat.le_refl _, hle, 33, p.2.2.1, vl i, FO.nil.app (one 6 pp v c), z4.up ha.1, Or.inr (Or.inr (Or.inr (Or.inr (Or.inl rfl)))), good_one (LOC.outp _ _ hnm) z6, ?_, ?_, fun hk => absurd hk (by decide), ?_⟩
    · rw [need_one, show nk 33 = 10 from by decide, show FO.nil.app (one 6 pp v c) = one 6 pp v c from rfl]
      have hc0 : c = FO.nil := by
        have hk := LOC6 z6.1
        cases c with
        | leaf => rfl
        | inner p k v c r => exact (List.cons_ne_nil _ _ hk).elim
      rw [hc0, need_one, needF, show nk 6 = 10 from by decide]
      omega
    · have := (t1.snoc).app z8
      rw [y5, show nzT 46 (vl (i + 1)) = (46, 0) from by simp (decide := true) [nzT]] at this
      rw [innT_app, tk_snoc (by decide) (by decide)]
      have e1 : begT 33 (vl i) = [(1, vl i), (46, 0)] := by simp (decide := true) [begT, fstc, nxtc, sgT, bears]
      have e2 : ∀ n, finT 33 n = [] := by intro n; simp (decide := true) [finT, lstc, sgT, semi]
      have sp : sepT 33 (vl i) FO.nil.len 6 = [] := by simp (decide := true) [sepT, sepc, sgT]
      rw [e1, e2, sp, tkF, List.append_nil, List.nil_append, List.nil_append]
      exact this
    · unfold atL at z9
      rw [nx_len] at z9
      rw [atL_one]
      unfold atL at z9 ⊢
      omega
  next =>
  split at e
  next c91 =>
    obtain ⟨⟨n, t2⟩, e2, e⟩ := unb e
    obtain ⟨p3, e3, e⟩ := unb e
    obtain ⟨r4, e4, e⟩ := unb e
    obtain ⟨p5, e5, e⟩ := unb e
    injection e with e
    subst e
    dsimp only at e4
    obtain ⟨hn, ha2⟩ := ha.down (by omega) e2
    rw [hn] at e4
    have ck1 : kd (i + 1) = 91 := by rw [← hs1.kind.1]; exact c91
    have s3 := ck_open h hs1 (by rw [ck1]; decide) hle e3
    have s4 : CK m kd pl vl i r4.1 (fun i' sg' op' => sg1 ≤ sg' ∧ op' = op1 + 1 ∧ op1 + 1 + sg' ≤ 60 ∧ ∃ k pp v c, AT (nx l0 idx ts (32, p.2.2.1, vl i, 0)) (atL l0 ts) (FO.nil.app (one k pp v c)) r4.2 ∧ goodF nn (one k pp v c) ∧ needF (one k pp v c) + 4 * (op1 + 1) ≤ 7 * (sg' - sg1) + 270 ∧ SubT kd vl (i + 1 + 1) i' (innT k v c) ∧ (atL (nx l0 idx ts (32, p.2.2.1, vl i, 0)) (FO.nil.app (one k pp v c)) : Int) ≤ 2 * i' + (b - 4)) := by
      have s3' : CK m kd pl vl i p3 (fun i' sg' op' => i' = i + 1 + 1 ∧ sg' = sg1 ∧ op' = op1 + 1 ∧ op1 + sg1 < 60) := by
        rcases s3 with s3 | ⟨i3, sg3, op3, y1, y2, y3⟩
        · exact Or.inl s3
        · exact Or.inr ⟨i3, sg3, op3, by omega, y2, y3⟩
      refine s3'.seq (fun q => q.1) e4 ?_ (fun i td hd => ⟨r4, e4, hfe.2 _ _ i td _ _ _ hd (by decide) e4⟩)
      rintro i3 sg3 op3 hi3 hs3 ⟨y1, y2, y3, y4⟩
      subst y1; subst y2; subst y3
      refine (hfe.1 _ _ _ _ _ _ _ _ (b - 3) _ _ hs3 (by omega) ha2 (by
        rw [atL_nx]
        simp only [FO.flat, List.length_nil]; omega) (by omega) (by decide) e4).mono ?_
      rintro i5 sg5 op5 hi5 hs5 ⟨⟨z0, z1, z2, k2, pp2, v2, c2, z3, z4, z5, z6, z7, z8, z9⟩, z10⟩
      exact ⟨z1, z0, z2, k2, pp2, v2, c2, z3, z5, z6, z7, by omega⟩
    refine s4.seq (fun q => q) e5 ?_ (fun i td hd => dm_takeClosing hd _ 93 (by decide))
    rintro i5 sg5 op5 hi5 hs5 ⟨w1, w2, w3, k, pp, v, c, w4, w5, w6, w7, w8⟩
    subst w2
    refine (ck_close h hs5 (by decide) e5).mono ?_
    rintro i6 sg6 op6 hi6 hs6 ⟨v1, v2, v3, v4'⟩
    subst v1; subst v2; subst v3
    refine ⟨rfl, w1, by omega, 32, p.2.2.1, vl i, _, w4.up ha.1, Or.inr (Or.inr (Or.inr (Or.inl rfl))), good_one (LOC.elem _ _ hnm) w5, ?_, ?_, fun hk => absurd hk (by decide), ?_⟩
    · rw [need_one, show nk 32 = 4 from by decide, show FO.nil.app (one k pp v c) = one k pp v c from rfl]; omega
    · have := ((t1.snoc).app w7).snoc
      rw [ck1, show nzT 91 (vl (i + 1)) = (91, 0) from by simp (decide := true) [nzT], v4', show nzT 93 (vl i5) = (93, 0) from by simp (decide := true) [nzT]] at this
      rw [innT_app, tk_snoc (by decide) (by decide)]
      have e1 : begT 32 (vl i) = [(1, vl i), (91, 0)] := by simp (decide := true) [begT, fstc, nxtc, sgT, bears]
      have e2 : ∀ n, finT 32 n = [(93, 0)] := by intro n; simp (decide := true) [finT, lstc, sgT, semi]
      have sp : sepT 32 (vl i) FO.nil.len k = [] := by simp (decide := true) [sepT, sepc, sgT]
      rw [e1, e2, sp, tkF]
      simp only [List.append_assoc, List.nil_append] at this ⊢
      exact this
    · unfold atL at w8
      rw [nx_len] at w8
      rw [atL_one]
      unfold atL at w8 ⊢
      omega
  next =>
    obtain ⟨⟨n, t2⟩, e2, e⟩ := unb e
    injection e with e
    subst e
    refine Or.inr ⟨i + 1, sg1, op1, by omega, hs1, rfl, Nat.le_refl _, hle, 6, p.2.2.1, vl i, FO.nil, ha.leaf (by omega) e2, Or.inl rfl, good_one (LOC.name _ hnm) trivial, ?_, ?_, fun hk => absurd hk (by decide), ?_⟩
    · rw [need_one, needF, show nk 6 = 10 from by decide]; omega
    · have : innT 6 (vl i) FO.nil = [(1, vl i)] := by (simp (decide := true) [innT, begT, finT, fstc, nxtc, lstc, sgT, bears, semi, tkF, nzT])
      rw [this]; exact t1
    · rw [atL_one]
      simp only [FO.flat, List.length_nil]; omega
theorem operand_ck (h : LX C mX m kd pl vl Ls) (tv : TV m kd vl nn) {fe : S_Parser → S_Tokens → S_Tree → Int32 → Int32 → Option (S_Parser × S_Tree)} (hfe : ESP m ar kd pl vl nn fe) {fo : S_Parser → S_Tokens → S_Tree → Int32 → Option (S_Parser × S_Tree)} (hfo : OSP m ar kd pl vl nn fo) : OSP m ar kd pl vl nn (f_Parser_operand_o fo fe) := by
  have hm := h.2.2.2.2.2
  refine ⟨?_, ?_⟩
  · intro l0 idx ts t p i sg op b r hs hle ha hl hb e
    have hi := hs.1
    obtain ⟨k1, k2, k3⟩ := hs.kind
    -- '-' and NOT
    have un : ∀ (K v : Int32), ((K = 45 ∧ v = 0) ∨ (K = 290 ∧ v = 1)) → p.2.1 = K → ((f_Tree_add t (Jn idx) 36 p.2.2.1 v).bind fun r12 => (f_Parser_takeOpening p (Jn m, ar, kd, pl, vl)).bind fun r13 => (fo r13 (Jn m, ar, kd, pl, vl) r12.2 r12.1).bind fun r14 => some ((r14.1.1, r14.1.2.1, r14.1.2.2.1, r14.1.2.2.2.1, r14.1.2.2.2.2.1, r14.1.2.2.2.2.2.1, r14.1.2.2.2.2.2.2.1 - 1, r14.1.2.2.2.2.2.2.2), r14.2)) = some r → CK m kd pl vl i r.1 (RX kd vl l0 idx ts r.2 i sg op (b - 1) nn (fun _ _ _ => False)) := by
      intro K v hKv hK e
      obtain ⟨⟨n, t1⟩, e1, e⟩ := unb e
      obtain ⟨p2, e2, e⟩ := unb e
      obtain ⟨r3, e3, e⟩ := unb e
      injection e with e
      subst e
      dsimp only at e3
      obtain ⟨hn, ha1⟩ := ha.down (by omega) e1
      rw [hn] at e3
      have ck : kd i = K := by rw [← k1]; exact hK
      have s2 := ck_open h hs (by rw [ck]; rcases hKv with ⟨x, _⟩ | ⟨x, _⟩ <;> rw [x] <;> decide) hle e2
      refine s2.seq (r := some ((r3.1.1, r3.1.2.1, r3.1.2.2.1, r3.1.2.2.2.1, r3.1.2.2.2.2.1, r3.1.2.2.2.2.2.1, r3.1.2.2.2.2.2.2.1 - 1, r3.1.2.2.2.2.2.2.2) : S_Parser)) (fun q => q) rfl ?_ (fun i2 td hd => ⟨_, rfl, (hfo.2 _ _ i2 td _ _ hd e3 : PD r3.1 i2 td)⟩)
      rintro i2 sg2 op2 hi2 hs2 ⟨y1, y2, y3, y4⟩
      subst y1; subst y2; subst y3
      rcases hfo.1 _ _ _ _ _ _ _ _ (b - 1) _ hs2 (by omega) ha1 (by
        rw [atL_nx]
        simp only [FO.flat, List.length_nil]; omega) (by omega) e3 with ⟨j, td, hd⟩ | ⟨i3, sg3, op3, z1, hs3, z2, z3, z4, k, pp, v2, c, z5, z6, z7, z8, z9, z10, z11⟩
      · exact Or.inl ⟨j, td, hd⟩
      subst z2
      refine Or.inr ⟨i3, sg3, op, z1, hs3.close, rfl, z3, by omega, 36, p.2.2.1, v, FO.nil.app (one k pp v2 c), z5.up ha.1, Or.inr (Or.inr (Or.inr (Or.inr (Or.inr (Or.inr (Or.inr rfl)))))), good_one (LOC.neg _ _ (by rcases hKv with ⟨_, x⟩ | ⟨_, x⟩ <;> rw [x] <;> decide)) z7, ?_, ?_, fun hk => absurd hk (by decide), ?_⟩
      · rw [need_one, show nk 36 = 4 from by decide, show FO.nil.app (one k pp v2 c) = one k pp v2 c from rfl]; omega
      · have tn : nzT (kd i) (vl i) = (fstc 36 v, 0) := by
          rw [ck]
          rcases hKv with ⟨x, y⟩ | ⟨x, y⟩ <;> subst x <;> subst y <;> simp (decide := true) [nzT, fstc]
        have t1 := SubT.tok (kd := kd) (vl := vl) i
        rw [tn] at t1
        have tB : SubT kd vl (i + 1) i3 (cxT 36 v 0 k v2 c) := by
          unfold cxT
          by_cases hbk : brk 36 v 0 k v2
          · rw [if_pos hbk]
            rcases z10 hbk.1 with z | z
            · exact z
            · exact z.elim
          · rw [if_neg hbk]; exact z9
        rw [innT_app, show FO.nil.app (one k pp v2 c) = one k pp v2 c from rfl, tkF_cx]
        have e1 : begT 36 v = [(fstc 36 v, 0)] := by
          rcases hKv with ⟨_, y⟩ | ⟨_, y⟩ <;> subst y <;> decide
        have e2 : ∀ n, finT 36 n = [] := by intro n; simp (decide := true) [finT, lstc, sgT, semi]
        have sp : sepT 36 v 0 k = [] := by simp (decide := true) [sepT, sepc, sgT]
        rw [e1, e2, sp, List.append_nil, List.nil_append]
        exact t1.app tB
      · unfold atL at z11
        rw [nx_len] at z11
        rw [atL_one]
        unfold atL at z11 ⊢
        omega
    unfold f_Parser_operand_o at e
    by_cases c1 : p.2.1 = 1
    · rw [if_pos c1] at e
      obtain ⟨r1, e1, e⟩ := unb e
      injection e with e
      subst e
      exact byName_ck h tv hfe hs hle ha hl hb (by rw [← k1]; exact c1) e1
    rw [if_neg c1] at e
    by_cases c40 : p.2.1 = 40
    · rw [if_pos c40] at e
      obtain ⟨p2, e2, e⟩ := unb e
      obtain ⟨r3, e3, e⟩ := unb e
      obtain ⟨p4, e4, e⟩ := unb e
      injection e with e
      subst e
      have ck : kd i = 40 := by rw [← k1]; exact c40
      have s2 := ck_open h hs (by rw [ck]; decide) hle e2
      have s3 : CK m kd pl vl i r3.1 (RX kd vl l0 idx ts r3.2 (i + 1) sg (op + 1) (b - 3) nn (fun _ _ _ => True)) := by
        refine s2.seq (fun q => q.1) e3 ?_ (fun i td hd => ⟨r3, e3, hfe.2 _ _ i td _ _ _ hd (by decide) e3⟩)
        rintro i2 sg2 op2 hi2 hs2 ⟨y1, y2, y3, y4⟩
        subst y1; subst y2; subst y3
        refine (hfe.1 _ _ _ _ _ _ _ _ (b - 2) _ _ hs2 (by omega) ha (by omega) (by omega) (by decide) e3).mono ?_
        rintro i5 sg5 op5 hi5 hs5 ⟨⟨z0, z1, z2, k2, pp2, v2, c2, z3, z4, z5, z6, z7, z8, z9⟩, z10⟩
        exact ⟨z0, z1, z2, k2, pp2, v2, c2, z3, z4, z5, z6, z7, fun _ => Or.inr trivial, by omega⟩
      refine s3.seq (fun q => q) e4 ?_ (fun i td hd => dm_takeClosing hd _ 41 (by decide))
      rintro i3 sg3 op3 hi3 hs3 ⟨z2, z3, z4, k, pp, v2, c, z5, z6, z7, z8, z9, z10, z11⟩
      subst z2
      refine (ck_close h hs3 (by decide) e4).mono ?_
      rintro i6 sg6 op6 hi6 hs6 ⟨v1, w2, v3, v4'⟩
      subst v1; subst w2; subst v3
      have t1 := ((SubT.tok (kd := kd) (vl := vl) i).app z9).snoc
      rw [ck, show nzT 40 (vl i) = (40, 0) from by simp (decide := true) [nzT], v4', show nzT 41 (vl i3) = (41, 0) from by simp (decide := true) [nzT]] at t1
      refine ⟨rfl, z3, by omega, k, pp, v2, c, z5, z6, z7, by omega, t1.sub ?_, fun _ => Or.inl ?_, by omega⟩
      · exact (List.sublist_append_right _ _).trans (List.sublist_append_left _ _)
      · unfold brT
        simp only [List.singleton_append, List.cons_append] at t1
        exact t1
    rw [if_neg c40] at e
    by_cases c45 : p.2.1 = 45
    · rw [if_pos c45, if_neg (by rw [c45]; decide)] at e
      exact un 45 0 (Or.inl ⟨rfl, rfl⟩) c45 e
    rw [if_neg c45] at e
    by_cases c290 : p.2.1 = 290
    · rw [if_pos c290, if_pos c290] at e
      exact un 290 1 (Or.inr ⟨rfl, rfl⟩) c290 e
    rw [if_neg c290] at e
    obtain ⟨r1, e1, e⟩ := unb e
    injection e with e
    subst e
    refine (literal_ck h tv hs ha hl (by omega) e1).mono (fun i' sg' op' _ _ hw => RX_of_R1 hle ?_ hw)
    rintro k (rfl | rfl)
    · exact ⟨Or.inr (Or.inl rfl), by decide⟩
    · exact ⟨Or.inr (Or.inr (Or.inl rfl)), by decide⟩
  · intro t p i td a r hp e
    unfold f_Parser_operand_o at e
    rw [if_neg (hp.ne 1 (by decide) (by decide)), if_neg (hp.ne 40 (by decide) (by decide)), if_neg (hp.ne 45 (by decide) (by decide)), if_neg (hp.ne 290 (by decide) (by decide))] at e
    obtain ⟨r1, e1, e⟩ := unb e
    injection e with e
    subst e
    exact dmE (Pq := fun b => PD b.1 i td) (dm_literal hp _ _ _) e1
theorem expression_ck (h : LX C mX m kd pl vl Ls) {fe : S_Parser → S_Tokens → S_Tree → Int32 → Int32 → Option (S_Parser × S_Tree)} (hfe : ESP m ar kd pl vl nn fe) {fo : S_Parser → S_Tokens → S_Tree → Int32 → Option (S_Parser × S_Tree)} (hfo : OSP m ar kd pl vl nn fo) : ESP m ar kd pl vl nn (f_Parser_expression_o fo fe) := by
  refine ⟨?_, ?_⟩
  · intro l0 idx ts t p i sg op b le r hs hle ha hl hb h0 e
    unfold f_Parser_expression_o at e
    obtain ⟨r1, e1, e⟩ := unb e
    rw [ha.size] at e
    rcases hfo.1 _ _ _ _ _ _ _ _ b _ hs hle ha hl hb e1 with ⟨j, td, hd⟩ | ⟨i3, sg3, op3, z1, hs3, z2, z3, z4, k, pp, v2, c, z5, z6, z7, z8, z9, z10, z11⟩
    · exact Or.inl ⟨j, td, L16_doom h0 hd e⟩
    subst z2
    refine L16_ck h hfe hb h0 FU 0 _ _ i3 sg3 r z1 (Nat.zero_le _) hs3 ⟨rfl, z3, z4, k, pp, v2, c, z5, z6, z7, z8, z9, fun hk => ?_, z11⟩ e
    rcases z10 hk with z | z
    · exact Or.inl z
    · exact z.elim
  · intro t p i td a le r hp h0 e
    unfold f_Parser_expression_o at e
    obtain ⟨r1, e1, e⟩ := unb e
    exact L16_doom h0 (hfo.2 _ _ i td _ _ hp e1) e
theorem GE_ck (h : LX C mX m kd pl vl Ls) (tv : TV m kd vl nn) : ∀ d, ESP m ar kd pl vl nn (GE d).1 ∧ OSP m ar kd pl vl nn (GE d).2
  | 0 => by
    refine ⟨⟨?_, ?_⟩, ⟨?_, ?_⟩⟩
    · intro l0 idx ts t p i sg op b le r _ _ _ _ _ _ e; exact absurd e (by simp [GE])
    · intro t p i td a le r _ _ e; exact absurd e (by simp [GE])
    · intro l0 idx ts t p i sg op b r _ _ _ _ _ e; exact absurd e (by simp [GE])
    · intro t p i td a r _ e; exact absurd e (by simp [GE])
  | d + 1 => by
    obtain ⟨h1, h2⟩ := GE_ck h tv d
    exact ⟨expression_ck h h1 h2, operand_ck h tv h1 h2⟩
theorem outer_ck (h : LX C mX m kd pl vl Ls) (tv : TV m kd vl nn) {l0 : List E4} {idx : Nat} {ts : FO} {t : S_Tree} {p : S_Parser} {i op : Nat} {b : Int} {r : S_Parser × S_Tree} (hs : SP m kd pl vl p i 0 op) (hop : op ≤ 60) (ha : AT l0 idx ts t) (hl : (atL l0 ts : Int) ≤ 2 * i + b) (hb : b ≤ 9) (e : f_Parser_outermostExpression p (Jn m, ar, kd, pl, vl) t (Jn idx) = some r) : CK m kd pl vl i r.1 (R1 kd vl l0 idx ts r.2 i 0 op (b - 1) nn 700 EXPK) := by
  unfold f_Parser_outermostExpression f_Parser_expression at e
  obtain ⟨r1, e1, e⟩ := unb e
  injection e with e
  subst e
  rcases (GE_ck h tv DE).1.1 _ _ _ _ _ _ _ _ b _ _ hs (by omega) ha hl hb (by decide) e1 with ⟨j, td, hd⟩ | ⟨i3, sg3, op3, z1, hs3, ⟨z2, z3, z4, k, pp, v2, c, z5, z6, z7, z8, z9, z10, z11⟩, _⟩
  · exact Or.inl ⟨j, td, hd⟩
  subst z2
  obtain ⟨hi, h5, pb, fq, hp, hpb⟩ := hs3
  refine Or.inr ⟨i3, 0, op3, z1, ⟨hi, h5, pb, fq, by rw [hp]; rfl, hpb⟩, rfl, rfl, k, pp, v2, c, z5, z6, z7, by omega, z9, z11⟩
end
end
section
/-! Assignments and invocations: their trees. -/
def nS (op : Nat) : Nat := 30 * (60 - op) + 720
/-- a statement's tree, its semicolon still due -/
def R1S (kd vl : Nat → Int32) (l0 : List E4) (idx : Nat) (ts : FO) (t : S_Tree) (i0 op : Nat) (b : Int) (nn : Nat) (i' sg' op' : Nat) : Prop :=
  sg' = 0 ∧ op' = op ∧ ∃ k p v c Y, AT l0 idx (ts.app (one k p v c)) t ∧ goodF nn (one k p v c) ∧ needF (one k p v c) ≤ nS op ∧ SubT kd vl i0 i' Y ∧ innT k v c = Y ++ [(59, 0)] ∧ (atL l0 (ts.app (one k p v c)) : Int) ≤ 2 * i' + b
section
variable {C : S_MC} {mX : S_MX} {m : Nat} {ar : Int32} {kd pl vl : Nat → Int32} {Ls : Nat → S_ML × S_MN} {nn : Nat}
theorem CK.at {i0 i1 : Nat} {p : S_Parser} {W : Nat → Nat → Nat → Prop} (h : CK m kd pl vl i1 p W) (hi : i0 ≤ i1) : CK m kd pl vl i0 p W := by
  rcases h with h | ⟨i, sg, op, h1, h2⟩
  · exact Or.inl h
  · exact Or.inr ⟨i, sg, op, by omega, h2⟩
/-- a state that began before -/
theorem ws_from {l0 : List E4} {idx : Nat} {t : S_Tree} {p : S_Parser} {i i0 sg op : Nat} {b : Int} {ts : FO} {X : List Tok} (h0 : i0 ≤ i) (hs : SP m kd pl vl p i sg op) (ha : AT l0 idx ts t) (hT : SubT kd vl i0 i X) (hl : (atL l0 ts : Int) ≤ 2 * i + b) : CK m kd pl vl i0 p (WST kd vl l0 idx t i0 sg op b (fun ts' X' => ts' = ts ∧ X' = X)) :=
  Or.inr ⟨i, sg, op, h0, hs, rfl, rfl, ts, X, ha, hT, ⟨rfl, rfl⟩, hl⟩
theorem ws_open (h : LX C mX m kd pl vl Ls) {l0 : List E4} {idx : Nat} {t : S_Tree} {p p' : S_Parser} {i0 op : Nat} {b : Int} {Q : FO → List Tok → Prop} {c : Int32} (hk : p.2.1 = c) (hc4 : c ≠ 4) (hz : nzT c 0 = (c, 0) ∧ c ≠ 1 ∧ c ≠ 2 ∧ c ≠ 3 ∧ c ≠ 5 ∧ c ≠ 6) (hop : op ≤ 60) (hc : CK m kd pl vl i0 p (WST kd vl l0 idx t i0 0 op b Q)) (e : f_Parser_takeOpening p (Jn m, ar, kd, pl, vl) = some p') : CK m kd pl vl i0 p' (fun i' sg' op' => WST kd vl l0 idx t i0 0 (op + 1) (b - 2) (QT Q c) i' sg' op' ∧ op + 1 ≤ 60) := by
  rcases hc with ⟨j, td, hd⟩ | ⟨i, sg1, op1, hi, hs, w1, w2, ts, X, w3, w4, w5, w6⟩
  · exact absurd hk (hd.ne c hz.2.2.2.2.1 hz.2.2.2.2.2)
  subst w1; subst w2
  have ck : kd i = c := by rw [← hs.kind.1]; exact hk
  refine ((ck_open h hs (by rw [ck]; exact hc4) (by omega) e).at hi).mono ?_
  rintro i' sg2 op2 _ hs' ⟨v1, v2, v3, v4⟩
  subst v1; subst v2; subst v3
  refine ⟨⟨rfl, rfl, ts, X ++ [(c, 0)], w3, ?_, ⟨X, w5, rfl⟩, by omega⟩, by omega⟩
  have := w4.snoc
  have en : nzT (kd i) (vl i) = (c, 0) := by
    rw [ck, ← hz.1]
    unfold nzT
    rw [if_neg hz.2.1, if_neg hz.2.2.1, if_neg hz.2.2.2.1, if_neg hz.2.1, if_neg hz.2.2.1, if_neg hz.2.2.2.1]
  rw [en] at this
  exact this
theorem ws_close (h : LX C mX m kd pl vl Ls) {l0 : List E4} {idx : Nat} {t : S_Tree} {p p' : S_Parser} {i0 sg op : Nat} {b : Int} {Q : FO → List Tok → Prop} {c : Int32} (hc : CK m kd pl vl i0 p (WST kd vl l0 idx t i0 sg (op + 1) b Q)) (h4 : c ≠ 4) (h5 : c ≠ 5) (hz : nzT c 0 = (c, 0) ∧ c ≠ 1 ∧ c ≠ 2 ∧ c ≠ 3) (e : f_Parser_takeClosing p (Jn m, ar, kd, pl, vl) c = some p') : CK m kd pl vl i0 p' (WST kd vl l0 idx t i0 sg op (b - 2) (QT Q c)) := by
  refine hc.seq (fun q => q) e ?_ (fun i td hd => dm_takeClosing hd _ c h5)
  rintro i sg' op' hi hs ⟨w1, w2, ts, X, w3, w4, w5, w6⟩
  subst w1; subst w2
  refine (ck_close h hs h4 e).mono ?_
  rintro i' sg2 op2 _ hs' ⟨v1, v2, v3, v4⟩
  refine ⟨v2, v3, ts, X ++ [(c, 0)], w3, ?_, ⟨X, w5, rfl⟩, by omega⟩
  have := w4.snoc
  have en : nzT (kd i) (vl i) = (c, 0) := by
    rw [v4, ← hz.1]
    unfold nzT
    rw [if_neg hz.2.1, if_neg hz.2.2.1, if_neg hz.2.2.2, if_neg hz.2.1, if_neg hz.2.2.1, if_neg hz.2.2.2]
  rw [en, ← v1] at this
  exact this
theorem ws_upS {l0 : List E4} {idx : Nat} {ts : FO} {t : S_Tree} {p : S_Parser} {i op : Nat} {b b' : Int} {Q : FO → List Tok → Prop} {k pp v : Int32} (h0 : idx < l0.length) (hc : CK m kd pl vl i p (WST kd vl (nx l0 idx ts (k, pp, v, 0)) (atL l0 ts) t i 0 op b Q)) (hb : b ≤ b') (hq : ∀ c X, Q c X → LOC nn k v c.ks ∧ goodF nn c ∧ nk k + needF c ≤ nS op ∧ innT k v c = X ++ [(59, 0)]) : CK m kd pl vl i p (R1S kd vl l0 idx ts t i op b' nn) := by
  refine hc.mono ?_
  rintro i' sg' op' _ _ ⟨w1, w2, c, X, w3, w4, w5, w6⟩
  obtain ⟨q1, q2, q3, q4⟩ := hq c X w5
  refine ⟨w1, w2, k, pp, v, c, X, w3.up h0, good_one q1 q2, by rw [need_one]; exact q3, w4, q4, ?_⟩
  rw [atL_nx] at w6
  rw [atL_one]; omega
theorem EXPK.n11 {k : Int32} (h : EXPK k) : k ≠ 11 := by
  rcases h with x | x | x | x | x | x | x | x <;> rw [x] <;> decide
theorem CONK.n11 {k : Int32} (h : CONK k) : k ≠ 11 := by
  rcases h with x | x <;> rw [x] <;> decide
theorem asg_fin (h : LX C mX m kd pl vl Ls) (tv : TV m kd vl nn) {l0 : List E4} {idx : Nat} {ts : FO} {i0 op : Nat} {b : Int} (hb : b ≤ 8) (hop : op ≤ 60) (h0 : idx < l0.length) {k1 p1 v1 P : Int32} {c1 : FO} {X1 : List Tok} {q q2 : S_Parser} {t : S_Tree} {r3 : S_Parser × S_Tree} (hX : innT k1 v1 c1 = X1) (hg : goodF nn (one k1 p1 v1 c1)) (hn : needF (one k1 p1 v1 c1) ≤ 704)
    (s : CK m kd pl vl i0 q (WST kd vl (nx l0 idx ts (12, P, 0, 0)) (atL l0 ts) t i0 0 op (b + 1) (fun ts' X' => ts' = one k1 p1 v1 c1 ∧ X' = X1))) (e2 : f_Parser_take q (Jn m, ar, kd, pl, vl) 14909 = some q2) (e3 : f_Parser_outermostExpression q2 (Jn m, ar, kd, pl, vl) t (Jn (atL l0 ts)) = some r3) : CK m kd pl vl i0 r3.1 (R1S kd vl l0 idx ts r3.2 i0 op b nn) := by
  have s2 := ws_take h s (by decide) (by decide) (by decide) e2
  have s3 := ws_one (nn := nn) s2 e3 (fun i ts hs ha hl => outer_ck h tv hs hop ha hl (by omega) e3) (fun i td hd => dm_outermost hd _ _ _)
  refine ws_upS h0 s3 (by omega) ?_
  rintro c X ⟨ts0, X0, k, pp, v, cc, ⟨Xa, ⟨z1, z2⟩, z3⟩, y1, y2, y3, y4, y5⟩
  subst y4; subst y5; subst z3; subst z1; subst z2
  refine ⟨LOC.asg _ _, goodF_app hg y2, ?_, ?_⟩
  · have n12 : nk 12 = 10 := by decide
    rw [needF_app]
    unfold nS; omega
  · have e1 : begT 12 0 = [] := by decide
    have e2 : ∀ n, finT 12 n = [(59, 0)] := by intro n; simp (decide := true) [finT, lstc, sgT, semi]
    have sp0 : sepT 12 0 0 k1 = [] := by simp (decide := true) [sepT, sepc, sgT]
    have sp1 : sepT 12 0 1 k = [(14909, 0)] := by simp (decide := true) [sepT, sepc, sgT]
    rw [innT_app, e1, e2, tk_snoc (by decide) (by decide), show (one k1 p1 v1 c1).len = 1 from rfl, sp1, tkF_one (by
      rintro ⟨_, x | ⟨x, _⟩⟩
      · exact absurd x (by decide)
      · exact absurd x (by decide)), sp0, hX]
    simp only [List.nil_append, List.append_assoc]
theorem asg_ck (h : LX C mX m kd pl vl Ls) (tv : TV m kd vl nn) {l0 : List E4} {idx : Nat} {ts : FO} {t : S_Tree} {p : S_Parser} {i op : Nat} {b : Int} {r : S_Parser × S_Tree} {P : Int32} (ck : kd i = 1) (hs : SP m kd pl vl p (i + 1) 0 op) (hop : op ≤ 60) (ha : AT l0 idx ts t) (hl : (atL l0 ts : Int) ≤ 2 * i + b) (hb : b ≤ 8) (e : f_Parser_assignment p (Jn m, ar, kd, pl, vl) t (Jn idx) P (vl i) = some r) : CK m kd pl vl i r.1 (R1S kd vl l0 idx ts r.2 i op b nn) := by
  have hm := h.2.2.2.2.2
  have hi := hs.1
  have hnm := (tv i (by omega)).1 ck
  have t1 := SubT.tok (kd := kd) (vl := vl) i
  rw [ck, show nzT 1 (vl i) = (1, vl i) from by simp (decide := true) [nzT]] at t1
  unfold f_Parser_assignment at e
  rw [ha.size] at e
  split at e
  next c91 =>
    obtain ⟨⟨n, t2⟩, e2, e⟩ := unb e
    obtain ⟨p3, e3, e⟩ := unb e
    obtain ⟨r4, e4, e⟩ := unb e
    obtain ⟨p5, e5, e⟩ := unb e
    obtain ⟨t6, e6, e⟩ := unb e
    obtain ⟨p7, e7, e⟩ := unb e
    obtain ⟨r8, e8, e⟩ := unb e
    injection e with e
    subst e
    obtain ⟨hn, ha2⟩ := ha.down (by omega) e2
    dsimp only at e4
    rw [hn] at e4
    have s1 := ws_from (i0 := i) (b := b - 1) (by omega) hs ha2 t1 (by
      rw [atL_nx]
      simp only [FO.flat, List.length_nil]; omega)
    have s3 := (ws_open h c91 (by decide) (by decide) hop s1 e3).mono (fun i' sg' op' _ _ hw => hw.1)
    have hop1 : CK m kd pl vl i p3 (fun i' sg' op' => WST kd vl (nx l0 idx ts (32, P, vl i, 0)) (atL l0 ts) t2 i 0 (op + 1) (b - 1 - 2) (QT (fun ts' X' => ts' = FO.nil ∧ X' = [(1, vl i)]) 91) i' sg' op' ∧ op + 1 ≤ 60) := ws_open h c91 (by decide) (by decide) hop s1 e3
    have s4 : CK m kd pl vl i r4.1 (WST kd vl (nx l0 idx ts (32, P, vl i, 0)) (atL l0 ts) r4.2 i 0 (op + 1) (b - 1 - 2 - 1) (Q1 nn 700 EXPK (QT (fun ts' X' => ts' = FO.nil ∧ X' = [(1, vl i)]) 91))) := by
      rcases hop1 with hop1 | ⟨_, _, _, _, _, _, hop1⟩
      · obtain ⟨j, td, hd⟩ := hop1
        exact Or.inl ⟨j, td, dmE (Pq := fun b => PD b.1 j td) (dm_outermost hd _ _ _) e4⟩
      · exact ws_one (nn := nn) s3 e4 (fun i ts hs ha hl => outer_ck h tv hs hop1 ha hl (by omega) e4) (fun i td hd => dm_outermost hd _ _ _)
    have s5 := ws_close h s4 (by decide) (by decide) (by decide) e5
    -- the element is done; the assignment goes around it
    rcases s5 with ⟨j, td, hd⟩ | ⟨i5, sg5, op5, y1, hs5, y2, y3, c, X, y4, y5, ⟨X0, ⟨ts0, X00, k, pp, v, cc, ⟨Xa, ⟨z1, z2⟩, z3⟩, x1, x2, x3, x4, x5⟩, x6⟩, y6⟩
    · have hd7 := dmE (Pq := fun b => PD b j td) (dm_take hd _ 14909 (by decide)) e7
      exact Or.inl ⟨j, td, dmE (Pq := fun b => PD b.1 j td) (dm_outermost hd7 _ _ _) e8⟩
    subst x6; subst x4; subst x5; subst z3; subst z1; subst z2; subst y2; subst y3
    have hup := y4.up ha.1
    have hlen : (atL l0 (ts.app (one 32 P (vl i) (FO.nil.app (one k pp v cc)))) : Int) ≤ 2 * i5 + (b - 1 - 2 - 1 - 2) := by
      rw [atL_nx] at y6
      rw [atL_one]; omega
    have hi5 := hs5.1
    have hw := hup.wrap (by omega) e6
    have hX : innT 32 (vl i) (FO.nil.app (one k pp v cc)) = [(1, vl i)] ++ [(91, 0)] ++ innT k v cc ++ [(93, 0)] := by
      have e1 : begT 32 (vl i) = [(1, vl i), (91, 0)] := by simp (decide := true) [begT, fstc, nxtc, sgT, bears]
      have e2 : ∀ n, finT 32 n = [(93, 0)] := by intro n; simp (decide := true) [finT, lstc, sgT, semi]
      have sp : sepT 32 (vl i) FO.nil.len k = [] := by simp (decide := true) [sepT, sepc, sgT]
      rw [innT_app, tk_snoc (by decide) (by decide), e1, e2, sp, tkF]
      simp only [List.append_assoc, List.nil_append, List.cons_append]
    refine asg_fin h tv hb hop ha.1 hX (good_one (LOC.elem _ _ hnm) x2) (by
      rw [need_one, show nk 32 = 4 from by decide, show FO.nil.app (one k pp v cc) = one k pp v cc from rfl]; omega) (ws_from y1 hs5 hw (by
      exact y5) (by
      rw [atL_nx, flat_one, List.length_cons]
      rw [atL_one] at hlen
      omega)) e7 e8
  next c91 =>
    obtain ⟨⟨n, t2⟩, e2, e⟩ := unb e
    obtain ⟨t3, e3, e⟩ := unb e
    obtain ⟨p4, e4, e⟩ := unb e
    obtain ⟨r5, e5, e⟩ := unb e
    injection e with e
    subst e
    have hup := ha.leaf (by omega) e2
    have hw := hup.wrap (by rw [atL_one]; simp only [FO.flat, List.length_nil]; omega) e3
    have hX : innT 6 (vl i) FO.nil = [(1, vl i)] := by (simp (decide := true) [innT, begT, finT, fstc, nxtc, lstc, sgT, bears, semi, tkF, nzT])
    exact asg_fin h tv hb hop ha.1 hX (good_one (LOC.name _ hnm) trivial) (by rw [need_one, needF]; decide) (ws_from (by omega) hs hw t1 (by
      rw [atL_nx, flat_one]
      simp only [FO.flat, List.length_cons, List.length_nil]; omega)) e4 e5
end
end
