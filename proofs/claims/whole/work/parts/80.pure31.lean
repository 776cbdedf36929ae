section
/-! Rows, rungs, ladders. -/
section
variable {C : S_MC} {mX : S_MX} {m : Nat} {ar : Int32} {kd pl vl : Nat → Int32} {Ls : Nat → S_ML × S_MN}
def isCellK (K : Int32) : Prop := K = 1 ∨ K = 40 ∨ K = 42 ∨ K = 45 ∨ K = 47 ∨ K = 60 ∨ K = 62
theorem startsCell_eq (p : S_Parser) : (isCellK p.2.1 → f_Parser_startsCell p = some 1) ∧ (¬ isCellK p.2.1 → f_Parser_startsCell p = some 0) := by
  unfold f_Parser_startsCell isCellK
  constructor
  · intro c
    by_cases a1 : p.2.1 = 1
    · rw [if_pos a1]
    rw [if_neg a1]
    by_cases a2 : p.2.1 = 40
    · rw [if_pos a2]
    rw [if_neg a2]
    by_cases a3 : p.2.1 = 42
    · rw [if_pos a3]
    rw [if_neg a3]
    by_cases a4 : p.2.1 = 45
    · rw [if_pos a4]
    rw [if_neg a4]
    by_cases a5 : p.2.1 = 47
    · rw [if_pos a5]
    rw [if_neg a5]
    by_cases a6 : p.2.1 = 60
    · rw [if_pos a6]
    rw [if_neg a6, if_pos ((((((c.resolve_left a1).resolve_left a2).resolve_left a3).resolve_left a4).resolve_left a5).resolve_left a6)]
  · intro c
    rw [if_neg (fun e => c (Or.inl e)), if_neg (fun e => c (Or.inr (Or.inl e))), if_neg (fun e => c (Or.inr (Or.inr (Or.inl e)))), if_neg (fun e => c (Or.inr (Or.inr (Or.inr (Or.inl e))))), if_neg (fun e => c (Or.inr (Or.inr (Or.inr (Or.inr (Or.inl e)))))), if_neg (fun e => c (Or.inr (Or.inr (Or.inr (Or.inr (Or.inr (Or.inl e))))))), if_neg (fun e => c (Or.inr (Or.inr (Or.inr (Or.inr (Or.inr (Or.inr e)))))))]
theorem isCell_eq {L : S_ML} {K : Int32} (h : KM K L.2.1) : (isCellK K → f_Model_isCell L = some 1) ∧ (¬ isCellK K → f_Model_isCell L = some 0) := by
  have q80 := KM_iff h (show ((1 : Int32), (80 : Int32)) ∈ KMT by decide)
  have q66 := KM_iff h (show ((47 : Int32), (66 : Int32)) ∈ KMT by decide)
  have q68 := KM_iff h (show ((60 : Int32), (68 : Int32)) ∈ KMT by decide)
  have q69 := KM_iff h (show ((62 : Int32), (69 : Int32)) ∈ KMT by decide)
  have q55 := KM_iff h (show ((40 : Int32), (55 : Int32)) ∈ KMT by decide)
  have q64 := KM_iff h (show ((45 : Int32), (64 : Int32)) ∈ KMT by decide)
  have q65 := KM_iff h (show ((42 : Int32), (65 : Int32)) ∈ KMT by decide)
  unfold f_Model_isCell isCellK
  rw [q80, q66, q68, q69, q55, q64, q65]
  constructor
  · intro c
    by_cases a1 : L.2.1 = 66
    · rw [if_pos a1]
    rw [if_neg a1]
    by_cases a2 : L.2.1 = 69
    · rw [if_pos a2]
    rw [if_neg a2]
    by_cases a3 : L.2.1 = 68
    · rw [if_pos a3]
    rw [if_neg a3]
    by_cases a4 : L.2.1 = 80
    · rw [if_pos a4]
    rw [if_neg a4]
    by_cases a5 : L.2.1 = 64
    · rw [if_pos a5]
    rw [if_neg a5]
    by_cases a6 : L.2.1 = 65
    · rw [if_pos a6]
    rw [if_neg a6]
    by_cases a7 : L.2.1 = 55
    · rw [if_pos a7]
    rcases c with c | c | c | c | c | c | c <;> contradiction
  · intro c
    rw [if_neg (fun e => c (Or.inr (Or.inr (Or.inr (Or.inr (Or.inl e)))))), if_neg (fun e => c (Or.inr (Or.inr (Or.inr (Or.inr (Or.inr (Or.inr e))))))), if_neg (fun e => c (Or.inr (Or.inr (Or.inr (Or.inr (Or.inr (Or.inl e))))))), if_neg (fun e => c (Or.inl e)), if_neg (fun e => c (Or.inr (Or.inr (Or.inr (Or.inl e))))), if_neg (fun e => c (Or.inr (Or.inr (Or.inl e)))), if_neg (fun e => c (Or.inr (Or.inl e)))]
theorem rowL_acc (h : LX C mX m kd pl vl Ls) {B E op ds} (hd : ds.length + 20 ≤ 200 + 20 * op) : ∀ (d f tn : Nat) (p : S_Parser) (t : S_Tree) (i : Nat) (s : MSt) (b : Int), b ≤ 6 → m - i < d → d ≤ f → tn ≤ i → ACC m kd pl vl Ls B E op (154 :: ds) b p t i s →
    ∃ r, f_Parser_row_L23 (Jn B.2.1) (Jn m, ar, kd, pl, vl) f (Jn tn) p t = some r ∧ OK C mX m kd pl vl s i 1 10 r.1 (ACC m kd pl vl Ls B E op ds b r.1 r.2) := by
  have hm := h.2.2.2.2.2
  intro d
  induction d with
  | zero => intro f tn p t i s b hb h1; omega
  | succ d ih =>
    intro f tn p t i s b hb h1 h2 htn hA
    obtain ⟨f, rfl⟩ : ∃ g, f = g + 1 := ⟨f - 1, by omega⟩
    have hi : i < m := hA.1.1
    have hop := hA.2.1
    have htok := hA.tok h
    obtain ⟨k1, k2, k3⟩ := hA.1.kind
    have q71 := KM_iff htok.1 (show ((124 : Int32), (71 : Int32)) ∈ KMT by decide)
    have dl23 : ∀ (q : S_Parser) (t' : S_Tree) (i' : Nat) (td : Int32), PD q i' td → ∃ r, f_Parser_row_L23 (Jn B.2.1) (Jn m, ar, kd, pl, vl) f (Jn (tn + 1)) q t' = some r ∧ PD r.1 i' td := by
      intro q t' i' td hq
      obtain ⟨g, rfl⟩ : ∃ g, f = g + 1 := ⟨f - 1, by omega⟩
      exact ⟨_, dm_L23 hq _ _ _ _ _, hq⟩
    unfold f_Parser_row_L23
    rw [if_neg (nleL 8192 (by omega))]
    by_cases c : p.2.1 = 124
    · rw [if_pos c, if_pos c, k2]
      have ck : kd i = 124 := by rw [← k1]; exact c
      obtain ⟨n1, t1, p1, e1, e2, o1⟩ := leafAdv (ar := ar) h hA (by rw [ck]; decide) (by omega) (ds' := 153 :: 154 :: ds) (by simp only [List.length_cons]; omega) 29 0 (by
        intro T T' U o3 hU hl hst
        obtain ⟨U1, u1, v1⟩ := push2_ok hU (by omega) 154 153
        refine ⟨U1, act_154 (r17 := ((Ls (i + 1)).1, (Ls (i + 1)).2, T', U1)) ?_, v1⟩
        unfold f_Model_moreCells
        rw [if_pos (by rw [← q71]; exact ck), htok.2, hl, ob_some, u1, ob_some, hst]; rfl)
      rw [ck] at e2
      rw [e1, ob_some, e2, ob_some]
      dsimp only
      obtain ⟨r3, e3, o3⟩ := o1.seq (fun i s _ hw => cell_acc (ar := ar) h (by omega) (by simp only [List.length_cons]; omega) hw) (fun i td hd => dm_cell hd _ _ _)
      rw [e3, ob_some, nm_eq, addL tn 1]
      obtain ⟨r4, e4, o4⟩ := o3.seqP (fun i' s' hi' hpos hw => ih f (tn + 1) _ _ i' s' _ (by omega) (by omega) (by omega) (by omega) hw) (fun i td hd => dl23 _ _ i td hd)
      exact ⟨r4, e4, o4.mono (by omega) (by omega) (fun _ _ _ z => z.mono (by omega))⟩
    · rw [if_neg c, if_neg c]
      by_cases cc : isCellK p.2.1
      · rw [(startsCell_eq p).1 cc, ob_some, if_neg (by decide)]
        have o1 : OK C mX m kd pl vl s i 1 0 p (ACC m kd pl vl Ls B E op (153 :: 154 :: ds) b p t) := by
          obtain ⟨hs, g2, g3, T, U, o3, len, rfl, hU, g6, g7⟩ := id hA
          obtain ⟨U1, u1, v1⟩ := push2_ok (U := (Jn ds.length, U.2)) hU.pop.2.2 (by omega) 154 153
          refine Or.inl ⟨i, _, 1, Nat.le_refl _, by omega, RUN.one (tokZ h hi hs.2.1) hU (act_154 (r17 := ((Ls i).1, (Ls i).2, T, U1)) ?_), hs, g2, by simp only [List.length_cons]; omega, T, U1, o3, len, rfl, v1, g6, g7⟩
          unfold f_Model_moreCells
          rw [if_neg (by rw [← q71, ← k1]; exact c), (isCell_eq htok.1).1 (by rw [← k1]; exact cc), ob_some, if_neg (by decide), u1]; rfl
        obtain ⟨r3, e3, o3⟩ := o1.seq (fun i s _ hw => cell_acc (ar := ar) h (by omega) (by simp only [List.length_cons]; omega) hw) (fun i td hd => dm_cell hd _ _ _)
        rw [e3, ob_some, nm_eq, addL tn 1]
        obtain ⟨r4, e4, o4⟩ := o3.seqP (fun i' s' hi' hpos hw => ih f (tn + 1) _ _ i' s' _ (by omega) (by omega) (by omega) (by omega) hw) (fun i td hd => dl23 _ _ i td hd)
        exact ⟨r4, e4, o4.mono (by omega) (by omega) (fun _ _ _ z => z.mono (by omega))⟩
      · rw [(startsCell_eq p).2 cc, ob_some, if_pos rfl]
        refine ⟨_, rfl, (perhapsNo h hA (fun T U o3 => ?_)).mono (by omega) (by omega) (fun _ _ _ z => z)⟩
        refine act_154 (r17 := ((Ls i).1, (Ls i).2, T, U)) ?_
        unfold f_Model_moreCells
        rw [if_neg (by rw [← q71, ← k1]; exact c), (isCell_eq htok.1).2 (by rw [← k1]; exact cc), ob_some, if_pos rfl]
theorem row_acc (h : LX C mX m kd pl vl Ls) {B E op ds b p t i s} {x : Int32} (hb : b ≤ 5) (hd : ds.length + 30 ≤ 200 + 20 * op) (hA : ACC m kd pl vl Ls B E op (151 :: ds) b p t i s) :
    ∃ r, f_Parser_row p (Jn m, ar, kd, pl, vl) t (Jn B.2.1) = some r ∧ OK C mX m kd pl vl s i (-29) 15 r.1 (ACC m kd pl vl Ls B E op ds (b - 1) r.1 r.2) := by
  have hm := h.2.2.2.2.2
  have hop := hA.2.1
  have htok := hA.tok h
  obtain ⟨k1, k2, k3⟩ := hA.1.kind
  unfold f_Parser_row
  rw [k2]
  obtain ⟨t1, B', e1, hc, o1⟩ := downStay h hA (by omega) (ds' := 153 :: 154 :: 60 :: 101 :: ds) (by simp only [List.length_cons]; omega) 24 (pl i) 0 (by
    intro T T' U o3 hU hl
    obtain ⟨U1, u1, v1⟩ := push4_ok hU (by omega) 101 60 154 153
    refine ⟨U1, act_151 (by rw [htok.2]; exact hl) u1, v1⟩)
  rw [e1, ob_some]
  dsimp only
  obtain ⟨r2, e2, o2⟩ := o1.seq (fun i s _ hw => cell_acc (ar := ar) h (by omega) (by simp only [List.length_cons]; omega) hw) (fun i td hd => dm_cell hd _ _ _)
  rw [e2, ob_some]
  obtain ⟨r3, e3, o3⟩ := o2.seq (fun i s _ hw => rowL_acc (ar := ar) h (by simp only [List.length_cons]; omega) 9000 FU 0 _ _ i s _ (by omega) (by omega) (by decide) (by omega) hw) (fun i td hd => ⟨_, by rw [FU1]; exact dm_L23 hd _ _ _ _ _, hd⟩)
  rw [show (0 : Int32) = Jn 0 from rfl, e3, ob_some]
  obtain ⟨p4, e4, o4⟩ := o3.seq (fun i s _ hw => pass_acc (ar := ar) (c := 59) h (by decide) (by decide) hw) (fun i td hd => dm_take hd _ 59 (by decide))
  rw [e4, ob_some]
  obtain ⟨r5, e5, o5⟩ := o4.seq (r := some (p4, r3.2)) (pr := fun r => r.1) (W' := fun r => ACC m kd pl vl Ls B E op ds (b - 1) r.1 r.2) (c' := 1) (F' := 0) (fun i s _ hw => ⟨_, rfl, (up_acc h hc hw).mono (by omega) (by omega) (fun _ _ _ z => z.mono (by omega))⟩) (fun i td hd => ⟨_, rfl, hd⟩)
  exact ⟨r5, e5, o5.mono (by omega) (by omega) (fun _ _ _ z => z)⟩
theorem rowsL_acc (h : LX C mX m kd pl vl Ls) {B E op ds} (hd : ds.length + 40 ≤ 200 + 20 * op) : ∀ (d f tn : Nat) (p : S_Parser) (t : S_Tree) (i : Nat) (s : MSt) (b : Int), b ≤ 5 → m - i < d → d ≤ f → tn ≤ i → ACC m kd pl vl Ls B E op (152 :: ds) b p t i s →
    ∃ r, f_Parser_ladder_L75 (Jn B.2.1) (Jn m, ar, kd, pl, vl) f (Jn tn) p t = some r ∧ OK C mX m kd pl vl s i 1 20 r.1 (ACC m kd pl vl Ls B E op ds b r.1 r.2) := by
  have hm := h.2.2.2.2.2
  intro d
  induction d with
  | zero => intro f tn p t i s b hb h1; omega
  | succ d ih =>
    intro f tn p t i s b hb h1 h2 htn hA
    obtain ⟨f, rfl⟩ : ∃ g, f = g + 1 := ⟨f - 1, by omega⟩
    have hi : i < m := hA.1.1
    have hop := hA.2.1
    have htok := hA.tok h
    obtain ⟨k1, k2, k3⟩ := hA.1.kind
    unfold f_Parser_ladder_L75
    rw [if_neg (nleL 8192 (by omega))]
    by_cases cc : isCellK p.2.1
    · rw [(startsCell_eq p).1 cc, ob_some, if_neg (by decide)]
      have o1 : OK C mX m kd pl vl s i 1 0 p (ACC m kd pl vl Ls B E op (151 :: 152 :: ds) b p t) := by
        obtain ⟨hs, g2, g3, T, U, o3, len, rfl, hU, g6, g7⟩ := id hA
        obtain ⟨U1, u1, v1⟩ := push2_ok (U := (Jn ds.length, U.2)) hU.pop.2.2 (by omega) 152 151
        refine Or.inl ⟨i, _, 1, Nat.le_refl _, by omega, RUN.one (s' := ((Ls i).1, (Ls i).2, T, U1, (Jn op, 0, 0, o3), E)) (tokZ h hi hs.2.1) hU ?_, hs, g2, by simp only [List.length_cons]; omega, T, U1, o3, len, rfl, v1, g6, g7⟩
        rw [act_152, (isCell_eq htok.1).1 (by rw [← k1]; exact cc), ob_some, if_neg (by decide), u1]; rfl
      obtain ⟨r3, e3, o3⟩ := o1.seq (fun i s _ hw => row_acc (x := 0) (ar := ar) h (by omega) (by simp only [List.length_cons]; omega) hw) (fun i td hd => dm_row hd _ _ _)
      rw [e3, ob_some, nm_eq, addL tn 1]
      obtain ⟨r4, e4, o4⟩ := o3.seqP (fun i' s' hi' hpos hw => ih f (tn + 1) _ _ i' s' _ (by omega) (by omega) (by omega) (by omega) hw) (fun i td hd => ⟨_, by
        obtain ⟨g, rfl⟩ : ∃ g, f = g + 1 := ⟨f - 1, by omega⟩
        exact dm_L75 hd _ _ _ _ _, hd⟩)
      exact ⟨r4, e4, o4.mono (by omega) (by omega) (fun _ _ _ z => z.mono (by omega))⟩
    · rw [(startsCell_eq p).2 cc, ob_some, if_pos rfl]
      refine ⟨_, rfl, (perhapsNo h hA (fun T U o3 => ?_)).mono (by omega) (by omega) (fun _ _ _ z => z)⟩
      rw [act_152, (isCell_eq htok.1).2 (by rw [← k1]; exact cc), ob_some, if_pos rfl]; rfl
theorem rungsL_acc (h : LX C mX m kd pl vl Ls) {B E op ds} (hd : ds.length + 60 ≤ 200 + 20 * op) : ∀ (d f tn : Nat) (p : S_Parser) (t : S_Tree) (i : Nat) (s : MSt) (b : Int), b ≤ 4 → m - i < d → d ≤ f → tn ≤ i → ACC m kd pl vl Ls B E op (150 :: ds) b p t i s →
    ∃ r, f_Parser_ladder_L25 (Jn B.2.1) (Jn m, ar, kd, pl, vl) f (Jn tn) p t = some r ∧ OK C mX m kd pl vl s i 1 30 r.1 (ACC m kd pl vl Ls B E op ds b r.1 r.2) := by
  have hm := h.2.2.2.2.2
  intro d
  induction d with
  | zero => intro f tn p t i s b hb h1; omega
  | succ d ih =>
    intro f tn p t i s b hb h1 h2 htn hA
    obtain ⟨f, rfl⟩ : ∃ g, f = g + 1 := ⟨f - 1, by omega⟩
    have hi : i < m := hA.1.1
    have hop := hA.2.1
    have htok := hA.tok h
    obtain ⟨k1, k2, k3⟩ := hA.1.kind
    have q39 := KM_iff htok.1 (show ((295 : Int32), (39 : Int32)) ∈ KMT by decide)
    unfold f_Parser_ladder_L25
    rw [if_neg (nleL 8192 (by omega))]
    by_cases c : p.2.1 = 295
    · rw [if_pos c, k2]
      have ck : kd i = 295 := by rw [← k1]; exact c
      obtain ⟨t1, p1, B', e1, e2, hc, o1⟩ := downAdv (ar := ar) h hA (by rw [ck]; decide) (by omega) (ds' := 151 :: 152 :: 40 :: 101 :: 150 :: ds) (by simp only [List.length_cons]; omega) 23 0 (by
        intro T T' U o3 hU hl hst
        obtain ⟨U1, u1, v1⟩ := push4_ok hU (by omega) 150 101 40 152
        obtain ⟨U2, u2, v2⟩ := push_ok v1 (by simp only [List.length_cons]; omega) 151
        refine ⟨U2, ?_, v2⟩
        rw [act_150, if_pos (by rw [← q39]; exact ck), htok.2, hl, ob_some, u1, ob_some, u2, ob_some, hst]; rfl)
      rw [ck] at e2
      rw [e1, ob_some, e2, ob_some]
      dsimp only
      obtain ⟨r3, e3, o3⟩ := o1.seq (fun i s _ hw => row_acc (x := 0) (ar := ar) h (by omega) (by simp only [List.length_cons]; omega) hw) (fun i td hd => dm_row hd _ _ _)
      rw [e3, ob_some]
      obtain ⟨r4, e4, o4⟩ := o3.seq (fun i s _ hw => rowsL_acc (ar := ar) h (by simp only [List.length_cons]; omega) 9000 FU 0 _ _ i s _ (by omega) (by omega) (by decide) (by omega) hw) (fun i td hd => ⟨_, by rw [FU1]; exact dm_L75 hd _ _ _ _ _, hd⟩)
      rw [show (0 : Int32) = Jn 0 from rfl, e4, ob_some]
      obtain ⟨p5, e5, o5⟩ := o4.seq (fun i s _ hw => pass_acc (ar := ar) (c := 296) h (by decide) (by decide) hw) (fun i td hd => dm_take hd _ 296 (by decide))
      rw [e5, ob_some, nm_eq, addL tn 1]
      obtain ⟨r6, e6, o6⟩ := o5.seqP (fun i' s' hi' hpos hw => by
        have u := up_acc h hc hw
        obtain ⟨r, x1, x2⟩ := u.seqP (fun i2 s2 hi2 hp2 hw2 => ih f (tn + 1) _ _ i2 s2 _ (by omega) (by omega) (by omega) (by omega) hw2) (fun i td hd => ⟨_, by
          obtain ⟨g, rfl⟩ : ∃ g, f = g + 1 := ⟨f - 1, by omega⟩
          exact dm_L25 hd _ _ _ _ _, hd⟩)
        exact ⟨r, x1, x2⟩) (fun i td hd => ⟨_, by
          obtain ⟨g, rfl⟩ : ∃ g, f = g + 1 := ⟨f - 1, by omega⟩
          exact dm_L25 hd _ _ _ _ _, hd⟩)
      exact ⟨r6, e6, o6.mono (by omega) (by omega) (fun _ _ _ z => z.mono (by omega))⟩
    · rw [if_neg c]
      refine ⟨_, rfl, (perhapsNo h hA (fun T U o3 => ?_)).mono (by omega) (by omega) (fun _ _ _ z => z)⟩
      rw [act_150, if_neg (by rw [← q39, ← k1]; exact c)]; rfl
/-- a ladder, where a block's body is due -/
theorem ladder_acc (h : LX C mX m kd pl vl Ls) {B E op ds b p t i s} (hb : b ≤ 4) (hd : ds.length + 70 ≤ 200 + 20 * op) (hk : p.2.1 = 293) (hA : ACC m kd pl vl Ls B E op (102 :: ds) b p t i s) :
    ∃ r, f_Parser_ladder p (Jn m, ar, kd, pl, vl) t (Jn B.2.1) = some r ∧ OK C mX m kd pl vl s i (-20) 35 r.1 (ACC m kd pl vl Ls B E op ds b r.1 r.2) := by
  have hm := h.2.2.2.2.2
  have hop := hA.2.1
  have htok := hA.tok h
  obtain ⟨k1, k2, k3⟩ := hA.1.kind
  have ck : kd i = 293 := by rw [← k1]; exact hk
  have q37 := KM_iff htok.1 (show ((293 : Int32), (37 : Int32)) ∈ KMT by decide)
  unfold f_Parser_ladder
  rw [k2]
  obtain ⟨t1, p1, B', e1, e2, hc, o1⟩ := downAdv (ar := ar) h hA (by rw [ck]; decide) (by omega) (ds' := 150 :: 38 :: 101 :: ds) (by simp only [List.length_cons]; omega) 22 0 (by
    intro T T' U o3 hU hl hst
    obtain ⟨U1, u1, v1⟩ := push2_ok hU (by omega) 101 38
    obtain ⟨U2, u2, v2⟩ := push_ok v1 (by simp only [List.length_cons]; omega) 150
    refine ⟨U2, act_102 (r6 := ((Ls (i + 1)).1, (Ls (i + 1)).2, T', U2)) ?_, v2⟩
    unfold f_Model_body
    rw [if_pos (by rw [← q37]; exact ck), htok.2, hl, ob_some, hst, ob_some, u1, ob_some, u2]; rfl)
  rw [ck] at e2
  rw [e1, ob_some, e2, ob_some]
  dsimp only
  obtain ⟨r3, e3, o3⟩ := o1.seq (fun i s _ hw => rungsL_acc (ar := ar) h (by simp only [List.length_cons]; omega) 9000 FU 0 _ _ i s _ (by omega) (by omega) (by decide) (by omega) hw) (fun i td hd => ⟨_, by rw [FU1]; exact dm_L25 hd _ _ _ _ _, hd⟩)
  rw [show (0 : Int32) = Jn 0 from rfl, e3, ob_some]
  obtain ⟨p4, e4, o4⟩ := o3.seq (fun i s _ hw => pass_acc (ar := ar) (c := 294) h (by decide) (by decide) hw) (fun i td hd => dm_take hd _ 294 (by decide))
  rw [e4, ob_some]
  obtain ⟨r5, e5, o5⟩ := o4.seq (r := some (p4, r3.2)) (pr := fun r => r.1) (W' := fun r => ACC m kd pl vl Ls B E op ds b r.1 r.2) (c' := 1) (F' := 0) (fun i s _ hw => ⟨_, rfl, (up_acc h hc hw).mono (by omega) (by omega) (fun _ _ _ z => z.mono (by omega))⟩) (fun i td hd => ⟨_, rfl, hd⟩)
  exact ⟨r5, e5, o5.mono (by omega) (by omega) (fun _ _ _ z => z)⟩
end
end
section
/-! The reference's stacks of operands, signs that wait, and beginnings. -/
def EStk (E : S_ME) (os : List Nat) (ws : List (Int32 × Int32)) (bs : List Nat) : Prop :=
  Stk 400 E.1 E.2.2.2.1 (os.map Jn) ∧ Stk 400 E.2.1 E.2.2.2.2.1 (ws.map Prod.fst) ∧ Stk 400 E.2.1 E.2.2.2.2.2.1 (ws.map Prod.snd) ∧ Stk 400 E.2.2.1 E.2.2.2.2.2.2 (bs.map Jn)
theorem putOp {E os ws bs} (h : EStk E os ws bs) (hl : os.length < 400) (e : Nat) : ∃ E', f_Model_putOperand E (Jn e) = some E' ∧ EStk E' (e :: os) ws bs := by
  obtain ⟨h1, h2, h3, h4⟩ := h
  unfold f_Model_putOperand
  have hl' : (os.map Jn).length < 400 := by rw [List.length_map]; exact hl
  rw [h1.1, gd_Jn hl' (by omega), Jn_cl (by omega), addL _ 1]
  exact ⟨_, rfl, h1.push (Jn e) hl', h2, h3, h4⟩
theorem takeOp {E e os ws bs} (h : EStk E (e :: os) ws bs) : ∃ E', f_Model_takeOperand E = some (Jn e, E') ∧ EStk E' os ws bs := by
  obtain ⟨h1, h2, h3, h4⟩ := h
  have h1' : Stk 400 E.1 E.2.2.2.1 (Jn e :: os.map Jn) := h1
  obtain ⟨a1, a2, a3⟩ := h1'.pop
  have hl := h1'.2.1
  rw [List.length_cons] at hl
  unfold f_Model_takeOperand
  rw [a1, subL 1 (by omega), show (os.map Jn).length + 1 - 1 = (os.map Jn).length by omega, gd_Jn (by omega) (by omega), Jn_cl (by omega), a2]
  exact ⟨_, rfl, a3, h2, h3, h4⟩
theorem waitF {E os ws bs} (h : EStk E os ws bs) (hl : ws.length < 400) (x q : Int32) : ∃ E', f_Model_waitFor E x q = some E' ∧ EStk E' os ((x, q) :: ws) bs := by
  obtain ⟨h1, h2, h3, h4⟩ := h
  unfold f_Model_waitFor
  have hl1 : (ws.map Prod.fst).length < 400 := by rw [List.length_map]; exact hl
  have hl2 : (ws.map Prod.snd).length < 400 := by rw [List.length_map]; exact hl
  have e2 := h2.1
  rw [e2, gd_Jn hl1 (by omega), gd_Jn hl1 (by omega), Jn_cl (by omega), addL _ 1]
  refine ⟨_, rfl, h1, h2.push x hl1, ?_, h4⟩
  have := h3.push q hl2
  rw [List.length_map] at this ⊢
  exact this
/-- the sign that waits last -/
theorem EStk.top {E os x q ws bs} (h : EStk E os ((x, q) :: ws) bs) : E.2.1 = Jn (ws.length + 1) ∧ ws.length < 400 ∧ E.2.2.2.2.1 ws.length = x ∧ E.2.2.2.2.2.1 ws.length = q ∧ EStk (E.1, Jn ws.length, E.2.2) os ws bs := by
  obtain ⟨h1, h2, h3, h4⟩ := h
  have h2' : Stk 400 E.2.1 E.2.2.2.2.1 (x :: ws.map Prod.fst) := h2
  have h3' : Stk 400 E.2.1 E.2.2.2.2.2.1 (q :: ws.map Prod.snd) := h3
  obtain ⟨a1, a2, a3⟩ := h2'.pop
  obtain ⟨b1, b2, b3⟩ := h3'.pop
  have hl := h2'.2.1
  rw [List.length_cons, List.length_map] at hl
  rw [List.length_map] at a1 a2 a3 b2 b3
  exact ⟨a1, by omega, a2, b2, h1, a3, b3, h4⟩
def OPV (lo : Nat) (T : S_MT) (N : Nat) (ch : Nat → List Nat) (e : Nat) (D : List Nat) (seg : List E4) : Prop :=
  e < N ∧ par T e = -1 ∧ PreI ch [e] D ∧ (∀ y, y ∈ D → lo ≤ y ∧ y < N) ∧ D.map (ent T ch) = seg
def FRX (lo N : Nat) (T : S_MT) (ch : Nat → List Nat) (N' : Nat) (T' : S_MT) (ch' : Nat → List Nat) : Prop :=
  N ≤ N' ∧ T'.2.1 = T.2.1 ∧ ∀ y, y < lo → ch' y = ch y ∧ dat T' y = dat T y ∧ par T' y = par T y
theorem FRX.refl {lo N T ch} : FRX lo N T ch N T ch := ⟨Nat.le_refl _, rfl, fun _ _ => ⟨rfl, rfl, rfl⟩⟩
theorem FRX.trans {lo lo' N T ch N' T' ch' N'' T'' ch''} (h1 : FRX lo N T ch N' T' ch') (h2 : FRX lo' N' T' ch' N'' T'' ch'') (hl : lo ≤ lo') : FRX lo N T ch N'' T'' ch'' := by
  refine ⟨Nat.le_trans h1.1 h2.1, h2.2.1.trans h1.2.1, fun y hy => ?_⟩
  obtain ⟨a1, a2, a3⟩ := h1.2.2 y hy
  obtain ⟨b1, b2, b3⟩ := h2.2.2 y (by omega)
  exact ⟨b1.trans a1, b2.trans a2, b3.trans a3⟩
theorem PreI.mem {ch : Nat → List Nat} {e : Nat} {D : List Nat} (h : PreI ch [e] D) : e ∈ D := by
  cases D with
  | nil => exact (List.cons_ne_nil _ _ h).elim
  | cons y D => rw [h.1]; exact List.mem_cons_self
/-- a finished operand is not touched by what comes -/
theorem OPV.keep {lo lo' T N ch e D seg N' T' ch'} (h : OPV lo T N ch e D seg) (hb : ∀ y, y ∈ D → y < lo') (hf : FRX lo' N T ch N' T' ch') : OPV lo T' N' ch' e D seg := by
  obtain ⟨h1, h2, h3, h4, h5⟩ := h
  have he := h3.mem
  refine ⟨by have := hf.1; omega, by rw [(hf.2.2 e (hb e he)).2.2]; exact h2, PreI.congr (fun y hy => (hf.2.2 y (hb y hy)).1) h3, fun y hy => ⟨(h4 y hy).1, by have := (h4 y hy).2; have := hf.1; omega⟩, ?_⟩
  rw [← h5]
  apply map_congr'
  intro y hy
  unfold ent
  rw [(hf.2.2 y (hb y hy)).2.1, (hf.2.2 y (hb y hy)).1]
theorem settle1 {T N ch O E e os x q ws bs lo D seg} (hG : GT T N ch) (hN : N < 20000) (hE : EStk E (e :: os) ((x, q) :: ws) bs) (hx : (20 : Int32) ≤ x) (hv : OPV lo T N ch e D seg) (hlo : lo ≤ N) :
    ∃ T' E' ch', f_Model_settle T O E = some (T', (O.1 - 1, O.2), E') ∧ EStk E' (N :: os) ws bs ∧ GT T' (N + 1) ch' ∧ OPV lo T' (N + 1) ch' N (N :: D) ((36, q, x - 20, 1) :: seg) ∧ FRX lo N T ch (N + 1) T' ch' := by
  obtain ⟨t1, t2, t3, t4, t5⟩ := hE.top
  obtain ⟨E1, o1, o2⟩ := takeOp t5
  obtain ⟨v1, v2, v3, v4, v5⟩ := hv
  have heD := v3.mem
  obtain ⟨Ta, a1, a2, a3, a4, a5, a6⟩ := make_ok hG hN 36 q (x - 20)
  have eN : e ≠ N := by omega
  obtain ⟨Tb, b1, b2, b3, b4, b5, b6⟩ := hang_ok a2 (y := e) (x := N) (by omega) (by omega) (by rw [(a6 e eN).1]; exact v2)
  have os4 : os.length < 400 := by
    have := hE.1.2.1
    rw [List.map_cons, List.length_cons, List.length_map] at this
    omega
  obtain ⟨E2, p1, p2⟩ := putOp o2 os4 N
  have hcN : updN (updN ch N []) N (updN ch N [] N ++ [e]) N = [e] := by
    rw [updN_self, updN_self]; rfl
  have hcy : ∀ y, y ≠ N → updN (updN ch N []) N (updN ch N [] N ++ [e]) y = ch y := by
    intro y hy
    rw [updN_ne _ _ hy, updN_ne _ _ hy]
  refine ⟨Tb, E2, _, ?_, p2, b2, ⟨by omega, ?_, ?_, ?_, ?_⟩, by omega, b3.trans a3, ?_⟩
  · unfold f_Model_settle
    rw [t1, subL 1 (by omega), show ws.length + 1 - 1 = ws.length by omega, gd_Jn t2 (by omega), Jn_cl (by omega), t3, nm_eq, o1, ob_some]
    have ew : E1.2.1 = Jn ws.length := by
      have := o2.2.1.1
      rw [List.length_map] at this
      exact this
    have ep : E1.2.2.2.2.2.1 = E.2.2.2.2.2.1 := by
      unfold f_Model_takeOperand at o1
      have o1 := (gd_use o1).2
      injection o1 with o1
      injection o1 with _ o1
      rw [← o1]
    simp only [if_pos hx]
    rw [ew, gd_Jn t2 (by omega), Jn_cl (by omega), ep, t4, a1, ob_some]
    dsimp only
    rw [b1, ob_some, p1, ob_some]
  · rw [b5 N (Ne.symm eN), a4]
  · refine PreI.one ?_
    rw [hcN]
    exact PreI.congr (fun y hy => hcy y (by have := v4 y hy; omega)) v3
  · intro y hy
    rcases List.mem_cons.mp hy with hy | hy
    · subst hy; omega
    · have := v4 y hy; omega
  · rw [List.map_cons]
    congr 1
    · unfold ent
      rw [b6, a5, hcN]; rfl
    · rw [← v5]
      apply map_congr'
      intro y hy
      have := v4 y hy
      unfold ent
      rw [b6, (a6 y (by omega)).2, hcy y (by omega)]
  · intro y hy
    refine ⟨hcy y (by omega), ?_, ?_⟩
    · rw [b6, (a6 y (by omega)).2]
    · rw [b5 y (by have := v4 e heD; omega), (a6 y (by omega)).1]
theorem settle2 {T N ch E r l os x q ws bs lo lo' Dl Dr sl sr} (hG : GT T N ch) (hN : N < 20000) (hE : EStk E (r :: l :: os) ((x, q) :: ws) bs) (hx : ¬ (20 : Int32) ≤ x) (hl : OPV lo T N ch l Dl sl) (hr : OPV lo' T N ch r Dr sr) (hlr : ∀ y, y ∈ Dl → y < lo') (hlo : lo ≤ lo') (hlN : lo' ≤ N) :
    ∃ T' E' ch', (∀ O, f_Model_settle T O E = some (T', O, E')) ∧ EStk E' (N :: os) ws bs ∧ GT T' (N + 1) ch' ∧ OPV lo T' (N + 1) ch' N (N :: (Dl ++ Dr)) ((35, q, x, 2) :: (sl ++ sr)) ∧ FRX lo N T ch (N + 1) T' ch' := by
  obtain ⟨t1, t2, t3, t4, t5⟩ := hE.top
  obtain ⟨E1, o1, o2⟩ := takeOp t5
  obtain ⟨E1b, o1b, o2b⟩ := takeOp o2
  obtain ⟨v1, v2, v3, v4, v5⟩ := hl
  obtain ⟨w1, w2, w3, w4, w5⟩ := hr
  have hlD := v3.mem
  have hrD := w3.mem
  have lr : r ≠ l := by
    have := hlr l hlD
    have := w4 r hrD
    omega
  obtain ⟨Ta, a1, a2, a3, a4, a5, a6⟩ := make_ok hG hN 35 q x
  have lN : l ≠ N := by omega
  have rN : r ≠ N := by omega
  obtain ⟨Tb, b1, b2, b3, b4, b5, b6⟩ := hang_ok a2 (y := l) (x := N) (by omega) (by omega) (by rw [(a6 l lN).1]; exact v2)
  obtain ⟨Tc, c1, c2, c3, c4, c5, c6⟩ := hang_ok b2 (y := r) (x := N) (by omega) (by omega) (by rw [b5 r lr, (a6 r rN).1]; exact w2)
  have os4 : os.length < 400 := by
    have := hE.1.2.1
    rw [List.map_cons, List.map_cons, List.length_cons, List.length_cons, List.length_map] at this
    omega
  obtain ⟨E2, p1, p2⟩ := putOp o2b os4 N
  generalize hch : updN (updN (updN ch N []) N (updN ch N [] N ++ [l])) N (updN (updN ch N []) N (updN ch N [] N ++ [l]) N ++ [r]) = ch' at c2
  have hcN : ch' N = [l, r] := by
    rw [← hch, updN_self, updN_self, updN_self]; rfl
  have hcy : ∀ y, y ≠ N → ch' y = ch y := by
    intro y hy
    rw [← hch, updN_ne _ _ hy, updN_ne _ _ hy, updN_ne _ _ hy]
  refine ⟨Tc, E2, ch', ?_, p2, c2, ⟨by omega, ?_, ?_, ?_, ?_⟩, by omega, c3.trans (b3.trans a3), ?_⟩
  · intro O
    unfold f_Model_settle
    rw [t1, subL 1 (by omega), show ws.length + 1 - 1 = ws.length by omega, gd_Jn t2 (by omega), Jn_cl (by omega), t3, nm_eq, o1, ob_some]
    have ew : E1.2.1 = Jn ws.length := by
      have := o2.2.1.1
      rw [List.length_map] at this
      exact this
    have ep : E1.2.2.2.2.2.1 = E.2.2.2.2.2.1 := by
      unfold f_Model_takeOperand at o1
      have o1 := (gd_use o1).2
      injection o1 with o1
      injection o1 with _ o1
      rw [← o1]
    simp only [if_neg hx]
    rw [ew, gd_Jn t2 (by omega), Jn_cl (by omega), ep, t4, a1, ob_some]
    dsimp only
    rw [o1b, ob_some]
    dsimp only
    rw [b1, ob_some, c1, ob_some, p1, ob_some]
  · rw [c5 N (Ne.symm rN), b5 N (Ne.symm lN), a4]
  · refine PreI.one ?_
    rw [hcN]
    exact PreI.app (a := [l]) (PreI.congr (fun y hy => hcy y (by have := v4 y hy; omega)) v3) (PreI.congr (fun y hy => hcy y (by have := w4 y hy; omega)) w3)
  · intro y hy
    rcases List.mem_cons.mp hy with hy | hy
    · subst hy; omega
    · rcases List.mem_append.mp hy with hy | hy
      · have := v4 y hy; omega
      · have := w4 y hy; omega
  · rw [List.map_cons, List.map_append]
    congr 1
    · unfold ent
      rw [c6, b6, a5, hcN]; rfl
    · rw [← v5, ← w5]
      congr 1
      · apply map_congr'
        intro y hy
        have := v4 y hy
        unfold ent
        rw [c6, b6, (a6 y (by omega)).2, hcy y (by omega)]
      · apply map_congr'
        intro y hy
        have := w4 y hy
        unfold ent
        rw [c6, b6, (a6 y (by omega)).2, hcy y (by omega)]
  · intro y hy
    refine ⟨hcy y (by omega), ?_, ?_⟩
    · rw [c6, b6, (a6 y (by omega)).2]
    · have q1 := v4 l hlD
      have q2 := w4 r hrD
      rw [c5 y (by omega), b5 y (by omega), (a6 y (by omega)).1]
def wrapU : List (Int32 × Int32) → List E4 → List E4
  | [], seg => seg
  | (x, q) :: us, seg => wrapU us ((36, q, x - 20, 1) :: seg)
theorem wrapU_len : ∀ (us : List (Int32 × Int32)) (seg : List E4), (wrapU us seg).length = us.length + seg.length
  | [], seg => by simp [wrapU]
  | (x, q) :: us, seg => by
    show (wrapU us _).length = _
    rw [wrapU_len us, List.length_cons, List.length_cons]; omega
theorem cameL {w wp ws1 bs} (hw : ¬ (20 : Int32) ≤ w) : ∀ (us : List (Int32 × Int32)) {T N ch O E e os lo D seg} (a f : Nat) (hG : GT T N ch) (hN : N + us.length ≤ 20000) (hE : EStk E (e :: os) (us ++ (w, wp) :: ws1) bs) (hu : ∀ u, u ∈ us → (20 : Int32) ≤ u.1) (hv : OPV lo T N ch e D seg) (hlo : lo ≤ N) (hO : O.1 = Jn a) (ha : us.length ≤ a) (hf : us.length < f),
    ∃ T' E' ch' e' D', f_Model_operandCame_L5 f T O E = some (T', (Jn (a - us.length), O.2), E') ∧ EStk E' (e' :: os) ((w, wp) :: ws1) bs ∧ GT T' (N + us.length) ch' ∧ OPV lo T' (N + us.length) ch' e' D' (wrapU us seg) ∧ FRX lo N T ch (N + us.length) T' ch'
  | [], T, N, ch, O, E, e, os, lo, D, seg, a, f, hG, hN, hE, hu, hv, hlo, hO, ha, hf => by
    obtain ⟨f, rfl⟩ : ∃ g, f = g + 1 := ⟨f - 1, by omega⟩
    obtain ⟨t1, t2, t3, t4, t5⟩ := EStk.top hE
    refine ⟨T, E, ch, e, D, ?_, hE, hG, hv, FRX.refl⟩
    unfold f_Model_operandCame_L5
    rw [t1, subL 1 (by omega), show ws1.length + 1 - 1 = ws1.length by omega, gd_Jn t2 (by omega), Jn_cl (by omega), t3, if_pos (Int32.not_le.mp hw), List.length_nil, Nat.sub_zero, ← hO]
  | (x, q) :: us, T, N, ch, O, E, e, os, lo, D, seg, a, f, hG, hN, hE, hu, hv, hlo, hO, ha, hf => by
    rw [List.length_cons] at hN ha hf
    obtain ⟨f, rfl⟩ : ∃ g, f = g + 1 := ⟨f - 1, by omega⟩
    have hx : (20 : Int32) ≤ x := hu (x, q) List.mem_cons_self
    obtain ⟨t1, t2, t3, t4, t5⟩ := EStk.top (show EStk E (e :: os) ((x, q) :: (us ++ (w, wp) :: ws1)) bs from hE)
    obtain ⟨T1, E1, ch1, s1, s2, s3, s4, s5⟩ := settle1 (O := O) hG (by omega) hE hx hv hlo
    have hO1 : O.1 - 1 = Jn (a - 1) := by rw [hO, subL 1 (by omega)]
    obtain ⟨T', E', ch', e', D', r1, r2, r3, r4, r5⟩ := cameL hw us (O := (O.1 - 1, O.2)) (a - 1) f s3 (by omega) s2 (fun u hu' => hu u (List.mem_cons_of_mem _ hu')) s4 (by omega) hO1 (by omega) (by omega)
    refine ⟨T', E', ch', e', D', ?_, r2, by rw [List.length_cons, show N + (us.length + 1) = N + 1 + us.length by omega]; exact r3, by rw [List.length_cons, show N + (us.length + 1) = N + 1 + us.length by omega]; exact r4, by rw [List.length_cons, show N + (us.length + 1) = N + 1 + us.length by omega]; exact s5.trans r5 (Nat.le_refl _)⟩
    unfold f_Model_operandCame_L5
    rw [t1, subL 1 (by omega), show (us ++ (w, wp) :: ws1).length + 1 - 1 = (us ++ (w, wp) :: ws1).length by omega, gd_Jn t2 (by omega), Jn_cl (by omega), t3, if_neg (Int32.not_lt.mpr hx), s1, ob_some]
    dsimp only
    rw [r1, List.length_cons, show a - 1 - us.length = a - (us.length + 1) by omega]
theorem came {w wp ws1 bs us T N ch O E e os lo D seg a} (hw : ¬ (20 : Int32) ≤ w) (hG : GT T N ch) (hN : N + us.length ≤ 20000) (hos : os.length < 400) (hE : EStk E os (us ++ (w, wp) :: ws1) bs) (hu : ∀ u, u ∈ us → (20 : Int32) ≤ u.1) (hv : OPV lo T N ch e D seg) (hlo : lo ≤ N) (hO : O.1 = Jn a) (ha : us.length ≤ a) :
    ∃ T' E' ch' e' D', f_Model_operandCame T O E (Jn e) = some (T', (Jn (a - us.length), O.2), E') ∧ EStk E' (e' :: os) ((w, wp) :: ws1) bs ∧ GT T' (N + us.length) ch' ∧ OPV lo T' (N + us.length) ch' e' D' (wrapU us seg) ∧ FRX lo N T ch (N + us.length) T' ch' := by
  obtain ⟨E1, p1, p2⟩ := putOp hE hos e
  obtain ⟨T', E', ch', e', D', r1, r2⟩ := cameL hw us a FU hG hN p2 hu hv hlo hO ha (by show us.length < 1000000; omega)
  refine ⟨T', E', ch', e', D', ?_, r2⟩
  unfold f_Model_operandCame
  rw [p1, ob_some, r1, ob_some]
end
section
/-! Signs between operands: how close they bind, and which of them are settled. -/
def bnd (x : Nat) : Nat := [0, 1, 2, 3, 3, 4, 4, 4, 4, 5, 5, 6, 6, 6].getD x 0
theorem bnd_le (x : Nat) (h : x < 14) : bnd x ≤ 6 := by
  have : ∀ x, x < 14 → bnd x ≤ 6 := by decide
  exact this x h
theorem bndC (x : Nat) (h : x < 14) : f_Sign_binding (Jn x) = some (Jn (bnd x)) := by
  have : ∀ x, x < 14 → f_Sign_binding (Jn x) = some (Jn (bnd x)) := by decide +kernel
  exact this x h
theorem bndM (x : Nat) (h : x < 14) : f_Model_closeness (Jn x) = some (Jn (bnd x)) := by
  have : ∀ x, x < 14 → f_Model_closeness (Jn x) = some (Jn (bnd x)) := by decide +kernel
  exact this x h
theorem signKM {K : Int32} {L : S_ML} (h : KM K L.2.1) : (f_Sign_operation K = some (-1) ∧ f_Model_signAt L = some (-1)) ∨ (∃ x, x < 14 ∧ f_Sign_operation K = some (Jn x) ∧ f_Model_signAt L = some (Jn x) ∧ K ≠ 4) := by
  have key : ∀ p ∈ KMT, (f_Sign_operation p.1 = some (-1) ∧ f_Model_signAt (0, p.2, 0, 0, 0, 0, 0) = some (-1)) ∨ (∃ x, x < 14 ∧ f_Sign_operation p.1 = some (Jn x) ∧ f_Model_signAt (0, p.2, 0, 0, 0, 0, 0) = some (Jn x) ∧ p.1 ≠ 4) := by decide +kernel
  exact key (K, L.2.1) h
/-- settled turn by turn, for every sign that binds less close than β, and where no sign comes -/
def STL (β d : Nat) (T : S_MT) (E : S_ME) (T' : S_MT) (E' : S_ME) : Prop :=
  (∀ (x : Nat) (O : S_MO) (n : Nat), x < 14 → bnd x < β → f_Model_signRest_L26 (Jn x) (n + d) T O E = f_Model_signRest_L26 (Jn x) n T' O E') ∧
  (∀ (O : S_MO) (n : Nat), f_Model_signRest_L92 (n + d) T O E = f_Model_signRest_L92 n T' O E')
theorem STL.refl {β T E} : STL β 0 T E T E := ⟨fun _ _ _ _ _ => rfl, fun _ _ => rfl⟩
theorem STL.mono {β β' d T E T' E'} (h : STL β d T E T' E') (hb : β' ≤ β) : STL β' d T E T' E' := ⟨fun x O n hx hb' => h.1 x O n hx (by omega), h.2⟩
theorem STL.trans {β d d' T E T' E' T'' E''} (h1 : STL β d T E T' E') (h2 : STL β d' T' E' T'' E'') : STL β (d + d') T E T'' E'' := by
  refine ⟨fun x O n hx hb => ?_, fun O n => ?_⟩
  · rw [show n + (d + d') = (n + d') + d by omega, h1.1 x O _ hx hb, h2.1 x O n hx hb]
  · rw [show n + (d + d') = (n + d') + d by omega, h1.2, h2.2]
theorem STL.one {T E os y q ws bs T' E'} (hE : EStk E os ((Jn y, q) :: ws) bs) (hy : y < 14) (hs : ∀ O, f_Model_settle T O E = some (T', O, E')) : STL (bnd y + 1) 1 T E T' E' := by
  obtain ⟨t1, t2, t3, t4, t5⟩ := hE.top
  have hb := bnd_le y hy
  refine ⟨fun x O n hx hbx => ?_, fun O n => ?_⟩
  · have hb2 := bnd_le x hx
    conv => lhs; unfold f_Model_signRest_L26
    rw [t1, subL 1 (by omega), show ws.length + 1 - 1 = ws.length by omega, gd_Jn t2 (by omega), Jn_cl (by omega), t3, if_neg J_nneg, gd_Jn t2 (by omega), bndM y hy, ob_some, bndM x hx, ob_some, if_neg (J_nlt (by omega)), hs, ob_some]
  · conv => lhs; unfold f_Model_signRest_L92
    rw [t1, subL 1 (by omega), show ws.length + 1 - 1 = ws.length by omega, gd_Jn t2 (by omega), Jn_cl (by omega), t3, if_neg J_nneg, hs, ob_some]
/-- the sign before the operand: none, or one that binds one less close than what may come -/
def WOK (w : Int32) (least : Nat) : Prop := (w = -1 ∧ least = 0) ∨ ∃ y, y < 14 ∧ w = Jn y ∧ least = bnd y + 1
theorem WOK.n20 {w least} (h : WOK w least) : ¬ (20 : Int32) ≤ w := by
  rcases h with ⟨rfl, _⟩ | ⟨y, hy, rfl, _⟩
  · decide
  · exact nleL 20 (by omega)
/-- nothing more is settled before a sign that binds close enough -/
theorem L26_stop {T O E os w wp ws bs least x} (hE : EStk E os ((w, wp) :: ws) bs) (hw : WOK w least) (hx : x < 14) (hb : least ≤ bnd x) (n : Nat) : f_Model_signRest_L26 (Jn x) (n + 1) T O E = some (T, O, E) := by
  obtain ⟨t1, t2, t3, t4, t5⟩ := hE.top
  have hb2 := bnd_le x hx
  unfold f_Model_signRest_L26
  rw [t1, subL 1 (by omega), show ws.length + 1 - 1 = ws.length by omega, gd_Jn t2 (by omega), Jn_cl (by omega), t3]
  rcases hw with ⟨rfl, _⟩ | ⟨y, hy, rfl, hl⟩
  · rw [if_pos (by decide)]
  · have hb3 := bnd_le y hy
    rw [if_neg J_nneg, gd_Jn t2 (by omega), bndM y hy, ob_some, bndM x hx, ob_some, if_pos (J_lt (by omega))]
theorem L92_stop {T O E os wp ws bs} (hE : EStk E os ((-1, wp) :: ws) bs) (n : Nat) : f_Model_signRest_L92 (n + 1) T O E = some (T, O, E) := by
  obtain ⟨t1, t2, t3, t4, t5⟩ := hE.top
  unfold f_Model_signRest_L92
  rw [t1, subL 1 (by omega), show ws.length + 1 - 1 = ws.length by omega, gd_Jn t2 (by omega), Jn_cl (by omega), t3, if_pos (by decide)]
section
variable {C : S_MC} {mX : S_MX} {m : Nat} {ar : Int32} {kd pl vl : Nat → Int32} {Ls : Nat → S_ML × S_MN}
/-- too deep on both sides -/
theorem deepOK (h : LX C mX m kd pl vl Ls) {p : S_Parser} {i sg op : Nat} (hs : SP m kd pl vl p i sg op) (hop : op + sg = 60) (o : Int32 × Int32 × Int32 × Int32 × Int32) :
    f_Model_opens (Ls i).1 (Jn (op + sg), o) = some (0, ((Ls i).1.1, (Ls i).1.2.1, (Ls i).1.2.2.1, (Ls i).1.2.2.2.1, (Ls i).1.2.2.2.2.1, 7, pl i), (Jn (op + sg), o)) ∧
    (∃ q, f_Parser_mayOpen p = some (0, q) ∧ PD q i 1) ∧ ∀ (s0 : MSt) (N : S_MN) (T : S_MT) (U : S_MU) (O : S_MO) (E : S_ME) (k : Nat) (c F : Int) (p' : S_Parser) (W : Nat → MSt → Prop), PD p' i 1 → RUN C mX k s0 (((Ls i).1.1, (Ls i).1.2.1, (Ls i).1.2.2.1, (Ls i).1.2.2.2.1, (Ls i).1.2.2.2.2.1, 7, pl i), N, T, U, O, E) → (k : Int) ≤ F → OK C mX m kd pl vl s0 i c F p' W := by
  obtain ⟨hi, h5, pb, fq, rfl, hpb⟩ := hs
  have hf := tokF h hi h5
  refine ⟨?_, ?_, ?_⟩
  · unfold f_Model_opens f_Model_fail
    rw [hop, if_pos (show (Jn 60, o).1 = 60 from rfl), if_pos (tokZ h hi h5), ob_some, hf.2.1]
  · unfold f_Parser_mayOpen
    dsimp only
    rw [J_add, if_pos (leL 60 (by omega))]
    exact ⟨_, rfl, rfl, Or.inr rfl, rfl⟩
  · intro s0 N T U O E k c F p' W hp hr hk
    right
    refine ⟨i, 1, _, k, Nat.le_refl _, hi, by omega, hr, hp, ?_⟩
    unfold FL tfl
    rw [if_neg h5, if_neg (show ¬ (1 : Int32) = 0 by decide)]
    exact ⟨rfl, by decide⟩
theorem mayOpen_ok {p : S_Parser} {i sg op : Nat} (hs : SP m kd pl vl p i sg op) (hop : op + sg < 60) : f_Parser_mayOpen p = some (1, p) := by
  obtain ⟨hi, h5, pb, fq, rfl, hpb⟩ := hs
  unfold f_Parser_mayOpen
  dsimp only
  rw [J_add, if_neg (nleL 60 hop)]
theorem opens_ok {L : S_ML} {k : Nat} (h : k < 60) (o : Int32 × Int32 × Int32 × Int32 × Int32) : f_Model_opens L (Jn k, o) = some (1, L, (Jn (k + 1), o)) := by
  unfold f_Model_opens
  rw [if_neg (show ¬ (Jn k, o).1 = 60 from neR 60 (by omega))]
  dsimp only
  rw [addL k 1]
/-- one bracket or word more is open: the class's takeOpening() -/
theorem opening (h : LX C mX m kd pl vl Ls) {p : S_Parser} {i sg op : Nat} (hs : SP m kd pl vl p i sg op) (h4 : kd i ≠ 4) (hop : op + sg < 60) :
    ∃ p', f_Parser_takeOpening p (Jn m, ar, kd, pl, vl) = some p' ∧ f_Model_step C mX (Ls i).1 (Ls i).2 = some (Ls (i + 1)) ∧ (p'.2.2.1 = pl (i + 1) ∧ p'.2.2.2.1 = vl (i + 1) ∧ i + 1 < m) ∧
      ∀ (s0 : MSt) (T : S_MT) (U : S_MU) (O : S_MO) (E : S_ME) (k : Nat) (c F : Int) (W : Nat → MSt → Prop), RUN C mX k s0 ((Ls (i + 1)).1, (Ls (i + 1)).2, T, U, O, E) → (k : Int) ≤ 30 + c → (k : Int) ≤ 30 + F →
        (SP m kd pl vl p' (i + 1) sg (op + 1) → W (i + 1) ((Ls (i + 1)).1, (Ls (i + 1)).2, T, U, O, E)) → OK C mX m kd pl vl s0 i c F p' W := by
  have hm := mayOpen_ok hs hop
  obtain ⟨hi, h5, pb, fq, rfl, hpb⟩ := hs
  have hs' : SP m kd pl vl (Jn i, kd i, pl i, vl i, pb, Jn sg, Jn (op + 1), 0, fq) i sg (op + 1) := ⟨hi, h5, pb, fq, rfl, hpb⟩
  obtain ⟨p', a1, a2, a2', a3⟩ := adv (ar := ar) h hs' h4
  refine ⟨p', ?_, a2, a2', a3⟩
  unfold f_Parser_takeOpening
  rw [hm, ob_some, if_neg (show ¬ (1 : Int32) = 0 by decide)]
  dsimp only
  rw [addL op 1, a1]; rfl
theorem opening_deep {p : S_Parser} {tk : S_Tokens} {q : S_Parser} (h : f_Parser_mayOpen p = some (0, q)) : f_Parser_takeOpening p tk = some q := by
  unfold f_Parser_takeOpening
  rw [h, ob_some, if_pos rfl]
end
end
section
/-! Expressions: the class's descent by how close signs bind, against the reference's stack of waiting signs. -/
def BDS (c : Nat) (ds : List Int32) (os : List Nat) (wl : Nat) (bs : List Nat) (k : Nat) : Prop := ds.length ≤ c + 10 * k ∧ os.length ≤ 2 * k + 2 ∧ wl ≤ 2 * k + 3 ∧ bs.length ≤ 2 * k + 2
def WX (m : Nat) (kd pl vl : Nat → Int32) (Ls : Nat → S_ML × S_MN) (i sg op inn least : Nat) (ds : List Int32) (l : List E4) (idx : Nat) (T : S_MT) (N : Nat) (ch : Nat → List Nat) (os : List Nat) (w wp : Int32) (ws1 : List (Int32 × Int32)) (bs : List Nat) (r : S_Parser × S_Tree) (i' : Nat) (s' : MSt) : Prop :=
  ∃ sg' T' U' o3' E' d Tz chz Ez e D seg, SP m kd pl vl r.1 i' sg' op ∧ sg ≤ sg' ∧ op + sg' ≤ 60 ∧ CT r.2 (bump l idx 1 ++ seg) ∧ s' = ((Ls i').1, (Ls i').2, T', U', (Jn (op + sg'), Jn sg', Jn inn, o3'), E') ∧ Stk 4000 U'.1 U'.2 (136 :: ds) ∧
    STL least d T' E' Tz Ez ∧ d + sg ≤ sg' ∧ GT Tz (N + seg.length) chz ∧ EStk Ez (e :: os) ((w, wp) :: ws1) bs ∧ OPV N Tz (N + seg.length) chz e D seg ∧ FRX N N T ch (N + seg.length) Tz chz ∧ seg ≠ [] ∧ i + seg.length ≤ i' ∧
    (∀ x, x < 14 → f_Sign_operation (kd i') = some (Jn x) → bnd x < least)
def EXS (C : S_MC) (mX : S_MX) (m : Nat) (ar : Int32) (kd pl vl : Nat → Int32) (Ls : Nat → S_ML × S_MN) (fe : S_Parser → S_Tokens → S_Tree → Int32 → Int32 → Option (S_Parser × S_Tree)) (K : Nat) : Prop :=
  ∀ (i sg op inn : Nat) (ds : List Int32) (l : List E4) (idx : Nat) (T : S_MT) (N : Nat) (ch : Nat → List Nat) (E : S_ME) (os : List Nat) (w wp : Int32) (ws1 : List (Int32 × Int32)) (bs : List Nat) (least : Nat) (U : S_MU) (o3 : Int32 × Int32 × Int32) (p : S_Parser) (t : S_Tree),
    SP m kd pl vl p i sg op → op + sg ≤ 60 → 60 - (op + sg) ≤ K → CT t l → idx < l.length → Stk 4000 U.1 U.2 (135 :: 136 :: ds) → GT T N ch → EStk E os ((w, wp) :: ws1) bs → WOK w least → N ≤ l.length + 1 → (l.length : Int) ≤ 2 * i + 9 → BDS 1500 ds os (ws1.length + 1) bs (op + sg) → inn ≠ 0 → inn ≤ 61 - K →
    ∃ r, fe p (Jn m, ar, kd, pl, vl) t (Jn idx) (Jn least) = some r ∧ OK C mX m kd pl vl ((Ls i).1, (Ls i).2, T, U, (Jn (op + sg), Jn sg, Jn inn, o3), E) i (-27) 6 r.1 (WX m kd pl vl Ls i sg op inn least ds l idx T N ch os w wp ws1 bs r)
def WO (m : Nat) (kd pl vl : Nat → Int32) (Ls : Nat → S_ML × S_MN) (i sg op inn : Nat) (ds : List Int32) (l : List E4) (idx : Nat) (T : S_MT) (N : Nat) (ch : Nat → List Nat) (os : List Nat) (us : List (Int32 × Int32)) (w wp : Int32) (ws1 : List (Int32 × Int32)) (bs : List Nat) (r : S_Parser × S_Tree) (i' : Nat) (s' : MSt) : Prop :=
  ∃ sg' T' U' o3' E' ch' e D seg, SP m kd pl vl r.1 i' sg' op ∧ sg ≤ sg' ∧ op + sg' ≤ 60 ∧ CT r.2 (bump l idx 1 ++ seg) ∧ s' = ((Ls i').1, (Ls i').2, T', U', (Jn (op + sg' - us.length), Jn sg', Jn inn, o3'), E') ∧ Stk 4000 U'.1 U'.2 ds ∧
    GT T' (N + seg.length + us.length) ch' ∧ EStk E' (e :: os) ((w, wp) :: ws1) bs ∧ OPV N T' (N + seg.length + us.length) ch' e D (wrapU us seg) ∧ FRX N N T ch (N + seg.length + us.length) T' ch' ∧ seg ≠ [] ∧ i + seg.length ≤ i'
def OPS (C : S_MC) (mX : S_MX) (m : Nat) (ar : Int32) (kd pl vl : Nat → Int32) (Ls : Nat → S_ML × S_MN) (fo : S_Parser → S_Tokens → S_Tree → Int32 → Option (S_Parser × S_Tree)) (K : Nat) : Prop :=
  ∀ (i sg op inn : Nat) (ds : List Int32) (l : List E4) (idx : Nat) (T : S_MT) (N : Nat) (ch : Nat → List Nat) (E : S_ME) (os : List Nat) (us : List (Int32 × Int32)) (w wp : Int32) (ws1 : List (Int32 × Int32)) (bs : List Nat) (U : S_MU) (o3 : Int32 × Int32 × Int32) (p : S_Parser) (t : S_Tree),
    SP m kd pl vl p i sg op → us.length ≤ op → op + sg ≤ 60 → 60 - (op + sg) ≤ K → CT t l → idx < l.length → Stk 4000 U.1 U.2 (135 :: ds) → GT T N ch → EStk E os (us ++ (w, wp) :: ws1) bs → ¬ (20 : Int32) ≤ w → (∀ u, u ∈ us → (20 : Int32) ≤ u.1) → N + us.length ≤ l.length + 1 → (l.length : Int) ≤ 2 * i + 9 → BDS 1501 ds os (us.length + ws1.length + 1) bs (op + sg) → inn ≠ 0 → inn ≤ 61 - K →
    ∃ r, fo p (Jn m, ar, kd, pl, vl) t (Jn idx) = some r ∧ OK C mX m kd pl vl ((Ls i).1, (Ls i).2, T, U, (Jn (op + sg), Jn sg, Jn inn, o3), E) i (-28) 6 r.1 (WO m kd pl vl Ls i sg op inn ds l idx T N ch os us w wp ws1 bs r)
section
variable {C : S_MC} {mX : S_MX} {m : Nat} {ar : Int32} {kd pl vl : Nat → Int32} {Ls : Nat → S_ML × S_MN}
theorem exprL (h : LX C mX m kd pl vl Ls) {fe : S_Parser → S_Tokens → S_Tree → Int32 → Int32 → Option (S_Parser × S_Tree)} {K : Nat} (hfe : ∀ K', K = K' + 1 → EXS C mX m ar kd pl vl Ls fe K')
    (hdm : ∀ {p i td}, PD p i td → ∀ t a (b : Nat), b ≤ 7 → ∃ r, fe p (Jn m, ar, kd, pl, vl) t a (Jn b) = some r ∧ PD r.1 i td)
    {op inn : Nat} {ds : List Int32} {A : List E4} {T0 : S_MT} {N0 : Nat} {ch0 : Nat → List Nat} {os : List Nat} {w wp : Int32} {ws1 : List (Int32 × Int32)} {bs : List Nat} {least : Nat} (hw : WOK w least) (hl7 : least ≤ 7) (hNA : N0 ≤ A.length + 1) (hin : inn ≠ 0) (hin2 : inn ≤ 61 - K) :
    ∀ (dm f tn : Nat) (p : S_Parser) (t : S_Tree) (i sg : Nat) (T : S_MT) (U : S_MU) (o3 : Int32 × Int32 × Int32) (E : S_ME) (β d : Nat) (Tz : S_MT) (chz : Nat → List Nat) (Ez : S_ME) (e : Nat) (D : List Nat) (S : List E4),
      m - i < dm → dm ≤ f → tn ≤ i → SP m kd pl vl p i sg op → op + sg ≤ 60 → 60 - (op + sg) ≤ K → CT t (A ++ S) → S ≠ [] → Stk 4000 U.1 U.2 (136 :: ds) → STL β d T E Tz Ez → d ≤ 100 → least ≤ β → (∀ x, x < 14 → f_Sign_operation (kd i) = some (Jn x) → bnd x < β) →
      GT Tz (N0 + S.length) chz → EStk Ez (e :: os) ((w, wp) :: ws1) bs → OPV N0 Tz (N0 + S.length) chz e D S → FRX N0 N0 T0 ch0 (N0 + S.length) Tz chz → ((A.length + S.length : Nat) : Int) ≤ 2 * i + 9 → BDS 1500 ds os (ws1.length + 1) bs (op + sg) →
      ∃ r, f_Parser_expression_o_L16 fe (Jn m, ar, kd, pl, vl) (Jn A.length) (Jn least) f (Jn tn) p t = some r ∧ OK C mX m kd pl vl ((Ls i).1, (Ls i).2, T, U, (Jn (op + sg), Jn sg, Jn inn, o3), E) i 0 6 r.1 (fun i' s' =>
        ∃ sg' T' U' o3' E' d' Tz' chz' Ez' e' D' S', SP m kd pl vl r.1 i' sg' op ∧ sg ≤ sg' ∧ op + sg' ≤ 60 ∧ CT r.2 (A ++ S') ∧ s' = ((Ls i').1, (Ls i').2, T', U', (Jn (op + sg'), Jn sg', Jn inn, o3'), E') ∧ Stk 4000 U'.1 U'.2 (136 :: ds) ∧
          STL least d' T' E' Tz' Ez' ∧ d' + sg ≤ sg' + d ∧ GT Tz' (N0 + S'.length) chz' ∧ EStk Ez' (e' :: os) ((w, wp) :: ws1) bs ∧ OPV N0 Tz' (N0 + S'.length) chz' e' D' S' ∧ FRX N0 N0 T0 ch0 (N0 + S'.length) Tz' chz' ∧ S' ≠ [] ∧ i + S'.length ≤ i' + S.length ∧ S.length ≤ S'.length ∧
          (∀ x, x < 14 → f_Sign_operation (kd i') = some (Jn x) → bnd x < least)) := by
  have hm := h.2.2.2.2.2
  have hFU : FU = 1000000 := rfl
  intro dm
  induction dm with
  | zero => intro f tn p t i sg T U o3 E β d Tz chz Ez e D S h1; omega
  | succ dm ih =>
    intro f tn p t i sg T U o3 E β d Tz chz Ez e D S h1 h2 htn hs hop hK hCT hS hU hST hd hβ hcur hG hEz hv hF hlen hB
    obtain ⟨f, rfl⟩ : ∃ g, f = g + 1 := ⟨f - 1, by omega⟩
    obtain ⟨hi, h5, _⟩ := id hs
    have hf := tokF h hi h5
    obtain ⟨k1, k2, k3⟩ := hs.kind
    unfold f_Parser_expression_o_L16
    rw [if_neg (nleL 8192 (by omega)), k1]
    rcases signKM hf.1 with ⟨s1, s2⟩ | ⟨x, hx, s1, s2, h4⟩
    · -- no sign
      rw [s1, ob_some, show f_Sign_binding (-1) = some (-1) by decide, ob_some, if_pos (by rw [Int32.lt_iff_toInt_lt, Jn_int (by omega), show (-1 : Int32).toInt = -1 by decide]; omega)]
      refine ⟨_, rfl, OK.ret ?_⟩
      refine ⟨sg, T, U, o3, E, d, Tz, chz, Ez, e, D, S, hs, Nat.le_refl _, hop, hCT, rfl, hU, hST.mono hβ, by omega, hG, hEz, hv, hF, hS, by omega, Nat.le_refl _, ?_⟩
      intro x hx e1
      rw [s1] at e1
      injection e1 with e1
      exact absurd e1.symm (J_nm1 (a := x) (by omega))
    · have hbx := bnd_le x hx
      rw [s1, ob_some, bndC x hx, ob_some]
      by_cases cl : bnd x < least
      · rw [if_pos (J_lt cl (by omega))]
        refine ⟨_, rfl, OK.ret ?_⟩
        refine ⟨sg, T, U, o3, E, d, Tz, chz, Ez, e, D, S, hs, Nat.le_refl _, hop, hCT, rfl, hU, hST.mono hβ, by omega, hG, hEz, hv, hF, hS, by omega, Nat.le_refl _, ?_⟩
        intro y hy e1
        rw [s1] at e1
        injection e1 with e1
        rw [Jn_eq (by omega) (by omega)] at e1
        rw [← e1]; exact cl
      · rw [if_neg (J_nlt (by omega) (by omega))]
        have ns : ¬ Jn x < 0 := J_nneg
        by_cases c60 : op + sg = 60
        · obtain ⟨w1, ⟨q, w2, w3⟩, w4⟩ := deepOK h hs c60 (Jn sg, Jn inn, o3)
          rw [w2, ob_some, if_pos rfl]
          refine ⟨_, rfl, ?_⟩
          refine w4 _ (Ls i).2 T (Jn ds.length, U.2) (Jn (op + sg), Jn sg, Jn inn, o3) E 1 0 6 _ _ w3 (RUN.one (tokZ h hi h5) hU (act_136 (r6 := (((Ls i).1.1, (Ls i).1.2.1, (Ls i).1.2.2.1, (Ls i).1.2.2.2.1, (Ls i).1.2.2.2.2.1, 7, pl i), (Ls i).2, T, (Jn ds.length, U.2), (Jn (op + sg), Jn sg, Jn inn, o3), E)) ?_)) (by omega)
          unfold f_Model_signRest
          rw [s2, ob_some, if_neg ns, w1, ob_some, if_pos rfl]
        · have hop' : op + sg < 60 := by omega
          obtain ⟨K', hK'⟩ : ∃ K', K = K' + 1 := ⟨K - 1, by omega⟩
          have hlenAS : (A ++ S).length < 16384 := by
            rw [List.length_append]; omega
          rw [mayOpen_ok hs hop', ob_some, if_neg (show ¬ (1 : Int32) = 0 by decide)]
          dsimp only
          rw [k2, k1]
          obtain ⟨t1, c1, c2⟩ := wrap_ok hCT hS hlenAS 35 (pl i) (Jn x)
          rw [c1, ob_some]
          obtain ⟨hi', h5', pb, fq, ep, hpb⟩ := id hs
          have hs1 : SP m kd pl vl (Jn i, kd i, pl i, vl i, pb, Jn (sg + 1), Jn op, 0, fq) i (sg + 1) op := ⟨hi, h5, pb, fq, rfl, hpb⟩
          obtain ⟨p1, a1, a2, a2', a3⟩ := adv (ar := ar) h hs1 h4
          have etk : f_Parser_take (p.1, kd i, pl i, p.2.2.2.1, p.2.2.2.2.1, p.2.2.2.2.2.1 + 1, p.2.2.2.2.2.2) (Jn m, ar, kd, pl, vl) (kd i) = some p1 := by
            rw [ep]
            dsimp only
            rw [addL sg 1]; exact a1
          rw [etk, ob_some, addL (bnd x) 1]
          -- the reference settles, and the sign waits
          obtain ⟨Ew, e1, e2⟩ := waitF hEz (by have := hB.2.2.1; rw [List.length_cons]; omega) (Jn x) (pl i)
          obtain ⟨U1, u1, v1⟩ := push2_ok (U := (Jn ds.length, U.2)) hU.pop.2.2 (by have := hB.1; omega) 136 135
          have hrun : RUN C mX 1 ((Ls i).1, (Ls i).2, T, U, (Jn (op + sg), Jn sg, Jn inn, o3), E) ((Ls (i + 1)).1, (Ls (i + 1)).2, Tz, U1, (Jn (op + (sg + 1)), Jn (sg + 1), Jn inn, o3), Ew) := by
            refine RUN.one (tokZ h hi h5) hU (act_136 (r6 := ((Ls (i + 1)).1, (Ls (i + 1)).2, Tz, U1, (Jn (op + (sg + 1)), Jn (sg + 1), Jn inn, o3), Ew)) ?_)
            unfold f_Model_signRest
            rw [s2, ob_some, if_neg ns, opens_ok hop', ob_some, if_neg (show ¬ (1 : Int32) = 0 by decide)]
            dsimp only
            rw [addL sg 1, show FU = (FU - d - 1 + 1) + d by omega, hST.1 x _ _ hx (hcur x hx s1), L26_stop hEz hw hx (by omega), ob_some]
            dsimp only
            rw [hf.2.1, e1, ob_some, u1, ob_some, a2, ob_some]; rfl
          have hvD : ∀ y, y ∈ D → y < N0 + S.length := fun y hy => (hv.2.2.2.1 y hy).2
          have o1 := a3 _ Tz U1 (Jn (op + (sg + 1)), Jn (sg + 1), Jn inn, o3) Ew 1 (-29) 1 (fun i' s' => i' = i + 1 ∧ SP m kd pl vl p1 i' (sg + 1) op ∧ s' = ((Ls i').1, (Ls i').2, Tz, U1, (Jn (op + (sg + 1)), Jn (sg + 1), Jn inn, o3), Ew)) hrun (by omega) (by omega) (fun hs' => ⟨rfl, hs', rfl⟩)
          -- the right operand
          have hCT1 : CT t1 (A ++ (35, pl i, Jn x, 1) :: S) := c2
          have hlen1 : (A ++ (35, pl i, Jn x, 1) :: S).length = A.length + S.length + 1 := by rw [List.length_append, List.length_cons]; omega
          obtain ⟨r2, e3, o2⟩ := o1.seq (fun i' s' _ hw' => by
            obtain ⟨rfl, hs', rfl⟩ := hw'
            exact hfe K' hK' (i + 1) (sg + 1) op inn ds (A ++ (35, pl i, Jn x, 1) :: S) A.length Tz (N0 + S.length) chz Ew (e :: os) (Jn x) (pl i) ((w, wp) :: ws1) bs (bnd x + 1) U1 o3 p1 t1 hs' (by omega) (by omega) hCT1 (by rw [hlen1]; omega) v1 hG e2 (Or.inr ⟨x, hx, rfl, rfl⟩) (by rw [hlen1]; omega) (by rw [hlen1]; omega) (by
              obtain ⟨b1, b2, b3, b4⟩ := hB
              refine ⟨by omega, by rw [List.length_cons]; omega, by rw [List.length_cons]; omega, by omega⟩) hin (by omega)) (fun i' td hd' => hdm hd' _ _ _ (by omega))
          rw [e3, ob_some, nm_eq, addL tn 1]
          -- the loop again
          obtain ⟨r3, e4, o3'⟩ := o2.seqP (W' := fun r i' s' => ∃ sg' T' U' o3' E' d' Tz' chz' Ez' e' D' S', SP m kd pl vl r.1 i' sg' op ∧ sg ≤ sg' ∧ op + sg' ≤ 60 ∧ CT r.2 (A ++ S') ∧ s' = ((Ls i').1, (Ls i').2, T', U', (Jn (op + sg'), Jn sg', Jn inn, o3'), E') ∧ Stk 4000 U'.1 U'.2 (136 :: ds) ∧
              STL least d' T' E' Tz' Ez' ∧ d' + sg ≤ sg' + d ∧ GT Tz' (N0 + S'.length) chz' ∧ EStk Ez' (e' :: os) ((w, wp) :: ws1) bs ∧ OPV N0 Tz' (N0 + S'.length) chz' e' D' S' ∧ FRX N0 N0 T0 ch0 (N0 + S'.length) Tz' chz' ∧ S' ≠ [] ∧ i + S'.length ≤ i' + S.length ∧ S.length ≤ S'.length ∧
              (∀ x, x < 14 → f_Sign_operation (kd i') = some (Jn x) → bnd x < least)) (c' := 0) (F' := 6) (pr := fun r => r.1) (r := f_Parser_expression_o_L16 fe (Jn m, ar, kd, pl, vl) (Jn A.length) (Jn least) f (Jn (tn + 1)) r2.1 r2.2) (fun i2 s2 hi2 hpos hx2 => by
            obtain ⟨sg2, T2, U2, o32, E2, d2, Tz2, chz2, Ez2, e2', D2, seg2, g1, g2, g3, g4, rfl, g6, g7, g8, g9, g10, g11, g12, g13, g14, g15⟩ := hx2
            rw [bump_mid] at g4
            have einc : inc (35, pl i, Jn x, 1) 1 = (35, pl i, Jn x, 2) := rfl
            rw [einc, List.append_assoc, List.cons_append] at g4
            -- the sign itself is settled
            have hvL := hv.keep hvD g12
            obtain ⟨Tn, En, chn, y1, y2, y3, y4, y5⟩ := settle2 (q := pl i) g9 (by
              have hml := g4.2.1
              simp only [List.length_append, List.length_cons] at hml
              omega) g10 (nleL 20 (by omega)) hvL g11 hvD (by omega) (by omega)
            have hST2 : STL (bnd x + 1) (d2 + 1) T2 E2 Tn En := g7.trans (STL.one g10 hx y1)
            have lenS : ((35, pl i, Jn x, 2) :: (S ++ seg2)).length = S.length + seg2.length + 1 := by rw [List.length_cons, List.length_append]
            obtain ⟨r, z1, z2⟩ := ih f (tn + 1) r2.1 r2.2 i2 sg2 T2 U2 o32 E2 (bnd x + 1) (d2 + 1) Tn chn En (N0 + S.length + seg2.length) _ ((35, pl i, Jn x, 2) :: (S ++ seg2)) (by omega) (by omega) (by omega) g1 g3 (by omega) g4 (List.cons_ne_nil _ _) g6 hST2 (by omega) (by omega) g15
              (by rw [lenS, show N0 + (S.length + seg2.length + 1) = N0 + S.length + seg2.length + 1 by omega]; exact y3) y2 (by rw [lenS, show N0 + (S.length + seg2.length + 1) = N0 + S.length + seg2.length + 1 by omega]; exact y4)
              (by rw [lenS, show N0 + (S.length + seg2.length + 1) = N0 + S.length + seg2.length + 1 by omega]; exact (hF.trans g12 (by omega)).trans y5 (Nat.le_refl _))
              (by rw [lenS]; omega) (by
                obtain ⟨b1, b2, b3, b4⟩ := hB
                exact ⟨by omega, by omega, by omega, by omega⟩)
            refine ⟨r, z1, z2.mono (Int.le_refl _) (Int.le_refl _) ?_⟩
            intro i3 s3 hi3 hz
            obtain ⟨sg', T', U', o3', E', d', Tz', chz', Ez', e', D', S', q1, q2, q3, q4, q5, q6, q7, q8, q9, q10, q11, q12, q13, q14, q14', q15⟩ := hz
            rw [lenS] at q14 q14'
            exact ⟨sg', T', U', o3', E', d', Tz', chz', Ez', e', D', S', q1, by omega, q3, q4, q5, q6, q7, by omega, q9, q10, q11, q12, q13, by omega, by omega, q15⟩) (fun i' td hd' => by
            obtain ⟨g, rfl⟩ : ∃ g, f = g + 1 := ⟨f - 1, by omega⟩
            unfold f_Parser_expression_o_L16
            have eo : f_Sign_operation r2.1.2.1 = some (-1) := by
              rcases hd'.2.1 with z | z
              · rw [z]; decide
              · rw [z]; decide
            by_cases c8 : 8192 ≤ tn + 1
            · rw [if_pos (leL 8192 c8)]; exact ⟨_, rfl, hd'⟩
            · rw [if_neg (nleL 8192 (by omega)), eo, ob_some, show f_Sign_binding (-1) = some (-1) by decide, ob_some, if_pos (by rw [Int32.lt_iff_toInt_lt, Jn_int (by omega), show (-1 : Int32).toInt = -1 by decide]; omega)]
              exact ⟨_, rfl, hd'⟩)
          exact ⟨r3, e4, o3'.mono (by omega) (by omega) (fun _ _ _ z => z)⟩
end
end
section
/-! Expressions, continued. -/
def W0 (m : Nat) (kd pl vl : Nat → Int32) (Ls : Nat → S_ML × S_MN) (i sg op inn : Nat) (ds : List Int32) (l : List E4) (idx : Nat) (T : S_MT) (N : Nat) (ch : Nat → List Nat) (os : List Nat) (ws : List (Int32 × Int32)) (bs : List Nat) (r : S_Parser × S_Tree) (i' : Nat) (s' : MSt) : Prop :=
  ∃ sg' T' U' o3' E' ch' e D seg, SP m kd pl vl r.1 i' sg' op ∧ sg ≤ sg' ∧ op + sg' ≤ 60 ∧ CT r.2 (bump l idx 1 ++ seg) ∧ s' = ((Ls i').1, (Ls i').2, T', U', (if inn = 0 then (Jn op, 0, 0, o3') else (Jn (op + sg'), Jn sg', Jn inn, o3')), E') ∧ Stk 4000 U'.1 U'.2 ds ∧
    GT T' (N + seg.length) ch' ∧ EStk E' (e :: os) ws bs ∧ OPV N T' (N + seg.length) ch' e D seg ∧ FRX N N T ch (N + seg.length) T' ch' ∧ seg ≠ [] ∧ i + seg.length ≤ i'
def X0S (C : S_MC) (mX : S_MX) (m : Nat) (ar : Int32) (kd pl vl : Nat → Int32) (Ls : Nat → S_ML × S_MN) (fe : S_Parser → S_Tokens → S_Tree → Int32 → Int32 → Option (S_Parser × S_Tree)) (K : Nat) : Prop :=
  ∀ (i sg op inn : Nat) (ds : List Int32) (l : List E4) (idx : Nat) (T : S_MT) (N : Nat) (ch : Nat → List Nat) (E : S_ME) (os : List Nat) (ws : List (Int32 × Int32)) (bs : List Nat) (U : S_MU) (o3 : Int32 × Int32 × Int32) (p : S_Parser) (t : S_Tree),
    SP m kd pl vl p i sg op → op + sg ≤ 60 → 60 - (op + sg) ≤ K → CT t l → idx < l.length → Stk 4000 U.1 U.2 (134 :: ds) → GT T N ch → EStk E os ws bs → N ≤ l.length + 1 → (l.length : Int) ≤ 2 * i + 9 → BDS 1500 ds os (ws.length + 1) bs (op + sg) → inn ≤ 60 - K →
    ∃ r, fe p (Jn m, ar, kd, pl, vl) t (Jn idx) (Jn 0) = some r ∧ OK C mX m kd pl vl ((Ls i).1, (Ls i).2, T, U, (Jn (op + sg), Jn sg, Jn inn, o3), E) i (-25) 8 r.1 (W0 m kd pl vl Ls i sg op inn ds l idx T N ch os ws bs r)
section
variable {C : S_MC} {mX : S_MX} {m : Nat} {ar : Int32} {kd pl vl : Nat → Int32} {Ls : Nat → S_ML × S_MN}
theorem exprS_of (h : LX C mX m kd pl vl Ls) {fo : S_Parser → S_Tokens → S_Tree → Int32 → Option (S_Parser × S_Tree)} {fe : S_Parser → S_Tokens → S_Tree → Int32 → Int32 → Option (S_Parser × S_Tree)} {K : Nat} (hfo : OPS C mX m ar kd pl vl Ls fo K) (hfe : ∀ K', K = K' + 1 → EXS C mX m ar kd pl vl Ls fe K')
    (hdm : ∀ {p i td}, PD p i td → ∀ t a (b : Nat), b ≤ 7 → ∃ r, fe p (Jn m, ar, kd, pl, vl) t a (Jn b) = some r ∧ PD r.1 i td) : EXS C mX m ar kd pl vl Ls (f_Parser_expression_o fo fe) K := by
  have hm := h.2.2.2.2.2
  intro i sg op inn ds l idx T N ch E os w wp ws1 bs least U o3 p t hs hop hK hCT hidx hU hG hE hw hN hlen hB hin hin2
  have hl7 : least ≤ 7 := by
    rcases hw with ⟨_, rfl⟩ | ⟨y, hy, _, rfl⟩
    · omega
    · have := bnd_le y hy; omega
  unfold f_Parser_expression_o
  obtain ⟨r1, e1, o1⟩ := hfo i sg op inn (136 :: ds) l idx T N ch E os [] w wp ws1 bs U o3 p t hs (Nat.zero_le _) hop hK hCT hidx hU hG hE hw.n20 (fun u hu => by cases hu) (by rw [List.length_nil]; omega) hlen (by
    obtain ⟨b1, b2, b3, b4⟩ := hB
    exact ⟨by rw [List.length_cons]; omega, b2, by rw [List.length_nil]; omega, b4⟩) hin hin2
  rw [e1, ob_some]
  have hidxL : t.1 = Jn l.length := hCT.1
  rw [hidxL]
  obtain ⟨r2, e2, o2⟩ := o1.seqP (pr := fun r => r.1) (W' := fun r => WX m kd pl vl Ls i sg op inn least ds l idx T N ch os w wp ws1 bs r) (c' := 0) (F' := 6) (r := f_Parser_expression_o_L16 fe (Jn m, ar, kd, pl, vl) (Jn l.length) (Jn least) FU 0 r1.1 r1.2) (fun i1 s1 hi1 hpos hw1 => by
    obtain ⟨sg1, T1, U1, o31, E1, ch1, e, D, seg, g1, g2, g3, g4, rfl, g6, g7, g8, g9, g10, g11, g12⟩ := hw1
    have hbl : (bump l idx 1).length = l.length := bump_len l idx 1
    rw [List.length_nil, Nat.add_zero] at g7 g9 g10
    have z := exprL (ar := ar) h hfe hdm (op := op) (inn := inn) (ds := ds) (A := bump l idx 1) (T0 := T) (N0 := N) (ch0 := ch) (os := os) (w := w) (wp := wp) (ws1 := ws1) (bs := bs) (least := least) hw hl7 (by rw [hbl]; omega) hin hin2 9000 FU 0 r1.1 r1.2 i1 sg1 T1 U1 o31 E1 100 0 T1 ch1 E1 e D seg
      (by omega) (by decide) (by omega) g1 g3 (by omega) g4 g11 g6 STL.refl (by omega) (by omega) (fun x hx _ => by have := bnd_le x hx; omega) g7 g8 g9 g10 (by rw [hbl]; omega) (by
        obtain ⟨b1, b2, b3, b4⟩ := hB
        exact ⟨by omega, by omega, by omega, by omega⟩)
    rw [hbl] at z
    obtain ⟨r, z1, z2⟩ := z
    refine ⟨r, z1, z2.mono (Int.le_refl _) (Int.le_refl _) ?_⟩
    intro i2 s2 hi2 hz
    obtain ⟨sg', T', U', o3', E', d', Tz', chz', Ez', e', D', S', q1, q2, q3, q4, q5, q6, q7, q8, q9, q10, q11, q12, q13, q14, q14', q15⟩ := hz
    exact ⟨sg', T', U', o3', E', d', Tz', chz', Ez', e', D', S', q1, by omega, q3, q4, q5, q6, q7, by omega, q9, q10, q11, q12, q13, by omega, q15⟩) (fun i1 td hd => by
    rw [FU1]
    unfold f_Parser_expression_o_L16
    have eo : f_Sign_operation r1.1.2.1 = some (-1) := by
      rcases hd.2.1 with z | z
      · rw [z]; decide
      · rw [z]; decide
    rw [if_neg (by decide), eo, ob_some, show f_Sign_binding (-1) = some (-1) by decide, ob_some, if_pos (by rw [Int32.lt_iff_toInt_lt, Jn_int (by omega), show (-1 : Int32).toInt = -1 by decide]; omega)]
    exact ⟨_, rfl, hd⟩)
  exact ⟨r2, e2, o2.mono (by omega) (by omega) (fun _ _ _ z => z)⟩
/-- an expression from its first symbol to its end -/
theorem x0_of (h : LX C mX m kd pl vl Ls) {fe : S_Parser → S_Tokens → S_Tree → Int32 → Int32 → Option (S_Parser × S_Tree)} {K : Nat} (hK60 : K ≤ 60) (hfe : EXS C mX m ar kd pl vl Ls fe K) : X0S C mX m ar kd pl vl Ls fe K := by
  have hm := h.2.2.2.2.2
  intro i sg op inn ds l idx T N ch E os ws bs U o3 p t hs hop hK hCT hidx hU hG hE hN hlen hB hin
  obtain ⟨hi, h5, _⟩ := id hs
  obtain ⟨b1, b2, b3, b4⟩ := hB
  obtain ⟨Ew, e1, e2⟩ := waitF hE (by omega) (-1) 0
  obtain ⟨U1, u1, v1⟩ := push2_ok (U := (Jn ds.length, U.2)) hU.pop.2.2 (by omega) 136 135
  have hrun : RUN C mX 1 ((Ls i).1, (Ls i).2, T, U, (Jn (op + sg), Jn sg, Jn inn, o3), E) ((Ls i).1, (Ls i).2, T, U1, (Jn (op + sg), Jn sg, Jn (inn + 1), o3), Ew) := by
    refine RUN.one (tokZ h hi h5) hU (act_134 (r2 := (U1, (Jn (op + sg), Jn sg, Jn (inn + 1), o3), Ew)) ?_)
    unfold f_Model_expression
    dsimp only
    rw [e1, ob_some, u1, ob_some, addL inn 1]
  obtain ⟨r, x1, x2⟩ := hfe i sg op (inn + 1) ds l idx T N ch Ew os (-1) 0 ws bs 0 U1 o3 p t hs hop hK hCT hidx v1 hG e2 (Or.inl ⟨rfl, rfl⟩) hN hlen ⟨b1, b2, b3, b4⟩ (by omega) (by omega)
  refine ⟨r, x1, ?_⟩
  have o0 : OK C mX m kd pl vl ((Ls i).1, (Ls i).2, T, U, (Jn (op + sg), Jn sg, Jn inn, o3), E) i 1 0 p (fun i' s' => i' = i ∧ s' = ((Ls i).1, (Ls i).2, T, U1, (Jn (op + sg), Jn sg, Jn (inn + 1), o3), Ew)) := Or.inl ⟨i, _, 1, Nat.le_refl _, by omega, hrun, rfl, rfl⟩
  obtain ⟨r', y1, o1⟩ := o0.seq (r := some r) (pr := fun r => r.1) (W' := fun r => WX m kd pl vl Ls i sg op (inn + 1) 0 ds l idx T N ch os (-1) 0 ws bs r) (c' := -27) (F' := 6) (fun i' s' _ hw => by
    obtain ⟨rfl, rfl⟩ := hw
    exact ⟨r, rfl, x2⟩) (fun i' td hd => by
    exfalso
    have hk := hd.2.1
    rw [hs.kind.1] at hk
    rcases hk with z | z
    · exact h5 z
    · exact KM_n6 (tokF h hi h5).1 z)
  injection y1 with y1
  subst y1
  obtain ⟨r', y1, o2⟩ := o1.seq (r := some r) (pr := fun r => r.1) (W' := fun r => W0 m kd pl vl Ls i sg op inn ds l idx T N ch os ws bs r) (c' := 1) (F' := 0) (fun i' s' _ hw => by
    obtain ⟨sg', T', U', o3', E', d, Tz, chz, Ez, e, D, seg, g1, g2, g3, g4, rfl, g6, g7, g8, g9, g10, g11, g12, g13, g14, g15⟩ := hw
    refine ⟨r, rfl, ?_⟩
    obtain ⟨hi', h5', _⟩ := id g1
    have hf := tokF h hi' h5'
    have ns : f_Model_signAt (Ls i').1 = some (-1) := by
      rcases signKM hf.1 with ⟨s1, s2⟩ | ⟨x, hx, s1, s2, h4⟩
      · exact s2
      · exact absurd (g15 x hx s1) (by omega)
    obtain ⟨t1, t2, t3, t4, t5⟩ := g10.top
    have hFU : FU = 1000000 := rfl
    have act : f_Model_act C mX (Ls i').1 (Ls i').2 T' (Jn ds.length, U'.2) (Jn (op + sg'), Jn sg', Jn (inn + 1), o3') E' 136 = some ((Ls i').1, (Ls i').2, Tz, (Jn ds.length, U'.2), (if inn = 0 then (Jn op, 0, 0, o3') else (Jn (op + sg'), Jn sg', Jn inn, o3')), (Ez.1, Jn ws.length, Ez.2.2)) := by
      refine act_136 (r6 := ((Ls i').1, (Ls i').2, Tz, (Jn ds.length, U'.2), (if inn = 0 then (Jn op, 0, 0, o3') else (Jn (op + sg'), Jn sg', Jn inn, o3')), (Ez.1, Jn ws.length, Ez.2.2))) ?_
      unfold f_Model_signRest
      rw [ns, ob_some, if_pos (by decide), show FU = (FU - d - 1 + 1) + d by omega, g7.2, L92_stop g10, ob_some]
      dsimp only
      rw [t1, subL 1 (by omega), subL 1 (by omega), show ws.length + 1 - 1 = ws.length by omega, show inn + 1 - 1 = inn by omega]
      by_cases c : inn = 0
      · rw [if_pos (by rw [c]; rfl), if_pos c, Jn_sub (by omega), show op + sg' - sg' = op by omega, c]; rfl
      · rw [if_neg (neR 0 c), if_neg c]
    exact Or.inl ⟨i', _, 1, Nat.le_refl _, by omega, RUN.one (tokZ h hi' h5') g6 act, sg', Tz, _, o3', _, chz, e, D, seg, g1, g2, g3, g4, rfl, g6.pop.2.2, g9, t5, g11, g12, g13, g14⟩) (fun i' td hd => ⟨_, rfl, hd⟩)
  injection y1 with y1
  subst y1
  exact o2.mono (by omega) (by omega) (fun _ _ _ z => z)
end
end
section
/-! Operands: numbers, truths, brackets, and signs before an operand. -/
theorem node1 {T N ch k p v} (hG : GT T N ch) (hN : N < 20000) : ∃ T' ch', f_Model_make T k p v = some (Jn N, T') ∧ GT T' (N + 1) ch' ∧ ch' N = [] ∧ dat T' N = (k, p, v) ∧ par T' N = -1 ∧ FRX N N T ch (N + 1) T' ch' := by
  obtain ⟨T', a1, a2, a3, a4, a5, a6⟩ := make_ok hG hN k p v
  refine ⟨T', _, a1, a2, updN_self _ _ _, a5, a4, by omega, a3, fun y hy => ⟨updN_ne _ _ (by omega), (a6 y (by omega)).2, (a6 y (by omega)).1⟩⟩
theorem leafV {T' N ch' k p v} (h1 : ch' N = []) (h2 : dat T' N = (k, p, v)) (h3 : par T' N = -1) : OPV N T' (N + 1) ch' N [N] [(k, p, v, 0)] := by
  refine ⟨by omega, h3, PreI.one (by rw [h1]; exact PreI.nil), fun y hy => ?_, ?_⟩
  · rw [List.mem_singleton] at hy; omega
  · rw [List.map_singleton]
    unfold ent
    rw [h2, h1]; rfl
section
variable {C : S_MC} {mX : S_MX} {m : Nat} {ar : Int32} {kd pl vl : Nat → Int32} {Ls : Nat → S_ML × S_MN}
/-- an operand of one token -/
theorem op_leaf (h : LX C mX m kd pl vl Ls) {i sg op inn : Nat} {ds : List Int32} {l : List E4} {idx : Nat} {T : S_MT} {N : Nat} {ch : Nat → List Nat} {E : S_ME} {os : List Nat} {us : List (Int32 × Int32)} {w wp : Int32} {ws1 : List (Int32 × Int32)} {bs : List Nat} {U : S_MU} {o3 : Int32 × Int32 × Int32} {p : S_Parser} {t : S_Tree}
    (hs : SP m kd pl vl p i sg op) (hus : us.length ≤ op) (hop : op + sg ≤ 60) (hCT : CT t l) (hidx : idx < l.length) (hU : Stk 4000 U.1 U.2 (135 :: ds)) (hG : GT T N ch) (hE : EStk E os (us ++ (w, wp) :: ws1) bs) (hw : ¬ (20 : Int32) ≤ w) (hu : ∀ u, u ∈ us → (20 : Int32) ≤ u.1) (hN : N + us.length ≤ l.length + 1) (hlen : (l.length : Int) ≤ 2 * i + 9) (hB : BDS 1501 ds os (us.length + ws1.length + 1) bs (op + sg)) (h4 : kd i ≠ 4) (k v : Int32)
    (hact : ∀ T1 T2 O E2, f_Model_make T k (pl i) v = some (Jn N, T1) → f_Model_operandCame T1 (Jn (op + sg), Jn sg, Jn inn, o3) E (Jn N) = some (T2, O, E2) → f_Model_step C mX (Ls i).1 (Ls i).2 = some (Ls (i + 1)) → f_Model_anOperand C mX (Ls i).1 (Ls i).2 T (Jn ds.length, U.2) (Jn (op + sg), Jn sg, Jn inn, o3) E = some ((Ls (i + 1)).1, (Ls (i + 1)).2, T2, (Jn ds.length, U.2), O, E2)) :
    ∃ r, ((f_Tree_add t (Jn idx) k (pl i) v).bind fun r14 => (f_Parser_take p (Jn m, ar, kd, pl, vl) (kd i)).bind fun r15 => some (r15, r14.2)) = some r ∧ OK C mX m kd pl vl ((Ls i).1, (Ls i).2, T, U, (Jn (op + sg), Jn sg, Jn inn, o3), E) i (-29) 6 r.1 (WO m kd pl vl Ls i sg op inn ds l idx T N ch os us w wp ws1 bs r) := by
  have hm := h.2.2.2.2.2
  obtain ⟨hi, h5, _⟩ := id hs
  obtain ⟨b1, b2, b3, b4⟩ := hB
  obtain ⟨t1, c1, c2⟩ := add_ok hCT hidx (by omega) k (pl i) v
  obtain ⟨p1, a1, a2, a2', a3⟩ := adv (ar := ar) h hs h4
  obtain ⟨T1, ch1, n1, n2, n3, n4, n5, n6⟩ := node1 (k := k) (p := pl i) (v := v) hG (by omega)
  obtain ⟨T2, E2, ch2, e, D, m1, m2, m3, m4, m5⟩ := came (O := (Jn (op + sg), Jn sg, Jn inn, o3)) (a := op + sg) hw n2 (by omega) (by omega) hE hu (leafV n3 n4 n5) (by omega) rfl (by omega)
  rw [c1, ob_some, a1, ob_some]
  refine ⟨_, rfl, ?_⟩
  refine a3 _ T2 (Jn ds.length, U.2) (Jn (op + sg - us.length), Jn sg, Jn inn, o3) E2 1 (-29) 6 _ (RUN.one (tokZ h hi h5) hU (act_135 (hact T1 T2 _ E2 n1 m1 a2))) (by omega) (by omega) ?_
  intro hs'
  refine ⟨sg, T2, (Jn ds.length, U.2), o3, E2, ch2, e, D, [(k, pl i, v, 0)], hs', Nat.le_refl _, hop, c2, rfl, hU.pop.2.2, ?_, m2, ?_, ?_, List.cons_ne_nil _ _, by rw [List.length_singleton]; omega⟩
  · rw [List.length_singleton]; exact m3
  · rw [List.length_singleton]; exact m4
  · rw [List.length_singleton]; exact n6.trans m5 (by omega)
theorem nonop_lit {p : S_Parser} {i sg op : Nat} (hs : SP m kd pl vl p i sg op) (h2 : kd i ≠ 2) (h3 : kd i ≠ 291) (h4 : kd i ≠ 292) (tk : S_Tokens) (t : S_Tree) (a : Int32) : f_Parser_literal p tk t a = some ((p.1, 6, p.2.2), t) := by
  unfold f_Parser_literal
  rw [hs.kind.1, if_neg h2, if_neg h3, if_neg h4]
/-- an operand that a literal is, or that can't come -/
theorem op_literal (h : LX C mX m kd pl vl Ls) {i sg op inn : Nat} {ds : List Int32} {l : List E4} {idx : Nat} {T : S_MT} {N : Nat} {ch : Nat → List Nat} {E : S_ME} {os : List Nat} {us : List (Int32 × Int32)} {w wp : Int32} {ws1 : List (Int32 × Int32)} {bs : List Nat} {U : S_MU} {o3 : Int32 × Int32 × Int32} {p : S_Parser} {t : S_Tree}
    (hs : SP m kd pl vl p i sg op) (hus : us.length ≤ op) (hop : op + sg ≤ 60) (hCT : CT t l) (hidx : idx < l.length) (hU : Stk 4000 U.1 U.2 (135 :: ds)) (hG : GT T N ch) (hE : EStk E os (us ++ (w, wp) :: ws1) bs) (hw : ¬ (20 : Int32) ≤ w) (hu : ∀ u, u ∈ us → (20 : Int32) ≤ u.1) (hN : N + us.length ≤ l.length + 1) (hlen : (l.length : Int) ≤ 2 * i + 9) (hB : BDS 1501 ds os (us.length + ws1.length + 1) bs (op + sg))
    (c1 : kd i ≠ 1) (c40 : kd i ≠ 40) (c45 : kd i ≠ 45) (c290 : kd i ≠ 290) :
    ∃ r, ((f_Parser_literal p (Jn m, ar, kd, pl, vl) t (Jn idx)).bind fun r23 => some (r23.1, r23.2)) = some r ∧ OK C mX m kd pl vl ((Ls i).1, (Ls i).2, T, U, (Jn (op + sg), Jn sg, Jn inn, o3), E) i (-28) 6 r.1 (WO m kd pl vl Ls i sg op inn ds l idx T N ch os us w wp ws1 bs r) := by
  obtain ⟨hi, h5, _⟩ := id hs
  have hf := tokF h hi h5
  obtain ⟨k1, k2, k3⟩ := hs.kind
  have q80 := KM_iff hf.1 (show ((1 : Int32), (80 : Int32)) ∈ KMT by decide)
  have q55 := KM_iff hf.1 (show ((40 : Int32), (55 : Int32)) ∈ KMT by decide)
  have q64 := KM_iff hf.1 (show ((45 : Int32), (64 : Int32)) ∈ KMT by decide)
  have q34 := KM_iff hf.1 (show ((290 : Int32), (34 : Int32)) ∈ KMT by decide)
  have q81 := KM_iff hf.1 (show ((2 : Int32), (81 : Int32)) ∈ KMT by decide)
  have q35 := KM_iff hf.1 (show ((291 : Int32), (35 : Int32)) ∈ KMT by decide)
  have q36 := KM_iff hf.1 (show ((292 : Int32), (36 : Int32)) ∈ KMT by decide)
  have n64 : ¬ (Ls i).1.2.1 = 64 := by rw [← q64]; exact c45
  have n34 : ¬ (Ls i).1.2.1 = 34 := by rw [← q34]; exact c290
  unfold f_Parser_literal
  rw [k1, k2, k3]
  have fin : ∀ k v, (∃ r, ((f_Tree_add t (Jn idx) k (pl i) v).bind fun r14 => (f_Parser_take p (Jn m, ar, kd, pl, vl) (kd i)).bind fun r15 => some (r15, r14.2)) = some r ∧ OK C mX m kd pl vl ((Ls i).1, (Ls i).2, T, U, (Jn (op + sg), Jn sg, Jn inn, o3), E) i (-29) 6 r.1 (WO m kd pl vl Ls i sg op inn ds l idx T N ch os us w wp ws1 bs r)) →
      ∃ r, (((f_Tree_add t (Jn idx) k (pl i) v).bind fun r14 => (f_Parser_take p (Jn m, ar, kd, pl, vl) (kd i)).bind fun r15 => some (r15, r14.2)).bind fun r23 => some (r23.1, r23.2)) = some r ∧ OK C mX m kd pl vl ((Ls i).1, (Ls i).2, T, U, (Jn (op + sg), Jn sg, Jn inn, o3), E) i (-28) 6 r.1 (WO m kd pl vl Ls i sg op inn ds l idx T N ch os us w wp ws1 bs r) := by
    intro k v ⟨r, e, o⟩
    rw [e, ob_some]
    exact ⟨r, rfl, o.mono (by omega) (by omega) (fun _ _ _ z => z)⟩
  by_cases c2 : kd i = 2
  · rw [if_pos c2]
    have := fin 30 (vl i) (op_leaf (ar := ar) h hs hus hop hCT hidx hU hG hE hw hu hN hlen hB (by rw [c2]; decide) 30 (vl i) (by
      intro T1 T2 O E2 hmk hcm hst
      unfold f_Model_anOperand
      rw [if_neg n64, if_neg n34, if_pos (by rw [← q81]; exact c2), hf.2.1, hf.2.2.2.1 (Or.inr (Or.inl c2)), hmk, ob_some]
      dsimp only
      rw [hcm, ob_some, hst]; rfl))
    rw [c2] at this
    exact this
  · rw [if_neg c2]
    have n81 : ¬ (Ls i).1.2.1 = 81 := by rw [← q81]; exact c2
    by_cases c3 : kd i = 291
    · rw [if_pos c3, if_pos c3]
      exact fin 31 1 (op_leaf (ar := ar) h hs hus hop hCT hidx hU hG hE hw hu hN hlen hB (by rw [c3]; decide) 31 1 (by
        intro T1 T2 O E2 hmk hcm hst
        have et : (Ls i).1.2.1 = 35 := by rw [← q35]; exact c3
        unfold f_Model_anOperand
        rw [if_neg n64, if_neg n34, if_neg n81, if_pos et, if_pos et, hf.2.1, hmk, ob_some]
        dsimp only
        rw [hcm, ob_some, hst]; rfl))
    · rw [if_neg c3]
      have n35 : ¬ (Ls i).1.2.1 = 35 := by rw [← q35]; exact c3
      by_cases c4 : kd i = 292
      · rw [if_pos c4, if_neg c3]
        exact fin 31 0 (op_leaf (ar := ar) h hs hus hop hCT hidx hU hG hE hw hu hN hlen hB (by rw [c4]; decide) 31 0 (by
          intro T1 T2 O E2 hmk hcm hst
          unfold f_Model_anOperand
          rw [if_neg n64, if_neg n34, if_neg n81, if_neg n35, if_pos (by rw [← q36]; exact c4), if_neg n35, hf.2.1, hmk, ob_some]
          dsimp only
          rw [hcm, ob_some, hst]; rfl))
      · rw [if_neg c4, ob_some]
        refine ⟨_, rfl, ?_⟩
        obtain ⟨w1, w2, w3⟩ := wrongOK h hs
        refine w3 _ (Ls i).2 T (Jn ds.length, U.2) (Jn (op + sg), Jn sg, Jn inn, o3) E 1 (-28) 6 _ _ w2 (RUN.one (tokZ h hi h5) hU (act_135 (r4 := (((Ls i).1.1, (Ls i).1.2.1, (Ls i).1.2.2.1, (Ls i).1.2.2.2.1, (Ls i).1.2.2.2.2.1, 6, pl i), (Ls i).2, T, (Jn ds.length, U.2), (Jn (op + sg), Jn sg, Jn inn, o3), E)) ?_)) (by omega)
        unfold f_Model_anOperand
        rw [if_neg n64, if_neg n34, if_neg n81, if_neg n35, if_neg (by rw [← q36]; exact c4), if_neg (by rw [← q55]; exact c40), if_neg (by rw [← q80]; exact c1), w1]; rfl
end
end
section
/-! Operands: signs before them, and brackets. -/
section
variable {C : S_MC} {mX : S_MX} {m : Nat} {ar : Int32} {kd pl vl : Nat → Int32} {Ls : Nat → S_ML × S_MN}
/-- pass() and take(), whatever else the turn did -/
theorem passX (h : LX C mX m kd pl vl Ls) {p : S_Parser} {i sg op : Nat} (hs : SP m kd pl vl p i sg op) {c T' : Int32} (hc : (c, T') ∈ KMT) (h4 : c ≠ 4) :
    ∃ p' r, f_Parser_take p (Jn m, ar, kd, pl, vl) c = some p' ∧ f_Model_pass C mX (Ls i).1 (Ls i).2 T' = some r ∧
      ∀ (s0 : MSt) (T : S_MT) (U : S_MU) (O : S_MO) (E : S_ME) (k : Nat) (cc F : Int) (W : Nat → MSt → Prop), RUN C mX k s0 (r.1, r.2, T, U, O, E) → (k : Int) ≤ 30 + cc → (k : Int) ≤ F →
        (SP m kd pl vl p' (i + 1) sg op → W (i + 1) ((Ls (i + 1)).1, (Ls (i + 1)).2, T, U, O, E)) → OK C mX m kd pl vl s0 i cc F p' W := by
  obtain ⟨hi, h5, _⟩ := id hs
  have hf := tokF h hi h5
  have hk := KM_iff hf.1 hc
  by_cases e : kd i = c
  · obtain ⟨p', a1, a2, a2', a3⟩ := adv (ar := ar) h hs (by rw [e]; exact h4)
    rw [e] at a1
    refine ⟨p', Ls (i + 1), a1, ?_, fun s0 T U O E k cc F W hr h1 h2 hw => a3 s0 T U O E k cc F W hr h1 (by omega) hw⟩
    unfold f_Model_pass
    rw [if_pos (by rw [← hk]; exact e), a2]; rfl
  · obtain ⟨w1, w2, w3⟩ := wrongOK h hs
    refine ⟨_, (((Ls i).1.1, (Ls i).1.2.1, (Ls i).1.2.2.1, (Ls i).1.2.2.2.1, (Ls i).1.2.2.2.2.1, 6, pl i), (Ls i).2), take_miss (by rw [hs.kind.1]; exact e), ?_, fun s0 T U O E k cc F W hr h1 h2 hw => w3 s0 _ T U O E k cc F _ W w2 hr h2⟩
    unfold f_Model_pass
    rw [if_neg (by rw [← hk]; exact e), w1]; rfl
theorem SP.close {p : S_Parser} {i sg op : Nat} (hs : SP m kd pl vl p i sg (op + 1)) : SP m kd pl vl (p.1, p.2.1, p.2.2.1, p.2.2.2.1, p.2.2.2.2.1, p.2.2.2.2.2.1, p.2.2.2.2.2.2.1 - 1, p.2.2.2.2.2.2.2) i sg op := by
  obtain ⟨hi, h5, pb, fq, rfl, hpb⟩ := hs
  refine ⟨hi, h5, pb, fq, ?_, hpb⟩
  dsimp only
  rw [subL 1 (by omega), show op + 1 - 1 = op by omega]
theorem op_unary (h : LX C mX m kd pl vl Ls) {fo : S_Parser → S_Tokens → S_Tree → Int32 → Option (S_Parser × S_Tree)} {K : Nat} (hfo : ∀ K', K = K' + 1 → OPS C mX m ar kd pl vl Ls fo K') (hdo : ∀ {p i td}, PD p i td → ∀ t a, ∃ r, fo p (Jn m, ar, kd, pl, vl) t a = some r ∧ PD r.1 i td)
    {i sg op inn : Nat} {ds : List Int32} {l : List E4} {idx : Nat} {T : S_MT} {N : Nat} {ch : Nat → List Nat} {E : S_ME} {os : List Nat} {us : List (Int32 × Int32)} {w wp : Int32} {ws1 : List (Int32 × Int32)} {bs : List Nat} {U : S_MU} {o3 : Int32 × Int32 × Int32} {p : S_Parser} {t : S_Tree}
    (hs : SP m kd pl vl p i sg op) (hus : us.length ≤ op) (hop : op + sg ≤ 60) (hK : 60 - (op + sg) ≤ K) (hCT : CT t l) (hidx : idx < l.length) (hU : Stk 4000 U.1 U.2 (135 :: ds)) (hG : GT T N ch) (hE : EStk E os (us ++ (w, wp) :: ws1) bs) (hw : ¬ (20 : Int32) ≤ w) (hu : ∀ u, u ∈ us → (20 : Int32) ≤ u.1) (hN : N + us.length ≤ l.length + 1) (hlen : (l.length : Int) ≤ 2 * i + 9) (hB : BDS 1501 ds os (us.length + ws1.length + 1) bs (op + sg)) (hin : inn ≠ 0) (hin2 : inn ≤ 61 - K) (h4 : kd i ≠ 4) (x v : Int32) (hx : (20 : Int32) ≤ x) (hxv : x - 20 = v)
    (hdeep : ∀ q O, f_Model_opens (Ls i).1 (Jn (op + sg), Jn sg, Jn inn, o3) = some (0, q, O) → f_Model_anOperand C mX (Ls i).1 (Ls i).2 T (Jn ds.length, U.2) (Jn (op + sg), Jn sg, Jn inn, o3) E = some (q, (Ls i).2, T, (Jn ds.length, U.2), O, E))
    (hact : ∀ O E1 U1, f_Model_opens (Ls i).1 (Jn (op + sg), Jn sg, Jn inn, o3) = some (1, (Ls i).1, O) → f_Model_waitFor E x (pl i) = some E1 → f_Model_push (Jn ds.length, U.2) 135 = some U1 → f_Model_step C mX (Ls i).1 (Ls i).2 = some (Ls (i + 1)) → f_Model_anOperand C mX (Ls i).1 (Ls i).2 T (Jn ds.length, U.2) (Jn (op + sg), Jn sg, Jn inn, o3) E = some ((Ls (i + 1)).1, (Ls (i + 1)).2, T, U1, O, E1)) :
    ∃ r, ((f_Tree_add t (Jn idx) 36 (pl i) v).bind fun r9 => (f_Parser_takeOpening p (Jn m, ar, kd, pl, vl)).bind fun r10 => (fo r10 (Jn m, ar, kd, pl, vl) r9.2 r9.1).bind fun r11 => some ((r11.1.1, r11.1.2.1, r11.1.2.2.1, r11.1.2.2.2.1, r11.1.2.2.2.2.1, r11.1.2.2.2.2.2.1, r11.1.2.2.2.2.2.2.1 - 1, r11.1.2.2.2.2.2.2.2), r11.2)) = some r ∧
      OK C mX m kd pl vl ((Ls i).1, (Ls i).2, T, U, (Jn (op + sg), Jn sg, Jn inn, o3), E) i (-28) 6 r.1 (WO m kd pl vl Ls i sg op inn ds l idx T N ch os us w wp ws1 bs r) := by
  have hm := h.2.2.2.2.2
  obtain ⟨hi, h5, _⟩ := id hs
  obtain ⟨b1, b2, b3, b4⟩ := hB
  obtain ⟨t1, c1, c2⟩ := add_ok hCT hidx (by omega) 36 (pl i) v
  rw [c1, ob_some]
  dsimp only
  by_cases c60 : op + sg = 60
  · obtain ⟨w1, ⟨q, w2, w3⟩, w4⟩ := deepOK h hs c60 (Jn sg, Jn inn, o3)
    rw [opening_deep w2, ob_some]
    obtain ⟨r, e, hr⟩ := hdo w3 t1 (Jn l.length)
    rw [e, ob_some]
    refine ⟨_, rfl, ?_⟩
    exact w4 _ (Ls i).2 T (Jn ds.length, U.2) _ E 1 (-28) 6 _ _ hr (RUN.one (tokZ h hi h5) hU (act_135 (hdeep _ _ w1))) (by omega)
  · have hop' : op + sg < 60 := by omega
    obtain ⟨K', hK'⟩ : ∃ K', K = K' + 1 := ⟨K - 1, by omega⟩
    obtain ⟨p1, a1, a2, a2', a3⟩ := opening (ar := ar) h hs h4 hop'
    obtain ⟨E1, e1, e2⟩ := waitF hE (by rw [List.length_append, List.length_cons]; omega) x (pl i)
    obtain ⟨U1, u1, v1⟩ := push_ok (U := (Jn ds.length, U.2)) hU.pop.2.2 (by omega) 135
    rw [a1, ob_some]
    have hl1 : (bump l idx 1 ++ [(36, pl i, v, 0)]).length = l.length + 1 := by rw [List.length_append, bump_len, List.length_singleton]
    have o1 := a3 _ T U1 (Jn (op + sg + 1), Jn sg, Jn inn, o3) E1 1 (-29) 6 (fun i' s' => i' = i + 1 ∧ SP m kd pl vl p1 i' sg (op + 1) ∧ s' = ((Ls i').1, (Ls i').2, T, U1, (Jn (op + sg + 1), Jn sg, Jn inn, o3), E1)) (RUN.one (tokZ h hi h5) hU (act_135 (hact _ E1 U1 (opens_ok hop' _) e1 u1 a2))) (by omega) (by omega) (fun hs' => ⟨rfl, hs', rfl⟩)
    obtain ⟨r2, e3, o2⟩ := o1.seq (fun i' s' _ hw' => by
      obtain ⟨rfl, hs', rfl⟩ := hw'
      have := hfo K' hK' (i + 1) sg (op + 1) inn ds (bump l idx 1 ++ [(36, pl i, v, 0)]) l.length T N ch E1 os ((x, pl i) :: us) w wp ws1 bs U1 o3 p1 t1 hs' (by rw [List.length_cons]; omega) (by omega) (by omega) c2 (by rw [hl1]; omega) v1 hG e2 hw (by
        intro u hu'
        rcases List.mem_cons.mp hu' with e | e
        · subst e; exact hx
        · exact hu u e) (by rw [hl1, List.length_cons]; omega) (by rw [hl1]; omega) ⟨by omega, by omega, by rw [List.length_cons]; omega, by omega⟩ hin (by omega)
      rw [show op + 1 + sg = op + sg + 1 by omega] at this
      exact this) (fun i' td hd => hdo hd _ _)
    rw [e3, ob_some]
    refine ⟨_, rfl, ?_⟩
    obtain ⟨r', y1, o3'⟩ := o2.seq (r := some ((r2.1.1, r2.1.2.1, r2.1.2.2.1, r2.1.2.2.2.1, r2.1.2.2.2.2.1, r2.1.2.2.2.2.2.1, r2.1.2.2.2.2.2.2.1 - 1, r2.1.2.2.2.2.2.2.2), r2.2)) (pr := fun r => r.1) (W' := fun r => WO m kd pl vl Ls i sg op inn ds l idx T N ch os us w wp ws1 bs r) (c' := 0) (F' := 0) (fun i' s' _ hw' => by
      obtain ⟨sg', T', U', o3', E', ch', e, D, seg, g1, g2, g3, g4, rfl, g6, g7, g8, g9, g10, g11, g12⟩ := hw'
      refine ⟨_, rfl, OK.ret ?_⟩
      rw [show l.length = (bump l idx 1).length by rw [bump_len], bump_mid] at g4
      have einc : inc (36, pl i, v, 0) 1 = (36, pl i, v, 1) := rfl
      rw [einc, List.append_assoc, List.cons_append, List.nil_append] at g4
      rw [List.length_cons, show N + seg.length + (us.length + 1) = N + ((36, pl i, v, 1) :: seg).length + us.length by rw [List.length_cons]; omega] at g7 g9 g10
      refine ⟨sg', T', U', o3', E', ch', e, D, (36, pl i, v, 1) :: seg, g1.close, g2, by omega, g4, ?_, g6, g7, g8, ?_, g10, List.cons_ne_nil _ _, by rw [List.length_cons]; omega⟩
      · rw [List.length_cons, show op + 1 + sg' - (us.length + 1) = op + sg' - us.length by omega]
      · have : wrapU ((x, pl i) :: us) seg = wrapU us ((36, pl i, v, 1) :: seg) := by
          show wrapU us ((36, pl i, x - 20, 1) :: seg) = _
          rw [hxv]
        rw [this] at g9
        exact g9) (fun i' td hd => ⟨_, rfl, hd⟩)
    injection y1 with y1
    subst y1
    exact o3'.mono (by omega) (by omega) (fun _ _ _ z => z)
theorem op_group (h : LX C mX m kd pl vl Ls) {fe : S_Parser → S_Tokens → S_Tree → Int32 → Int32 → Option (S_Parser × S_Tree)} {K : Nat} (hfe : ∀ K', K = K' + 1 → X0S C mX m ar kd pl vl Ls fe K') (hde : ∀ {p i td}, PD p i td → ∀ t a, ∃ r, fe p (Jn m, ar, kd, pl, vl) t a (Jn 0) = some r ∧ PD r.1 i td)
    {i sg op inn : Nat} {ds : List Int32} {l : List E4} {idx : Nat} {T : S_MT} {N : Nat} {ch : Nat → List Nat} {E : S_ME} {os : List Nat} {us : List (Int32 × Int32)} {w wp : Int32} {ws1 : List (Int32 × Int32)} {bs : List Nat} {U : S_MU} {o3 : Int32 × Int32 × Int32} {p : S_Parser} {t : S_Tree}
    (hs : SP m kd pl vl p i sg op) (hus : us.length ≤ op) (hop : op + sg ≤ 60) (hK : 60 - (op + sg) ≤ K) (hCT : CT t l) (hidx : idx < l.length) (hU : Stk 4000 U.1 U.2 (135 :: ds)) (hG : GT T N ch) (hE : EStk E os (us ++ (w, wp) :: ws1) bs) (hw : ¬ (20 : Int32) ≤ w) (hu : ∀ u, u ∈ us → (20 : Int32) ≤ u.1) (hN : N + us.length ≤ l.length + 1) (hlen : (l.length : Int) ≤ 2 * i + 9) (hB : BDS 1501 ds os (us.length + ws1.length + 1) bs (op + sg)) (hin : inn ≠ 0) (hin2 : inn ≤ 61 - K) (ck : kd i = 40) :
    ∃ r, ((f_Parser_takeOpening p (Jn m, ar, kd, pl, vl)).bind fun r4 => (fe r4 (Jn m, ar, kd, pl, vl) t (Jn idx) 0).bind fun r5 => (f_Parser_takeClosing r5.1 (Jn m, ar, kd, pl, vl) 41).bind fun r6 => some (r6, r5.2)) = some r ∧
      OK C mX m kd pl vl ((Ls i).1, (Ls i).2, T, U, (Jn (op + sg), Jn sg, Jn inn, o3), E) i (-28) 6 r.1 (WO m kd pl vl Ls i sg op inn ds l idx T N ch os us w wp ws1 bs r) := by
  have hm := h.2.2.2.2.2
  obtain ⟨hi, h5, _⟩ := id hs
  have hf := tokF h hi h5
  have q55 := KM_iff hf.1 (show ((40 : Int32), (55 : Int32)) ∈ KMT by decide)
  have et : (Ls i).1.2.1 = 55 := by rw [← q55]; exact ck
  obtain ⟨b1, b2, b3, b4⟩ := hB
  by_cases c60 : op + sg = 60
  · obtain ⟨w1, ⟨q, w2, w3⟩, w4⟩ := deepOK h hs c60 (Jn sg, Jn inn, o3)
    rw [opening_deep w2, ob_some]
    obtain ⟨r, e, hr⟩ := hde w3 t (Jn idx)
    rw [show (0 : Int32) = Jn 0 from rfl, e, ob_some]
    obtain ⟨q2, e2, hr2⟩ := dm_takeClosing hr (Jn m, ar, kd, pl, vl) 41 (by decide)
    rw [e2, ob_some]
    refine ⟨_, rfl, ?_⟩
    refine w4 _ (Ls i).2 T (Jn ds.length, U.2) (Jn (op + sg), Jn sg, Jn inn, o3) E 1 (-28) 6 _ _ hr2 (RUN.one (tokZ h hi h5) hU (act_135 (r4 := (((Ls i).1.1, (Ls i).1.2.1, (Ls i).1.2.2.1, (Ls i).1.2.2.2.1, (Ls i).1.2.2.2.2.1, 7, pl i), (Ls i).2, T, (Jn ds.length, U.2), (Jn (op + sg), Jn sg, Jn inn, o3), E)) ?_)) (by omega)
    unfold f_Model_anOperand
    rw [if_neg (show ¬ (Ls i).1.2.1 = 64 by rw [et]; decide), if_neg (show ¬ (Ls i).1.2.1 = 34 by rw [et]; decide), if_neg (show ¬ (Ls i).1.2.1 = 81 by rw [et]; decide), if_neg (show ¬ (Ls i).1.2.1 = 35 by rw [et]; decide), if_neg (show ¬ (Ls i).1.2.1 = 36 by rw [et]; decide), if_pos et, w1, ob_some, if_pos rfl]
  · have hop' : op + sg < 60 := by omega
    obtain ⟨K', hK'⟩ : ∃ K', K = K' + 1 := ⟨K - 1, by omega⟩
    obtain ⟨p1, a1, a2, a2', a3⟩ := opening (ar := ar) h hs (by rw [ck]; decide) hop'
    obtain ⟨U1, u1, v1⟩ := push2_ok (U := (Jn ds.length, U.2)) hU.pop.2.2 (by omega) 138 134
    rw [a1, ob_some]
    have o1 := a3 _ T U1 (Jn (op + sg + 1), Jn sg, Jn inn, o3) E 1 (-29) 6 (fun i' s' => i' = i + 1 ∧ SP m kd pl vl p1 i' sg (op + 1) ∧ s' = ((Ls i').1, (Ls i').2, T, U1, (Jn (op + sg + 1), Jn sg, Jn inn, o3), E)) (RUN.one (tokZ h hi h5) hU (act_135 (r4 := ((Ls (i + 1)).1, (Ls (i + 1)).2, T, U1, (Jn (op + sg + 1), Jn sg, Jn inn, o3), E)) (by
      unfold f_Model_anOperand
      rw [if_neg (show ¬ (Ls i).1.2.1 = 64 by rw [et]; decide), if_neg (show ¬ (Ls i).1.2.1 = 34 by rw [et]; decide), if_neg (show ¬ (Ls i).1.2.1 = 81 by rw [et]; decide), if_neg (show ¬ (Ls i).1.2.1 = 35 by rw [et]; decide), if_neg (show ¬ (Ls i).1.2.1 = 36 by rw [et]; decide), if_pos et, opens_ok hop', ob_some, if_neg (show ¬ (1 : Int32) = 0 by decide), u1, ob_some]
      dsimp only
      rw [a2]; rfl))) (by omega) (by omega) (fun hs' => ⟨rfl, hs', rfl⟩)
    obtain ⟨r2, e3, o2⟩ := o1.seq (fun i' s' _ hw' => by
      obtain ⟨rfl, hs', rfl⟩ := hw'
      have := hfe K' hK' (i + 1) sg (op + 1) inn (138 :: ds) l idx T N ch E os (us ++ (w, wp) :: ws1) bs U1 o3 p1 t hs' (by omega) (by omega) hCT hidx v1 hG hE (by omega) (by omega) ⟨by rw [List.length_cons]; omega, by omega, by rw [List.length_append, List.length_cons]; omega, by omega⟩ (by omega)
      rw [show op + 1 + sg = op + sg + 1 by omega] at this
      exact this) (fun i' td hd => hde hd _ _)
    rw [show (0 : Int32) = Jn 0 from rfl, e3, ob_some]
    obtain ⟨r3, e4, o3'⟩ := o2.seq (r := (f_Parser_takeClosing r2.1 (Jn m, ar, kd, pl, vl) 41).bind fun r6 => some (r6, r2.2)) (pr := fun r => r.1) (W' := fun r => WO m kd pl vl Ls i sg op inn ds l idx T N ch os us w wp ws1 bs r) (c' := -29) (F' := 6) (fun i' s' _ hw' => by
      obtain ⟨sg', T', U', o3', E', ch', e, D, seg, g1, g2, g3, g4, rfl, g6, g7, g8, g9, g10, g11, g12⟩ := hw'
      rw [if_neg hin]
      obtain ⟨hi', h5', _⟩ := id g1
      obtain ⟨E2, t1, t2⟩ := takeOp g8
      have hgl := g4.2.1
      rw [List.length_append, bump_len] at hgl
      obtain ⟨T2, E3, ch2, e', D', m1, m2, m3, m4, m5⟩ := came (O := (Jn (op + sg'), Jn sg', Jn inn, o3')) (a := op + sg') hw g7 (by omega) (by omega) t2 hu g9 (by omega) rfl (by omega)
      obtain ⟨p3, r, x1, x2, x3⟩ := passX (ar := ar) h g1.close (show ((41 : Int32), (56 : Int32)) ∈ KMT by decide) (by decide)
      unfold f_Parser_takeClosing
      rw [x1, ob_some, ob_some]
      refine ⟨_, rfl, ?_⟩
      refine x3 _ T2 (Jn ds.length, U'.2) (Jn (op + sg' - us.length), Jn sg', Jn inn, o3') E3 1 (-29) 6 _ (RUN.one (tokZ h hi' h5') g6 (act_138 (r11 := (r.1, r.2, T2, (Jn (op + sg' - us.length), Jn sg', Jn inn, o3'), E3)) ?_)) (by omega) (by omega) ?_
      · unfold f_Model_groupEnd
        rw [t1, ob_some]
        dsimp only
        rw [show Jn (op + 1 + sg') - 1 = Jn (op + sg') from by rw [subL 1 (by omega)]; congr 1; omega, m1, ob_some, x2]; rfl
      · intro hs'
        exact ⟨sg', T2, _, o3', E3, ch2, e', D', seg, hs', g2, by omega, g4, rfl, g6.pop.2.2, m3, m2, m4, g10.trans m5 (by omega), g11, by omega⟩) (fun i' td hd => dmb (dm_takeClosing hd _ 41 (by decide)) fun r6 h6 => ⟨_, rfl, h6⟩)
    exact ⟨r3, e4, o3'.mono (by omega) (by omega) (fun _ _ _ z => z)⟩
end
end
section
/-! Operands that begin with a name. -/
def BEG (lo : Nat) (T : S_MT) (N : Nat) (ch : Nat → List Nat) (z : Nat) (k p v : Int32) (es Ds : List Nat) (sg : List E4) : Prop :=
  z < N ∧ lo ≤ z ∧ par T z = -1 ∧ dat T z = (k, p, v) ∧ ch z = es ∧ PreI ch es Ds ∧ (∀ y, y ∈ Ds → z < y ∧ y < N) ∧ Ds.map (ent T ch) = sg
theorem BEG.keep {lo lo' T N ch z k p v es Ds sg N' T' ch'} (h : BEG lo T N ch z k p v es Ds sg) (hz : z < lo') (hb : ∀ y, y ∈ Ds → y < lo') (hf : FRX lo' N T ch N' T' ch') : BEG lo T' N' ch' z k p v es Ds sg := by
  obtain ⟨h1, h2, h3, h4, h5, h6, h7, h8⟩ := h
  have hN := hf.1
  obtain ⟨z1, z2, z3⟩ := hf.2.2 z hz
  refine ⟨by omega, h2, by rw [z3]; exact h3, by rw [z2]; exact h4, by rw [z1]; exact h5, PreI.congr (fun y hy => (hf.2.2 y (hb y hy)).1) h6, fun y hy => ⟨(h7 y hy).1, by have := (h7 y hy).2; omega⟩, ?_⟩
  rw [← h8]
  apply map_congr'
  intro y hy
  unfold ent
  rw [(hf.2.2 y (hb y hy)).2.1, (hf.2.2 y (hb y hy)).1]
theorem BEG.fin {lo T N ch z k p v es Ds sg} (h : BEG lo T N ch z k p v es Ds sg) : OPV lo T N ch z (z :: Ds) ((k, p, v, es.length) :: sg) := by
  obtain ⟨h1, h2, h3, h4, h5, h6, h7, h8⟩ := h
  refine ⟨h1, h3, PreI.one (by rw [h5]; exact h6), fun y hy => ?_, ?_⟩
  · rcases List.mem_cons.mp hy with e | e
    · subst e; exact ⟨h2, h1⟩
    · have := h7 y e; omega
  · rw [List.map_cons, h8]
    unfold ent
    rw [h4, h5]
theorem BEG.arg {lo lo2 T N ch z k p v es Ds sg e De se} (h : BEG lo T N ch z k p v es Ds sg) (hG : GT T N ch) (he : OPV lo2 T N ch e De se) (hz : z < lo2) (hb : ∀ y, y ∈ Ds → y < lo2) :
    ∃ T' ch', f_Model_hang T (Jn e) (Jn z) = some T' ∧ GT T' N ch' ∧ BEG lo T' N ch' z k p v (es ++ [e]) (Ds ++ De) (sg ++ se) ∧ FRX lo N T ch N T' ch' := by
  obtain ⟨h1, h2, h3, h4, h5, h6, h7, h8⟩ := h
  obtain ⟨e1, e2, e3, e4, e5⟩ := he
  have heD := e4 e e3.mem
  obtain ⟨T', a1, a2, a3, a4, a5, a6⟩ := hang_ok hG (y := e) (x := z) e1 h1 e2
  have cz : updN ch z (ch z ++ [e]) z = es ++ [e] := by rw [updN_self, h5]
  have cy : ∀ y, y ≠ z → updN ch z (ch z ++ [e]) y = ch y := fun y hy => updN_ne _ _ hy
  refine ⟨T', _, a1, a2, ⟨h1, h2, by rw [a5 z (by omega)]; exact h3, by rw [a6]; exact h4, cz, ?_, ?_, ?_⟩, Nat.le_refl _, a3, ?_⟩
  · refine PreI.app (PreI.congr (fun y hy => cy y (by have := h7 y hy; omega)) h6) (PreI.congr (fun y hy => cy y (by have := e4 y hy; omega)) e3)
  · intro y hy
    rcases List.mem_append.mp hy with x | x
    · exact h7 y x
    · have := e4 y x; omega
  · rw [List.map_append]
    congr 1
    · rw [← h8]
      apply map_congr'
      intro y hy
      have := h7 y hy
      unfold ent
      rw [a6, cy y (by omega)]
    · rw [← e5]
      apply map_congr'
      intro y hy
      have := e4 y hy
      unfold ent
      rw [a6, cy y (by omega)]
  · intro y hy
    exact ⟨cy y (by omega), a6 y, a5 y (by omega)⟩
theorem EStk.btop {E os ws z bs} (h : EStk E os ws (z :: bs)) : E.2.2.1 = Jn (bs.length + 1) ∧ bs.length < 400 ∧ E.2.2.2.2.2.2 bs.length = Jn z ∧ EStk (E.1, E.2.1, Jn bs.length, E.2.2.2) os ws bs := by
  obtain ⟨h1, h2, h3, h4⟩ := h
  have h4' : Stk 400 E.2.2.1 E.2.2.2.2.2.2 (Jn z :: bs.map Jn) := h4
  obtain ⟨a1, a2, a3⟩ := h4'.pop
  have hl := h4'.2.1
  rw [List.length_cons, List.length_map] at hl
  rw [List.length_map] at a1 a2 a3
  exact ⟨a1, by omega, a2, h1, h2, h3, a3⟩
/-- start(): a node that begins -/
theorem start_ok {T N ch E os ws bs O k} (hG : GT T N ch) (hN : N < 20000) (hE : EStk E os ws bs) (hb : bs.length < 400) : ∃ T1 E1 ch1, f_Model_start T O E k = some (T1, E1) ∧ EStk E1 os ws (N :: bs) ∧ GT T1 (N + 1) ch1 ∧ BEG N T1 (N + 1) ch1 N k O.2.2.2.1 O.2.2.2.2.1 [] [] [] ∧ FRX N N T ch (N + 1) T1 ch1 := by
  obtain ⟨T1, ch1, n1, n2, n3, n4, n5, n6⟩ := node1 (k := k) (p := O.2.2.2.1) (v := O.2.2.2.2.1) hG hN
  obtain ⟨h1, h2, h3, h4⟩ := hE
  have hb' : (bs.map Jn).length < 400 := by rw [List.length_map]; exact hb
  refine ⟨T1, (E.1, E.2.1, Jn (bs.length + 1), E.2.2.2.1, E.2.2.2.2.1, E.2.2.2.2.2.1, upd E.2.2.2.2.2.2 bs.length (Jn N)), ch1, ?_, ⟨h1, h2, h3, ?_⟩, n2, ⟨by omega, Nat.le_refl _, n5, n4, n3, PreI.nil, fun y hy => (by cases hy), rfl⟩, n6⟩
  · unfold f_Model_start
    have e4 := h4.1
    rw [List.length_map] at e4
    rw [n1, ob_some, e4, gd_Jn hb (by omega), Jn_cl (by omega), addL _ 1]
  · have := h4.push (Jn N) hb'
    rw [List.length_map] at this
    exact this
/-- finish(): the node that began is an operand -/
theorem finish_ok {w wp ws1 bs us T N ch O E z os lo D seg a} (hw : ¬ (20 : Int32) ≤ w) (hG : GT T N ch) (hN : N + us.length ≤ 20000) (hos : os.length < 400) (hE : EStk E os (us ++ (w, wp) :: ws1) (z :: bs)) (hu : ∀ u, u ∈ us → (20 : Int32) ≤ u.1) (hv : OPV lo T N ch z D seg) (hlo : lo ≤ N) (hO : O.1 = Jn a) (ha : us.length ≤ a) :
    ∃ T' E' ch' e' D', f_Model_finish T O E = some (T', (Jn (a - us.length), O.2), E') ∧ EStk E' (e' :: os) ((w, wp) :: ws1) bs ∧ GT T' (N + us.length) ch' ∧ OPV lo T' (N + us.length) ch' e' D' (wrapU us seg) ∧ FRX lo N T ch (N + us.length) T' ch' := by
  obtain ⟨b1, b2, b3, b4⟩ := hE.btop
  obtain ⟨T', E', ch', e', D', m1, m2⟩ := came (O := O) (a := a) hw hG hN hos b4 hu hv hlo hO ha
  refine ⟨T', E', ch', e', D', ?_, m2⟩
  unfold f_Model_finish
  rw [b1, subL 1 (by omega), show bs.length + 1 - 1 = bs.length by omega, gd_Jn b2 (by omega), Jn_cl (by omega), b3, m1, ob_some]
/-- argument(): an operand hung below the node that began -/
theorem argument_ok {T N ch E e os ws z bs lo lo2 k p v es Ds sg De se} (hE : EStk E (e :: os) ws (z :: bs)) (h : BEG lo T N ch z k p v es Ds sg) (hG : GT T N ch) (he : OPV lo2 T N ch e De se) (hz : z < lo2) (hb : ∀ y, y ∈ Ds → y < lo2) :
    ∃ T' ch' E', f_Model_argument T E = some (T', E') ∧ EStk E' os ws (z :: bs) ∧ GT T' N ch' ∧ BEG lo T' N ch' z k p v (es ++ [e]) (Ds ++ De) (sg ++ se) ∧ FRX lo N T ch N T' ch' := by
  obtain ⟨E1, t1, t2⟩ := takeOp hE
  obtain ⟨b1, b2, b3, b4⟩ := t2.btop
  obtain ⟨T', ch', a1, a2, a3, a4⟩ := h.arg hG he hz hb
  refine ⟨T', ch', E1, ?_, t2, a2, a3, a4⟩
  unfold f_Model_argument
  rw [t1, ob_some]
  dsimp only
  rw [b1, subL 1 (by omega), show bs.length + 1 - 1 = bs.length by omega, gd_Jn b2 (by omega), Jn_cl (by omega), b3, a1, ob_some]
end
section
/-! Operands that begin with a name: the name alone, an output, an element. -/
section
variable {C : S_MC} {mX : S_MX} {m : Nat} {ar : Int32} {kd pl vl : Nat → Int32} {Ls : Nat → S_ML × S_MN}
theorem nm_leaf (h : LX C mX m kd pl vl Ls) {i0 i sg op inn : Nat} {ds : List Int32} {l : List E4} {idx : Nat} {T : S_MT} {N : Nat} {ch : Nat → List Nat} {E : S_ME} {os : List Nat} {us : List (Int32 × Int32)} {w wp : Int32} {ws1 : List (Int32 × Int32)} {bs : List Nat} {U : S_MU} {nP nN mP : Int32} {p : S_Parser} {t : S_Tree}
    (hi0 : i0 + 1 ≤ i) (hs : SP m kd pl vl p i sg op) (hus : us.length ≤ op) (hop : op + sg ≤ 60) (hCT : CT t l) (hidx : idx < l.length) (hU : Stk 4000 U.1 U.2 (139 :: ds)) (hG : GT T N ch) (hE : EStk E os (us ++ (w, wp) :: ws1) bs) (hw : ¬ (20 : Int32) ≤ w) (hu : ∀ u, u ∈ us → (20 : Int32) ≤ u.1) (hN : N + us.length ≤ l.length + 1) (hlen : (l.length : Int) ≤ 2 * i + 7) (hB : BDS 1501 ds os (us.length + ws1.length + 1) bs (op + sg))
    (c40 : kd i ≠ 40) (c46 : kd i ≠ 46) (c91 : kd i ≠ 91) :
    ∃ r, ((f_Tree_add t (Jn idx) 6 nP nN).bind fun r19 => some (p, r19.2)) = some r ∧ OK C mX m kd pl vl ((Ls i).1, (Ls i).2, T, U, (Jn (op + sg), Jn sg, Jn inn, nP, nN, mP), E) i 1 6 r.1 (WO m kd pl vl Ls i0 sg op inn ds l idx T N ch os us w wp ws1 bs r) := by
  have hm := h.2.2.2.2.2
  obtain ⟨hi, h5, _⟩ := id hs
  have hf := tokF h hi h5
  have q57 := KM_iff hf.1 (show ((91 : Int32), (57 : Int32)) ∈ KMT by decide)
  have q62 := KM_iff hf.1 (show ((46 : Int32), (62 : Int32)) ∈ KMT by decide)
  have q55 := KM_iff hf.1 (show ((40 : Int32), (55 : Int32)) ∈ KMT by decide)
  obtain ⟨b1, b2, b3, b4⟩ := hB
  obtain ⟨t1, c1, c2⟩ := add_ok hCT hidx (by omega) 6 nP nN
  obtain ⟨T1, ch1, n1, n2, n3, n4, n5, n6⟩ := node1 (k := 6) (p := nP) (v := nN) hG (by omega)
  obtain ⟨T2, E2, ch2, e, D, m1, m2, m3, m4, m5⟩ := came (O := (Jn (op + sg), Jn sg, Jn inn, nP, nN, mP)) (a := op + sg) hw n2 (by omega) (by omega) hE hu (leafV n3 n4 n5) (by omega) rfl (by omega)
  rw [c1, ob_some]
  refine ⟨_, rfl, Or.inl ⟨i, _, 1, Nat.le_refl _, by omega, RUN.one (tokZ h hi h5) hU (act_139 (r13 := ((Ls i).1, (Ls i).2, T2, (Jn ds.length, U.2), (Jn (op + sg - us.length), Jn sg, Jn inn, nP, nN, mP), E2)) ?_), sg, T2, _, _, E2, ch2, e, D, [(6, nP, nN, 0)], hs, Nat.le_refl _, hop, c2, rfl, hU.pop.2.2, ?_, m2, ?_, ?_, List.cons_ne_nil _ _, by rw [List.length_singleton]; omega⟩⟩
  · unfold f_Model_behindOperand
    rw [if_neg (by rw [← q57]; exact c91), if_neg (by rw [← q62]; exact c46), if_neg (by rw [← q55]; exact c40)]
    dsimp only
    rw [n1, ob_some]
    dsimp only
    rw [m1]; rfl
  · rw [List.length_singleton]; exact m3
  · rw [List.length_singleton]; exact m4
  · rw [List.length_singleton]; exact n6.trans m5 (by omega)
theorem nm_output (h : LX C mX m kd pl vl Ls) {i0 i sg op inn : Nat} {ds : List Int32} {l : List E4} {idx : Nat} {T : S_MT} {N : Nat} {ch : Nat → List Nat} {E : S_ME} {os : List Nat} {us : List (Int32 × Int32)} {w wp : Int32} {ws1 : List (Int32 × Int32)} {bs : List Nat} {U : S_MU} {nP nN mP : Int32} {p : S_Parser} {t : S_Tree}
    (hi0 : i0 + 1 ≤ i) (hs : SP m kd pl vl p i sg op) (hus : us.length ≤ op) (hop : op + sg ≤ 60) (hCT : CT t l) (hidx : idx < l.length) (hU : Stk 4000 U.1 U.2 (139 :: ds)) (hG : GT T N ch) (hE : EStk E os (us ++ (w, wp) :: ws1) bs) (hw : ¬ (20 : Int32) ≤ w) (hu : ∀ u, u ∈ us → (20 : Int32) ≤ u.1) (hN : N + us.length ≤ l.length + 1) (hlen : (l.length : Int) ≤ 2 * i + 7) (hB : BDS 1501 ds os (us.length + ws1.length + 1) bs (op + sg))
    (ck : kd i = 46) :
    ∃ r, ((f_Parser_take p (Jn m, ar, kd, pl, vl) 46).bind fun r11 => (f_Tree_add t (Jn idx) 33 nP nN).bind fun r12 => (f_Parser_nameNode r11 (Jn m, ar, kd, pl, vl) r12.2 r12.1).bind fun r13 => some (r13.1, r13.2)) = some r ∧ OK C mX m kd pl vl ((Ls i).1, (Ls i).2, T, U, (Jn (op + sg), Jn sg, Jn inn, nP, nN, mP), E) i (-29) 6 r.1 (WO m kd pl vl Ls i0 sg op inn ds l idx T N ch os us w wp ws1 bs r) := by
  have hm := h.2.2.2.2.2
  obtain ⟨hi, h5, _⟩ := id hs
  have hf := tokF h hi h5
  have q62 := KM_iff hf.1 (show ((46 : Int32), (62 : Int32)) ∈ KMT by decide)
  have et : (Ls i).1.2.1 = 62 := by rw [← q62]; exact ck
  obtain ⟨b1, b2, b3, b4⟩ := hB
  obtain ⟨t1, c1, c2⟩ := add_ok hCT hidx (by omega) 33 nP nN
  obtain ⟨p1, a1, a2, a2', a3⟩ := adv (ar := ar) h hs (by rw [ck]; decide)
  obtain ⟨T1, E1, ch1, s1, s2, s3, s4, s5⟩ := start_ok (O := (Jn (op + sg), Jn sg, Jn inn, nP, nN, mP)) (k := 33) hG (by omega) hE (by omega)
  obtain ⟨U1, u1, v1⟩ := push_ok (U := (Jn ds.length, U.2)) hU.pop.2.2 (by omega) 141
  rw [ck] at a1
  rw [a1, ob_some, c1, ob_some]
  dsimp only
  have hl1 : (bump l idx 1 ++ [(33, nP, nN, 0)]).length = l.length + 1 := by rw [List.length_append, bump_len, List.length_singleton]
  have o1 := a3 _ T1 U1 (Jn (op + sg), Jn sg, Jn inn, nP, nN, mP) E1 1 (-29) 6 (fun i' s' => i' = i + 1 ∧ SP m kd pl vl p1 i' sg op ∧ s' = ((Ls i').1, (Ls i').2, T1, U1, (Jn (op + sg), Jn sg, Jn inn, nP, nN, mP), E1)) (RUN.one (tokZ h hi h5) hU (act_139 (r13 := ((Ls (i + 1)).1, (Ls (i + 1)).2, T1, U1, (Jn (op + sg), Jn sg, Jn inn, nP, nN, mP), E1)) (by
    unfold f_Model_behindOperand
    rw [if_neg (show ¬ (Ls i).1.2.1 = 57 by rw [et]; decide), if_pos et, s1, ob_some, u1, ob_some, a2]; rfl))) (by omega) (by omega) (fun hs' => ⟨rfl, hs', rfl⟩)
  obtain ⟨r2, e2, o2⟩ := o1.seq (r := (f_Parser_nameNode p1 (Jn m, ar, kd, pl, vl) t1 (Jn l.length)).bind fun r13 => some (r13.1, r13.2)) (pr := fun r => r.1) (W' := fun r => WO m kd pl vl Ls i0 sg op inn ds l idx T N ch os us w wp ws1 bs r) (c' := -29) (F' := 6) (fun i' s' _ hw' => by
    obtain ⟨rfl, hs', rfl⟩ := hw'
    obtain ⟨hi', h5', _⟩ := id hs'
    have hf' := tokF h hi' h5'
    obtain ⟨k1, k2, k3⟩ := hs'.kind
    unfold f_Parser_nameNode
    rw [k2, k3]
    obtain ⟨t2, d1, d2⟩ := add_ok c2 (p := l.length) (by rw [hl1]; omega) (by rw [hl1]; omega) 6 (pl (i + 1)) (vl (i + 1))
    rw [show l.length = (bump l idx 1).length by rw [bump_len], bump_mid] at d2
    have einc : inc (33, nP, nN, 0) 1 = (33, nP, nN, 1) := rfl
    rw [einc, List.append_assoc, List.cons_append, List.nil_append] at d2
    rw [d1, ob_some]
    -- the reference
    have hN1 : N + 1 < 20000 := by omega
    obtain ⟨p3, r, x1, x2, x3⟩ := passX (ar := ar) h hs' (show ((1 : Int32), (80 : Int32)) ∈ KMT by decide) (by decide)
    rw [x1, ob_some, ob_some]
    refine ⟨_, rfl, ?_⟩
    obtain ⟨T2, ch2, n1, n2, n3, n4, n5, n6⟩ := node1 (k := 6) (p := pl (i + 1)) (v := (Ls (i + 1)).1.2.2.1) s3 hN1
    have hb2 := s4.keep (lo' := N + 1) (by omega) (fun y hy => by cases hy) n6
    obtain ⟨T3, ch3, g1, g2, g3, g4⟩ := hb2.arg n2 (leafV n3 n4 n5) (by omega) (fun y hy => by cases hy)
    obtain ⟨B1, B2, B3, B4⟩ := s2.btop
    obtain ⟨T4, E4', ch4, e', D', m1, m2, m3, m4, m5⟩ := finish_ok (O := (Jn (op + sg), Jn sg, Jn inn, nP, nN, mP)) (a := op + sg) hw g2 (by omega) (by omega) s2 hu g3.fin (by omega) rfl (by omega)
    have act : ∀ rr, f_Model_pass C mX (Ls (i + 1)).1 (Ls (i + 1)).2 80 = some rr → f_Model_act C mX (Ls (i + 1)).1 (Ls (i + 1)).2 T1 (Jn ds.length, U1.2) (Jn (op + sg), Jn sg, Jn inn, nP, nN, mP) E1 141 = some (rr.1, rr.2, T4, (Jn ds.length, U1.2), (Jn (op + sg - us.length), Jn sg, Jn inn, nP, nN, mP), E4') := by
      intro rr hrr
      refine act_141 (r17 := (rr.1, rr.2, T4, (Jn (op + sg - us.length), Jn sg, Jn inn, nP, nN, mP), E4')) ?_
      unfold f_Model_output
      rw [hf'.2.1, n1, ob_some]
      dsimp only
      rw [B1, subL 1 (by omega), show bs.length + 1 - 1 = bs.length by omega, gd_Jn B2 (by omega), Jn_cl (by omega), B3, g1, ob_some, m1, ob_some, hrr]; rfl
    refine x3 _ T4 (Jn ds.length, U1.2) (Jn (op + sg - us.length), Jn sg, Jn inn, nP, nN, mP) E4' 1 (-29) 6 _ (RUN.one (tokZ h hi' h5') v1 (act r x2)) (by omega) (by omega) ?_
    intro hs3
    -- it is a name: its number is the token's
    have isName : kd (i + 1) = 1 := by
      apply Classical.byContradiction
      intro c
      rw [take_miss (by rw [k1]; exact c)] at x1
      injection x1 with x1
      have := hs3.kind.1
      rw [← x1] at this
      have h6 : kd (i + 1 + 1) = 6 := this.symm
      exact KM_n6 (tokF h hs3.1 hs3.2.1).1 h6
    have hwv := hf'.2.2.2.1 (Or.inl isName)
    rw [hwv] at m4
    refine ⟨sg, T4, _, _, E4', ch4, e', D', (33, nP, nN, 1) :: [(6, pl (i + 1), vl (i + 1), 0)], hs3, Nat.le_refl _, hop, d2, rfl, v1.pop.2.2, ?_, m2, ?_, ?_, List.cons_ne_nil _ _, by simp only [List.length_cons, List.length_nil]; omega⟩
    · exact m3
    · exact m4
    · exact ((s5.trans n6 (by omega)).trans g4 (Nat.le_refl _)).trans m5 (Nat.le_refl _)) (fun i' td hd => dmb (dm_nameNode hd _ _ _) fun r13 h13 => ⟨_, rfl, h13⟩)
  exact ⟨r2, e2, o2.mono (by omega) (by omega) (fun _ _ _ z => z)⟩
theorem nm_element (h : LX C mX m kd pl vl Ls) {fe : S_Parser → S_Tokens → S_Tree → Int32 → Int32 → Option (S_Parser × S_Tree)} {K : Nat} (hfe : ∀ K', K = K' + 1 → X0S C mX m ar kd pl vl Ls fe K') (hde : ∀ {p i td}, PD p i td → ∀ t a, ∃ r, fe p (Jn m, ar, kd, pl, vl) t a (Jn 0) = some r ∧ PD r.1 i td)
    {i0 i sg op inn : Nat} {ds : List Int32} {l : List E4} {idx : Nat} {T : S_MT} {N : Nat} {ch : Nat → List Nat} {E : S_ME} {os : List Nat} {us : List (Int32 × Int32)} {w wp : Int32} {ws1 : List (Int32 × Int32)} {bs : List Nat} {U : S_MU} {nP nN mP : Int32} {p : S_Parser} {t : S_Tree}
    (hi0 : i0 + 1 ≤ i) (hs : SP m kd pl vl p i sg op) (hus : us.length ≤ op) (hop : op + sg ≤ 60) (hK : 60 - (op + sg) ≤ K) (hCT : CT t l) (hidx : idx < l.length) (hU : Stk 4000 U.1 U.2 (139 :: ds)) (hG : GT T N ch) (hE : EStk E os (us ++ (w, wp) :: ws1) bs) (hw : ¬ (20 : Int32) ≤ w) (hu : ∀ u, u ∈ us → (20 : Int32) ≤ u.1) (hN : N + us.length ≤ l.length + 1) (hlen : (l.length : Int) ≤ 2 * i + 7) (hB : BDS 1501 ds os (us.length + ws1.length + 1) bs (op + sg)) (hin : inn ≠ 0) (hin2 : inn ≤ 61 - K)
    (ck : kd i = 91) :
    ∃ r, ((f_Tree_add t (Jn idx) 32 nP nN).bind fun r15 => (f_Parser_takeOpening p (Jn m, ar, kd, pl, vl)).bind fun r16 => (fe r16 (Jn m, ar, kd, pl, vl) r15.2 r15.1 0).bind fun r17 => (f_Parser_takeClosing r17.1 (Jn m, ar, kd, pl, vl) 93).bind fun r18 => some (r18, r17.2)) = some r ∧ OK C mX m kd pl vl ((Ls i).1, (Ls i).2, T, U, (Jn (op + sg), Jn sg, Jn inn, nP, nN, mP), E) i (-28) 6 r.1 (WO m kd pl vl Ls i0 sg op inn ds l idx T N ch os us w wp ws1 bs r) := by
  have hm := h.2.2.2.2.2
  obtain ⟨hi, h5, _⟩ := id hs
  have hf := tokF h hi h5
  have q57 := KM_iff hf.1 (show ((91 : Int32), (57 : Int32)) ∈ KMT by decide)
  have et : (Ls i).1.2.1 = 57 := by rw [← q57]; exact ck
  obtain ⟨b1, b2, b3, b4⟩ := hB
  obtain ⟨t1, c1, c2⟩ := add_ok hCT hidx (by omega) 32 nP nN
  rw [c1, ob_some]
  dsimp only
  by_cases c60 : op + sg = 60
  · obtain ⟨w1, ⟨q, w2, w3⟩, w4⟩ := deepOK h hs c60 (Jn sg, Jn inn, nP, nN, mP)
    rw [opening_deep w2, ob_some]
    obtain ⟨r, e, hr⟩ := hde w3 t1 (Jn l.length)
    rw [show (0 : Int32) = Jn 0 from rfl, e, ob_some]
    obtain ⟨q2, e2, hr2⟩ := dm_takeClosing hr (Jn m, ar, kd, pl, vl) 93 (by decide)
    rw [e2, ob_some]
    refine ⟨_, rfl, ?_⟩
    refine w4 _ (Ls i).2 T (Jn ds.length, U.2) (Jn (op + sg), Jn sg, Jn inn, nP, nN, mP) E 1 (-28) 6 _ _ hr2 (RUN.one (tokZ h hi h5) hU (act_139 (r13 := (((Ls i).1.1, (Ls i).1.2.1, (Ls i).1.2.2.1, (Ls i).1.2.2.2.1, (Ls i).1.2.2.2.2.1, 7, pl i), (Ls i).2, T, (Jn ds.length, U.2), (Jn (op + sg), Jn sg, Jn inn, nP, nN, mP), E)) ?_)) (by omega)
    unfold f_Model_behindOperand
    rw [if_pos et, w1, ob_some, if_pos rfl]
  · have hop' : op + sg < 60 := by omega
    obtain ⟨K', hK'⟩ : ∃ K', K = K' + 1 := ⟨K - 1, by omega⟩
    obtain ⟨p1, a1, a2, a2', a3⟩ := opening (ar := ar) h hs (by rw [ck]; decide) hop'
    obtain ⟨T1, E1, ch1, s1, s2, s3, s4, s5⟩ := start_ok (O := (Jn (op + sg + 1), Jn sg, Jn inn, nP, nN, mP)) (k := 32) hG (by omega) hE (by omega)
    obtain ⟨U1, u1, v1⟩ := push2_ok (U := (Jn ds.length, U.2)) hU.pop.2.2 (by omega) 140 134
    rw [a1, ob_some]
    have hl1 : (bump l idx 1 ++ [(32, nP, nN, 0)]).length = l.length + 1 := by rw [List.length_append, bump_len, List.length_singleton]
    have o1 := a3 _ T1 U1 (Jn (op + sg + 1), Jn sg, Jn inn, nP, nN, mP) E1 1 (-29) 6 (fun i' s' => i' = i + 1 ∧ SP m kd pl vl p1 i' sg (op + 1) ∧ s' = ((Ls i').1, (Ls i').2, T1, U1, (Jn (op + sg + 1), Jn sg, Jn inn, nP, nN, mP), E1)) (RUN.one (tokZ h hi h5) hU (act_139 (r13 := ((Ls (i + 1)).1, (Ls (i + 1)).2, T1, U1, (Jn (op + sg + 1), Jn sg, Jn inn, nP, nN, mP), E1)) (by
      unfold f_Model_behindOperand
      rw [if_pos et, opens_ok hop', ob_some, if_neg (show ¬ (1 : Int32) = 0 by decide), s1, ob_some, u1, ob_some]
      dsimp only
      rw [a2]; rfl))) (by omega) (by omega) (fun hs' => ⟨rfl, hs', rfl⟩)
    obtain ⟨r2, e3, o2⟩ := o1.seq (fun i' s' _ hw' => by
      obtain ⟨rfl, hs', rfl⟩ := hw'
      have := hfe K' hK' (i + 1) sg (op + 1) inn (140 :: ds) (bump l idx 1 ++ [(32, nP, nN, 0)]) l.length T1 (N + 1) ch1 E1 os (us ++ (w, wp) :: ws1) (N :: bs) U1 (nP, nN, mP) p1 t1 hs' (by omega) (by omega) c2 (by rw [hl1]; omega) v1 s3 s2 (by rw [hl1]; omega) (by rw [hl1]; omega) ⟨by rw [List.length_cons]; omega, by omega, by rw [List.length_append, List.length_cons]; omega, by rw [List.length_cons]; omega⟩ (by omega)
      rw [show op + 1 + sg = op + sg + 1 by omega] at this
      exact this) (fun i' td hd => hde hd _ _)
    rw [show (0 : Int32) = Jn 0 from rfl, e3, ob_some]
    obtain ⟨r3, e4, o3'⟩ := o2.seq (r := (f_Parser_takeClosing r2.1 (Jn m, ar, kd, pl, vl) 93).bind fun r6 => some (r6, r2.2)) (pr := fun r => r.1) (W' := fun r => WO m kd pl vl Ls i0 sg op inn ds l idx T N ch os us w wp ws1 bs r) (c' := -29) (F' := 6) (fun i' s' _ hw' => by
      obtain ⟨sg', T', U', o3', E', ch', e, D, seg, g1, g2, g3, g4, rfl, g6, g7, g8, g9, g10, g11, g12⟩ := hw'
      rw [if_neg hin]
      obtain ⟨hi', h5', _⟩ := id g1
      rw [show l.length = (bump l idx 1).length by rw [bump_len], bump_mid] at g4
      have einc : inc (32, nP, nN, 0) 1 = (32, nP, nN, 1) := rfl
      rw [einc, List.append_assoc, List.cons_append, List.nil_append] at g4
      have hgl := g4.2.1
      simp only [List.length_append, List.length_cons, bump_len] at hgl
      have hbeg := s4.keep (lo' := N + 1) (by omega) (fun y hy => by cases hy) g10
      obtain ⟨T2, ch2, E2, y1, y2, y3, y4, y5⟩ := argument_ok g8 hbeg g7 g9 (by omega) (fun y hy => by cases hy)
      obtain ⟨T3, E3, ch3, e', D', m1, m2, m3, m4, m5⟩ := finish_ok (O := (Jn (op + sg'), Jn sg', Jn inn, o3')) (a := op + sg') hw y3 (by omega) (by omega) y2 hu y4.fin (by omega) rfl (by omega)
      obtain ⟨p3, r, x1, x2, x3⟩ := passX (ar := ar) h g1.close (show ((93 : Int32), (58 : Int32)) ∈ KMT by decide) (by decide)
      unfold f_Parser_takeClosing
      rw [x1, ob_some, ob_some]
      refine ⟨_, rfl, ?_⟩
      refine x3 _ T3 (Jn ds.length, U'.2) (Jn (op + sg' - us.length), Jn sg', Jn inn, o3') E3 1 (-29) 6 _ (RUN.one (tokZ h hi' h5') g6 (act_140 (r15 := (r.1, r.2, T3, (Jn (op + sg' - us.length), Jn sg', Jn inn, o3'), E3)) ?_)) (by omega) (by omega) ?_
      · unfold f_Model_elementEnd
        rw [y1, ob_some]
        dsimp only
        rw [show Jn (op + 1 + sg') - 1 = Jn (op + sg') from by rw [subL 1 (by omega)]; congr 1; omega, m1, ob_some, x2]; rfl
      · intro hs'
        have eN : N + 1 + seg.length + us.length = N + ((32, nP, nN, 1) :: seg).length + us.length := by rw [List.length_cons]; omega
        refine ⟨sg', T3, _, o3', E3, ch3, e', D', (32, nP, nN, 1) :: seg, hs', g2, by omega, g4, rfl, g6.pop.2.2, ?_, m2, ?_, ?_, List.cons_ne_nil _ _, by rw [List.length_cons]; omega⟩
        · rw [← eN]; exact m3
        · rw [← eN]; exact m4
        · rw [← eN]; exact ((s5.trans g10 (by omega)).trans y5 (Nat.le_refl _)).trans m5 (Nat.le_refl _)) (fun i' td hd => dmb (dm_takeClosing hd _ 93 (by decide)) fun r6 h6 => ⟨_, rfl, h6⟩)
    exact ⟨r3, e4, o3'.mono (by omega) (by omega) (fun _ _ _ z => z)⟩
end
end
section
/-! Operands that begin with a name: a call. -/
def isOpK (K : Int32) : Prop := K = 45 ∨ K = 2 ∨ K = 291 ∨ K = 292 ∨ K = 290 ∨ K = 40 ∨ K = 1
theorem isOperand_eq {L : S_ML} {K : Int32} (h : KM K L.2.1) : (isOpK K → f_Model_isOperand L = some 1) ∧ (¬ isOpK K → f_Model_isOperand L = some 0) := by
  have key : ∀ p ∈ KMT, ((p.1 = 45 ∨ p.1 = 2 ∨ p.1 = 291 ∨ p.1 = 292 ∨ p.1 = 290 ∨ p.1 = 40 ∨ p.1 = 1) → f_Model_isOperand (0, p.2, 0, 0, 0, 0, 0) = some 1) ∧ (¬ (p.1 = 45 ∨ p.1 = 2 ∨ p.1 = 291 ∨ p.1 = 292 ∨ p.1 = 290 ∨ p.1 = 40 ∨ p.1 = 1) → f_Model_isOperand (0, p.2, 0, 0, 0, 0, 0) = some 0) := by decide +kernel
  exact key (K, L.2.1) h
section
variable {C : S_MC} {mX : S_MX} {m : Nat} {ar : Int32} {kd pl vl : Nat → Int32} {Ls : Nat → S_ML × S_MN}
theorem argsL (h : LX C mX m kd pl vl Ls) {fe : S_Parser → S_Tokens → S_Tree → Int32 → Int32 → Option (S_Parser × S_Tree)} {K' : Nat} (hK60 : K' ≤ 60) (hfe : X0S C mX m ar kd pl vl Ls fe K') (hde : ∀ {p i td}, PD p i td → ∀ t a, ∃ r, fe p (Jn m, ar, kd, pl, vl) t a (Jn 0) = some r ∧ PD r.1 i td)
    {op inn : Nat} {ds : List Int32} {A : List E4} {T0 : S_MT} {N0 : Nat} {ch0 : Nat → List Nat} {os : List Nat} {ws : List (Int32 × Int32)} {bs : List Nat} {P V : Int32} (hin : inn ≠ 0) (hin2 : inn ≤ 60 - K') (hNA : N0 ≤ A.length + 1) :
    ∀ (dm f tn : Nat) (p : S_Parser) (t : S_Tree) (i sg : Nat) (T : S_MT) (U : S_MU) (o3 : Int32 × Int32 × Int32) (E : S_ME) (ch : Nat → List Nat) (es Ds : List Nat) (S : List E4),
      m - i < dm → dm + 1 ≤ f → tn ≤ i → SP m kd pl vl p i sg (op + 1) → op + 1 + sg ≤ 60 → 60 - (op + 1 + sg) ≤ K' → CT t (A ++ (34, P, V, es.length) :: S) → Stk 4000 U.1 U.2 (134 :: 145 :: 144 :: 143 :: ds) → GT T (N0 + 1 + S.length) ch → EStk E os ws (N0 :: bs) → BEG N0 T (N0 + 1 + S.length) ch N0 34 P V es Ds S → FRX N0 N0 T0 ch0 (N0 + 1 + S.length) T ch → ((A.length + 1 + S.length : Nat) : Int) ≤ 2 * i + 9 → BDS 1496 ds os (ws.length + 1) (N0 :: bs) (op + 1 + sg) →
      ∃ r, f_Parser_operandByName_L144 fe (Jn A.length) (Jn m, ar, kd, pl, vl) f (Jn tn) 1 p t = some r ∧ OK C mX m kd pl vl ((Ls i).1, (Ls i).2, T, U, (Jn (op + 1 + sg), Jn sg, Jn inn, o3), E) i 0 8 r.1 (fun i' s' =>
        ∃ sg' T' U' o3' E' ch' es' Ds' S', SP m kd pl vl r.1 i' sg' (op + 1) ∧ sg ≤ sg' ∧ op + 1 + sg' ≤ 60 ∧ CT r.2 (A ++ (34, P, V, es'.length) :: S') ∧ s' = ((Ls i').1, (Ls i').2, T', U', (Jn (op + 1 + sg'), Jn sg', Jn inn, o3'), E') ∧ Stk 4000 U'.1 U'.2 (143 :: ds) ∧
          GT T' (N0 + 1 + S'.length) ch' ∧ EStk E' os ws (N0 :: bs) ∧ BEG N0 T' (N0 + 1 + S'.length) ch' N0 34 P V es' Ds' S' ∧ FRX N0 N0 T0 ch0 (N0 + 1 + S'.length) T' ch' ∧ i + S'.length ≤ i' + S.length) := by
  have hm := h.2.2.2.2.2
  intro dm
  induction dm with
  | zero => intro f tn p t i sg T U o3 E ch es Ds S h1; omega
  | succ dm ih =>
    intro f tn p t i sg T U o3 E ch es Ds S h1 h2 htn hs hop hK hCT hU hG hE hb hF hlen hB
    obtain ⟨f, rfl⟩ : ∃ g, f = g + 1 := ⟨f - 1, by omega⟩
    have hi : i < m := hs.1
    obtain ⟨b1, b2, b3, b4⟩ := hB
    rw [List.length_cons] at b4
    unfold f_Parser_operandByName_L144
    rw [if_neg (show ¬ (1 : Int32) = 0 by decide), if_neg (nleL 8192 (by omega))]
    have hlA : (A ++ (34, P, V, es.length) :: S).length = A.length + 1 + S.length := by rw [List.length_append, List.length_cons]; omega
    obtain ⟨r1, e1, o1⟩ := hfe i sg (op + 1) inn (145 :: 144 :: 143 :: ds) (A ++ (34, P, V, es.length) :: S) A.length T (N0 + 1 + S.length) ch E os ws (N0 :: bs) U o3 p t hs hop hK hCT (by rw [hlA]; omega) hU hG hE (by rw [hlA]; omega) (by rw [hlA]; omega) ⟨by simp only [List.length_cons]; omega, b2, b3, by rw [List.length_cons]; omega⟩ hin2
    rw [show (0 : Int32) = Jn 0 from rfl, e1, ob_some]
    have doomC : ∀ (q : S_Parser) (t' : S_Tree) (i' : Nat) (td : Int32), PD q i' td → ∃ r, ((f_Parser_takeComma q (Jn m, ar, kd, pl, vl)).bind fun r2544 => nm (Jn tn + 1) fun x => f_Parser_operandByName_L144 fe (Jn A.length) (Jn m, ar, kd, pl, vl) f x r2544.1 r2544.2 t') = some r ∧ PD r.1 i' td := by
      intro q t' i' td hq
      rw [dm_takeComma hq, ob_some, nm_eq]
      dsimp only
      obtain ⟨g, rfl⟩ : ∃ g, f = g + 1 := ⟨f - 1, by omega⟩
      rw [dm_L144z]
      exact ⟨_, rfl, hq⟩
    obtain ⟨r2, e2, o2⟩ := o1.seqP (r := (f_Parser_takeComma r1.1 (Jn m, ar, kd, pl, vl)).bind fun r2544 => nm (Jn tn + 1) fun x => f_Parser_operandByName_L144 fe (Jn A.length) (Jn m, ar, kd, pl, vl) f x r2544.1 r2544.2 r1.2) (pr := fun r => r.1) (c' := 2) (F' := 8) (W' := fun r i' s' =>
        ∃ sg' T' U' o3' E' ch' es' Ds' S', SP m kd pl vl r.1 i' sg' (op + 1) ∧ sg ≤ sg' ∧ op + 1 + sg' ≤ 60 ∧ CT r.2 (A ++ (34, P, V, es'.length) :: S') ∧ s' = ((Ls i').1, (Ls i').2, T', U', (Jn (op + 1 + sg'), Jn sg', Jn inn, o3'), E') ∧ Stk 4000 U'.1 U'.2 (143 :: ds) ∧
          GT T' (N0 + 1 + S'.length) ch' ∧ EStk E' os ws (N0 :: bs) ∧ BEG N0 T' (N0 + 1 + S'.length) ch' N0 34 P V es' Ds' S' ∧ FRX N0 N0 T0 ch0 (N0 + 1 + S'.length) T' ch' ∧ i + S'.length ≤ i' + S.length) (fun i1 s1 hi1 hpos hw1 => by
      obtain ⟨sg1, T1, U1, o31, E1, ch1, e, D, seg, g1, g2, g3, g4, rfl, g6, g7, g8, g9, g10, g11, g12⟩ := hw1
      rw [if_neg hin]
      obtain ⟨hi', h5', _⟩ := id g1
      have hf := tokF h hi' h5'
      obtain ⟨k1, k2, k3⟩ := g1.kind
      rw [bump_mid] at g4
      have einc : inc (34, P, V, es.length) 1 = (34, P, V, es.length + 1) := rfl
      rw [einc, List.append_assoc, List.cons_append] at g4
      have hDs : ∀ y, y ∈ Ds → y < N0 + 1 + S.length := fun y hy => (hb.2.2.2.2.2.2.1 y hy).2
      have hbeg := hb.keep (lo' := N0 + 1 + S.length) (by omega) hDs g10
      obtain ⟨T2, ch2, E2, y1, y2, y3, y4, y5⟩ := argument_ok g8 hbeg g7 g9 (by omega) hDs
      have eN : N0 + 1 + S.length + seg.length = N0 + 1 + (S ++ seg).length := by rw [List.length_append]; omega
      rw [eN] at y3 y4 y5 g10
      have eL : (es ++ [e]).length = es.length + 1 := by rw [List.length_append, List.length_singleton]
      have frF : FRX N0 N0 T0 ch0 (N0 + 1 + (S ++ seg).length) T2 ch2 := (hF.trans g10 (by omega)).trans y5 (Nat.le_refl _)
      have hrun1 : RUN C mX 1 ((Ls i1).1, (Ls i1).2, T1, U1, (Jn (op + 1 + sg1), Jn sg1, Jn inn, o31), E1) ((Ls i1).1, (Ls i1).2, T2, (Jn (144 :: 143 :: ds).length, U1.2), (Jn (op + 1 + sg1), Jn sg1, Jn inn, o31), E2) := RUN.one (tokZ h hi' h5') g6 (act_145 (r28 := (T2, E2)) y1)
      have q59 := KM_iff hf.1 (show ((44 : Int32), (59 : Int32)) ∈ KMT by decide)
      have hst : Stk 4000 (Jn (144 :: 143 :: ds).length) U1.2 (144 :: 143 :: ds) := g6.pop.2.2
      unfold f_Parser_takeComma
      rw [k1]
      by_cases c44 : kd i1 = 44
      · rw [if_pos c44]
        obtain ⟨p2, x1, x2, x2', x3⟩ := adv (ar := ar) h g1 (by rw [c44]; decide)
        rw [c44] at x1
        rw [x1, ob_some, ob_some, nm_eq, addL tn 1]
        dsimp only
        obtain ⟨U2, u1, v1⟩ := push2_ok (U := (Jn (143 :: ds).length, U1.2)) hst.pop.2.2 (by simp only [List.length_cons]; omega) 144 145
        obtain ⟨U3, u2, v2⟩ := push_ok v1 (by simp only [List.length_cons]; omega) 134
        have hrun2 : RUN C mX 2 ((Ls i1).1, (Ls i1).2, T1, U1, (Jn (op + 1 + sg1), Jn sg1, Jn inn, o31), E1) ((Ls (i1 + 1)).1, (Ls (i1 + 1)).2, T2, U3, (Jn (op + 1 + sg1), Jn sg1, Jn inn, o31), E2) := by
          refine RUN.trans hrun1 (RUN.one (x := 144) (ds := 143 :: ds) (tokZ h hi' h5') hst ?_)
          rw [act_144, if_pos (by rw [← q59]; exact c44)]
          unfold f_Model_pushArgument
          rw [u1, ob_some, u2, ob_some, ob_some, x2]; rfl
        have oo := x3 _ T2 U3 (Jn (op + 1 + sg1), Jn sg1, Jn inn, o31) E2 2 (-28) 8 (fun i' s' => i' = i1 + 1 ∧ SP m kd pl vl p2 i' sg1 (op + 1) ∧ s' = ((Ls i').1, (Ls i').2, T2, U3, (Jn (op + 1 + sg1), Jn sg1, Jn inn, o31), E2)) hrun2 (by omega) (by omega) (fun hs' => ⟨rfl, hs', rfl⟩)
        obtain ⟨r3, e3, o3'⟩ := oo.seq (fun i' s' _ hw' => by
          obtain ⟨rfl, hs', rfl⟩ := hw'
          exact ih f (tn + 1) p2 r1.2 (i1 + 1) sg1 T2 U3 o31 E2 ch2 (es ++ [e]) (Ds ++ D) (S ++ seg) (by omega) (by omega) (by omega) hs' (by omega) (by omega) (by rw [eL]; exact g4) v2 y3 y2 y4 frF (by rw [List.length_append]; omega) ⟨by omega, by omega, by omega, by rw [List.length_cons]; omega⟩) (fun i' td hd => by
          obtain ⟨g, rfl⟩ : ∃ g, f = g + 1 := ⟨f - 1, by omega⟩
          unfold f_Parser_operandByName_L144
          rw [if_neg (show ¬ (1 : Int32) = 0 by decide)]
          by_cases c8 : 8192 ≤ tn + 1
          · rw [if_pos (leL 8192 c8)]; exact ⟨_, rfl, hd⟩
          · rw [if_neg (nleL 8192 (by omega))]
            refine dmb (hde hd _ _) fun b hb' => ?_
            rw [dm_takeComma hb', ob_some, nm_eq]
            dsimp only
            obtain ⟨g2', rfl⟩ : ∃ g2, g = g2 + 1 := ⟨g - 1, by omega⟩
            rw [dm_L144z]
            exact ⟨_, rfl, hb'⟩)
        refine ⟨r3, e3, o3'.mono (by omega) (by omega) ?_⟩
        intro i' s' _ hz
        obtain ⟨sg', T', U', o3', E', ch', es', Ds', S', q1, q2, q3, q4, q5, q6, q7, q8, q9, q10, q11⟩ := hz
        rw [List.length_append] at q11
        exact ⟨sg', T', U', o3', E', ch', es', Ds', S', q1, by omega, q3, q4, q5, q6, q7, q8, q9, q10, by omega⟩
      · rw [if_neg c44, ob_some, nm_eq]
        dsimp only
        obtain ⟨g, rfl⟩ : ∃ g, f = g + 1 := ⟨f - 1, by omega⟩
        rw [dm_L144z]
        have hrun2 : RUN C mX 2 ((Ls i1).1, (Ls i1).2, T1, U1, (Jn (op + 1 + sg1), Jn sg1, Jn inn, o31), E1) ((Ls i1).1, (Ls i1).2, T2, (Jn (143 :: ds).length, U1.2), (Jn (op + 1 + sg1), Jn sg1, Jn inn, o31), E2) := by
          refine RUN.trans hrun1 (RUN.one (x := 144) (ds := 143 :: ds) (tokZ h hi' h5') hst ?_)
          rw [act_144, if_neg (by rw [← q59]; exact c44)]; rfl
        refine ⟨_, rfl, Or.inl ⟨i1, _, 2, Nat.le_refl _, by omega, hrun2, sg1, T2, _, o31, E2, ch2, es ++ [e], Ds ++ D, S ++ seg, g1, g2, g3, by rw [eL]; exact g4, rfl, hst.pop.2.2, y3, y2, y4, frF, by rw [List.length_append]; omega⟩⟩) (fun i' td hd => doomC _ _ _ _ hd)
    exact ⟨r2, e2, o2.mono (by omega) (by omega) (fun _ _ _ z => z)⟩
end
end
