section
/-! Assignments and invocations. -/
section
variable {C : S_MC} {mX : S_MX} {m : Nat} {ar : Int32} {kd pl vl : Nat → Int32} {Ls : Nat → S_ML × S_MN}
/-- what an assignment or an invocation leaves: its semicolon is due -/
def ASQ (m : Nat) (kd pl vl : Nat → Int32) (Ls : Nat → S_ML × S_MN) (B : BASE) (op : Nat) (ds : List Int32) (b : Int) (r : S_Parser × S_Tree) (i : Nat) (s : MSt) : Prop := ∃ B', CL B B' ∧ ACE m kd pl vl Ls B' op (60 :: 101 :: 115 :: ds) b r.1 r.2 i s
theorem assign_ace (h : LX C mX m kd pl vl Ls) {B op ds b p t i s} {nP nN : Int32} (hB0 : B.2.2.2.2.2.2 = 0) (hb : b ≤ 6) (hd : ds.length + 12 ≤ 200 + 20 * op) (hA : ACE m kd pl vl Ls B op (116 :: 115 :: ds) b p t i s) (hnP : s.2.2.2.2.1.2.2.2.1 = nP) (hnN : s.2.2.2.2.1.2.2.2.2.1 = nN) (c40 : ¬ p.2.1 = 40) :
    ∃ r, f_Parser_assignment p (Jn m, ar, kd, pl, vl) t (Jn B.2.1) nP nN = some r ∧ OK C mX m kd pl vl s i (-20) 12 r.1 (ASQ m kd pl vl Ls B op ds (b + 2) r) := by
  have hm := h.2.2.2.2.2
  obtain ⟨k1, hi, hop, h3⟩ := hA.kind
  simp only [List.length_cons] at h3
  have htok := tokE h hA
  have q50 := KM_iff htok.1 (show ((14909 : Int32), (50 : Int32)) ∈ KMT by decide)
  have q57 := KM_iff htok.1 (show ((91 : Int32), (57 : Int32)) ∈ KMT by decide)
  have q55 := KM_iff htok.1 (show ((40 : Int32), (55 : Int32)) ∈ KMT by decide)
  obtain ⟨E, hE, hs, _, _, T, U, o3, len, rfl, hU, h6, h7⟩ := hA
  dsimp only at hnP hnN
  obtain ⟨_, h5, _⟩ := id hs
  have kp := hs.kind.2.1
  have hsz := h6.size
  unfold f_Parser_assignment
  rw [hsz]
  by_cases c91 : p.2.1 = 91
  · rw [if_pos c91]
    have ck : kd i = 91 := by rw [← k1]; exact c91
    have et : (Ls i).1.2.1 = 57 := by rw [← q57]; exact ck
    have n50 : ¬ (Ls i).1.2.1 = 50 := by rw [et]; decide
    obtain ⟨T1, T2, t1, B2, z, d1, d2, d3, d4, d5, d6, d7⟩ := h6.elem (by have := len_ok h hi (show b + 1 ≤ 10 by omega) (show ((len + 1 : Nat) : Int) ≤ 2 * i + (b + 1) by omega); omega) hB0 (pl i) nP nN
    rw [d3, ob_some]
    dsimp only
    -- what comes behind the index, for a parser that is lost
    have dtail : ∀ (q : S_Parser) (tt : S_Tree) (i' : Nat) (td : Int32), PD q i' td → ∃ r, ((f_Parser_outermostExpression q (Jn m, ar, kd, pl, vl) tt (Jn len)).bind fun r8 => (f_Parser_takeClosing r8.1 (Jn m, ar, kd, pl, vl) 93).bind fun r9 => (f_Tree_wrap r8.2 (Jn len) 12 r9.2.2.1 0).bind fun r10 => (f_Parser_take r9 (Jn m, ar, kd, pl, vl) 14909).bind fun r11 => (f_Parser_outermostExpression r11 (Jn m, ar, kd, pl, vl) r10 (Jn len)).bind fun r12 => some (r12.1, r12.2)) = some r ∧ PD r.1 i' td := by
      intro q tt i' td hq
      exact dmb (dm_outermost hq _ _ _) fun r8 h8 => dmb (dm_takeClosing h8 _ 93 (by decide)) fun r9 h9 => dmw fun r10 => dmb (dm_take h9 _ 14909 (by decide)) fun r11 h11 => dmb (dm_outermost h11 _ _ _) fun r12 h12 => ⟨_, rfl, h12⟩
    by_cases c60 : op = 60
    · obtain ⟨w1, ⟨q, w2, w3⟩, w4⟩ := deepOK h hs (by omega) ((0 : Int32), (0 : Int32), o3)
      rw [Nat.add_zero] at w1
      rw [opening_deep w2, ob_some]
      obtain ⟨r, e, hr⟩ := dtail q t1 i 1 w3
      rw [e]
      refine ⟨r, rfl, w4 _ (Ls i).2 T (Jn (115 :: ds).length, U.2) (Jn op, 0, 0, o3) E 1 _ _ _ _ hr (RUN.one (tokZ h hi h5) hU (act_116 (r4 := (((Ls i).1.1, (Ls i).1.2.1, (Ls i).1.2.2.1, (Ls i).1.2.2.2.1, (Ls i).1.2.2.2.2.1, 7, pl i), (Ls i).2, T, (Jn (115 :: ds).length, U.2), (Jn op, 0, 0, o3))) ?_)) (by omega)⟩
      unfold f_Model_behindName
      rw [if_neg n50, if_pos et, w1, ob_some, if_pos rfl]
    · obtain ⟨p1, a1, a2, a2', a3⟩ := opening (ar := ar) h hs (by rw [ck]; decide) (by omega)
      obtain ⟨U1, u1, v1⟩ := push2_ok (U := (Jn (115 :: ds).length, U.2)) hU.pop.2.2 (by simp only [List.length_cons]; omega) 101 60
      obtain ⟨U2, u2, v2⟩ := pushE_ok v1 (by simp only [List.length_cons]; omega)
      obtain ⟨U3, u3, v3⟩ := push2_ok v2 (by simp only [List.length_cons]; omega) 128 129
      obtain ⟨U4, u4, v4⟩ := pushE_ok v3 (by simp only [List.length_cons]; omega)
      rw [a1, ob_some]
      have hbn : f_Model_behindName C mX (Ls i).1 (Ls i).2 T (Jn (115 :: ds).length, U.2) (Jn op, 0, 0, o3) = some ((Ls (i + 1)).1, (Ls (i + 1)).2, T2, U4, (Jn (op + 1), 0, 0, o3)) := by
        unfold f_Model_behindName
        rw [if_neg n50, if_pos et, opens_ok (k := op) (by omega), ob_some, if_neg (show ¬ (1 : Int32) = 0 by decide)]
        dsimp only
        rw [htok.2, d1, ob_some, hnP, hnN, d2, ob_some, u1, ob_some, u2, ob_some, u3, ob_some, u4, ob_some, a2]; rfl
      have o1 := a3 _ T2 U4 (Jn (op + 1), 0, 0, o3) E 1 (-29) 1 (ACE m kd pl vl Ls B2 (op + 1) (134 :: 137 :: 129 :: 128 :: 134 :: 137 :: 60 :: 101 :: 115 :: ds) (b - 1) p1 t1) (RUN.one (tokZ h hi h5) hU (act_116 hbn)) (by omega) (by omega) (fun hs' => ⟨E, hE, hs', by omega, by simp only [List.length_cons]; omega, T2, U4, o3, len + 1, rfl, v4, d5, by omega⟩)
      rw [← d4]
      obtain ⟨r8, e8, o8⟩ := o1.seq (fun i s _ hw => outer_ace (ar := ar) h (by omega) hw) (fun i td hd => dm_outermost hd _ _ _)
      rw [e8, ob_some]
      -- the closing bracket
      obtain ⟨r9, e9, o9⟩ := o8.seq (r := f_Parser_takeClosing r8.1 (Jn m, ar, kd, pl, vl) 93) (pr := fun q => q) (c' := -29) (F' := 1) (W' := fun q i' s' => ∃ (T4 : S_MT) (U' : S_MU) (o4 : Int32 × Int32 × Int32) (E' : S_ME) (len2 : Nat), EStk E' [] [] [] ∧ SP m kd pl vl q i' 0 op ∧ s' = ((Ls i').1, (Ls i').2, T4, U', (Jn op, 0, 0, o4), E') ∧ Stk 4000 U'.1 U'.2 (128 :: 134 :: 137 :: 60 :: 101 :: 115 :: ds) ∧ T4.2.1 = Jn z ∧ dat T4 z = (12, pl i, 0) ∧ (len2 : Int) ≤ 2 * i' + (b - 4) ∧ ∀ P, ∃ t3 B1, f_Tree_wrap r8.2 (Jn len) 12 P 0 = some t3 ∧ B1.2.1 = len ∧ CL B B1 ∧ TA B1 t3 (setV T4 z P 0) (len2 + 1)) (fun i3 s3 hi3 hw => by
        obtain ⟨E3, hE3, hs3, hop3, h33, T3, U3', o33, len3, rfl, hU3, h63, h73⟩ := hw
        obtain ⟨hi3', h53, _⟩ := id hs3
        obtain ⟨T4, y1, y2, y2', y3⟩ := d7 r8.2 T3 len3 h63 (len_ok h hi3' (show b - 2 ≤ 10 by omega) (by omega))
        obtain ⟨p3, r, x1, x2, x3⟩ := passX (ar := ar) h hs3.close (show ((93 : Int32), (58 : Int32)) ∈ KMT by decide) (by decide)
        refine ⟨p3, ?_, ?_⟩
        · unfold f_Parser_takeClosing
          rw [x1, ob_some]
        · refine x3 _ T4 (Jn (128 :: 134 :: 137 :: 60 :: 101 :: 115 :: ds).length, U3'.2) (Jn op, 0, 0, o33) E3 1 (-29) 1 _ (RUN.one (tokZ h hi3' h53) hU3 (act_129 (r30 := (r.1, r.2, T4, (Jn op, 0, 0, o33))) ?_)) (by omega) (by omega) ?_
          · unfold f_Model_indexEnd
            rw [y1, ob_some, x2, ob_some]
            dsimp only
            rw [subL 1 (by omega), show op + 1 - 1 = op by omega]
          · intro hs'
            exact ⟨T4, _, o33, E3, len3, hE3, hs', rfl, hU3.pop.2.2, y2, y2', by omega, y3⟩) (fun i td hd => dm_takeClosing hd _ 93 (by decide))
      rw [d4, e9, ob_some]
      obtain ⟨t10, e10⟩ := wrap_tot r8.2 (Jn len) 12 r9.2.2.1 0
      rw [e10, ob_some]
      obtain ⟨r11, e11, o11⟩ := o9.seq (r := f_Parser_take r9 (Jn m, ar, kd, pl, vl) 14909) (pr := fun q => q) (c' := -29) (F' := 1) (W' := fun q i' s' => ∃ B1, B1.2.1 = len ∧ CL B B1 ∧ ACE m kd pl vl Ls B1 op (134 :: 137 :: 60 :: 101 :: 115 :: ds) (b - 5) q t10 i' s') (fun i4 s4 _ hw => by
        obtain ⟨T4, U', o4, E', len2, hE', hs4, rfl, hU4, y2, y2', y4, y5⟩ := hw
        obtain ⟨hi4, h54, _⟩ := id hs4
        have hf4 := tokF h hi4 h54
        obtain ⟨q, r, x1, x2, x3⟩ := passX (ar := ar) h hs4 (show ((14909 : Int32), (50 : Int32)) ∈ KMT by decide) (by decide)
        obtain ⟨t3, B1, z1, z2, z3, z4⟩ := y5 (pl i4)
        have hpl : r9.2.2.1 = pl i4 := hs4.kind.2.1
        rw [hpl, z1] at e10
        injection e10 with e10
        subst e10
        refine ⟨q, x1, ?_⟩
        have sw : (T4.1, Jn z, T4.2.2.1, upd T4.2.2.2.1 z (pl i4), T4.2.2.2.2) = setV T4 z (pl i4) 0 := by
          unfold setV
          unfold dat at y2'
          injection y2' with q1 q2
          injection q2 with q2 q3
          rw [upd_id q3, y2]
        refine x3 _ (setV T4 z (pl i4) 0) (Jn (134 :: 137 :: 60 :: 101 :: 115 :: ds).length, U'.2) (Jn op, 0, 0, o4) E' 1 (-29) 1 _ (RUN.one (tokZ h hi4 h54) hU4 (act_128 (r28 := (r.1, r.2, setV T4 z (pl i4) 0)) ?_)) (by omega) (by omega) ?_
        · unfold f_Model_assign
          rw [y2, gd_Jn d6 (by omega), x2, ob_some, Jn_cl (by omega), hf4.2.1, sw]
        · intro hs'
          exact ⟨B1, z2, z3, E', hE', hs', hop, by simp only [List.length_cons]; omega, _, _, o4, len2 + 1, rfl, hU4.pop.2.2, z4, by omega⟩) (fun i td hd => dm_take hd _ 14909 (by decide))
      rw [e11, ob_some]
      obtain ⟨r12, e12, o12⟩ := o11.seq (r := f_Parser_outermostExpression r11 (Jn m, ar, kd, pl, vl) t10 (Jn len)) (pr := fun q => q.1) (c' := -24) (F' := 9) (W' := fun q i' s' => ASQ m kd pl vl Ls B op ds (b + 2) q i' s') (fun i5 s5 _ hw => by
        obtain ⟨B1, z2, z3, hw'⟩ := hw
        obtain ⟨r, x1, x2⟩ := outer_ace (ar := ar) h (by omega) hw'
        rw [z2] at x1
        exact ⟨r, x1, x2.mono (Int.le_refl _) (Int.le_refl _) (fun _ _ _ zz => ⟨B1, z3, zz.mono (by omega)⟩)⟩) (fun i td hd => dm_outermost hd _ _ _)
      rw [e12, ob_some]
      exact ⟨_, rfl, o12.mono (by omega) (by omega) (fun _ _ _ z => z)⟩
  · rw [if_neg c91, kp]
    obtain ⟨T1, T2, t1, t2, B', d1, d2, d3, d4, d5, d6, d7⟩ := h6.assign (by have := len_ok h hi (show b + 1 ≤ 10 by omega) (show ((len + 1 : Nat) : Int) ≤ 2 * i + (b + 1) by omega); omega) (pl i) nP nN
    rw [d3, ob_some]
    dsimp only
    rw [d4, ob_some]
    by_cases c50 : kd i = 14909
    · have et : (Ls i).1.2.1 = 50 := by rw [← q50]; exact c50
      obtain ⟨p1, a1, a2, a2', a3⟩ := adv (ar := ar) h hs (by rw [c50]; decide)
      obtain ⟨U1, u1, v1⟩ := push2_ok (U := (Jn (115 :: ds).length, U.2)) hU.pop.2.2 (by simp only [List.length_cons]; omega) 101 60
      obtain ⟨U2, u2, v2⟩ := pushE_ok v1 (by simp only [List.length_cons]; omega)
      have hbn : f_Model_behindName C mX (Ls i).1 (Ls i).2 T (Jn (115 :: ds).length, U.2) (Jn op, 0, 0, o3) = some ((Ls (i + 1)).1, (Ls (i + 1)).2, T2, U2, (Jn op, 0, 0, o3)) := by
        unfold f_Model_behindName
        rw [if_pos et, htok.2, d1, ob_some, hnP, hnN, d2, ob_some, u1, ob_some, u2, ob_some, a2]; rfl
      have o1 := a3 _ T2 U2 (Jn op, 0, 0, o3) E 1 (-29) 1 (ACE m kd pl vl Ls B' op (134 :: 137 :: 60 :: 101 :: 115 :: ds) b p1 t2) (RUN.one (tokZ h hi h5) hU (act_116 hbn)) (by omega) (by omega) (fun hs' => ⟨E, hE, hs', hop, by simp only [List.length_cons]; omega, T2, U2, o3, len + 2, rfl, v2, d7, by omega⟩)
      rw [c50] at a1
      rw [a1, ob_some, ← d5]
      obtain ⟨r5, e5, o5⟩ := o1.seq (fun i s _ hw => outer_ace (ar := ar) h (by omega) hw) (fun i td hd => dm_outermost hd _ _ _)
      rw [e5, ob_some]
      exact ⟨_, rfl, o5.mono (by omega) (by omega) (fun _ _ _ z => ⟨B', d6, z.mono (by omega)⟩)⟩
    · obtain ⟨w1, w2, w3⟩ := wrongOK h hs
      rw [take_miss (by rw [k1]; exact c50), ob_some]
      obtain ⟨r5, e5, hr5⟩ := dm_outermost w2 (Jn m, ar, kd, pl, vl) t2 (Jn len)
      rw [e5, ob_some]
      refine ⟨_, rfl, w3 _ (Ls i).2 T (Jn (115 :: ds).length, U.2) (Jn op, 0, 0, o3) E 1 _ _ _ _ hr5 (RUN.one (tokZ h hi h5) hU (act_116 (r4 := (((Ls i).1.1, (Ls i).1.2.1, (Ls i).1.2.2.1, (Ls i).1.2.2.2.1, (Ls i).1.2.2.2.2.1, 6, pl i), (Ls i).2, T, (Jn (115 :: ds).length, U.2), (Jn op, 0, 0, o3))) ?_)) (by omega)⟩
      unfold f_Model_behindName
      rw [if_neg (by rw [← q50]; exact c50), if_neg (by rw [← q57, ← k1]; exact c91), if_neg (by rw [← q55, ← k1]; exact c40), w1]; rfl
end
end
section
/-! Invocations. -/
section
theorem FU2 : FU = 999998 + 1 + 1 := rfl
variable {C : S_MC} {mX : S_MX} {m : Nat} {ar : Int32} {kd pl vl : Nat → Int32} {Ls : Nat → S_ML × S_MN}
theorem param_ace (h : LX C mX m kd pl vl Ls) {B op ds b p t i s} (hb : b ≤ 9) (hd : ds.length + 6 ≤ 200 + 20 * op) (hA : ACE m kd pl vl Ls B op (132 :: ds) b p t i s) :
    ∃ p1 t1 B', f_Parser_takeName p (Jn m, ar, kd, pl, vl) = some (vl i, p1) ∧ f_Tree_add t (Jn B.2.1) 14 (pl i) (vl i) = some (Jn B'.2.1, t1) ∧ CL B B' ∧ OK C mX m kd pl vl s i (-29) 1 p1 (ACE m kd pl vl Ls B' op (50 :: 134 :: 137 :: 101 :: ds) (b - 1) p1 t1) := by
  obtain ⟨E, hE, hs, hop, h3, T, U, o3, len, rfl, hU, h6, h7⟩ := hA
  obtain ⟨hi, h5, _⟩ := id hs
  have hf := tokF h hi h5
  have hk := KM_iff hf.1 (show ((1 : Int32), (80 : Int32)) ∈ KMT by decide)
  obtain ⟨k1, k2, k3⟩ := hs.kind
  obtain ⟨U1, u1, v1⟩ := push_ok (U := (Jn ds.length, U.2)) hU.pop.2.2 (by rw [List.length_cons] at h3; omega) 101
  obtain ⟨U2, u2, v2⟩ := pushE_ok v1 (by simp only [List.length_cons]; omega)
  obtain ⟨U3, u3, v3⟩ := push_ok v2 (by simp only [List.length_cons]; omega) 50
  by_cases e : kd i = 1
  · obtain ⟨T', t', B', l1, l2, l3, l3', l4, l5⟩ := h6.down (len_ok h hi (by omega) h7) 14 (pl i) (vl i)
    obtain ⟨p', a1, a2, a2', a3⟩ := adv (ar := ar) h hs (by rw [e]; decide)
    have hw := hf.2.2.2.1 (Or.inl e)
    rw [e] at a1
    refine ⟨p', t', B', by unfold f_Parser_takeName; rw [a1, ob_some, k3], by rw [l3]; exact l2, ⟨l3', l5⟩, ?_⟩
    have hp : f_Model_parameter C mX (Ls i).1 (Ls i).2 T (Jn ds.length, U.2) = some ((Ls (i + 1)).1, (Ls (i + 1)).2, T', U3) := by
      unfold f_Model_parameter f_Model_pass
      rw [hf.2.1, hw, l1, ob_some, u1, ob_some, u2, ob_some, u3, ob_some, if_pos (by rw [← hk]; exact e), a2]; rfl
    refine a3 _ T' U3 (Jn op, 0, 0, o3) E 1 (-29) 1 _ (RUN.one (tokZ h hi h5) hU (act_132 hp)) (by omega) (by omega) ?_
    intro hs'
    exact ⟨E, hE, hs', hop, by simp only [List.length_cons]; omega, T', _, o3, len + 1, rfl, v3, l4, by omega⟩
  · obtain ⟨T', t', B', l1, l2, l3, l3', l4, l5⟩ := h6.down (len_ok h hi (by omega) h7) 14 (pl i) (vl i)
    obtain ⟨T2, t2, B2, m1, m2, m3, m3', m4, m5⟩ := h6.down (len_ok h hi (by omega) h7) 14 (pl i) (Ls i).1.2.2.1
    obtain ⟨w1, w2, w3⟩ := wrongOK h hs
    refine ⟨_, t', B', by unfold f_Parser_takeName; rw [take_miss (by rw [k1]; exact e), ob_some, k3], by rw [l3]; exact l2, ⟨l3', l5⟩, ?_⟩
    refine w3 _ (Ls i).2 T2 U3 (Jn op, 0, 0, o3) E 1 (-29) 1 _ _ w2 (RUN.one (tokZ h hi h5) hU (act_132 (r37 := (((Ls i).1.1, (Ls i).1.2.1, (Ls i).1.2.2.1, (Ls i).1.2.2.2.1, (Ls i).1.2.2.2.2.1, 6, pl i), (Ls i).2, T2, U3)) ?_)) (by omega)
    unfold f_Model_parameter f_Model_pass
    have hpi : (Ls i).1.1 = pl i := hf.2.1
    conv => lhs; rw [hpi, m1, ob_some, u1, ob_some, u2, ob_some, u3, ob_some, if_neg (by rw [← hk]; exact e), w1]
    rfl
theorem invL_ace (h : LX C mX m kd pl vl Ls) {op : Nat} {B ds} (hd : ds.length + 10 ≤ 200 + 20 * op) :
    ∀ (d f tn : Nat) (p : S_Parser) (t : S_Tree) (i : Nat) (s : MSt) (b : Int), b ≤ 8 → m - i < d → d + 1 ≤ f → tn ≤ i → ACE m kd pl vl Ls B op (132 :: 133 :: ds) b p t i s →
    ∃ r, f_Parser_invocation_L37 (Jn B.2.1) (Jn m, ar, kd, pl, vl) f (Jn tn) 1 p t = some r ∧ OK C mX m kd pl vl s i (-25) 10 r.1 (ACE m kd pl vl Ls B op ds b r.1 r.2) := by
  have hm := h.2.2.2.2.2
  intro d
  induction d with
  | zero => intro f tn p t i s b hb h1; omega
  | succ d ih =>
    intro f tn p t i s b hb h1 h2 htn hA
    obtain ⟨f, rfl⟩ : ∃ g, f = g + 1 := ⟨f - 1, by omega⟩
    obtain ⟨g, rfl⟩ : ∃ g, f = g + 1 := ⟨f - 1, by omega⟩
    obtain ⟨k1, hi, hop, h3⟩ := hA.kind
    have kp : p.2.2.1 = pl i := by
      obtain ⟨E, hE, hA'⟩ := hA
      exact hA'.1.kind.2.1
    unfold f_Parser_invocation_L37
    rw [if_neg (show ¬ (1 : Int32) = 0 by decide), if_neg (nleL 8192 (by omega)), kp]
    obtain ⟨p1, t1, B', e1, e2, hc, o1⟩ := param_ace (ar := ar) h (by omega) (by simp only [List.length_cons]; omega) hA
    rw [e1, ob_some]
    dsimp only
    rw [e2, ob_some]
    dsimp only
    obtain ⟨p2, e3, o2⟩ := o1.seq (fun i s _ hw => pass_ace (ar := ar) (c := 14909) h (show ((14909 : Int32), (50 : Int32)) ∈ KMT by decide) (by decide) hw) (fun i td hd => dm_take hd _ 14909 (by decide))
    rw [e3, ob_some]
    obtain ⟨r3, e4, o3⟩ := o2.seq (fun i s _ hw => outer_ace (ar := ar) h (by omega) hw) (fun i td hd => dm_outermost hd _ _ _)
    rw [e4, ob_some]
    have tail : ∀ (q : S_Parser) (t2 : S_Tree) (i2 : Nat) (s2 : MSt) (b2 : Int), b2 ≤ b → i + 1 ≤ i2 → ACE m kd pl vl Ls B' op (101 :: 133 :: ds) b2 q t2 i2 s2 →
        ∃ r, ((f_Parser_takeComma q (Jn m, ar, kd, pl, vl)).bind fun r1146 => nm (Jn tn + 1) fun x => f_Parser_invocation_L37 (Jn B.2.1) (Jn m, ar, kd, pl, vl) (g + 1) x r1146.1 r1146.2 t2) = some r ∧ OK C mX m kd pl vl s2 i2 2 10 r.1 (ACE m kd pl vl Ls B op ds b r.1 r.2) := by
      intro q t2 i2 s2 b2 hb2 hi2 hw
      have o3 := up_ace h hc hw
      by_cases c44 : q.2.1 = 44
      · obtain ⟨p4, e4, o4⟩ := o3.seqP (r := f_Parser_take q (Jn m, ar, kd, pl, vl) 44) (pr := fun z => z) (c' := -29) (F' := 1) (W' := fun z i' s' => i2 ≤ i' ∧ ACE m kd pl vl Ls B op (132 :: 133 :: ds) (b2 - 2) z t2 i' s') (fun i3 s3 hi3 _ hw3 => by
          have hk3 : kd i3 = 44 := by rw [← hw3.kind.1]; exact c44
          have htok3 := tokE h hw3
          have q59 := KM_iff htok3.1 (show ((44 : Int32), (59 : Int32)) ∈ KMT by decide)
          have h33 := hw3.kind.2.2.2
          rw [List.length_cons] at h33
          obtain ⟨E3, hE3, hw3'⟩ := hw3
          obtain ⟨z, x1, x2⟩ := perhapsYes (ar := ar) h hw3' (by rw [hk3]; decide) (ds' := 132 :: 133 :: ds) (by simp only [List.length_cons]; omega) (fun T U o3 hU hst => by
            obtain ⟨U1, u1, v1⟩ := push_ok hU (by omega) 133
            obtain ⟨U2, u2, v2⟩ := push_ok v1 (by simp only [List.length_cons]; omega) 132
            exact ⟨U2, act_133 (perhaps_two (by rw [← q59]; exact hk3) (by decide) hst u1 u2), v2⟩)
          rw [hk3] at x1
          exact ⟨z, x1, x2.mono (Int.le_refl _) (Int.le_refl _) (fun i' s' hi' zz => ⟨by omega, E3, hE3, zz⟩)⟩) (fun i td hd => dm_take hd _ 44 (by decide))
        unfold f_Parser_takeComma
        rw [if_pos c44, e4, ob_some, ob_some, nm_eq, addL tn 1]
        dsimp only
        obtain ⟨r5, e5, o5⟩ := o4.seqP (fun i' s' hi' hpos hw5 => ih (g + 1) (tn + 1) _ _ i' s' _ (by omega) (by omega) (by omega) (by omega) hw5.2) (fun i' td hd' => by
          obtain ⟨g2, rfl⟩ : ∃ g2, g = g2 + 1 := ⟨g - 1, by omega⟩
          exact dm_L37 hd' _ _ _ _ _)
        exact ⟨r5, e5, o5.mono (by omega) (by omega) (fun _ _ _ z => z.mono (by omega))⟩
      · unfold f_Parser_takeComma
        rw [if_neg c44, ob_some, nm_eq]
        dsimp only
        rw [dm_L37z]
        obtain ⟨r', y1, o4⟩ := o3.seq (r := some (q, t2)) (pr := fun z => z.1) (c' := 1) (F' := 0) (W' := fun z => ACE m kd pl vl Ls B op ds b z.1 z.2) (fun i3 s3 _ hw3 => by
          obtain ⟨E3, hE3, hw3'⟩ := hw3
          exact ⟨_, rfl, ((no_acc (a := 133) (f := 132) h (show ((44 : Int32), (59 : Int32)) ∈ KMT by decide) hw3' c44 (fun hp => act_133 hp)).ace hE3).mono (Int.le_refl _) (Int.le_refl _) (fun _ _ _ z => z.mono (by omega))⟩) (fun i td hd => ⟨_, rfl, hd⟩)
        injection y1 with y1
        subst y1
        exact ⟨_, rfl, o4.mono (by omega) (by omega) (fun _ _ _ z => z)⟩
    have tailD : ∀ (q : S_Parser) (t2 : S_Tree) (i2 : Nat) (td : Int32), PD q i2 td → ∃ r, ((f_Parser_takeComma q (Jn m, ar, kd, pl, vl)).bind fun r1146 => nm (Jn tn + 1) fun x => f_Parser_invocation_L37 (Jn B.2.1) (Jn m, ar, kd, pl, vl) (g + 1) x r1146.1 r1146.2 t2) = some r ∧ PD r.1 i2 td := by
      intro q t2 i2 td hq
      rw [dm_takeComma hq, ob_some, nm_eq]
      dsimp only
      rw [dm_L37z]
      exact ⟨_, rfl, hq⟩
    obtain ⟨r5, e5, o5⟩ := o3.seqP (fun i3 s3 hi3 hpos hw3 => tail _ _ i3 s3 _ (by omega) (by omega) hw3) (fun i td hd => tailD _ _ _ _ hd)
    exact ⟨r5, e5, o5.mono (by omega) (by omega) (fun _ _ _ z => z)⟩
theorem invocation_ace (h : LX C mX m kd pl vl Ls) {B op ds b p t i s} {nP nN : Int32} (hb : b ≤ 6) (hd : ds.length + 12 ≤ 200 + 20 * op) (hA : ACE m kd pl vl Ls B op (116 :: 115 :: ds) b p t i s) (hnP : s.2.2.2.2.1.2.2.2.1 = nP) (hnN : s.2.2.2.2.1.2.2.2.2.1 = nN) (c40 : p.2.1 = 40) :
    ∃ r, f_Parser_invocation p (Jn m, ar, kd, pl, vl) t (Jn B.2.1) nP nN = some r ∧ OK C mX m kd pl vl s i (-20) 12 r.1 (ASQ m kd pl vl Ls B op ds (b + 2) r) := by
  have hm := h.2.2.2.2.2
  obtain ⟨k1, hi, hop, h3⟩ := hA.kind
  simp only [List.length_cons] at h3
  have htok := tokE h hA
  have ck : kd i = 40 := by rw [← k1]; exact c40
  have q55 := KM_iff htok.1 (show ((40 : Int32), (55 : Int32)) ∈ KMT by decide)
  have et : (Ls i).1.2.1 = 55 := by rw [← q55]; exact ck
  unfold f_Parser_invocation
  obtain ⟨t1, p1, B', e1, e2, hc, o1⟩ := downOpen (ar := ar) h hA (by rw [ck]; decide) (by omega) (ds' := 131 :: 130 :: 60 :: 101 :: 115 :: ds) (by simp only [List.length_cons]; omega) 13 nP nN (by
    intro T U o3 E q _ ho
    refine act_116 (r4 := (q, (Ls i).2, T, U, (Jn op, 0, 0, o3))) ?_
    unfold f_Model_behindName
    rw [if_neg (show ¬ (Ls i).1.2.1 = 50 by rw [et]; decide), if_neg (show ¬ (Ls i).1.2.1 = 57 by rw [et]; decide), if_pos et, ho, ob_some, if_pos rfl]) (by
    intro T T' U o3 E es hU ho hl hst
    obtain ⟨U1, u1, v1⟩ := push4_ok hU (by simp only [List.length_cons]; omega) 101 60 130 131
    rw [es] at hnP hnN
    dsimp only at hnP hnN
    refine ⟨U1, act_116 (r4 := ((Ls (i + 1)).1, (Ls (i + 1)).2, T', U1, (Jn (op + 1), 0, 0, o3))) ?_, v1⟩
    unfold f_Model_behindName
    rw [if_neg (show ¬ (Ls i).1.2.1 = 50 by rw [et]; decide), if_neg (show ¬ (Ls i).1.2.1 = 57 by rw [et]; decide), if_pos et, ho, ob_some, if_neg (show ¬ (1 : Int32) = 0 by decide)]
    dsimp only
    rw [hnP, hnN, hl, ob_some, u1, ob_some, hst]; rfl)
  rw [e1, ob_some, e2, ob_some]
  dsimp only
  -- the closing bracket
  have fin : ∀ (q : S_Parser) (tt : S_Tree) (i' : Nat) (s' : MSt) (b' : Int), b' ≤ b → ACE m kd pl vl Ls B' (op + 1) (130 :: 60 :: 101 :: 115 :: ds) b' q tt i' s' → ∃ r, ((f_Parser_takeClosing q (Jn m, ar, kd, pl, vl) 41).bind fun r5 => some (r5, tt)) = some r ∧ OK C mX m kd pl vl s' i' (-29) 1 r.1 (ASQ m kd pl vl Ls B op ds (b + 2) r) := by
    intro q tt i' s' b' hb' hw
    obtain ⟨E3, hE3, hs3, hop3, h33, T3, U3', o33, len3, rfl, hU3, h63, h73⟩ := hw
    obtain ⟨hi3', h53, _⟩ := id hs3
    obtain ⟨p3, r, x1, x2, x3⟩ := passX (ar := ar) h hs3.close (show ((41 : Int32), (56 : Int32)) ∈ KMT by decide) (by decide)
    refine ⟨(p3, tt), ?_, ?_⟩
    · unfold f_Parser_takeClosing
      rw [x1, ob_some, ob_some]
    · have ha : f_Model_act C mX (Ls i').1 (Ls i').2 T3 (Jn (60 :: 101 :: 115 :: ds).length, U3'.2) (Jn (op + 1), 0, 0, o33) E3 130 = some (r.1, r.2, T3, (Jn (60 :: 101 :: 115 :: ds).length, U3'.2), (Jn op, 0, 0, o33), E3) := by
        rw [act_130 x2]
        dsimp only
        rw [subL 1 (by omega), show op + 1 - 1 = op by omega]
      refine x3 _ T3 (Jn (60 :: 101 :: 115 :: ds).length, U3'.2) (Jn op, 0, 0, o33) E3 1 (-29) 1 _ (RUN.one (tokZ h hi3' h53) hU3 ha) (by omega) (by omega) ?_
      intro hs'
      exact ⟨B', hc, E3, hE3, hs', hop, by simp only [List.length_cons]; omega, T3, _, o33, len3, rfl, hU3.pop.2.2, h63, by omega⟩
  have finD : ∀ (q : S_Parser) (tt : S_Tree) (i' : Nat) (td : Int32), PD q i' td → ∃ r, ((f_Parser_takeClosing q (Jn m, ar, kd, pl, vl) 41).bind fun r5 => some (r5, tt)) = some r ∧ PD r.1 i' td := by
    intro q tt i' td hq
    exact dmb (dm_takeClosing hq _ 41 (by decide)) fun r9 h9 => ⟨_, rfl, h9⟩
  by_cases c41 : p1.2.1 = 41
  · rw [if_pos c41, FU1, dm_L37z, ob_some]
    obtain ⟨r2, e3, o2⟩ := o1.seq (fun i3 s3 _ hw => by
      have htok3 := tokE h hw
      have hk3 := hw.kind.1
      have q80 := KM_iff htok3.1 (show ((1 : Int32), (80 : Int32)) ∈ KMT by decide)
      obtain ⟨E3, hE3, hw'⟩ := hw
      have o9 := (perhapsNo h hw' (fun T U o3 => by
        rw [act_131, if_neg (by rw [← q80, ← hk3, c41]; decide)]; rfl)).ace hE3
      exact o9.seq (fun i4 s4 _ hw4 => fin _ t1 i4 s4 _ (by omega) hw4) (fun i td hd => finD _ _ _ _ hd)) (fun i td hd => finD _ _ _ _ hd)
    exact ⟨r2, e3, o2.mono (by omega) (by omega) (fun _ _ _ z => z)⟩
  · rw [if_neg c41]
    by_cases c1 : p1.2.1 = 1
    · obtain ⟨r2, e3, o2⟩ := o1.seq (r := f_Parser_invocation_L37 (Jn B'.2.1) (Jn m, ar, kd, pl, vl) FU 0 1 p1 t1) (pr := fun z => z.1) (c' := -24) (F' := 12) (W' := fun z => ACE m kd pl vl Ls B' (op + 1) (130 :: 60 :: 101 :: 115 :: ds) (b - 1) z.1 z.2) (fun i3 s3 hi3 hw => by
        have htok3 := tokE h hw
        have hk3 := hw.kind
        have q80 := KM_iff htok3.1 (show ((1 : Int32), (80 : Int32)) ∈ KMT by decide)
        have ek : (Ls i3).1.2.1 = 80 := by rw [← q80, ← hk3.1]; exact c1
        have hop3 := hk3.2.2.1
        obtain ⟨E3, hE3, hs3, _, _, T3, U3', o33, len3, rfl, hU3, h63, h73⟩ := hw
        obtain ⟨hi3', h53, _⟩ := id hs3
        obtain ⟨U1, u1, v1⟩ := push2_ok (U := (Jn (130 :: 60 :: 101 :: 115 :: ds).length, U3'.2)) hU3.pop.2.2 (by simp only [List.length_cons]; omega) 133 132
        have ha : f_Model_act C mX (Ls i3).1 (Ls i3).2 T3 (Jn (130 :: 60 :: 101 :: 115 :: ds).length, U3'.2) (Jn (op + 1), 0, 0, o33) E3 131 = some ((Ls i3).1, (Ls i3).2, T3, U1, (Jn (op + 1), 0, 0, o33), E3) := by
          rw [act_131, if_pos ek, u1]; rfl
        have o9 : OK C mX m kd pl vl ((Ls i3).1, (Ls i3).2, T3, U3', (Jn (op + 1), 0, 0, o33), E3) i3 1 0 p1 (ACE m kd pl vl Ls B' (op + 1) (132 :: 133 :: 130 :: 60 :: 101 :: 115 :: ds) (b - 1) p1 t1) :=
          Or.inl ⟨i3, _, 1, Nat.le_refl _, by omega, RUN.one (tokZ h hi3' h53) hU3 ha, E3, hE3, hs3, hop3, by simp only [List.length_cons]; omega, T3, _, o33, len3, rfl, v1, h63, h73⟩
        obtain ⟨r, y1, y2⟩ := o9.seq (fun i4 s4 _ hw4 => invL_ace (ar := ar) h (by simp only [List.length_cons]; omega) 9000 FU 0 _ _ i4 s4 _ (by omega) (by omega) (by decide) (by omega) hw4) (fun i td hd => by
          rw [FU2]; exact dm_L37 hd _ _ _ _ _)
        exact ⟨r, y1, y2.mono (by omega) (by omega) (fun _ _ _ z => z)⟩) (fun i td hd => by rw [FU2]; exact dm_L37 hd _ _ _ _ _)
      rw [e3, ob_some]
      obtain ⟨r5, e5, o5⟩ := o2.seq (fun i4 s4 _ hw4 => fin _ r2.2 i4 s4 _ (by omega) hw4) (fun i td hd => finD _ _ _ _ hd)
      exact ⟨r5, e5, o5.mono (by omega) (by omega) (fun _ _ _ z => z)⟩
    · -- neither a name nor the bracket: what comes can't come
      obtain ⟨r5, e5, o5⟩ := o1.seq (r := (f_Parser_invocation_L37 (Jn B'.2.1) (Jn m, ar, kd, pl, vl) FU 0 1 p1 t1).bind fun r6 => (f_Parser_takeClosing r6.1 (Jn m, ar, kd, pl, vl) 41).bind fun r7 => some (r7, r6.2)) (pr := fun z => z.1) (c' := 1) (F' := 2) (W' := fun z => ASQ m kd pl vl Ls B op ds (b + 2) z) (fun i3 s3 hi3 hw => by
        have htok3 := tokE h hw
        have hk3 := hw.kind.1
        have q80 := KM_iff htok3.1 (show ((1 : Int32), (80 : Int32)) ∈ KMT by decide)
        have q56 := KM_iff htok3.1 (show ((41 : Int32), (56 : Int32)) ∈ KMT by decide)
        obtain ⟨E3, hE3, hs3, hop3, h33, T3, U3', o33, len3, rfl, hU3, h63, h73⟩ := hw
        obtain ⟨hi3', h53, _⟩ := id hs3
        obtain ⟨w1, w2, w3⟩ := wrongOK h hs3
        have hl : ∃ t2, f_Parser_invocation_L37 (Jn B'.2.1) (Jn m, ar, kd, pl, vl) FU 0 1 p1 t1 = some t2 ∧ PD t2.1 i3 0 := by
          rw [FU2]
          unfold f_Parser_invocation_L37 f_Parser_takeName
          rw [if_neg (show ¬ (1 : Int32) = 0 by decide), if_neg (show ¬ (8192 : Int32) ≤ 0 by decide), take_miss c1, ob_some, ob_some]
          refine dma fun r => dmb (dm_take w2 _ 14909 (by decide)) fun b1 hb1 => dmb (dm_outermost hb1 _ _ _) fun b2 hb2 => ?_
          rw [dm_takeComma hb2, ob_some, nm_eq]
          dsimp only
          rw [dm_L37z]
          exact ⟨_, rfl, hb2⟩
        obtain ⟨t2, x1, x2⟩ := hl
        rw [x1, ob_some]
        obtain ⟨r, y1, y2⟩ := finD t2.1 t2.2 i3 _ x2
        refine ⟨r, y1, ?_⟩
        have ha : f_Model_act C mX (Ls i3).1 (Ls i3).2 T3 (Jn (130 :: 60 :: 101 :: 115 :: ds).length, U3'.2) (Jn (op + 1), 0, 0, o33) E3 131 = some ((Ls i3).1, (Ls i3).2, T3, (Jn (130 :: 60 :: 101 :: 115 :: ds).length, U3'.2), (Jn (op + 1), 0, 0, o33), E3) := by
          rw [act_131, if_neg (by rw [← q80, ← hk3]; exact c1)]; rfl
        have hp : f_Model_pass C mX (Ls i3).1 (Ls i3).2 56 = some (((Ls i3).1.1, (Ls i3).1.2.1, (Ls i3).1.2.2.1, (Ls i3).1.2.2.2.1, (Ls i3).1.2.2.2.2.1, 6, pl i3), (Ls i3).2) := by
          unfold f_Model_pass
          rw [if_neg (by rw [← q56, ← hk3]; exact c41), w1]; rfl
        have r1 : RUN C mX 1 ((Ls i3).1, (Ls i3).2, T3, U3', (Jn (op + 1), 0, 0, o33), E3) _ := RUN.one (tokZ h hi3' h53) hU3 ha
        have r2 := RUN.one (C := C) (mX := mX) (L := (Ls i3).1) (N := (Ls i3).2) (T := T3) (U := (Jn (130 :: 60 :: 101 :: 115 :: ds).length, U3'.2)) (O := (Jn (op + 1), 0, 0, o33)) (E := E3) (tokZ h hi3' h53) hU3.pop.2.2 (act_130 hp)
        exact w3 _ _ _ _ _ E3 2 _ _ _ _ y2 (r1.trans r2) (by omega)) (fun i td hd => dmb (by rw [FU2]; exact dm_L37 hd _ _ _ _ _) fun b hb => finD _ _ _ _ hb)
      exact ⟨r5, e5, o5.mono (by omega) (by omega) (fun _ _ _ z => z)⟩
end
end
section
/-! Statements and bodies. -/
section
variable {C : S_MC} {mX : S_MX} {m : Nat} {ar : Int32} {kd pl vl : Nat → Int32} {Ls : Nat → S_ML × S_MN}
theorem close118 (h : LX C mX m kd pl vl Ls) {B B' op ds b q t i s} (hc : CL B B') (hds : ds.length ≤ 200 + 20 * op) (hA : ACE m kd pl vl Ls B' (op + 1) (118 :: ds) b q t i s) : OK C mX m kd pl vl s i 1 0 (clsQ q) (ACE m kd pl vl Ls B op ds b (clsQ q) t) := by
  obtain ⟨E, hE, hs, hop, h3, T, U, o3, len, rfl, hU, h6, h7⟩ := hA
  obtain ⟨hi, h5, _⟩ := id hs
  obtain ⟨T3, a1, a2⟩ := hc.2 t T len h6
  have ha : f_Model_act C mX (Ls i).1 (Ls i).2 T (Jn ds.length, U.2) (Jn (op + 1), 0, 0, o3) E 118 = some ((Ls i).1, (Ls i).2, T3, (Jn ds.length, U.2), (Jn op, 0, 0, o3), E) := by
    rw [act_118 a1]
    dsimp only
    rw [subL 1 (by omega), show op + 1 - 1 = op by omega]
  exact Or.inl ⟨i, _, 1, Nat.le_refl _, by omega, RUN.one (tokZ h hi h5) hU ha, E, hE, hs.close, by omega, hds, T3, _, o3, len, rfl, hU.pop.2.2, a2, h7⟩
theorem stq_fin (h : LX C mX m kd pl vl Ls) {B op ds b i s r} (hd : (115 :: ds).length ≤ 200 + 20 * op) (hq : STQ C mX m kd pl vl Ls B op ds b i s r) : ∃ p', f_Parser_take r.1 (Jn m, ar, kd, pl, vl) 59 = some p' ∧ OK C mX m kd pl vl s i (-48) 60 p' (ACE m kd pl vl Ls B op (115 :: ds) b p' r.2) := by
  obtain ⟨q, B', e, hc, o⟩ := hq
  obtain ⟨q2, e2, o2⟩ := o.seq (r := f_Parser_take q (Jn m, ar, kd, pl, vl) 59) (fun i s _ hw => pass_ace (ar := ar) (c := 59) h (show ((59 : Int32), (60 : Int32)) ∈ KMT by decide) (by decide) hw) (fun i td hd => dm_take hd _ 59 (by decide))
  refine ⟨clsQ q2, by rw [e]; exact take_cls e2, ?_⟩
  obtain ⟨r3, e3, o3⟩ := o2.seq (r := some (clsQ q2)) (pr := fun z => z) (c' := 1) (F' := 0) (W' := fun z => ACE m kd pl vl Ls B op (115 :: ds) b z r.2) (fun i s _ hw => ⟨_, rfl, (close118 h hc hd hw).mono (Int.le_refl _) (Int.le_refl _) (fun _ _ _ z => z.mono (by omega))⟩) (fun i td hd => ⟨_, rfl, hd.clsQ⟩)
  injection e3 with e3
  subst e3
  exact o3.mono (by omega) (by omega) (fun _ _ _ z => z)
theorem asq_fin (h : LX C mX m kd pl vl Ls) {B op ds} {b : Int} {i s} {r : S_Parser × S_Tree} (o : OK C mX m kd pl vl s i (-20) 12 r.1 (ASQ m kd pl vl Ls B op ds b r)) : ∃ p', f_Parser_take r.1 (Jn m, ar, kd, pl, vl) 59 = some p' ∧ OK C mX m kd pl vl s i (-48) 12 p' (ACE m kd pl vl Ls B op (115 :: ds) (b - 2) p' r.2) := by
  obtain ⟨q2, e2, o2⟩ := o.seq (r := f_Parser_take r.1 (Jn m, ar, kd, pl, vl) 59) (pr := fun z => z) (c' := -28) (F' := 1) (W' := fun z => ACE m kd pl vl Ls B op (115 :: ds) (b - 2) z r.2) (fun i s _ hw => by
    obtain ⟨B', hc, hw'⟩ := hw
    obtain ⟨q, x1, x2⟩ := pass_ace (ar := ar) (c := 59) h (show ((59 : Int32), (60 : Int32)) ∈ KMT by decide) (by decide) hw'
    obtain ⟨q3, y1, y2⟩ := x2.seq (r := some q) (pr := fun z => z) (c' := 1) (F' := 0) (W' := fun z => ACE m kd pl vl Ls B op (115 :: ds) (b - 2) z r.2) (fun i s _ hw => ⟨_, rfl, up_ace h hc hw⟩) (fun i td hd => ⟨_, rfl, hd⟩)
    injection y1 with y1
    subst y1
    exact ⟨q, x1, y2.mono (by omega) (by omega) (fun _ _ _ z => z)⟩) (fun i td hd => dm_take hd _ 59 (by decide))
  exact ⟨q2, e2, o2.mono (by omega) (by omega) (fun _ _ _ z => z)⟩
/-- a name begins a statement -/
theorem named_ace (h : LX C mX m kd pl vl Ls) {B op ds b p t i s} (hd : ds.length + 12 ≤ 200 + 20 * op) (hA : ACE m kd pl vl Ls B op (115 :: ds) b p t i s) (ck : kd i = 1) :
    ∃ p1, f_Parser_takeName p (Jn m, ar, kd, pl, vl) = some (vl i, p1) ∧ OK C mX m kd pl vl s i (-29) 1 p1 (fun i' s' => ACE m kd pl vl Ls B op (116 :: 115 :: ds) (b - 2) p1 t i' s' ∧ s'.2.2.2.2.1.2.2.2.1 = pl i ∧ s'.2.2.2.2.1.2.2.2.2.1 = vl i) := by
  obtain ⟨E, hE, hs, hop, h3, T, U, o3, len, rfl, hU, h6, h7⟩ := hA
  obtain ⟨hi, h5, _⟩ := id hs
  have hf := tokF h hi h5
  have hk := KM_iff hf.1 (show ((1 : Int32), (80 : Int32)) ∈ KMT by decide)
  have et : (Ls i).1.2.1 = 80 := by rw [← hk]; exact ck
  obtain ⟨k1, k2, k3⟩ := hs.kind
  obtain ⟨p', a1, a2, a2', a3⟩ := adv (ar := ar) h hs (by rw [ck]; decide)
  obtain ⟨U1, u1, v1⟩ := push2_ok (U := (Jn ds.length, U.2)) hU.pop.2.2 (by rw [List.length_cons] at h3; omega) 115 116
  rw [ck] at a1
  refine ⟨p', by unfold f_Parser_takeName; rw [a1, ob_some, k3], ?_⟩
  have hst : f_Model_statements C mX (Ls i).1 (Ls i).2 T (Jn ds.length, U.2) (Jn op, 0, 0, o3) = some ((Ls (i + 1)).1, (Ls (i + 1)).2, T, U1, (Jn op, 0, 0, pl i, vl i, o3.2.2)) := by
    unfold f_Model_statements f_Model_keepName
    rw [if_neg (show ¬ (Ls i).1.2.1 = 60 by rw [et]; decide), if_pos et, ob_some, u1, ob_some, a2, hf.2.1, hf.2.2.2.1 (Or.inl ck)]; rfl
  refine a3 _ T U1 (Jn op, 0, 0, pl i, vl i, o3.2.2) E 1 (-29) 1 _ (RUN.one (tokZ h hi h5) hU (act_115 hst)) (by omega) (by omega) ?_
  intro hs'
  exact ⟨⟨E, hE, hs', hop, by simp only [List.length_cons]; omega, T, U1, (pl i, vl i, o3.2.2), len, rfl, v1, h6, by omega⟩, rfl, rfl⟩
theorem dm_assignment {p i td} (h : PD p i td) (tk : S_Tokens) (t : S_Tree) (a1 a2 a3 : Int32) : ∃ b, f_Parser_assignment p tk t a1 a2 a3 = some b ∧ PD b.1 i td := by
  unfold f_Parser_assignment
  rw [if_neg (h.ne 91 (by decide) (by decide))]
  exact dma fun r1 => dmw fun r2 => dmb (dm_take h _ 14909 (by decide)) fun r3 h3 => dmb (dm_outermost h3 _ _ _) fun r4 h4 => ⟨_, rfl, h4⟩
theorem statement_ace (h : LX C mX m kd pl vl Ls) {fb : S_Parser → S_Tokens → S_Tree → Int32 → Option (S_Parser × S_Tree)} {op : Nat} (hfb : op < 60 → BODS C mX m ar kd pl vl Ls fb (op + 1)) (hdb : ∀ {p i td}, PD p i td → ∀ t a, ∃ r, fb p (Jn m, ar, kd, pl, vl) t a = some r ∧ PD r.1 i td) {B : BASE} (hB0 : B.2.2.2.2.2.2 = 0) {ds b p t i s} (hb : b ≤ 6) (hd : ds.length + 12 ≤ 200 + 20 * op) (hA : ACE m kd pl vl Ls B op (115 :: ds) b p t i s) :
    ∃ r, f_Parser_statement fb p (Jn m, ar, kd, pl, vl) t (Jn B.2.1) = some r ∧ ((r.1 = 1 ∧ OK C mX m kd pl vl s i (-29) 60 r.2.1 (ACE m kd pl vl Ls B op (115 :: ds) b r.2.1 r.2.2)) ∨ (r.1 = 0 ∧ OK C mX m kd pl vl s i 1 0 r.2.1 (ACE m kd pl vl Ls B op ds b r.2.1 r.2.2))) := by
  obtain ⟨k1, hi, hop, h3⟩ := hA.kind
  have htok := tokE h hA
  have kp : p.2.2.1 = pl i := by
    obtain ⟨E, hE, hA'⟩ := hA
    exact hA'.1.kind.2.1
  have q80 := KM_iff htok.1 (show ((1 : Int32), (80 : Int32)) ∈ KMT by decide)
  have q60 := KM_iff htok.1 (show ((59 : Int32), (60 : Int32)) ∈ KMT by decide)
  have q16 := KM_iff htok.1 (show ((272 : Int32), (16 : Int32)) ∈ KMT by decide)
  have q21 := KM_iff htok.1 (show ((277 : Int32), (21 : Int32)) ∈ KMT by decide)
  have q23 := KM_iff htok.1 (show ((279 : Int32), (23 : Int32)) ∈ KMT by decide)
  have q28 := KM_iff htok.1 (show ((284 : Int32), (28 : Int32)) ∈ KMT by decide)
  have q29 := KM_iff htok.1 (show ((285 : Int32), (29 : Int32)) ∈ KMT by decide)
  unfold f_Parser_statement
  by_cases c1 : p.2.1 = 1
  · rw [if_pos c1]
    obtain ⟨p1, e1, o1⟩ := named_ace (ar := ar) h hd hA (by rw [← k1]; exact c1)
    rw [e1, ob_some, kp]
    dsimp only
    by_cases c40 : p1.2.1 = 40
    · rw [if_pos c40]
      obtain ⟨r2, e2, o2⟩ := o1.seq (fun i s _ hw => invocation_ace (ar := ar) h (by omega) hd hw.1 hw.2.1 hw.2.2 c40) (fun i td hd => absurd c40 (hd.ne 40 (by decide) (by decide)))
      rw [e2, ob_some]
      obtain ⟨p3, e3, o3⟩ := asq_fin (ar := ar) h (o2.mono (by omega) (by omega) (fun _ _ _ z => z))
      rw [e3, ob_some]
      exact ⟨_, rfl, Or.inl ⟨rfl, o3.mono (by omega) (by omega) (fun _ _ _ z => z.mono (by omega))⟩⟩
    · rw [if_neg c40]
      obtain ⟨r2, e2, o2⟩ := o1.seq (r := f_Parser_assignment p1 (Jn m, ar, kd, pl, vl) t (Jn B.2.1) (pl i) (vl i)) (fun i s _ hw => assign_ace (ar := ar) h hB0 (by omega) hd hw.1 hw.2.1 hw.2.2 c40) (fun i td hd => dm_assignment hd _ _ _ _ _)
      rw [e2, ob_some]
      obtain ⟨p3, e3, o3⟩ := asq_fin (ar := ar) h (o2.mono (by omega) (by omega) (fun _ _ _ z => z))
      rw [e3, ob_some]
      exact ⟨_, rfl, Or.inl ⟨rfl, o3.mono (by omega) (by omega) (fun _ _ _ z => z.mono (by omega))⟩⟩
  rw [if_neg c1]
  by_cases c59 : p.2.1 = 59
  · rw [if_pos c59]
    have ck : kd i = 59 := by rw [← k1]; exact c59
    have et : (Ls i).1.2.1 = 60 := by rw [← q60]; exact ck
    obtain ⟨E, hE, hA'⟩ := hA
    obtain ⟨p1, e1, o1⟩ := perhapsYes (ar := ar) h hA' (by rw [ck]; decide) (ds' := 115 :: ds) h3 (fun T U o3 hU hst => by
      obtain ⟨U1, u1, v1⟩ := push_ok hU (by omega) 115
      refine ⟨U1, act_115 (r2 := ((Ls (i + 1)).1, (Ls (i + 1)).2, T, U1, (Jn op, 0, 0, o3))) ?_, v1⟩
      unfold f_Model_statements
      rw [if_pos et, u1, ob_some, hst]; rfl)
    rw [ck] at e1
    rw [e1, ob_some]
    exact ⟨_, rfl, Or.inl ⟨rfl, (o1.ace hE).mono (by omega) (by omega) (fun _ _ _ z => z.mono (by omega))⟩⟩
  rw [if_neg c59]
  by_cases c272 : p.2.1 = 272
  · rw [if_pos c272]
    obtain ⟨r2, e2, o2⟩ := if_ace (ar := ar) h hfb hdb hB0 hb c272 hA
    obtain ⟨p3, e3, o3⟩ := stq_fin (ar := ar) h h3 o2
    rw [e2, ob_some, e3, ob_some]
    exact ⟨_, rfl, Or.inl ⟨rfl, o3.mono (by omega) (by omega) (fun _ _ _ z => z.mono (by omega))⟩⟩
  rw [if_neg c272]
  by_cases c277 : p.2.1 = 277
  · rw [if_pos c277]
    obtain ⟨r2, e2, o2⟩ := case_ace (ar := ar) h hfb hdb hB0 hb c277 hA
    obtain ⟨p3, e3, o3⟩ := stq_fin (ar := ar) h h3 o2
    rw [e2, ob_some, e3, ob_some]
    exact ⟨_, rfl, Or.inl ⟨rfl, o3.mono (by omega) (by omega) (fun _ _ _ z => z.mono (by omega))⟩⟩
  rw [if_neg c277]
  by_cases c279 : p.2.1 = 279
  · rw [if_pos c279]
    obtain ⟨r2, e2, o2⟩ := for_ace (ar := ar) h hfb hdb hB0 hb c279 hA
    obtain ⟨p3, e3, o3⟩ := stq_fin (ar := ar) h h3 o2
    rw [e2, ob_some, e3, ob_some]
    exact ⟨_, rfl, Or.inl ⟨rfl, o3.mono (by omega) (by omega) (fun _ _ _ z => z.mono (by omega))⟩⟩
  rw [if_neg c279]
  have nn : ¬ (Ls i).1.2.1 = 60 ∧ ¬ (Ls i).1.2.1 = 80 ∧ ¬ (Ls i).1.2.1 = 16 ∧ ¬ (Ls i).1.2.1 = 21 ∧ ¬ (Ls i).1.2.1 = 23 := by
    rw [← q60, ← q80, ← q16, ← q21, ← q23, ← k1]
    exact ⟨c59, c1, c272, c277, c279⟩
  by_cases c284 : p.2.1 = 284
  · rw [if_pos c284, kp]
    have ck : kd i = 284 := by rw [← k1]; exact c284
    have et : (Ls i).1.2.1 = 28 := by rw [← q28]; exact ck
    obtain ⟨E, hE, hA'⟩ := hA
    obtain ⟨n1, t1, p1, e1, e2, o1⟩ := leafAdv (ar := ar) h hA' (by rw [ck]; decide) (by omega) (ds' := 60 :: 115 :: ds) (by simp only [List.length_cons]; omega) 20 0 (fun T T' U o3 hU hl hst => by
      obtain ⟨U1, u1, v1⟩ := push2_ok hU (by omega) 115 60
      refine ⟨U1, act_115 (r2 := ((Ls (i + 1)).1, (Ls (i + 1)).2, T', U1, (Jn op, 0, 0, o3))) ?_, v1⟩
      unfold f_Model_statements
      rw [if_neg nn.1, if_neg nn.2.1, if_neg nn.2.2.1, if_neg nn.2.2.2.1, if_neg nn.2.2.2.2, if_pos et, if_pos et, htok.2, hl, ob_some, u1, ob_some, hst]; rfl)
    rw [ck] at e2
    rw [e1, ob_some, e2, ob_some]
    dsimp only
    obtain ⟨p3, e3, o3⟩ := (o1.ace hE).seq (fun i s _ hw => pass_ace (ar := ar) (c := 59) h (show ((59 : Int32), (60 : Int32)) ∈ KMT by decide) (by decide) hw) (fun i td hd => dm_take hd _ 59 (by decide))
    rw [e3, ob_some]
    exact ⟨_, rfl, Or.inl ⟨rfl, o3.mono (by omega) (by omega) (fun _ _ _ z => z.mono (by omega))⟩⟩
  rw [if_neg c284]
  by_cases c285 : p.2.1 = 285
  · rw [if_pos c285, kp]
    have ck : kd i = 285 := by rw [← k1]; exact c285
    have et : (Ls i).1.2.1 = 29 := by rw [← q29]; exact ck
    have ne28 : ¬ (Ls i).1.2.1 = 28 := by rw [et]; decide
    obtain ⟨E, hE, hA'⟩ := hA
    obtain ⟨n1, t1, p1, e1, e2, o1⟩ := leafAdv (ar := ar) h hA' (by rw [ck]; decide) (by omega) (ds' := 60 :: 115 :: ds) (by simp only [List.length_cons]; omega) 21 0 (fun T T' U o3 hU hl hst => by
      obtain ⟨U1, u1, v1⟩ := push2_ok hU (by omega) 115 60
      refine ⟨U1, act_115 (r2 := ((Ls (i + 1)).1, (Ls (i + 1)).2, T', U1, (Jn op, 0, 0, o3))) ?_, v1⟩
      unfold f_Model_statements
      rw [if_neg nn.1, if_neg nn.2.1, if_neg nn.2.2.1, if_neg nn.2.2.2.1, if_neg nn.2.2.2.2, if_neg ne28, if_pos et, if_neg ne28, htok.2, hl, ob_some, u1, ob_some, hst]; rfl)
    rw [ck] at e2
    rw [e1, ob_some, e2, ob_some]
    dsimp only
    obtain ⟨p3, e3, o3⟩ := (o1.ace hE).seq (fun i s _ hw => pass_ace (ar := ar) (c := 59) h (show ((59 : Int32), (60 : Int32)) ∈ KMT by decide) (by decide) hw) (fun i td hd => dm_take hd _ 59 (by decide))
    rw [e3, ob_some]
    exact ⟨_, rfl, Or.inl ⟨rfl, o3.mono (by omega) (by omega) (fun _ _ _ z => z.mono (by omega))⟩⟩
  rw [if_neg c285]
  obtain ⟨E, hE, hA'⟩ := hA
  refine ⟨_, rfl, Or.inr ⟨rfl, (perhapsNo h hA' (fun T U o3 => act_115 (r2 := ((Ls i).1, (Ls i).2, T, U, (Jn op, 0, 0, o3))) ?_)).ace hE⟩⟩
  unfold f_Model_statements
  rw [if_neg nn.1, if_neg nn.2.1, if_neg nn.2.2.1, if_neg nn.2.2.2.1, if_neg nn.2.2.2.2, if_neg (by rw [← q28, ← k1]; exact c284), if_neg (by rw [← q29, ← k1]; exact c285)]
theorem dm_statement {p i td} (h : PD p i td) (fb : S_Parser → S_Tokens → S_Tree → Int32 → Option (S_Parser × S_Tree)) (tk : S_Tokens) (t : S_Tree) (a : Int32) : f_Parser_statement fb p tk t a = some (0, p, t) := by
  unfold f_Parser_statement
  rw [if_neg (h.ne 1 (by decide) (by decide)), if_neg (h.ne 59 (by decide) (by decide)), if_neg (h.ne 272 (by decide) (by decide)), if_neg (h.ne 277 (by decide) (by decide)), if_neg (h.ne 279 (by decide) (by decide)), if_neg (h.ne 284 (by decide) (by decide)), if_neg (h.ne 285 (by decide) (by decide))]
theorem L21z {p : S_Parser} (fb : S_Parser → S_Tokens → S_Tree → Int32 → Option (S_Parser × S_Tree)) (w : Int32) (tk : S_Tokens) (t : S_Tree) (v : Int32) (f : Nat) : f_Parser_body_o_L21 fb w tk (f + 1) v 0 p t = some (p, t) := by
  unfold f_Parser_body_o_L21
  rw [if_pos rfl]
theorem dm_L21 {p i td} (h : PD p i td) (fb : S_Parser → S_Tokens → S_Tree → Int32 → Option (S_Parser × S_Tree)) (w : Int32) (tk : S_Tokens) (t : S_Tree) (v : Int32) (f : Nat) : f_Parser_body_o_L21 fb w tk (f + 1 + 1) v 1 p t = some (p, t) := by
  unfold f_Parser_body_o_L21
  rw [if_neg (by decide)]
  split
  · rfl
  · rw [dm_statement h, ob_some, nm_eq, L21z]
theorem bodyL_ace (h : LX C mX m kd pl vl Ls) {fb : S_Parser → S_Tokens → S_Tree → Int32 → Option (S_Parser × S_Tree)} {op : Nat} (hfb : op < 60 → BODS C mX m ar kd pl vl Ls fb (op + 1)) (hdb : ∀ {p i td}, PD p i td → ∀ t a, ∃ r, fb p (Jn m, ar, kd, pl, vl) t a = some r ∧ PD r.1 i td) {B : BASE} (hB0 : B.2.2.2.2.2.2 = 0) {ds} (hd : ds.length + 12 ≤ 200 + 20 * op) :
    ∀ (d f tn : Nat) (p : S_Parser) (t : S_Tree) (i : Nat) (s : MSt) (b : Int), b ≤ 6 → m - i < d → d + 1 ≤ f → tn ≤ i → ACE m kd pl vl Ls B op (115 :: ds) b p t i s →
    ∃ r, f_Parser_body_o_L21 fb (Jn B.2.1) (Jn m, ar, kd, pl, vl) f (Jn tn) 1 p t = some r ∧ OK C mX m kd pl vl s i 1 60 r.1 (ACE m kd pl vl Ls B op ds b r.1 r.2) := by
  have hm := h.2.2.2.2.2
  intro d
  induction d with
  | zero => intro f tn p t i s b hb h1; omega
  | succ d ih =>
    intro f tn p t i s b hb h1 h2 htn hA
    obtain ⟨f, rfl⟩ : ∃ g, f = g + 1 := ⟨f - 1, by omega⟩
    obtain ⟨g, rfl⟩ : ∃ g, f = g + 1 := ⟨f - 1, by omega⟩
    obtain ⟨k1, hi, hop, h3⟩ := hA.kind
    unfold f_Parser_body_o_L21
    rw [if_neg (show ¬ (1 : Int32) = 0 by decide), if_neg (nleL 8192 (by omega))]
    obtain ⟨r1, e1, o1⟩ := statement_ace (ar := ar) h hfb hdb hB0 hb hd hA
    rw [e1, ob_some, nm_eq, addL tn 1]
    rcases o1 with ⟨z, o1⟩ | ⟨z, o1⟩
    · rw [z]
      obtain ⟨r2, e2, o2⟩ := o1.seqP (fun i' s' hi' hpos hw => ih (g + 1) (tn + 1) _ _ i' s' _ hb (by omega) (by omega) (by omega) hw) (fun i' td hd' => by
        obtain ⟨g2, rfl⟩ : ∃ g2, g = g2 + 1 := ⟨g - 1, by omega⟩
        exact ⟨_, dm_L21 hd' _ _ _ _ _ _, hd'⟩)
      exact ⟨r2, e2, o2.mono (by omega) (by omega) (fun _ _ _ z => z)⟩
    · rw [z, L21z]
      exact ⟨_, rfl, o1.mono (by omega) (by omega) (fun _ _ _ z => z)⟩
theorem body_step (h : LX C mX m kd pl vl Ls) {fb : S_Parser → S_Tokens → S_Tree → Int32 → Option (S_Parser × S_Tree)} {op : Nat} (hfb : op < 60 → BODS C mX m ar kd pl vl Ls fb (op + 1)) (hdb : ∀ {p i td}, PD p i td → ∀ t a, ∃ r, fb p (Jn m, ar, kd, pl, vl) t a = some r ∧ PD r.1 i td) : BODS C mX m ar kd pl vl Ls (f_Parser_body_o fb) op := by
  have hm := h.2.2.2.2.2
  intro B ds b p t i s hB0 hbin hb hd
  obtain ⟨t', B', e1, hc, hA⟩ := hbin
  unfold f_Parser_body_o
  rw [e1, ob_some]
  dsimp only
  obtain ⟨r1, e2, o1⟩ := bodyL_ace (ar := ar) h hfb hdb (hc.1.trans hB0) (ds := 101 :: ds) (by rw [List.length_cons]; omega) 9000 FU 0 _ _ i s _ hb (by omega) (by decide) (by omega) hA
  rw [show (0 : Int32) = Jn 0 from rfl, e2, ob_some]
  obtain ⟨r2, e3, o2⟩ := o1.seq (r := some (r1.1, r1.2)) (pr := fun z => z.1) (c' := 1) (F' := 0) (W' := fun z => ACE m kd pl vl Ls B op ds b z.1 z.2) (fun i s _ hw => ⟨_, rfl, up_ace h hc hw⟩) (fun i td hd => ⟨_, rfl, hd⟩)
  exact ⟨r2, e3, o2.mono (by omega) (by omega) (fun _ _ _ z => z)⟩
theorem GB_bods (h : LX C mX m kd pl vl Ls) : ∀ (d op : Nat), 60 - op ≤ d → BODS C mX m ar kd pl vl Ls (GB (d + 2)) op := by
  intro d
  induction d with
  | zero => intro op ho; exact body_step h (fb := GB 1) (fun hop => by omega) (fun hd t a => dm_body hd _ t a 0)
  | succ d ih => intro op ho; exact body_step h (fb := GB (d + 2)) (fun hop => ih (op + 1) (by omega)) (fun hd t a => dm_body hd _ t a (d + 1))
end
end
section
/-! Blocks. -/
section
variable {C : S_MC} {mX : S_MX} {m : Nat} {ar : Int32} {kd pl vl : Nat → Int32} {Ls : Nat → S_ML × S_MN}
theorem head_ace (h : LX C mX m kd pl vl Ls) {B op ds dsT b p t i s} (hb : b ≤ 9) (h4 : kd i ≠ 4) (hdT : dsT.length + 1 ≤ 200 + 20 * op) (k : Int32) (hA : ACE m kd pl vl Ls B op (100 :: ds) b p t i s)
    (hact : ∀ T T' U o3 E, Stk 4000 U.1 U.2 ds → f_Model_down T k (pl i) 0 = some T' → f_Model_step C mX (Ls i).1 (Ls i).2 = some (Ls (i + 1)) → ∃ U', f_Model_act C mX (Ls i).1 (Ls i).2 T U (Jn op, 0, 0, o3) E 100 = some ((Ls (i + 1)).1, (Ls (i + 1)).2, T', U', (Jn op, 0, 0, o3), E) ∧ Stk 4000 U'.1 U'.2 (105 :: dsT)) :
    ∃ p1 p2 n t1, f_Parser_take p (Jn m, ar, kd, pl, vl) (kd i) = some p1 ∧ f_Parser_takeName p1 (Jn m, ar, kd, pl, vl) = some (p1.2.2.2.1, p2) ∧ f_Tree_add t (Jn B.2.1) k (pl i) p1.2.2.2.1 = some (n, t1) ∧
      OK C mX m kd pl vl s i (-58) 2 p2 (fun i' s' => ∃ B', n = Jn B'.2.1 ∧ CL B B' ∧ ACE m kd pl vl Ls B' op dsT (b - 3) p2 t1 i' s') := by
  obtain ⟨E, hE, hs, hop, h3, T, U, o3, len, rfl, hU, h6, h7⟩ := hA
  obtain ⟨hi, h5, _⟩ := id hs
  obtain ⟨T', z, d1, d2, d3, d4, d5⟩ := h6.downM (len_ok h hi (by omega) h7) k (pl i) 0
  obtain ⟨p1, a1, a2, a2', a3⟩ := adv (ar := ar) h hs h4
  obtain ⟨U', u1, u2⟩ := hact T T' (Jn ds.length, U.2) o3 E hU.pop.2.2 d1 a2
  obtain ⟨t1, B', b1, b2, b3, b4, b5⟩ := d5 (pl i) p1.2.2.2.1
  have o1 := a3 _ T' U' (Jn op, 0, 0, o3) E 1 (-29) 1 (fun i' s' => i' = i + 1 ∧ SP m kd pl vl p1 i' 0 op ∧ s' = ((Ls i').1, (Ls i').2, T', U', (Jn op, 0, 0, o3), E)) (RUN.one (tokZ h hi h5) hU u1) (by omega) (by omega) (fun hs' => ⟨rfl, hs', rfl⟩)
  obtain ⟨r2, e2, o2⟩ := o1.seq (r := f_Parser_takeName p1 (Jn m, ar, kd, pl, vl)) (pr := fun q => q.2) (c' := -29) (F' := 1) (W' := fun q i' s' => ∃ B', (Jn len : Int32) = Jn B'.2.1 ∧ CL B B' ∧ ACE m kd pl vl Ls B' op dsT (b - 3) q.2 t1 i' s') (fun i2 s2 _ hw => by
    obtain ⟨ei, hs2, rfl⟩ := hw
    obtain ⟨hi2, h52, _⟩ := id hs2
    have hf := tokF h hi2 h52
    have hk := KM_iff hf.1 (show ((1 : Int32), (80 : Int32)) ∈ KMT by decide)
    obtain ⟨q, r, x1, x2, x3⟩ := passX (ar := ar) h hs2 (show ((1 : Int32), (80 : Int32)) ∈ KMT by decide) (by decide)
    refine ⟨(p1.2.2.2.1, q), by unfold f_Parser_takeName; rw [x1, ob_some], ?_⟩
    refine x3 _ (T'.1, T'.2.1, T'.2.2.1, T'.2.2.2.1, upd T'.2.2.2.2.1 z (Ls i2).1.2.2.1, T'.2.2.2.2.2) (Jn dsT.length, U'.2) (Jn op, 0, 0, o3) E 1 (-29) 1 _ (RUN.one (tokZ h hi2 h52) u2 (act_105 (r12 := (r.1, r.2, (T'.1, T'.2.1, T'.2.2.1, T'.2.2.2.1, upd T'.2.2.2.2.1 z (Ls i2).1.2.2.1, T'.2.2.2.2.2))) ?_)) (by omega) (by omega) ?_
    · unfold f_Model_title
      rw [d2, gd_Jn d3 (by omega), x2, ob_some, Jn_cl (by omega)]
    · intro hs3
      have ek : kd i2 = 1 := by
        apply Classical.byContradiction
        intro hne
        rw [take_miss (by rw [hs2.kind.1]; exact hne)] at x1
        injection x1 with x1
        have := hs3.kind.1
        rw [← x1] at this
        have n6 := KM_n6 (tokF h hs3.1 hs3.2.1).1
        exact n6 this.symm
      have hv : (Ls i2).1.2.2.1 = p1.2.2.2.1 := by rw [hf.2.2.2.1 (Or.inl ek), hs2.kind.2.2]
      have sw : (T'.1, T'.2.1, T'.2.2.1, T'.2.2.2.1, upd T'.2.2.2.2.1 z (Ls i2).1.2.2.1, T'.2.2.2.2.2) = setV T' z (pl i) p1.2.2.2.1 := by
        unfold setV
        unfold dat at d4
        injection d4 with q1 q2
        injection q2 with q2 q3
        rw [upd_id q2, hv]
      refine ⟨B', by rw [b2], ⟨b3, b5⟩, E, hE, hs3, hop, by omega, _, _, o3, len + 1, rfl, u2.pop.2.2, by rw [sw]; exact b4, by omega⟩) (fun i td hd => dm_takeName hd _)
  refine ⟨p1, r2.2, Jn len, t1, a1, ?_, b1, o2.mono (by omega) (by omega) (fun _ _ _ zz => zz)⟩
  rw [e2]
  unfold f_Parser_takeName at e2
  obtain ⟨q, y1, y2⟩ := Option.bind_eq_some_iff.mp e2
  injection y2 with y2
  rw [← y2]
/-- the body of a block that is no ladder -/
theorem blockBody_ace (h : LX C mX m kd pl vl Ls) {B ds b p t i s} (hB0 : B.2.2.2.2.2.2 = 0) (hb : b ≤ 5) (hd : ds.length + 70 ≤ 200) (h0 : 0 < i) (hk : ¬ p.2.1 = 293) (hA : ACE m kd pl vl Ls B 0 (102 :: ds) b p t i s) :
    ∃ r, f_Parser_body p (Jn m, ar, kd, pl, vl) t (Jn B.2.1) = some r ∧ OK C mX m kd pl vl s i 3 63 r.1 (ACE m kd pl vl Ls B 0 ds (b + 1) r.1 r.2) := by
  obtain ⟨k1, hi, hop, h3⟩ := hA.kind
  have htok := tokE h hA
  have q37 := KM_iff htok.1 (show ((293 : Int32), (37 : Int32)) ∈ KMT by decide)
  obtain ⟨E, hE, hA'⟩ := hA
  obtain ⟨hs, _⟩ := id hA'
  obtain ⟨_, h5, pb, fq, ep, hpb⟩ := id hs
  have hf := tokF h hi h5
  have hlp : (Ls i).1.2.2.2.2.1 = p.2.2.2.2.1 := by rw [hf.2.2.2.2 h0, ep]; exact (hpb h0).symm
  obtain ⟨t1, B', e1, hc, o1⟩ := downStay h hA' (by omega) (ds' := 115 :: 101 :: ds) (by simp only [List.length_cons]; omega) 11 p.2.2.2.2.1 0 (by
    intro T T' U o3 hU hl
    obtain ⟨U1, u1, v1⟩ := push2_ok hU (by omega) 101 115
    refine ⟨U1, act_102 (r6 := ((Ls i).1, (Ls i).2, T', U1)) ?_, v1⟩
    unfold f_Model_body
    rw [if_neg (by rw [← q37, ← k1]; exact hk), hlp, hl, ob_some, u1]; rfl)
  obtain ⟨r2, e2, o2⟩ := (o1.ace hE).seq (r := f_Parser_body p (Jn m, ar, kd, pl, vl) t (Jn B.2.1)) (fun i' s' _ hw => GB_bods (ar := ar) h 64 0 (by omega) B ds (b + 1) p t i' s' hB0 ⟨t1, B', e1, hc, hw⟩ (by omega) (by omega)) (fun i td hd => dm_body hd _ _ _ 65)
  exact ⟨r2, e2, o2.mono (by omega) (by omega) (fun _ _ _ z => z)⟩
theorem blockHead_ace (h : LX C mX m kd pl vl Ls) {B ds b p t i s} {e : Int32} (hb : b ≤ 9) (hd : ds.length + 70 ≤ 200) (hk : (p.2.1 = 256 ∧ e = 1) ∨ (p.2.1 = 258 ∧ e = 3) ∨ (p.2.1 = 260 ∧ e = 5)) (hA : ACE m kd pl vl Ls B 0 (100 :: ds) b p t i s) :
    ∃ r, f_Parser_blockHead p (Jn m, ar, kd, pl, vl) t (Jn B.2.1) = some r ∧ OK C mX m kd pl vl s i (-58) 3 r.2.1 (fun i' s' => ∃ B', r.1 = Jn B'.2.1 ∧ CL B B' ∧ ACE m kd pl vl Ls B' 0 (103 :: 102 :: e :: 101 :: 100 :: ds) (b - 3) r.2.1 r.2.2 i' s') := by
  obtain ⟨k1, hi, hop, h3⟩ := hA.kind
  rw [List.length_cons] at h3
  have htok := tokE h hA
  have kp : p.2.2.1 = pl i := by
    obtain ⟨E, hE, hA'⟩ := hA
    exact hA'.1.kind.2.1
  have q0 := KM_iff htok.1 (show ((256 : Int32), (0 : Int32)) ∈ KMT by decide)
  have q2 := KM_iff htok.1 (show ((258 : Int32), (2 : Int32)) ∈ KMT by decide)
  have q4 := KM_iff htok.1 (show ((260 : Int32), (4 : Int32)) ∈ KMT by decide)
  unfold f_Parser_blockHead f_Parser_kindOfBlock
  rcases hk with ⟨c, rfl⟩ | ⟨c, rfl⟩ | ⟨c, rfl⟩
  · have ck : kd i = 256 := by rw [← k1]; exact c
    have et : (Ls i).1.2.1 = 0 := by rw [← q0]; exact ck
    obtain ⟨p1, p2, n, t1, e1, e2, e3, o1⟩ := head_ace (ar := ar) h hb (by rw [ck]; decide) (dsT := 61 :: 104 :: 103 :: 102 :: 1 :: 101 :: 100 :: ds) (by simp only [List.length_cons]; omega) 1 hA (fun T T' U o3 E hU hl hst => by
      obtain ⟨U1, u1, v1⟩ := push_ok hU (by omega) 100
      obtain ⟨U2, u2, v2⟩ := push4_ok v1 (by simp only [List.length_cons]; omega) 101 1 102 103
      obtain ⟨U3, u3, v3⟩ := push2_ok v2 (by simp only [List.length_cons]; omega) 104 61
      obtain ⟨U4, u4, v4⟩ := push_ok v3 (by simp only [List.length_cons]; omega) 105
      refine ⟨U4, act_100 (r2 := ((Ls (i + 1)).1, (Ls (i + 1)).2, T', U4)) ?_, v4⟩
      unfold f_Model_blocks
      rw [if_pos et, htok.2, hl, ob_some, u1, ob_some, u2, ob_some, u3, ob_some, u4, ob_some, hst]; rfl)
    rw [k1, e1, ob_some, if_pos ck, ob_some, e2, ob_some, kp]
    dsimp only
    rw [e3, ob_some, if_pos ck]
    obtain ⟨p3, e4, o3⟩ := o1.seq (r := f_Parser_take p2 (Jn m, ar, kd, pl, vl) 58) (pr := fun q => q) (c' := -29) (F' := 1) (W' := fun q i' s' => ∃ B', n = Jn B'.2.1 ∧ CL B B' ∧ ACE m kd pl vl Ls B' 0 (104 :: 103 :: 102 :: 1 :: 101 :: 100 :: ds) (b - 5) q t1 i' s') (fun i2 s2 _ hw => by
      obtain ⟨B', w1, w2, w3⟩ := hw
      obtain ⟨q, x1, x2⟩ := pass_ace (ar := ar) (c := 58) h (show ((58 : Int32), (61 : Int32)) ∈ KMT by decide) (by decide) w3
      exact ⟨q, x1, x2.mono (Int.le_refl _) (Int.le_refl _) (fun _ _ _ z => ⟨B', w1, w2, z.mono (by omega)⟩)⟩) (fun i td hd => dm_take hd _ 58 (by decide))
    rw [e4, ob_some]
    obtain ⟨r5, e5, o5⟩ := o3.seq (r := f_Parser_simpleType p3 (Jn m, ar, kd, pl, vl) t1 n) (pr := fun q => q.1) (c' := -29) (F' := 1) (W' := fun q i' s' => ∃ B', n = Jn B'.2.1 ∧ CL B B' ∧ ACE m kd pl vl Ls B' 0 (103 :: 102 :: 1 :: 101 :: 100 :: ds) (b - 3) q.1 q.2 i' s') (fun i2 s2 _ hw => by
      obtain ⟨B', w1, w2, E, hE, w3⟩ := hw
      obtain ⟨q, x1, x2⟩ := simple_acc (ar := ar) h (by omega) w3
      rw [w1]
      exact ⟨q, x1, (x2.ace hE).mono (Int.le_refl _) (Int.le_refl _) (fun _ _ _ z => ⟨B', rfl, w2, z.mono (by omega)⟩)⟩) (fun i td hd => dm_simpleType hd _ _ _)
    rw [e5, ob_some]
    exact ⟨_, rfl, o5.mono (by omega) (by omega) (fun _ _ _ z => z)⟩
  · have ck : kd i = 258 := by rw [← k1]; exact c
    have et : (Ls i).1.2.1 = 2 := by rw [← q2]; exact ck
    obtain ⟨p1, p2, n, t1, e1, e2, e3, o1⟩ := head_ace (ar := ar) h hb (by rw [ck]; decide) (dsT := 103 :: 102 :: 3 :: 101 :: 100 :: ds) (by simp only [List.length_cons]; omega) 2 hA (fun T T' U o3 E hU hl hst => by
      obtain ⟨U1, u1, v1⟩ := push_ok hU (by omega) 100
      obtain ⟨U2, u2, v2⟩ := push4_ok v1 (by simp only [List.length_cons]; omega) 101 3 102 103
      obtain ⟨U4, u4, v4⟩ := push_ok v2 (by simp only [List.length_cons]; omega) 105
      refine ⟨U4, act_100 (r2 := ((Ls (i + 1)).1, (Ls (i + 1)).2, T', U4)) ?_, v4⟩
      unfold f_Model_blocks
      rw [if_neg (show ¬ (Ls i).1.2.1 = 0 by rw [et]; decide), if_pos et, htok.2, hl, ob_some, u1, ob_some, u2, ob_some, u4, ob_some, hst]; rfl)
    rw [k1, e1, ob_some, if_neg (show ¬ kd i = 256 by rw [ck]; decide), if_pos ck, ob_some, e2, ob_some, kp]
    dsimp only
    rw [e3, ob_some, if_neg (show ¬ kd i = 256 by rw [ck]; decide)]
    exact ⟨_, rfl, o1.mono (by omega) (by omega) (fun _ _ _ z => z)⟩
  · have ck : kd i = 260 := by rw [← k1]; exact c
    have et : (Ls i).1.2.1 = 4 := by rw [← q4]; exact ck
    obtain ⟨p1, p2, n, t1, e1, e2, e3, o1⟩ := head_ace (ar := ar) h hb (by rw [ck]; decide) (dsT := 103 :: 102 :: 5 :: 101 :: 100 :: ds) (by simp only [List.length_cons]; omega) 3 hA (fun T T' U o3 E hU hl hst => by
      obtain ⟨U1, u1, v1⟩ := push_ok hU (by omega) 100
      obtain ⟨U2, u2, v2⟩ := push4_ok v1 (by simp only [List.length_cons]; omega) 101 5 102 103
      obtain ⟨U4, u4, v4⟩ := push_ok v2 (by simp only [List.length_cons]; omega) 105
      refine ⟨U4, act_100 (r2 := ((Ls (i + 1)).1, (Ls (i + 1)).2, T', U4)) ?_, v4⟩
      unfold f_Model_blocks
      rw [if_neg (show ¬ (Ls i).1.2.1 = 0 by rw [et]; decide), if_neg (show ¬ (Ls i).1.2.1 = 2 by rw [et]; decide), if_pos et, htok.2, hl, ob_some, u1, ob_some, u2, ob_some, u4, ob_some, hst]; rfl)
    rw [k1, e1, ob_some, if_neg (show ¬ kd i = 256 by rw [ck]; decide), if_neg (show ¬ kd i = 258 by rw [ck]; decide), ob_some, e2, ob_some, kp]
    dsimp only
    rw [e3, ob_some, if_neg (show ¬ kd i = 256 by rw [ck]; decide)]
    exact ⟨_, rfl, o1.mono (by omega) (by omega) (fun _ _ _ z => z)⟩
theorem endOfBlock_eq {k e : Int32} (hk : (k = 256 ∧ e = 1) ∨ (k = 258 ∧ e = 3) ∨ (k = 260 ∧ e = 5)) : ∃ c, f_Parser_endOfBlock k = some c ∧ (c, e) ∈ KMT ∧ c ≠ 4 ∧ c ≠ 5 := by
  unfold f_Parser_endOfBlock
  rcases hk with ⟨rfl, rfl⟩ | ⟨rfl, rfl⟩ | ⟨rfl, rfl⟩
  · exact ⟨257, by decide, by decide, by decide, by decide⟩
  · exact ⟨259, by decide, by decide, by decide, by decide⟩
  · exact ⟨261, by decide, by decide, by decide, by decide⟩
theorem startsBlock_eq (p : S_Parser) : (∃ e, ((p.2.1 = 256 ∧ e = 1) ∨ (p.2.1 = 258 ∧ e = 3) ∨ (p.2.1 = 260 ∧ e = (5 : Int32))) ∧ f_Parser_startsBlock p = some 1) ∨ (¬ p.2.1 = 256 ∧ ¬ p.2.1 = 258 ∧ ¬ p.2.1 = 260 ∧ f_Parser_startsBlock p = some 0) := by
  unfold f_Parser_startsBlock
  by_cases a : p.2.1 = 256
  · rw [if_pos a]; exact Or.inl ⟨1, Or.inl ⟨a, rfl⟩, rfl⟩
  rw [if_neg a]
  by_cases b : p.2.1 = 258
  · rw [if_pos b]; exact Or.inl ⟨3, Or.inr (Or.inl ⟨b, rfl⟩), rfl⟩
  rw [if_neg b]
  by_cases c : p.2.1 = 260
  · rw [if_pos c]; exact Or.inl ⟨5, Or.inr (Or.inr ⟨c, rfl⟩), rfl⟩
  rw [if_neg c]; exact Or.inr ⟨a, b, c, rfl⟩
theorem blocksL_ace (h : LX C mX m kd pl vl Ls) {B : BASE} (hB0 : B.2.2.2.2.2.2 = 0) :
    ∀ (d f tn : Nat) (p : S_Parser) (t : S_Tree) (i : Nat) (s : MSt) (b : Int), b ≤ 4 → m - i < d → d ≤ f → tn ≤ i → ACE m kd pl vl Ls B 0 [100] b p t i s →
    ∃ r, f_Parser_parse_L51 (Jn B.2.1) (Jn m, ar, kd, pl, vl) f (Jn tn) p t = some r ∧ OK C mX m kd pl vl s i 0 66 r.1 (fun i' s' => ACE m kd pl vl Ls B 0 [100] b r.1 r.2 i' s' ∧ ¬ r.1.2.1 = 256 ∧ ¬ r.1.2.1 = 258 ∧ ¬ r.1.2.1 = 260) := by
  have hm := h.2.2.2.2.2
  intro d
  induction d with
  | zero => intro f tn p t i s b hb h1; omega
  | succ d ih =>
    intro f tn p t i s b hb h1 h2 htn hA
    obtain ⟨f, rfl⟩ : ∃ g, f = g + 1 := ⟨f - 1, by omega⟩
    obtain ⟨k1, hi, hop, h3⟩ := hA.kind
    unfold f_Parser_parse_L51
    rw [if_neg (nleL 8192 (by omega))]
    rcases startsBlock_eq p with ⟨e, hk, es⟩ | ⟨n1, n2, n3, es⟩
    · rw [es, ob_some, if_neg (show ¬ (1 : Int32) = 0 by decide)]
      obtain ⟨r1, e1, o1⟩ := blockHead_ace (ar := ar) h (by omega) (by decide) hk hA
      rw [e1, ob_some]
      obtain ⟨ce, ec, hce, n4, n5⟩ := endOfBlock_eq hk
      rw [ec]
      obtain ⟨r2, e2, o2⟩ := o1.seqP (r := f_Parser_sections r1.2.1 (Jn m, ar, kd, pl, vl) r1.2.2 r1.1) (pr := fun q => q.1) (c' := 1) (F' := 20) (W' := fun q i' s' => 0 < i' ∧ ∃ B', r1.1 = Jn B'.2.1 ∧ CL B B' ∧ ACE m kd pl vl Ls B' 0 (102 :: e :: 101 :: [100]) (b - 3) q.1 q.2 i' s') (fun i2 s2 hi2 hpos hw => by
        obtain ⟨B', w1, w2, E, hE, w3⟩ := hw
        obtain ⟨q, x1, x2⟩ := sections_acc (ar := ar) h (by simp only [List.length_cons, List.length_nil]; omega) (by omega) w3
        rw [w1]
        exact ⟨q, x1, (x2.ace hE).mono (Int.le_refl _) (Int.le_refl _) (fun i' _ hi' z => ⟨by omega, B', rfl, w2, z⟩)⟩) (fun i td hd => ⟨_, dm_sections hd _ _ _, hd⟩)
      rw [e2, ob_some]
      -- the body, then the end of the block
      have fin : ∀ (q : S_Parser × S_Tree), OK C mX m kd pl vl s i (-54) 65 q.1 (fun i' s' => ∃ B', CL B B' ∧ ACE m kd pl vl Ls B' 0 (e :: 101 :: [100]) (b - 2) q.1 q.2 i' s') → ∃ r, ((f_Parser_take q.1 (Jn m, ar, kd, pl, vl) ce).bind fun r1618 => nm (Jn tn + 1) fun x => f_Parser_parse_L51 (Jn B.2.1) (Jn m, ar, kd, pl, vl) f x r1618 q.2) = some r ∧ OK C mX m kd pl vl s i 0 66 r.1 (fun i' s' => ACE m kd pl vl Ls B 0 [100] b r.1 r.2 i' s' ∧ ¬ r.1.2.1 = 256 ∧ ¬ r.1.2.1 = 258 ∧ ¬ r.1.2.1 = 260) := by
        intro q o3
        obtain ⟨p4, e4, o4⟩ := o3.seq (r := f_Parser_take q.1 (Jn m, ar, kd, pl, vl) ce) (pr := fun z => z) (c' := -28) (F' := 1) (W' := fun z i' s' => ACE m kd pl vl Ls B 0 [100] (b - 4) z q.2 i' s') (fun i2 s2 _ hw => by
          obtain ⟨B', w2, w3⟩ := hw
          obtain ⟨z, x1, x2⟩ := pass_ace (ar := ar) h hce n4 w3
          obtain ⟨z2, y1, y2⟩ := x2.seq (r := some z) (pr := fun z => z) (c' := 1) (F' := 0) (W' := fun z => ACE m kd pl vl Ls B 0 [100] (b - 4) z q.2) (fun i s _ hw => ⟨_, rfl, (up_ace h w2 hw).mono (Int.le_refl _) (Int.le_refl _) (fun _ _ _ z => z.mono (by omega))⟩) (fun i td hd => ⟨_, rfl, hd⟩)
          injection y1 with y1
          subst y1
          exact ⟨z, x1, y2.mono (by omega) (by omega) (fun _ _ _ z => z)⟩) (fun i td hd => dm_take hd _ ce n5)
        rw [e4, ob_some, nm_eq, addL tn 1]
        obtain ⟨r5, e5, o5⟩ := o4.seqP (fun i' s' hi' hpos hw => ih f (tn + 1) _ _ i' s' _ (by omega) (by omega) (by omega) (by omega) hw) (fun i' td hd' => by
          obtain ⟨g2, rfl⟩ : ∃ g2, f = g2 + 1 := ⟨f - 1, by omega⟩
          exact ⟨_, dm_L51 hd' _ _ _ _ _, hd'⟩)
        exact ⟨r5, e5, o5.mono (by omega) (by omega) (fun _ _ _ z => ⟨z.1.mono (by omega), z.2⟩)⟩
      by_cases c : r2.1.2.1 = 293
      · rw [if_pos c]
        obtain ⟨r3, e3, o3⟩ := o2.seq (r := f_Parser_ladder r2.1 (Jn m, ar, kd, pl, vl) r2.2 r1.1) (pr := fun q => q.1) (c' := -20) (F' := 35) (W' := fun q i' s' => ∃ B', CL B B' ∧ ACE m kd pl vl Ls B' 0 (e :: 101 :: [100]) (b - 2) q.1 q.2 i' s') (fun i2 s2 _ hw => by
          obtain ⟨_, B', w1, w2, E, hE, w3⟩ := hw
          obtain ⟨q, x1, x2⟩ := ladder_acc (ar := ar) h (by omega) (by simp only [List.length_cons, List.length_nil]; omega) c w3
          rw [w1]
          exact ⟨q, x1, (x2.ace hE).mono (Int.le_refl _) (Int.le_refl _) (fun i' _ hi' z => ⟨B', w2, z.mono (by omega)⟩)⟩) (fun i td hd => absurd c (hd.ne 293 (by decide) (by decide)))
        rw [e3, ob_some, ob_some]
        exact fin r3 (o3.mono (by omega) (by omega) (fun _ _ _ z => z))
      · rw [if_neg c]
        obtain ⟨r3, e3, o3⟩ := o2.seq (r := f_Parser_body r2.1 (Jn m, ar, kd, pl, vl) r2.2 r1.1) (pr := fun q => q.1) (c' := 3) (F' := 63) (W' := fun q i' s' => ∃ B', CL B B' ∧ ACE m kd pl vl Ls B' 0 (e :: 101 :: [100]) (b - 2) q.1 q.2 i' s') (fun i2 s2 _ hw => by
          obtain ⟨w0, B', w1, w2, w3⟩ := hw
          obtain ⟨q, x1, x2⟩ := blockBody_ace (ar := ar) h (w2.1.trans hB0) (by omega) (by simp only [List.length_cons, List.length_nil]; omega) w0 c w3
          rw [w1]
          exact ⟨q, x1, x2.mono (Int.le_refl _) (Int.le_refl _) (fun i' _ hi' z => ⟨B', w2, z.mono (by omega)⟩)⟩) (fun i td hd => dm_body hd _ _ _ 65)
        rw [e3, ob_some, ob_some]
        exact fin r3 (o3.mono (by omega) (by omega) (fun _ _ _ z => z))
    · rw [es, ob_some, if_pos rfl]
      exact ⟨_, rfl, (OK.ret ⟨hA, n1, n2, n3⟩).mono (by omega) (Int.le_refl 66) (fun _ _ _ z => z)⟩
end
end
section
/-! The whole parser. -/
abbrev pFau (p : S_Parser) : Int32 := p.2.2.2.2.2.2.2.2.1
abbrev pFPl (p : S_Parser) : Int32 := p.2.2.2.2.2.2.2.2.2
/-- both sides' trees, when all is read -/
def TREE (t : S_Tree) (T : S_MT) : Prop := ∃ ch D, CT t ((0 :: D).map (ent T ch)) ∧ GT T (D.length + 1) ch ∧ PreI ch (ch 0) D ∧ (∀ y, y ∈ D → 1 ≤ y ∧ y < D.length + 1) ∧ dat T 0 = (0, 0, 0) ∧ par T 0 = -1
section
variable {C : S_MC} {mX : S_MX} {m : Nat} {ar : Int32} {kd pl vl : Nat → Int32} {Ls : Nat → S_ML × S_MN}
theorem tok_in {i : Nat} (hi : i < m) (hm : m ≤ 8193) : f_Tokens_kind (Jn m, ar, kd, pl, vl) (Jn i) = some (kd i) ∧ f_Tokens_place (Jn m, ar, kd, pl, vl) (Jn i) = some (pl i) ∧ f_Tokens_value (Jn m, ar, kd, pl, vl) (Jn i) = some (vl i) := by
  unfold f_Tokens_kind f_Tokens_place f_Tokens_value
  dsimp only
  simp only [if_neg (J_nneg (a := i)), if_neg (J_nle hi), if_neg (nleL 8193 (show i < 8193 by omega)), gd_Jn (show i < 8193 by omega) (show 8193 < 2147483648 by omega), Jn_cl (show i < 2147483648 by omega)]
  exact ⟨trivial, trivial, trivial⟩
theorem tok_out (hm : m ≤ 8193) : f_Tokens_kind (Jn m, ar, kd, pl, vl) (Jn m) = some 6 ∧ f_Tokens_place (Jn m, ar, kd, pl, vl) (Jn m) = some (-1) := by
  unfold f_Tokens_kind f_Tokens_place
  dsimp only
  rw [if_neg J_nneg, if_pos (Int32.le_refl _), if_neg J_nneg, if_pos (Int32.le_refl _)]
  exact ⟨rfl, rfl⟩
theorem tellD {p : S_Parser} {i : Nat} {td : Int32} (hm : m ≤ 8193) (hi : i < m) (h6 : kd i ≠ 6) (hp : PD p i td) : ∃ p', ((f_Parser_take p (Jn m, ar, kd, pl, vl) 4).bind fun r5 => f_Parser_tellFault r5 (Jn m, ar, kd, pl, vl)) = some p' ∧ (pFau p', pFPl p') = (tfl kd vl i td, pl i) := by
  obtain ⟨q, e, hq⟩ := dm_take hp (Jn m, ar, kd, pl, vl) 4 (by decide)
  rw [e, ob_some]
  obtain ⟨a1, a2, a3⟩ := tok_in (ar := ar) (kd := kd) (pl := pl) (vl := vl) hi hm
  unfold f_Parser_tellFault
  rw [hq.1, a1, ob_some, if_neg h6, a2, a3]
  unfold tfl
  by_cases c : kd i = 5
  · rw [if_pos c, if_pos c]
    exact ⟨_, rfl, rfl⟩
  · rw [if_neg c, if_neg c, hq.2.2]
    by_cases d : td = 0
    · rw [if_pos d, if_pos d]
      exact ⟨_, rfl, rfl⟩
    · rw [if_neg d, if_neg d]
      exact ⟨_, rfl, rfl⟩
theorem rd_stop {s : MSt} (h : ¬ s.1.2.2.2.2.2.1 = 0) (n : Nat) : rd C mX (n + 1) s = some s := by
  unfold rd f_Model_read_L98
  rw [if_neg h]
theorem rd_end {s : MSt} (h : s.1.2.2.2.2.2.1 = 0) (h0 : s.2.2.2.1.1 = 0) (n : Nat) : rd C mX (n + 1) s = some s := by
  unfold rd f_Model_read_L98
  rw [if_pos h, h0, if_pos (by decide)]
theorem tell_fin {p : S_Parser} {i : Nat} {N : S_MN} {T : S_MT} {U : S_MU} {O : S_MO} {E : S_ME} (hm : m ≤ 8193) (hs : SP m kd pl vl p i 0 0) (ht : TOK kd pl vl i (Ls i).1) (h4 : kd i = 4 → i + 1 = m) (hU : Stk 4000 U.1 U.2 [100]) (n1 : ¬ p.2.1 = 256) (n2 : ¬ p.2.1 = 258) (n3 : ¬ p.2.1 = 260) :
    ∃ p' s', ((f_Parser_take p (Jn m, ar, kd, pl, vl) 4).bind fun r5 => f_Parser_tellFault r5 (Jn m, ar, kd, pl, vl)) = some p' ∧ (∀ n, rd C mX (n + 1 + 1) ((Ls i).1, N, T, U, O, E) = some s') ∧ s'.1.2.2.2.2.2 = (pFau p', pFPl p') ∧ (pFau p' = 0 → kd i = 4 ∧ s'.2.1 = N ∧ s'.2.2.1 = T) := by
  obtain ⟨hi, h5, pb, fq, ep, hpb⟩ := id hs
  rcases ht with ⟨a, _⟩ | ⟨_, k1, k2, k3, k4, k5⟩
  · exact absurd a h5
  have q83 := KM_iff k1 (show ((4 : Int32), (83 : Int32)) ∈ KMT by decide)
  have q0 := KM_iff k1 (show ((256 : Int32), (0 : Int32)) ∈ KMT by decide)
  have q2 := KM_iff k1 (show ((258 : Int32), (2 : Int32)) ∈ KMT by decide)
  have q4 := KM_iff k1 (show ((260 : Int32), (4 : Int32)) ∈ KMT by decide)
  have n6 := KM_n6 k1
  have kk := hs.kind.1
  have hz : (Ls i).1.2.2.2.2.2.1 = 0 := by rw [k3]
  rw [kk] at n1 n2 n3
  rw [q0] at n1
  rw [q2] at n2
  rw [q4] at n3
  by_cases c4 : kd i = 4
  · have em := h4 c4
    have e1 : f_Parser_take p (Jn m, ar, kd, pl, vl) 4 = some (Jn m, 6, (-1), 0, p.2.2.1, p.2.2.2.2.2) := by
      unfold f_Parser_take
      rw [if_pos (by rw [kk]; exact c4), if_neg (by rw [kk]; exact n6), ep]
      dsimp only
      rw [addL i 1, em, if_neg J_nneg, if_pos (Int32.le_refl _)]
    obtain ⟨a1, a2⟩ := tok_out (ar := ar) (kd := kd) (pl := pl) (vl := vl) hm
    rw [e1, ob_some]
    unfold f_Parser_tellFault
    rw [a1, ob_some, if_pos rfl, a2, ob_some]
    have et : (Ls i).1.2.1 = 83 := by rw [← q83]; exact c4
    have r1 : RUN C mX 1 ((Ls i).1, N, T, U, O, E) ((Ls i).1, N, T, (Jn ([] : List Int32).length, U.2), O, E) := RUN.one hz hU (act_100 (r2 := ((Ls i).1, N, T, (Jn ([] : List Int32).length, U.2))) (by
      unfold f_Model_blocks
      rw [if_neg n1, if_neg n2, if_neg n3, if_pos et]))
    refine ⟨_, ((Ls i).1, N, T, (Jn ([] : List Int32).length, U.2), O, E), rfl, fun n => ?_, ?_, fun _ => ⟨c4, rfl, rfl⟩⟩
    · rw [r1]; exact rd_end hz rfl n
    · dsimp only
      rw [k3]
  · have e1 := take_miss (tk := (Jn m, ar, kd, pl, vl)) (show ¬ p.2.1 = 4 by rw [kk]; exact c4)
    have hp : PD (p.1, 6, p.2.2) i 0 := by rw [ep]; exact ⟨rfl, Or.inr rfl, rfl⟩
    obtain ⟨p', x1, x2⟩ := tellD (ar := ar) (kd := kd) (pl := pl) (vl := vl) hm hi n6 hp
    have e2 : f_Parser_take (p.1, 6, p.2.2) (Jn m, ar, kd, pl, vl) 4 = some (p.1, 6, p.2.2) := take_miss (show ¬ (6 : Int32) = 4 by decide)
    rw [e2, ob_some] at x1
    rw [e1, ob_some]
    have hw : f_Model_wrong (Ls i).1 = some ((Ls i).1.1, (Ls i).1.2.1, (Ls i).1.2.2.1, (Ls i).1.2.2.2.1, (Ls i).1.2.2.2.2.1, 6, pl i) := by
      unfold f_Model_wrong f_Model_fail
      rw [hz, k2]; rfl
    have tf : tfl kd vl i 0 = 6 := by
      unfold tfl
      rw [if_neg h5, if_pos rfl]
    have r1 : RUN C mX 1 ((Ls i).1, N, T, U, O, E) (((Ls i).1.1, (Ls i).1.2.1, (Ls i).1.2.2.1, (Ls i).1.2.2.2.1, (Ls i).1.2.2.2.2.1, 6, pl i), N, T, (Jn ([] : List Int32).length, U.2), O, E) := RUN.one hz hU (act_100 (r2 := (((Ls i).1.1, (Ls i).1.2.1, (Ls i).1.2.2.1, (Ls i).1.2.2.2.1, (Ls i).1.2.2.2.2.1, 6, pl i), N, T, (Jn ([] : List Int32).length, U.2))) (by
      unfold f_Model_blocks
      rw [if_neg n1, if_neg n2, if_neg n3, if_neg (by rw [← q83]; exact c4), hw]; rfl))
    rw [tf] at x2
    refine ⟨p', _, x1, fun n => by rw [r1]; exact rd_stop (show ¬ (6 : Int32) = 0 by decide) n, by rw [x2], fun h0 => ?_⟩
    have : pFau p' = 6 := congrArg Prod.fst x2
    rw [this] at h0
    exact absurd h0 (by decide)
theorem parse_ok (hst : ∀ i, i + 1 < m → f_Model_step C mX (Ls i).1 (Ls i).2 = some (Ls (i + 1))) (htok : ∀ i, i < m → TOK kd pl vl i (Ls i).1) (hne : ∀ i, i + 1 < m → kd i ≠ 4 ∧ kd i ≠ 5) (hend : kd (m - 1) = 4 ∨ kd (m - 1) = 5) (hm1 : 1 ≤ m) (hm2 : m ≤ 8193) (hblk : (kd 0 = 256 ∨ kd 0 = 258 ∨ kd 0 = 260) → m ≤ 8187) (p0 : S_Parser) (t0 : S_Tree) (T0 : S_MT) (U0 : S_MU) (O0 : S_MO) (E0 : S_ME) :
    ∃ p' t' T1 U1 s', f_Parser_parse p0 (Jn m, ar, kd, pl, vl) t0 = some (p', t') ∧ f_Model_make (0, T0.2) 0 0 0 = some (0, T1) ∧ f_Model_push (0, U0.2) 100 = some U1 ∧ f_Model_read_L98 C mX FU (Ls 0).1 (Ls 0).2 (T1.1, 0, T1.2.2) U1 (0, 0, 0, O0.2.2.2) (0, 0, 0, E0.2.2.2) = some s' ∧ s'.1.2.2.2.2.2 = (pFau p', pFPl p') ∧ (pFau p' = 0 → kd (m - 1) = 4 ∧ s'.2.1 = (Ls (m - 1)).2 ∧ TREE t' s'.2.2.1 ∧ LX C mX m kd pl vl Ls ∧ ∃ pb fq t1 r3, f_Parser_parse_L51 0 (Jn m, ar, kd, pl, vl) FU 0 (Jn 0, kd 0, pl 0, vl 0, pb, Jn 0, Jn 0, 0, fq) t1 = some r3 ∧ CT t1 [(0, 0, 0, 0)] ∧ kd 0 ≠ 5 ∧ SP m kd pl vl r3.1 (m - 1) 0 0 ∧ r3.2 = t') := by
  have h4 : ∀ i, i < m → kd i = 4 → i + 1 = m := by
    intro i hi hk
    apply Classical.byContradiction
    intro hc
    exact (hne i (by omega)).1 hk
  have h6 : ∀ i, i < m → kd i ≠ 6 := by
    intro i hi
    rcases htok i hi with ⟨a, _⟩ | ⟨_, k1, _⟩
    · rw [a]; decide
    · exact KM_n6 k1
  -- the model's beginning
  have g0 : GT (0, T0.2) 0 (fun _ => []) := ⟨fun _ => 0, rfl, by omega, fun x hx => by omega, fun x i hx => by omega, fun y hy => by omega⟩
  obtain ⟨T1, m1, m2, m3, m4, m5, m6⟩ := make_ok g0 (by omega) 0 0 0
  have s0 : Stk 4000 (0 : Int32) U0.2 [] := ⟨rfl, by decide, fun i hi => absurd hi (Nat.not_lt_zero _)⟩
  obtain ⟨U1, u1, u2⟩ := push_ok (U := (0, U0.2)) s0 (by decide) 100
  -- the class's beginning
  have e1 : f_Parser_take ((-1), (-1), p0.2.2.1, p0.2.2.2.1, p0.2.2.2.2.1, 0, 0, 0, p0.2.2.2.2.2.2.2.2) (Jn m, ar, kd, pl, vl) (-1) = some (Jn 0, kd 0, pl 0, vl 0, p0.2.2.1, Jn 0, Jn 0, 0, p0.2.2.2.2.2.2.2.2) := by
    unfold f_Parser_take
    dsimp only
    rw [if_pos rfl, if_neg (by decide), show (-1 : Int32) + 1 = Jn 0 from rfl, if_neg (by decide), if_neg (J_nle hm1), if_neg (by decide)]
    simp only [gd_Jn (show 0 < 8193 by omega) (show 8193 < 2147483648 by omega), Jn_cl (show 0 < 2147483648 by omega), nm_eq]
    rfl
  obtain ⟨t1, r1, r2⟩ := root_ok (t := (0, t0.2)) rfl 0 0 0
  unfold f_Parser_parse
  rw [e1, ob_some]
  unfold f_Tree_forget
  rw [ob_some, r1, ob_some]
  dsimp only
  have hG : GT (T1.1, Jn 0, T1.2.2) 1 (updN (fun _ => []) 0 []) := by
    obtain ⟨rk, a1, a2, a3, a4, a5⟩ := m2
    exact ⟨rk, a1, a2, a3, a4, a5⟩
  have hTA : TA ([((0 : Int32), (0 : Int32), (0 : Int32), 0)], 0, (T1.1, Jn 0, T1.2.2), updN (fun _ => []) 0 [], 1, 0, 0) t1 (T1.1, Jn 0, T1.2.2) 1 := TA_init r2 (by decide) hG rfl (by omega) (by decide) (by omega)
  have tree : ∀ t T len, TA ([((0 : Int32), (0 : Int32), (0 : Int32), 0)], 0, (T1.1, Jn 0, T1.2.2), updN (fun _ => []) 0 [], 1, 0, 0) t T len → TREE t T := by
    intro t T len hh
    obtain ⟨ch, new, D, seg, a1, a2, a3, a4, a5, a6, a7, a8, a9, a10, a11, a12⟩ := hh
    dsimp only at *
    obtain ⟨b1, b2, b3⟩ := a6 0 (by omega)
    rw [if_pos rfl, updN_self, List.nil_append] at b1
    have hl : D.length = seg.length := by rw [← a9, List.length_map]
    have d0 : dat T 0 = (0, 0, 0) := by rw [b2]; exact m5
    refine ⟨ch, D, ?_, by rw [hl, Nat.add_comm]; exact a3, by rw [b1]; exact a7, fun y hy => ?_, d0, ?_⟩
    · rw [List.map_cons, a9]
      have : ent T ch 0 = (0, 0, 0, new.length) := by
        unfold ent
        rw [d0, b1]
      rw [this]
      have e : bump [((0 : Int32), (0 : Int32), (0 : Int32), 0)] 0 new.length ++ seg = (0, 0, 0, new.length) :: seg := by
        show inc (0, 0, 0, 0) new.length :: ([] ++ seg) = _
        unfold inc
        dsimp only
        rw [Nat.zero_add]; rfl
      rw [e] at a1
      exact a1
    · have := a8 y hy
      omega
    · rw [b3]; exact m4
  -- what comes behind the blocks
  have fin : ∀ (q : S_Parser) (tt : S_Tree) (p' : S_Parser), ((f_Parser_take q (Jn m, ar, kd, pl, vl) 4).bind fun r5 => f_Parser_tellFault r5 (Jn m, ar, kd, pl, vl)) = some p' → ((f_Parser_take q (Jn m, ar, kd, pl, vl) 4).bind fun r5 => (f_Parser_tellFault r5 (Jn m, ar, kd, pl, vl)).bind fun r6 => some (r6, tt)) = some (p', tt) := by
    intro q tt p' he
    obtain ⟨z, x1, x2⟩ := Option.bind_eq_some_iff.mp he
    rw [x1, ob_some, x2, ob_some]
  by_cases c5 : kd 0 = 5
  · -- the first token is none
    have hp : PD (Jn 0, kd 0, pl 0, vl 0, p0.2.2.1, Jn 0, Jn 0, 0, p0.2.2.2.2.2.2.2.2) 0 0 := ⟨rfl, Or.inl c5, rfl⟩
    rw [FU1, dm_L51 hp, ob_some]
    obtain ⟨p', x1, x2⟩ := tellD (ar := ar) (kd := kd) (pl := pl) (vl := vl) hm2 (show 0 < m by omega) (h6 0 (by omega)) hp
    rw [fin _ _ _ x1]
    have ht := htok 0 (by omega)
    rcases ht with ⟨_, k1, k2⟩ | ⟨a, _⟩
    · have tf : tfl kd vl 0 0 = vl 0 := by
        unfold tfl
        rw [if_pos c5]
      rw [tf] at x2
      refine ⟨p', t1, T1, U1, ((Ls 0).1, (Ls 0).2, (T1.1, 0, T1.2.2), U1, (0, 0, 0, O0.2.2.2), (0, 0, 0, E0.2.2.2)), rfl, m1, u1, rd_stop (C := C) (mX := mX) (s := ((Ls 0).1, (Ls 0).2, (T1.1, 0, T1.2.2), U1, (0, 0, 0, O0.2.2.2), (0, 0, 0, E0.2.2.2))) (by dsimp only; rw [k2]; exact k1) 999999, by rw [k2, x2], fun h0 => ?_⟩
      have : pFau p' = vl 0 := congrArg Prod.fst x2
      rw [this] at h0
      exact absurd h0 k1
    · exact absurd c5 a
  have hs0 : SP m kd pl vl (Jn 0, kd 0, pl 0, vl 0, p0.2.2.1, Jn 0, Jn 0, 0, p0.2.2.2.2.2.2.2.2) 0 0 0 := ⟨hm1, c5, _, _, rfl, fun h => by omega⟩
  by_cases cb : kd 0 = 256 ∨ kd 0 = 258 ∨ kd 0 = 260
  · have h : LX C mX m kd pl vl Ls := ⟨hst, htok, hne, hend, hm1, hblk cb⟩
    have hE : EStk ((0 : Int32), (0 : Int32), (0 : Int32), E0.2.2.2) [] [] [] := ⟨⟨rfl, by decide, fun i hi => absurd hi (Nat.not_lt_zero _)⟩, ⟨rfl, by decide, fun i hi => absurd hi (Nat.not_lt_zero _)⟩, ⟨rfl, by decide, fun i hi => absurd hi (Nat.not_lt_zero _)⟩, ⟨rfl, by decide, fun i hi => absurd hi (Nat.not_lt_zero _)⟩⟩
    have hA : ACE m kd pl vl Ls ([((0 : Int32), (0 : Int32), (0 : Int32), 0)], 0, (T1.1, Jn 0, T1.2.2), updN (fun _ => []) 0 [], 1, 0, 0) 0 [100] 1 (Jn 0, kd 0, pl 0, vl 0, p0.2.2.1, Jn 0, Jn 0, 0, p0.2.2.2.2.2.2.2.2) t1 0 ((Ls 0).1, (Ls 0).2, (T1.1, Jn 0, T1.2.2), U1, (Jn 0, 0, 0, O0.2.2.2), (0, 0, 0, E0.2.2.2)) := ⟨_, hE, hs0, by omega, by decide, _, _, _, 1, rfl, u2, hTA, by decide⟩
    obtain ⟨r3, e3, o3⟩ := blocksL_ace (ar := ar) h rfl 9000 FU 0 _ _ 0 _ 1 (by omega) (by omega) (by decide) (by omega) hA
    have e3' : f_Parser_parse_L51 0 (Jn m, ar, kd, pl, vl) FU 0 (Jn 0, kd 0, pl 0, vl 0, p0.2.2.1, Jn 0, Jn 0, 0, p0.2.2.2.2.2.2.2.2) t1 = some r3 := e3
    rw [e3', ob_some]
    rcases o3 with ⟨i, s, k, g1, g2, g3, g4, n1, n2, n3⟩ | ⟨i, td, s, k, g1, gm, g2, g3, g4, g5⟩
    · obtain ⟨E, hE', hs, hop, h3, T, U, o3, len, rfl, hU, h6', h7⟩ := g4
      have hi := hs.1
      obtain ⟨p', s', x1, x2, x3, x4⟩ := tell_fin (C := C) (mX := mX) (ar := ar) (Ls := Ls) (N := (Ls i).2) (T := T) (U := U) (O := (Jn 0, 0, 0, o3)) (E := E) hm2 hs (htok i hi) (h4 i hi) hU n1 n2 n3
      rw [fin _ _ _ x1]
      refine ⟨p', r3.2, T1, U1, s', rfl, m1, u1, ?_, x3, fun h0 => ?_⟩
      · have := g3 (1000000 - k - 2 + 1 + 1)
        rw [show 1000000 - k - 2 + 1 + 1 + k = FU from by unfold FU; omega, x2] at this
        exact this
      · obtain ⟨y1, y2, y3⟩ := x4 h0
        have := h4 i hi y1
        have em : m - 1 = i := by omega
        rw [em, y2, y3]
        exact ⟨y1, rfl, tree _ _ _ h6', h, _, _, t1, r3, e3', r2, c5, hs, rfl⟩
    · obtain ⟨p', x1, x2⟩ := tellD (ar := ar) (kd := kd) (pl := pl) (vl := vl) hm2 gm (h6 i gm) g4
      rw [fin _ _ _ x1]
      refine ⟨p', r3.2, T1, U1, s, rfl, m1, u1, ?_, by rw [g5.1, x2], fun h0 => ?_⟩
      · have := g3 (1000000 - k - 1 + 1)
        rw [show 1000000 - k - 1 + 1 + k = FU from by unfold FU; omega, rd_stop (by rw [g5.1]; exact g5.2)] at this
        exact this
      · have : pFau p' = tfl kd vl i td := congrArg Prod.fst x2
        rw [this] at h0
        exact absurd h0 g5.2
  · -- no block at all
    have hL : f_Parser_parse_L51 0 (Jn m, ar, kd, pl, vl) FU 0 (Jn 0, kd 0, pl 0, vl 0, p0.2.2.1, Jn 0, Jn 0, 0, p0.2.2.2.2.2.2.2.2) t1 = some ((Jn 0, kd 0, pl 0, vl 0, p0.2.2.1, Jn 0, Jn 0, 0, p0.2.2.2.2.2.2.2.2), t1) := by
      rw [FU1]
      unfold f_Parser_parse_L51
      rw [if_neg (by decide)]
      unfold f_Parser_startsBlock
      dsimp only
      rw [if_neg (fun e => cb (Or.inl e)), if_neg (fun e => cb (Or.inr (Or.inl e))), if_neg (fun e => cb (Or.inr (Or.inr e))), ob_some, if_pos rfl]
    rw [hL, ob_some]
    obtain ⟨p', s', x1, x2, x3, x4⟩ := tell_fin (C := C) (mX := mX) (ar := ar) (Ls := Ls) (N := (Ls 0).2) (T := (T1.1, 0, T1.2.2)) (U := U1) (O := (0, 0, 0, O0.2.2.2)) (E := (0, 0, 0, E0.2.2.2)) hm2 hs0 (htok 0 hm1) (h4 0 hm1) u2 (fun e => cb (Or.inl e)) (fun e => cb (Or.inr (Or.inl e))) (fun e => cb (Or.inr (Or.inr e)))
    rw [fin _ _ _ x1]
    refine ⟨p', t1, T1, U1, s', rfl, m1, u1, x2 999998, x3, fun h0 => ?_⟩
    obtain ⟨y1, y2, y3⟩ := x4 h0
    have := h4 0 hm1 y1
    have em : m - 1 = 0 := by omega
    rw [em, y2, y3]
    exact ⟨y1, rfl, tree _ _ _ hTA, ⟨hst, htok, hne, hend, hm1, by omega⟩, _, _, t1, _, hL, r2, c5, hs0, rfl⟩
end
end
