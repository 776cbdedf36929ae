section
/-! The reference's writer: tokens become bytes. -/
theorem mput {o : S_MV} {acc : List Int32} (h : WRc o acc) (hl : acc.length < 16384) (c : Int32) : ∃ o', f_Model_put o c = some o' ∧ WRc o' (acc ++ [c]) := by
  unfold f_Model_put
  rw [h.1, gd_Jn (by omega) (by omega), addL _ 1, Jn_cl (by omega)]
  exact ⟨_, rfl, by rw [List.length_append, List.length_singleton], by rw [List.length_append, List.length_singleton]; omega, h.2.2.snoc c⟩
theorem isOf (x : Int32) : f_Model_isOfName x = some (if zNm x then 1 else 0) := by
  unfold f_Model_isOfName
  by_cases c : zLt x
  · rw [(isLt_M x).1 c, ob_some, if_neg (show ¬ (1 : Int32) = 0 by decide), if_pos (show zNm x from Or.inl c)]
  · rw [(isLt_M x).2 c, ob_some, if_pos rfl, isDg_M]
    by_cases d : zDg x
    · rw [(isDg_C x).1 d, ob_some, if_neg (show ¬ (1 : Int32) = 0 by decide), if_pos (show zNm x from Or.inr d)]
    · rw [(isDg_C x).2 d, ob_some, if_pos rfl, if_neg (show ¬ zNm x from fun y => y.elim c d)]
theorem mpart {o : S_MV} {acc : List Int32} {x : Int32} (hx : zNm x) (h : WRc o acc) (hl : (acc ++ (if nlB acc then [(32 : Int32)] else [])).length ≤ 16384) : ∃ o', f_Model_part o x = some o' ∧ WRc o' (acc ++ (if nlB acc then [(32 : Int32)] else [])) := by
  unfold f_Model_part
  have h3 := h.2.1
  by_cases c0 : acc = []
  · subst c0
    have hn : ¬ nlB ([] : List Int32) := by unfold nlB; decide
    rw [if_neg hn, List.append_nil]
    rw [h.1, if_pos (by decide)]
    exact ⟨o, rfl, h⟩
  · have hp : 0 < acc.length := List.length_pos_iff.mpr c0
    have e0 : o.1 = Jn acc.length := h.1
    rw [e0, if_neg (nleR 0 hp), isOf, if_pos hx, ob_some, if_neg (show ¬ (1 : Int32) = 0 by decide), subL 1 hp, gd_Jn (by omega) (by omega), Jn_cl (by omega), h.2.2 _ (by omega), ← last_eq c0, isOf]
    by_cases c : nlB acc
    · rw [if_pos c] at hl
      rw [List.length_append, List.length_singleton] at hl
      rw [if_pos (show zNm (acc.getLast?.getD 0) from c), ob_some, if_neg (show ¬ (1 : Int32) = 0 by decide), if_pos c]
      obtain ⟨o', a1, a2⟩ := mput h (by omega) 32
      exact ⟨o', by rw [a1]; rfl, a2⟩
    · rw [if_neg (show ¬ zNm (acc.getLast?.getD 0) from c), ob_some, if_pos rfl, if_neg c, List.append_nil]
      exact ⟨o, rfl, h⟩
/-- letters of a row, up to its end -/
theorem mwordL {C : S_MC} (hC : MC C) {w : Nat} (hw : w < 41) : ∀ (d k f : Nat) (o : S_MV) (acc : List Int32), (WS.getD w []).length - k < d → d ≤ f → k ≤ (WS.getD w []).length → WRc o acc → acc.length + ((WS.getD w []).length - k) ≤ 16384 → ∃ o', f_Model_putToken_L19 C f (Jn (offs WS w + w + k)) o = some o' ∧ WRc o' (acc ++ (WS.getD w []).drop k) := by
  obtain ⟨c1, c2, c3, c4, c5⟩ := hC
  have hb := offs_lt WS w (by rw [WS_len]; exact hw)
  rw [WS_flat] at hb
  intro d
  induction d with
  | zero => intro k f o acc h1; omega
  | succ d ih =>
    intro k f o acc h1 h2 h3 hW hl
    obtain ⟨f, rfl⟩ : ∃ g, f = g + 1 := ⟨f - 1, by omega⟩
    rw [f_Model_putToken_L19, gd_Jn (by omega) (by omega), Jn_cl (by omega)]
    by_cases c : k < (WS.getD w []).length
    · rw [c2 w hw k c, if_neg (WS_nz w hw k c), gd_Jn (by omega) (by omega)]
      obtain ⟨o1, a1, a2⟩ := mput hW (by omega) ((WS.getD w []).getD k 0)
      rw [a1, ob_some, nm_eq, addL _ 1]
      obtain ⟨o2, b1, b2⟩ := ih (k + 1) f o1 _ (by omega) (by omega) (by omega) a2 (by rw [List.length_append, List.length_singleton]; omega)
      refine ⟨o2, b1, ?_⟩
      have e : (WS.getD w []).drop k = (WS.getD w []).getD k 0 :: (WS.getD w []).drop (k + 1) := by
        rw [List.drop_eq_getElem_cons c, List.getD_eq_getElem?_getD (l := WS.getD w []) (i := k), List.getElem?_eq_getElem c]; rfl
      rw [e]
      rw [List.append_assoc] at b2
      exact b2
    · have ek : k = (WS.getD w []).length := by omega
      rw [ek, c3 w hw, if_pos rfl, List.drop_eq_nil_of_le (Nat.le_refl _), List.append_nil]
      exact ⟨o, rfl, hW⟩
theorem mword {C : S_MC} {ns : List (List Int32)} (hC : MC C) {w : Nat} (hw : w < 41) : EMc ns (fun o => f_Model_putToken C o (Jn w)) [(Jn (256 + w), 0)] := by
  intro o acc hW hl
  have hwk : wordK (Jn (256 + w)) := ⟨ltL 255 (by omega), ltR 297 (by omega)⟩
  have hr : ren ns acc [(Jn (256 + w), 0)] = acc ++ (if nlB acc then [(32 : Int32)] else []) ++ WS.getD w [] := by
    rw [ren_one]
    unfold ren1 tkB
    dsimp only
    have hp : prt (Jn (256 + w)) := Or.inr (Or.inr hwk)
    rw [if_neg (neR 1 (by omega)), if_neg (neR 2 (by omega)), if_neg (neR 3 (by omega)), if_pos hwk, subL 256 (by omega), Jn_cl (by omega), show 256 + w - 256 = w by omega]
    by_cases c : nlB acc
    · rw [if_pos ⟨hp, c⟩, if_pos c]
    · rw [if_neg (fun x => c x.2), if_neg c]
  rw [hr] at hl ⊢
  rw [List.length_append] at hl
  obtain ⟨o1, a1, a2⟩ := mpart (x := 65) (by decide) hW (by omega)
  have h18 := (WS_len32 w hw).2
  obtain ⟨o2, b1, b2⟩ := mwordL hC hw 33 0 FU o1 _ (by omega) (by decide) (Nat.zero_le _) a2 (by omega)
  rw [List.drop_zero] at b2
  rw [Nat.add_zero] at b1
  refine ⟨o2, ?_, b2⟩
  show f_Model_putToken C o (Jn w) = _
  unfold f_Model_putToken
  rw [if_neg (nleL 41 (by omega)), a1, ob_some, gd_Jn (by omega) (by omega), Jn_cl (by omega), hC.1 w (by omega), b1]
  rfl
/-- signs -/
def sgm (T : Nat) : Int32 := if SG.getD (2 * (T - 50) + 1) 0 = 0 then SG.getD (2 * (T - 50)) 0 else Jn ((SG.getD (2 * (T - 50)) 0).toNatClampNeg * 256 + (SG.getD (2 * (T - 50) + 1) 0).toNatClampNeg)
theorem msign {C : S_MC} {ns : List (List Int32)} (hC : MC C) {T : Nat} (h1 : 50 ≤ T) (h2 : T < 72) : EMc ns (fun o => f_Model_putToken C o (Jn T)) [(sgm T, 0)] := by
  intro o acc hW hl
  have key : ∀ j : Fin 22, ¬ prt (sgm (50 + j.1)) ∧ tkB [] (sgm (50 + j.1), 0) = (if SG.getD (2 * j.1 + 1) 0 = 0 then [SG.getD (2 * j.1) 0] else [SG.getD (2 * j.1) 0, SG.getD (2 * j.1 + 1) 0]) ∧ sgm (50 + j.1) ≠ 1 := by decide +kernel
  obtain ⟨k1, k2, k3⟩ := key ⟨T - 50, by omega⟩
  dsimp only at k1 k2 k3
  rw [show 50 + (T - 50) = T by omega] at k1 k2 k3
  have k2' : tkB ns (sgm T, 0) = tkB [] (sgm T, 0) := by
    unfold tkB
    rw [if_neg k3, if_neg k3]
  have hr : ren ns acc [(sgm T, 0)] = acc ++ (if SG.getD (2 * (T - 50) + 1) 0 = 0 then [SG.getD (2 * (T - 50)) 0] else [SG.getD (2 * (T - 50)) 0, SG.getD (2 * (T - 50) + 1) 0]) := by
    rw [ren_one]
    unfold ren1
    rw [if_neg (fun x => k1 x.1), k2', k2, List.append_nil]
  rw [hr] at hl ⊢
  show ∃ o', f_Model_putToken C o (Jn T) = some o' ∧ _
  unfold f_Model_putToken
  have hS : SG.length = 44 := rfl
  have e2 : (2 : Int32) * (Jn T - 50) = Jn (2 * (T - 50)) := by rw [subL 50 h1]; exact Jn_mul 2 _
  rw [if_pos (leL 41 (by omega)), e2, gd_Jn (by omega) (by omega), Jn_cl (by omega), hC.2.2.2.1 _ (by rw [hS]; omega), addL _ 1]
  simp only [gd_Jn (a := 2 * (T - 50) + 1) (n := 44) (by omega) (by omega), Jn_cl (a := 2 * (T - 50) + 1) (by omega), hC.2.2.2.1 (2 * (T - 50) + 1) (by rw [hS]; omega)]
  by_cases c : SG.getD (2 * (T - 50) + 1) 0 = 0
  · rw [if_pos c] at hl ⊢
    rw [List.length_append, List.length_singleton] at hl
    obtain ⟨o1, a1, a2⟩ := mput hW (by omega) (SG.getD (2 * (T - 50)) 0)
    exact ⟨o1, by rw [a1, ob_some, if_pos c], a2⟩
  · rw [if_neg c] at hl ⊢
    rw [List.length_append, List.length_cons, List.length_singleton] at hl
    obtain ⟨o1, a1, a2⟩ := mput hW (by omega) (SG.getD (2 * (T - 50)) 0)
    obtain ⟨o2, b1, b2⟩ := mput a2 (by rw [List.length_append, List.length_singleton]; omega) (SG.getD (2 * (T - 50) + 1) 0)
    rw [List.append_assoc] at b2
    refine ⟨o2, ?_, b2⟩
    rw [a1, ob_some, if_neg c, b1]
    rfl
/-- names -/
theorem mnameL {N : S_MN} {ns : List (List Int32)} (hN : MN N ns) {i : Nat} (hi : i < ns.length) : ∀ (d k f : Nat) (o : S_MV) (acc : List Int32), (ns.getD i []).length - k < d → d ≤ f → k ≤ (ns.getD i []).length → WRc o acc → acc.length + ((ns.getD i []).length - k) ≤ 16384 → ∃ o', f_Model_putName_L13 (Jn i) N f (Jn (offs ns i + k)) o = some o' ∧ WRc o' (acc ++ (ns.getD i []).drop k) := by
  obtain ⟨n1, n2, n3, n4, n5⟩ := hN
  have hb := offs_lt ns i hi
  have hs := offs_succ ns i hi
  intro d
  induction d with
  | zero => intro k f o acc h1; omega
  | succ d ih =>
    intro k f o acc h1 h2 h3 hW hl
    obtain ⟨f, rfl⟩ : ∃ g, f = g + 1 := ⟨f - 1, by omega⟩
    rw [f_Model_putName_L13, addL i 1, gd_Jn (by omega) (by omega), Jn_cl (by omega), n4 (i + 1) (by omega), hs]
    by_cases c : k < (ns.getD i []).length
    · rw [if_neg (J_nle (by omega) (by omega)), gd_Jn (by omega) (by omega), Jn_cl (by omega), Arr.name (f := N.2.2) (m := []) (by rw [List.append_nil]; exact n5) hi c]
      obtain ⟨o1, a1, a2⟩ := mput hW (by omega) ((ns.getD i []).getD k 0)
      rw [a1, ob_some, nm_eq, addL _ 1]
      obtain ⟨o2, b1, b2⟩ := ih (k + 1) f o1 _ (by omega) (by omega) (by omega) a2 (by rw [List.length_append, List.length_singleton]; omega)
      refine ⟨o2, b1, ?_⟩
      have e : (ns.getD i []).drop k = (ns.getD i []).getD k 0 :: (ns.getD i []).drop (k + 1) := by
        rw [List.drop_eq_getElem_cons c, List.getD_eq_getElem?_getD (l := ns.getD i []) (i := k), List.getElem?_eq_getElem c]; rfl
      rw [e]
      rw [List.append_assoc] at b2
      exact b2
    · rw [if_pos (J_le (by omega) (by omega)), List.drop_eq_nil_of_le (by omega), List.append_nil]
      exact ⟨o, rfl, hW⟩
theorem mname {N : S_MN} {ns : List (List Int32)} (hN : MN N ns) {i : Nat} (hi : i < ns.length) : EMc ns (fun o => f_Model_putName N o (Jn i)) [(1, Jn i)] := by
  intro o acc hW hl
  have hb := offs_lt ns i hi
  have h2 := hN.2.1
  have h3 := hN.2.2.1
  have hr : ren ns acc [(1, Jn i)] = acc ++ (if nlB acc then [(32 : Int32)] else []) ++ ns.getD i [] := by
    rw [ren_one]
    unfold ren1 tkB
    dsimp only
    have hp : prt 1 := Or.inl rfl
    rw [if_pos rfl, Jn_cl (by omega)]
    by_cases c : nlB acc
    · rw [if_pos ⟨hp, c⟩, if_pos c]
    · rw [if_neg (fun x => c x.2), if_neg c]
  rw [hr] at hl ⊢
  rw [List.length_append] at hl
  obtain ⟨o1, a1, a2⟩ := mpart (x := 65) (by decide) hW (by omega)
  obtain ⟨o2, b1, b2⟩ := mnameL hN hi 8193 0 FU o1 _ (by omega) (by decide) (Nat.zero_le _) a2 (by omega)
  rw [List.drop_zero] at b2
  rw [Nat.add_zero] at b1
  refine ⟨o2, ?_, b2⟩
  show f_Model_putName N o (Jn i) = _
  unfold f_Model_putName
  rw [a1, ob_some, gd_Jn (by omega) (by omega), Jn_cl (by omega), hN.2.2.2.1 i (by omega), b1]
  rfl
/-- numbers -/
theorem Lj_div {a b : Nat} (ha : a < 9223372036854775808) (hb : b < 9223372036854775808) : Lj a / Lj b = Lj (a / b) := by
  apply Int64.toInt_inj.mp
  have hd : a / b ≤ a := Nat.div_le_self a b
  have hd0 : (0 : Int) ≤ (a : Int) / (b : Int) := Int.ediv_nonneg (by omega) (by omega)
  rw [Int64.toInt_div, Lj_int ha, Lj_int hb, Lj_int (by omega), ← Int.ofNat_tdiv, Int.bmod_eq_of_le] <;> omega
theorem Lj_sub {a b : Nat} (h : b ≤ a) : Lj a - Lj b = Lj (a - b) := by
  unfold Lj
  rw [Int64.ofNat_sub _ _ h]
theorem mnum25 {a : Nat} (ha : a < 2147483648) : ∀ (d j f : Nat), ndig a - j ≤ d → d < f → j < ndig a → f_Model_putNumber_L25 (Lj a) f (Lj (10 ^ j)) = some (Lj (10 ^ (ndig a - 1))) := by
  intro d
  induction d with
  | zero => intro j f h1 h2 h3; omega
  | succ d ih =>
    intro j f h1 h2 h3
    have h10 := ndig_10 a
    have hp := pow_b (k := j) (by omega)
    obtain ⟨f, rfl⟩ : ∃ g, f = g + 1 := ⟨f - 1, by omega⟩
    rw [f_Model_putNumber_L25]
    unfold dzl
    have hz : ¬ Lj (10 ^ j) = 0 := by
      intro h
      have := congrArg Int64.toInt h
      rw [Lj_int (by omega)] at this
      have e0 : (0 : Int64).toInt = 0 := by decide
      rw [e0] at this
      omega
    have hd : a / 10 ^ j ≤ a := Nat.div_le_self _ _
    have e9 : (9 : Int64).toInt = 9 := by decide
    have hcmp : (lg_cmp (Lj a / Lj (10 ^ j)) 9 ≤ 0) = ((a / 10 ^ j : Nat) ≤ (9 : Int)) := by rw [lg_le0, Lj_div (by omega) (by omega), Lj_int (by omega), e9]
    rw [if_neg hz]
    by_cases c : j + 1 = ndig a
    · have hlt : a < 10 ^ (j + 1) := by
        apply Classical.byContradiction
        intro hc
        by_cases c9 : j + 1 ≤ 9
        · have := ndig_gt (a := a) c9 (by omega)
          omega
        · have : j + 1 = 10 := by omega
          rw [this] at hc
          omega
      have : a / 10 ^ j < 10 := by
        apply Nat.div_lt_of_lt_mul
        rw [← Nat.pow_succ]; exact hlt
      rw [if_pos (by rw [hcmp]; omega), show ndig a - 1 = j by omega]
    · have hge : 10 ^ (j + 1) ≤ a := by
        apply Classical.byContradiction
        intro hc
        have := ndig_le (a := a) (j := j + 1) (by omega) (by omega)
        omega
      have : 10 ≤ a / 10 ^ j := by
        rw [Nat.le_div_iff_mul_le hp.2]
        rw [Nat.pow_succ] at hge
        omega
      rw [if_neg (by rw [hcmp]; omega), show (10 : Int64) = Lj 10 from rfl, Lj_mul, ← Nat.pow_succ]
      exact ih (j + 1) f (by omega) (by omega) (by omega)
theorem mnum47 {a : Nat} (ha : a < 2147483648) : ∀ (k f : Nat) (o : S_MV) (acc : List Int32), k ≤ 9 → k + 1 < f → WRc o acc → acc.length + (k + 1) ≤ 16384 → ∃ o', f_Model_putNumber_L47 (Lj a) f (Lj (10 ^ k)) o = some o' ∧ WRc o' (acc ++ dgs (k + 1) a)
  | k, 0, o, acc, hk, hf, hW, hl => by omega
  | k, f + 1, o, acc, hk, hf, hW, hl => by
    have hp := pow_b hk
    have hz : ¬ Lj (10 ^ k) = 0 := by
      intro h
      have := congrArg Int64.toInt h
      rw [Lj_int (by omega)] at this
      have e0 : (0 : Int64).toInt = 0 := by decide
      rw [e0] at this
      omega
    have e0 : (0 : Int64).toInt = 0 := by decide
    have hd : a / 10 ^ k ≤ a := Nat.div_le_self _ _
    have hx : (48 : Int32) + (Lj a / Lj (10 ^ k) - Lj a / Lj (10 ^ k) / 10 * 10).toInt32 = Jn (48 + a / 10 ^ k % 10) := by
      rw [Lj_div (by omega) (by omega), show (10 : Int64) = Lj 10 from rfl, Lj_div (by omega) (by omega), Lj_mul, Lj_sub (by omega), Lj_32]
      rw [show a / 10 ^ k - a / 10 ^ k / 10 * 10 = a / 10 ^ k % 10 by omega]
      exact Jn_add 48 _
    rw [f_Model_putNumber_L47]
    unfold dzl
    rw [if_neg (by rw [lg_le0, Lj_int (by omega), e0]; omega), if_neg hz, hx]
    obtain ⟨o1, a1, a2⟩ := mput hW (by omega) (Jn (48 + a / 10 ^ k % 10))
    rw [a1, ob_some]
    match k, hk, hp, hf, hl, hd, hx, a1, a2 with
    | 0, hk, hp, hf, hl, hd, hx, a1, a2 =>
      obtain ⟨f, rfl⟩ : ∃ g, f = g + 1 := ⟨f - 1, by omega⟩
      have ez : Lj (10 ^ 0) / 10 = 0 := by decide
      rw [ez, f_Model_putNumber_L47, if_pos (by decide)]
      exact ⟨o1, rfl, a2⟩
    | k + 1, hk, hp, hf, hl, hd, hx, a1, a2 =>
      have ez : Lj (10 ^ (k + 1)) / 10 = Lj (10 ^ k) := by
        rw [show (10 : Int64) = Lj 10 from rfl, Lj_div (by omega) (by omega), Nat.pow_succ, Nat.mul_div_cancel _ (by omega)]
      rw [ez]
      obtain ⟨o2, b1, b2⟩ := mnum47 ha k f o1 _ (by omega) (by omega) a2 (by rw [List.length_append, List.length_singleton]; omega)
      refine ⟨o2, b1, ?_⟩
      rw [dgs]
      rw [List.append_assoc] at b2
      exact b2
theorem mdig2 {ns : List (List Int32)} {a : Nat} (ha : a < 2147483648) : EMc ns (fun o => (f_Model_part o 48).bind fun r2 => (f_Model_putNumber_L25 (Lj a) FU 1).bind fun r3 => (f_Model_putNumber_L47 (Lj a) FU r3 r2).bind fun r4 => some r4) [(2, Jn a)] := by
  intro o acc hW hl
  have hr : ren ns acc [(2, Jn a)] = acc ++ (if nlB acc then [(32 : Int32)] else []) ++ digs a := by
    rw [ren_one]
    unfold ren1 tkB
    dsimp only
    have hp : prt 2 := Or.inr (Or.inl rfl)
    rw [if_neg (show ¬ (2 : Int32) = 1 by decide), if_pos rfl, Jn_cl ha]
    by_cases c : nlB acc
    · rw [if_pos ⟨hp, c⟩, if_pos c]
    · rw [if_neg (fun x => c x.2), if_neg c]
  rw [hr] at hl ⊢
  rw [List.length_append, digs_len] at hl
  have h10 := ndig_10 a
  have h0 := ndig_pos a
  obtain ⟨o1, a1, a2⟩ := mpart (x := 48) (by decide) hW (by omega)
  have e25 := mnum25 ha 11 0 FU (by omega) (by decide) h0
  obtain ⟨o2, b1, b2⟩ := mnum47 ha (ndig a - 1) FU o1 _ (by omega) (Nat.lt_of_le_of_lt (show ndig a - 1 + 1 ≤ 10 by omega) (by decide)) a2 (by omega)
  rw [show ndig a - 1 + 1 = ndig a by omega] at b2
  refine ⟨o2, ?_, b2⟩
  show (f_Model_part o 48).bind _ = _
  rw [a1, ob_some, show (1 : Int64) = Lj (10 ^ 0) from rfl, e25, ob_some, b1]
  rfl
theorem mnumber {ns : List (List Int32)} {v : Int32} (hv : numV v) : EMc ns (fun o => f_Model_putNumber o v) (numT v) := by
  obtain ⟨a, ha, hv⟩ := hv
  have pos : EMc ns (fun o => f_Model_putNumber o (Jn a)) (numT (Jn a)) := by
    unfold numT
    rw [if_neg (J_nneg ha)]
    refine (mdig2 ha).cong fun o => ?_
    unfold f_Model_putNumber
    rw [if_pos (leL 0 (Nat.zero_le a) ha), Jn_64 ha]
  rcases hv with rfl | rfl
  · exact pos
  · by_cases h0 : a = 0
    · subst h0
      exact pos
    · obtain ⟨n1, n2, n3⟩ := neg_J ha h0
      have hi : (-(Jn a)).toInt = -(a : Int) := by
        rw [Int32.toInt_neg, Jn_int ha, Int.bmod_eq_of_le] <;> omega
      have e64 : -(-(Jn a)).toInt64 = Lj a := by
        apply Int64.toInt_inj.mp
        rw [Int64.toInt_neg, Int32.toInt_toInt64, hi, Lj_int (by omega), Int.bmod_eq_of_le] <;> omega
      unfold numT
      rw [if_pos n1, n3]
      have p45 : EMc ns (fun o => f_Model_put o 45) [(45, 0)] := by
        intro o acc hW hl
        have hr : ren ns acc [(45, 0)] = acc ++ [45] := by
          rw [ren_one]
          unfold ren1
          rw [if_neg (fun x => absurd x.1 (show ¬ prt 45 by decide)), List.append_nil]
          rfl
        rw [hr] at hl ⊢
        rw [List.length_append, List.length_singleton] at hl
        exact mput hW (by omega) 45
      refine EMc.cong (p45.seq (mdig2 (ns := ns) ha)) fun o => ?_
      unfold f_Model_putNumber
      rw [if_neg n2, e64]
/-- places -/
theorem dgs1 {a : Nat} (h : a < 256) : digs a = (if a ≤ 99 then (if a ≤ 9 then [Jn (48 + a % 10)] else [Jn (48 + a / 10 % 10), Jn (48 + a % 10)]) else [Jn (48 + a / 100), Jn (48 + a / 10 % 10), Jn (48 + a % 10)]) := by
  have key : ∀ a : Fin 256, digs a.1 = (if a.1 ≤ 99 then (if a.1 ≤ 9 then [Jn (48 + a.1 % 10)] else [Jn (48 + a.1 / 10 % 10), Jn (48 + a.1 % 10)]) else [Jn (48 + a.1 / 100), Jn (48 + a.1 / 10 % 10), Jn (48 + a.1 % 10)]) := by decide +kernel
  exact key ⟨a, h⟩
theorem mplace {C : S_MC} {ns : List (List Int32)} (hC : MC C) {a : Nat} (ha : a < 1536) : EMc ns (fun o => f_Model_putPlace C o (Jn a)) [(3, Jn a)] := by
  intro o acc hW hl
  have hr : ren ns acc [(3, Jn a)] = acc ++ (37 :: PL.getD (2 * (a / 256)) 0 :: PL.getD (2 * (a / 256) + 1) 0 :: digs (a % 256)) := by
    rw [ren_one]
    unfold ren1 tkB plB
    dsimp only
    rw [if_neg (fun x => absurd x.1 (show ¬ prt 3 by decide)), if_neg (show ¬ (3 : Int32) = 1 by decide), if_neg (show ¬ (3 : Int32) = 2 by decide), if_pos rfl, Jn_cl (by omega), List.append_nil]
  rw [hr] at hl ⊢
  rw [List.length_append, List.length_cons, List.length_cons, List.length_cons, digs_len] at hl
  have h0 := ndig_pos (a % 256)
  have hPL : PL.length = 12 := rfl
  show ∃ o', f_Model_putPlace C o (Jn a) = some o' ∧ _
  unfold f_Model_putPlace
  have ed : Jn a / 256 = Jn (a / 256) := Jn_div (b := 256) (by omega) (by omega)
  have em : Jn a - Jn a / 256 * 256 = Jn (a % 256) := by
    rw [ed, show (256 : Int32) = Jn 256 from rfl, Jn_mul, Jn_sub (by omega), show a - a / 256 * 256 = a % 256 by omega]
  have e2 : Jn a / 256 * 2 = Jn (2 * (a / 256)) := by
    rw [ed, show (2 : Int32) = Jn 2 from rfl, Jn_mul, Nat.mul_comm]
  have em10 : Jn (a % 256) - Jn (a % 256) / 10 * 10 = Jn (a % 256 % 10) := Jn_mod10 (by omega)
  have ed10 : Jn (a % 256) / 10 = Jn (a % 256 / 10) := Jn_div (b := 10) (by omega) (by omega)
  have ed100 : Jn (a % 256) / 100 = Jn (a % 256 / 100) := Jn_div (b := 100) (by omega) (by omega)
  have em1010 : Jn (a % 256 / 10) - Jn (a % 256 / 10) / 10 * 10 = Jn (a % 256 / 10 % 10) := Jn_mod10 (by omega)
  simp only [em, e2, addL _ 1, gd_Jn (a := 2 * (a / 256)) (n := 12) (by omega) (by omega), gd_Jn (a := 2 * (a / 256) + 1) (n := 12) (by omega) (by omega), Jn_cl (a := 2 * (a / 256)) (by omega), Jn_cl (a := 2 * (a / 256) + 1) (by omega), hC.2.2.2.2 (2 * (a / 256)) (by rw [hPL]; omega), hC.2.2.2.2 (2 * (a / 256) + 1) (by rw [hPL]; omega)]
  rw [em10, ed10, em1010, ed100, show (48 : Int32) + Jn (a % 256 % 10) = Jn (48 + a % 256 % 10) from Jn_add 48 _, show (48 : Int32) + Jn (a % 256 / 10 % 10) = Jn (48 + a % 256 / 10 % 10) from Jn_add 48 _, show (48 : Int32) + Jn (a % 256 / 100) = Jn (48 + a % 256 / 100) from Jn_add 48 _]
  obtain ⟨o1, a1, a2⟩ := mput hW (by omega) 37
  obtain ⟨o2, b1, b2⟩ := mput a2 (by rw [List.length_append, List.length_singleton]; omega) (PL.getD (2 * (a / 256)) 0)
  obtain ⟨o3, c1, c2⟩ := mput b2 (by rw [List.length_append, List.length_append, List.length_singleton, List.length_singleton]; omega) (PL.getD (2 * (a / 256) + 1) 0)
  rw [a1, ob_some, b1, ob_some, c1, ob_some]
  have hc3 : (acc ++ [37] ++ [PL.getD (2 * (a / 256)) 0] ++ [PL.getD (2 * (a / 256) + 1) 0]).length = acc.length + 3 := by simp
  have hdl := digs_len (a % 256)
  rw [dgs1 (by omega)] at hdl ⊢
  by_cases c99 : a % 256 ≤ 99
  · rw [if_pos c99] at hdl ⊢
    rw [if_pos (leR 99 c99)]
    by_cases c9 : a % 256 ≤ 9
    · rw [if_pos c9] at hdl ⊢
      rw [if_pos (leR 9 c9)]
      obtain ⟨o4, d1, d2⟩ := mput c2 (by rw [hc3]; omega) (Jn (48 + a % 256 % 10))
      rw [d1, ob_some]
      exact ⟨o4, rfl, by simpa using d2⟩
    · rw [if_neg c9] at hdl ⊢
      rw [if_neg (nleR 9 (by omega))]
      rw [List.length_cons, List.length_singleton] at hdl
      obtain ⟨o4, d1, d2⟩ := mput c2 (by rw [hc3]; omega) (Jn (48 + a % 256 / 10 % 10))
      obtain ⟨o5, d3, d4⟩ := mput d2 (by rw [List.length_append, hc3, List.length_singleton]; omega) (Jn (48 + a % 256 % 10))
      rw [d1, ob_some, d3, ob_some]
      exact ⟨o5, rfl, by simpa using d4⟩
  · rw [if_neg c99] at hdl ⊢
    rw [if_neg (nleR 99 (by omega))]
    rw [List.length_cons, List.length_cons, List.length_singleton] at hdl
    obtain ⟨o4, d1, d2⟩ := mput c2 (by rw [hc3]; omega) (Jn (48 + a % 256 / 100))
    obtain ⟨o5, d3, d4⟩ := mput d2 (by rw [List.length_append, hc3, List.length_singleton]; omega) (Jn (48 + a % 256 / 10 % 10))
    obtain ⟨o6, d5, d6⟩ := mput d4 (by rw [List.length_append, List.length_append, hc3, List.length_singleton, List.length_singleton]; omega) (Jn (48 + a % 256 % 10))
    rw [d1, ob_some, if_neg (nleR 9 (by omega)), d3, ob_some, d5, ob_some]
    exact ⟨o6, rfl, by simpa using d6⟩
end
section
/-! The reference's writer: its stack of items. -/
abbrev Itm : Type := Int32 × Int32
def IT (I : S_MI) (st : List Itm) : Prop := Stk 4000 I.1 I.2.1 (st.map (fun x => x.1)) ∧ Stk 4000 I.1 I.2.2 (st.map (fun x => x.2))
theorem IT.push {I : S_MI} {st : List Itm} (h : IT I st) (a b : Int32) (hl : st.length < 4000) : ∃ I', f_Model_item I a b = some I' ∧ IT I' ((a, b) :: st) := by
  obtain ⟨h1, h2⟩ := h
  have e1 := h1.1
  rw [List.length_map] at e1
  unfold f_Model_item
  rw [e1, gd_Jn hl (by omega), gd_Jn hl (by omega), addL _ 1, Jn_cl (by omega)]
  have p1 := h1.push a (by rw [List.length_map]; exact hl)
  have p2 := h2.push b (by rw [List.length_map]; exact hl)
  rw [List.length_map] at p1 p2
  exact ⟨_, rfl, p1, p2⟩
/-- items are laid down -/
def PSH (F : S_MI → Option S_MI) (its : List Itm) : Prop := ∀ I st, IT I st → st.length + its.length ≤ 4000 → ∃ I', F I = some I' ∧ IT I' (its ++ st)
theorem PSH.fin : PSH (fun I => some I) [] := fun I st h _ => ⟨I, rfl, h⟩
theorem PSH.item (a b : Int32) {G : S_MI → Option S_MI} {its : List Itm} (h : PSH G its) : PSH (fun I => (f_Model_item I a b).bind G) (its ++ [(a, b)]) := by
  intro I st hI hl
  rw [List.length_append, List.length_singleton] at hl
  obtain ⟨I1, a1, a2⟩ := hI.push a b (by omega)
  obtain ⟨I2, b1, b2⟩ := h I1 _ a2 (by rw [List.length_cons]; omega)
  refine ⟨I2, ?_, ?_⟩
  · show (f_Model_item I a b).bind G = _
    rw [a1, ob_some, b1]
  · rw [List.append_assoc]
    exact b2
theorem PSH.last (a b : Int32) : PSH (fun I => f_Model_item I a b) [(a, b)] := by
  intro I st hI hl
  rw [List.length_singleton] at hl
  exact hI.push a b (by omega)
theorem PSH.seq {F G : S_MI → Option S_MI} {x y : List Itm} (h1 : PSH F x) (h2 : PSH G y) : PSH (fun I => (F I).bind G) (y ++ x) := by
  intro I st hI hl
  rw [List.length_append] at hl
  obtain ⟨I1, a1, a2⟩ := h1 I st hI (by omega)
  obtain ⟨I2, b1, b2⟩ := h2 I1 _ a2 (by rw [List.length_append]; omega)
  refine ⟨I2, ?_, ?_⟩
  · show (F I).bind G = _
    rw [a1, ob_some, b1]
  · rw [List.append_assoc]
    exact b2
theorem PSH.cong {F G : S_MI → Option S_MI} {x : List Itm} (h : PSH F x) (e : ∀ I, G I = F I) : PSH G x := by
  intro I st hI hl
  rw [e I]
  exact h I st hI hl
section
variable {C : S_MC} {Nm : S_MN} {T : S_MT} {ns : List (List Int32)}
/-- steps of the writer's loop -/
def WRU (C : S_MC) (Nm : S_MN) (T : S_MT) (k : Nat) (V : S_MV) (I : S_MI) (V' : S_MV) (I' : S_MI) : Prop := ∀ n, f_Model_write_L25 C Nm T (n + k) V I = f_Model_write_L25 C Nm T n V' I'
/-- items give tokens, in so much room and by so many steps -/
def EMI (C : S_MC) (Nm : S_MN) (T : S_MT) (ns : List (List Int32)) (its : List Itm) (X : List Tok) (r w : Nat) : Prop :=
  ∀ st V I acc, IT I (its ++ st) → WRc V acc → (ren ns acc X).length ≤ 16384 → st.length + r ≤ 4000 → ∃ k V' I', k ≤ w ∧ WRU C Nm T k V I V' I' ∧ WRc V' (ren ns acc X) ∧ IT I' st
theorem EMI.nil : EMI C Nm T ns [] [] 0 0 := fun st V I acc h1 h2 _ _ => ⟨0, V, I, Nat.le_refl _, fun n => rfl, h2, h1⟩
theorem EMI.mono {its : List Itm} {X : List Tok} {r w r' w' : Nat} (h : EMI C Nm T ns its X r w) (hr : r ≤ r') (hw : w ≤ w') : EMI C Nm T ns its X r' w' := by
  intro st V I acc h1 h2 h3 h4
  obtain ⟨k, V', I', a1, a2⟩ := h st V I acc h1 h2 h3 (by omega)
  exact ⟨k, V', I', by omega, a2⟩
theorem EMI.app {a b : List Itm} {X Y : List Tok} {r1 w1 r2 w2 r : Nat} (h1 : EMI C Nm T ns a X r1 w1) (h2 : EMI C Nm T ns b Y r2 w2) (hr1 : r1 + b.length ≤ r) (hr2 : r2 ≤ r) : EMI C Nm T ns (a ++ b) (X ++ Y) r (w1 + w2) := by
  intro st V I acc i1 i2 i3 i4
  rw [List.append_assoc] at i1
  rw [ren_app] at i3 ⊢
  obtain ⟨k1, V1, I1, a1, a2, a3, a4⟩ := h1 (b ++ st) V I acc i1 i2 (Nat.le_trans (ren_le ns _ _) i3) (by rw [List.length_append]; omega)
  obtain ⟨k2, V2, I2, b1, b2, b3, b4⟩ := h2 st V1 I1 _ a4 a3 i3 (by omega)
  refine ⟨k1 + k2, V2, I2, by omega, fun n => ?_, b3, b4⟩
  rw [show n + (k1 + k2) = n + k2 + k1 by omega, a2, b2]
theorem EMI.cons {a : Itm} {b : List Itm} {X Y : List Tok} {r1 w1 r2 w2 : Nat} (h1 : EMI C Nm T ns [a] X r1 w1) (h2 : EMI C Nm T ns b Y r2 w2) : EMI C Nm T ns (a :: b) (X ++ Y) (max (r1 + b.length) r2) (w1 + w2) := EMI.app (a := [a]) h1 h2 (by omega) (by omega)
theorem pop_it {I : S_MI} {a b : Int32} {st : List Itm} (h : IT I ((a, b) :: st)) : ∃ J : S_MI, J = (I.1 - 1, I.2) ∧ IT J st ∧ I.1 = Jn (st.length + 1) ∧ st.length < 4000 ∧ I.2.1 st.length = a ∧ I.2.2 st.length = b := by
  obtain ⟨⟨h1, h2, h3⟩, h4, h5, h6⟩ := h
  rw [List.map_cons, List.length_cons, List.length_map] at h1 h2 h4 h5
  rw [List.map_cons, List.reverse_cons] at h3 h6
  refine ⟨(I.1 - 1, I.2), rfl, ⟨⟨?_, ?_, h3.pre⟩, ?_, ?_, h6.pre⟩, h1, by omega, ?_, ?_⟩
  · show I.1 - 1 = _
    rw [h1, subL 1 (by omega), List.length_map]; rfl
  · rw [List.length_map]; omega
  · show I.1 - 1 = _
    rw [h1, subL 1 (by omega), List.length_map]; rfl
  · rw [List.length_map]; omega
  · have := h3.suf 0 (by simp)
    rw [List.length_reverse, List.length_map, Nat.add_zero] at this
    exact this
  · have := h6.suf 0 (by simp)
    rw [List.length_reverse, List.length_map, Nat.add_zero] at this
    exact this
theorem wru_one {V V' : S_MV} {I I' : S_MI} {a b : Int32} {st : List Itm} (h : IT I ((a, b) :: st)) (e : f_Model_openItem C Nm T V (I.1 - 1, I.2) a b = some (V', I')) : WRU C Nm T 1 V I V' I' := by
  obtain ⟨J, j1, j2, j3, j4, j5, j6⟩ := pop_it h
  intro n
  rw [f_Model_write_L25, if_neg (by rw [j3]; exact nleR 0 (by omega))]
  have e1 : I.1 - 1 = Jn st.length := by rw [j3, subL 1 (by omega)]; rfl
  rw [e1] at e ⊢
  rw [gd_Jn j4 (by omega), gd_Jn j4 (by omega), Jn_cl (by omega), j5, j6, e, ob_some]
theorem EMI.opn {a b : Int32} {its : List Itm} {X : List Tok} {r w : Nat} {F : S_MI → Option S_MI} (ho : ∀ V I, f_Model_openItem C Nm T V I a b = (F I).bind fun I' => some (V, I')) (hp : PSH F its) (h : EMI C Nm T ns its X r w) (hr : its.length ≤ r) : EMI C Nm T ns [(a, b)] X r (w + 1) := by
  intro st V I acc i1 i2 i3 i4
  obtain ⟨J, j1, j2, j3, j4, j5, j6⟩ := pop_it i1
  obtain ⟨I1, a1, a2⟩ := hp J st j2 (by omega)
  obtain ⟨k, V', I', b1, b2, b3, b4⟩ := h st V I1 acc a2 i2 i3 i4
  refine ⟨k + 1, V', I', by omega, fun n => ?_, b3, b4⟩
  have e := wru_one (C := C) (Nm := Nm) (T := T) (V := V) (V' := V) (I' := I1) i1 (by rw [ho, ← j1, a1, ob_some])
  rw [show n + (k + 1) = n + k + 1 by omega, e, b2]
theorem EMI.put {a b : Int32} {X : List Tok} {G : S_MV → Option S_MV} (ho : ∀ V I, f_Model_openItem C Nm T V I a b = (G V).bind fun V' => some (V', I)) (h : EMc ns G X) : EMI C Nm T ns [(a, b)] X 1 1 := by
  intro st V I acc i1 i2 i3 i4
  obtain ⟨J, j1, j2, j3, j4, j5, j6⟩ := pop_it i1
  obtain ⟨V1, a1, a2⟩ := h V acc i2 i3
  exact ⟨1, V1, J, Nat.le_refl _, wru_one i1 (by rw [ho, a1, ob_some, j1]), a2, j2⟩
/-- nothing to be written -/
theorem EMI.none {a : Int32} (h0 : a ≠ 0) (h7 : a ≠ 7) (h8 : a ≠ 8) : EMI C Nm T ns [(a, -1)] [] 1 1 := by
  intro st V I acc i1 i2 i3 i4
  obtain ⟨J, j1, j2, j3, j4, j5, j6⟩ := pop_it i1
  refine ⟨1, V, J, Nat.le_refl _, wru_one i1 ?_, i2, j2⟩
  unfold f_Model_openItem
  rw [if_neg h0, if_neg h7, if_neg h8, if_pos rfl, j1]
theorem tW (hC : MC C) (w : Nat) (hw : w < 41) : EMI C Nm T ns [(0, Jn w)] [(Jn (256 + w), 0)] 1 1 := by
  refine EMI.put (G := fun V => f_Model_putToken C V (Jn w)) (fun V I => ?_) (mword hC hw)
  unfold f_Model_openItem
  rw [if_pos rfl]
theorem tS (hC : MC C) (s : Nat) (K : Int32) (h1 : 50 ≤ s) (h2 : s < 72) (hK : sgm s = K) : EMI C Nm T ns [(0, Jn s)] [(K, 0)] 1 1 := by
  subst hK
  refine EMI.put (G := fun V => f_Model_putToken C V (Jn s)) (fun V I => ?_) (msign hC h1 h2)
  unfold f_Model_openItem
  rw [if_pos rfl]
theorem tN (hN : MN Nm ns) {v : Int32} (hv : nmd ns.length v) : EMI C Nm T ns [(8, v)] [(1, v)] 1 1 := by
  obtain ⟨i, rfl, hi⟩ := hv
  refine EMI.put (G := fun V => f_Model_putName Nm V (Jn i)) (fun V I => ?_) (mname hN hi)
  unfold f_Model_openItem
  rw [if_neg (show ¬ (8 : Int32) = 0 by decide), if_neg (show ¬ (8 : Int32) = 7 by decide), if_pos rfl]
end
end
section
/-! The reference's writer: rows of nodes. -/
/-- the rest of a row of children -/
def TL (N : Nat) (ch : Nat → List Nat) (xs : List Nat) : Prop := ∃ xp i, xp < N ∧ xs = (ch xp).drop i
section
variable {C : S_MC} {Nm : S_MN} {T : S_MT} {ns : List (List Int32)} {N : Nat} {ch : Nat → List Nat} {rk : Nat → Nat}
theorem TL.hd (h : GTr T N ch rk) {x : Nat} {xs : List Nat} (ht : TL N ch (x :: xs)) : x < N ∧ T.2.2.2.2.2.2.2.2 x = hdJ xs ∧ TL N ch xs := by
  obtain ⟨xp, i, h1, h2⟩ := ht
  have hin : i < (ch xp).length := by
    apply Classical.byContradiction
    intro hc
    rw [List.drop_eq_nil_of_le (by omega)] at h2
    cases h2
  rw [List.drop_eq_getElem_cons hin] at h2
  injection h2 with e1 e2
  obtain ⟨g1, g2, g3, g4⟩ := h.2.2.2.1 xp i h1 hin
  have hx : (ch xp).getD i 0 = x := by
    rw [List.getD_eq_getElem?_getD, List.getElem?_eq_getElem hin, e1]; rfl
  rw [hx] at g1 g4
  exact ⟨g1, by rw [g4, e2], xp, i + 1, h1, e2⟩
theorem TL.kids (h : GTr T N ch rk) {x : Nat} (hx : x < N) : TL N ch (ch x) := ⟨x, 0, hx, by rw [List.drop_zero]⟩
/-- each tree of a row is written by its item -/
def EACH (C : S_MC) (Nm : S_MN) (T : S_MT) (ns : List (List Int32)) : List Nat → FO → Prop
  | x :: xs, .inner _ k v c r => EMI C Nm T ns [(1, Jn x)] (innT k v c) (nk k + needF c) (20 * (FO.flat c).length + 14) ∧ EACH C Nm T ns xs r
  | _, _ => True
def opK (K : Int32) : Prop := K ≠ 35 ∧ K ≠ 36
theorem nbrk {K V : Int32} {i : Nat} {k v : Int32} (h : opK K) : ¬ brk K V i k v := by
  rintro ⟨_, x | ⟨x, _⟩⟩
  · exact h.2 x
  · exact h.1 x
theorem tkF_cons {K V : Int32} {i : Nat} {k : Int32} {p : Nat} {v : Int32} {c r : FO} (h : ¬ brk K V i k v) : tkF K V i (FO.cons k p v c r) = sepT K V i k ++ (innT k v c ++ tkF K V (i + 1) r) := by
  unfold innT
  rw [tkF, if_neg h, if_neg h]
  simp only [List.nil_append, List.append_assoc]
theorem fl_cons (k : Int32) (p : Nat) (v : Int32) (c r : FO) : (FO.cons k p v c r).flat.length = 1 + (FO.flat c).length + (FO.flat r).length := by
  rw [FO.flat, List.length_cons, List.length_append]; omega
theorem nf_cons (k : Int32) (p : Nat) (v : Int32) (c r : FO) : needF (FO.cons k p v c r) = max (nk k + needF c) (needF r) := rfl
theorem nk3 (k : Int32) : 3 ≤ nk k := by
  unfold nk
  repeat' (split <;> try omega)
theorem opRow {kd : Int32} (h0 : kd ≠ 0) (h7 : kd ≠ 7) (h8 : kd ≠ 8) (h1 : kd ≠ 1) (h4 : kd ≠ 4) (h5 : kd ≠ 5) {x : Nat} (hx : x < 20000) (V : S_MV) (I : S_MI) : f_Model_openItem C Nm T V I kd (Jn x) = (f_Model_openRow T I kd (Jn x)).bind fun I' => some (V, I') := by
  unfold f_Model_openItem
  rw [if_neg h0, if_neg h7, if_neg h8, if_neg (J_nm1 (by omega)), if_neg h1, if_neg h4, if_neg h5]
/-- the row's forms -/
theorem row_last {kd : Int32} {x : Nat} (hx : x < 20000) (hs : T.2.2.2.2.2.2.2.2 x = -1) : PSH (fun I => f_Model_openRow T I kd (Jn x)) [(1, Jn x)] := by
  refine PSH.cong (PSH.last 1 (Jn x)) fun I => ?_
  unfold f_Model_openRow
  rw [gd_Jn hx (by omega), Jn_cl (by omega), hs, nm_eq, if_pos rfl, if_pos rfl, if_pos rfl, ob_id]
theorem row_chain {x y : Nat} (hx : x < 20000) (hy : y < 20000) (hs : T.2.2.2.2.2.2.2.2 x = Jn y) : PSH (fun I => f_Model_openRow T I 2 (Jn x)) [(1, Jn x), (2, Jn y)] := by
  refine PSH.cong (PSH.item 2 (Jn y) (PSH.last 1 (Jn x))) fun I => ?_
  unfold f_Model_openRow
  rw [gd_Jn hx (by omega), Jn_cl (by omega), hs, nm_eq, if_neg (J_nm1 (by omega)), if_pos rfl]
  simp only [ob_id]
theorem row_comma {kd : Int32} {x y : Nat} (hx : x < 20000) (hy : y < 20000) (h2 : kd ≠ 2) (hs : T.2.2.2.2.2.2.2.2 x = Jn y) (h6 : kd = 6 → T.2.2.1 y ≠ 11) : PSH (fun I => f_Model_openRow T I kd (Jn x)) [(1, Jn x), (0, 59), (kd, Jn y)] := by
  refine PSH.cong (PSH.item kd (Jn y) (PSH.item 0 59 (PSH.last 1 (Jn x)))) fun I => ?_
  unfold f_Model_openRow
  rw [gd_Jn hx (by omega), Jn_cl (by omega), hs, nm_eq, if_neg (J_nm1 (by omega)), if_neg h2, if_neg (J_nm1 (by omega))]
  by_cases c6 : kd = 6
  · rw [if_pos c6, gd_Jn hy (by omega), Jn_cl (by omega), if_neg (h6 c6), if_neg (J_nm1 (by omega))]
    simp only [ob_id]
  · rw [if_neg c6, if_neg (J_nm1 (by omega))]
    simp only [ob_id]
theorem row_body {x y : Nat} (hx : x < 20000) (hy : y < 20000) (hs : T.2.2.2.2.2.2.2.2 x = Jn y) (h6 : T.2.2.1 y = 11) : PSH (fun I => f_Model_openRow T I 6 (Jn x)) [(1, Jn x), (0, 61), (1, Jn y)] := by
  refine PSH.cong (PSH.item 1 (Jn y) (PSH.item 0 61 (PSH.last 1 (Jn x)))) fun I => ?_
  unfold f_Model_openRow
  rw [gd_Jn hx (by omega), Jn_cl (by omega), hs, nm_eq, if_neg (J_nm1 (by omega)), if_neg (by decide), if_neg (J_nm1 (by omega)), if_pos rfl, gd_Jn hy (by omega), Jn_cl (by omega), if_pos h6]
  simp only [ob_id]
/-- trees one behind the other -/
theorem chainI (h : GTr T N ch rk) {K V : Int32} (hK : opK K) (hs : ∀ i k, sepT K V i k = []) : ∀ (fo : FO) (xs : List Nat) (i : Nat), repF T ch xs fo → TL N ch xs → EACH C Nm T ns xs fo → EMI C Nm T ns [(2, hdJ xs)] (tkF K V i fo) (2 + needF fo) (20 * (FO.flat fo).length + 1)
  | .leaf, [], i, hr, ht, he => (EMI.none (by decide) (by decide) (by decide)).mono (by omega) (by omega)
  | .leaf, _ :: _, i, hr, ht, he => by rw [repF] at hr; exact hr.elim
  | .inner _ _ _ _ _, [], i, hr, ht, he => by rw [repF] at hr; exact hr.elim
  | .inner p k v c r, x :: xs, i, hr, ht, he => by
    have hN := h.2.1
    rw [repF] at hr
    obtain ⟨hx, hsb, ht'⟩ := ht.hd h
    rw [tkF_cons (nbrk hK), hs, List.nil_append, fl_cons, nf_cons]
    have ih := chainI h hK hs r xs (i + 1) hr.2.2 ht' he.2
    have ho := opRow (C := C) (Nm := Nm) (T := T) (kd := 2) (by decide) (by decide) (by decide) (by decide) (by decide) (by decide) (show x < 20000 by omega)
    cases xs with
    | nil =>
      have hr0 : r = FO.nil := by
        cases r with
        | leaf => rfl
        | inner => have := hr.2.2; rw [repF] at this; exact this.elim
      subst hr0
      rw [tkF, List.append_nil]
      exact (EMI.opn ho (row_last (by omega) hsb) he.1 (by rw [List.length_singleton]; have := nk3 k; omega)).mono (by omega) (by omega)
    | cons y ys =>
      obtain ⟨hy, _, _⟩ := ht'.hd h
      exact (EMI.opn ho (row_chain (by omega) (by omega) hsb) (EMI.cons he.1 ih) (by (first | omega | (simp only [List.length_cons, List.length_nil, List.length_append]; omega)))).mono (by (first | omega | (simp only [List.length_cons, List.length_nil, List.length_append]; omega))) (by omega)
/-- trees with commas between them -/
theorem rowI (h : GTr T N ch rk) (hC : MC C) {K V : Int32} (hK : opK K) (hs : ∀ i k, sepT K V (i + 1) k = [(44, 0)]) : ∀ (r : FO) (k : Int32) (p : Nat) (v : Int32) (c : FO) (x : Nat) (xs : List Nat) (i : Nat), repF T ch (x :: xs) (FO.cons k p v c r) → TL N ch (x :: xs) → EACH C Nm T ns (x :: xs) (FO.cons k p v c r) → EMI C Nm T ns [(3, Jn x)] (innT k v c ++ tkF K V (i + 1) r) (3 + needF (FO.cons k p v c r)) (20 * (FO.cons k p v c r).flat.length + 1)
  | .leaf, k, p, v, c, x, xs, i, hr, ht, he => by
    have hN := h.2.1
    rw [repF] at hr
    obtain ⟨hx, hsb, ht'⟩ := ht.hd h
    have ho := opRow (C := C) (Nm := Nm) (T := T) (kd := 3) (by decide) (by decide) (by decide) (by decide) (by decide) (by decide) (show x < 20000 by omega)
    have hr0 : xs = [] := List.length_eq_zero_iff.mp hr.2.2.len
    subst hr0
    rw [tkF, List.append_nil, fl_cons, nf_cons]
    exact (EMI.opn ho (row_last (by omega) hsb) he.1 (by rw [List.length_singleton]; have := nk3 k; omega)).mono (by omega) (by omega)
  | .inner p2 k2 v2 c2 r2, k, p, v, c, x, [], i, hr, ht, he => by
    rw [repF] at hr
    have := hr.2.2
    rw [repF] at this
    exact this.elim
  | .inner p2 k2 v2 c2 r2, k, p, v, c, x, y :: ys, i, hr, ht, he => by
    have hN := h.2.1
    rw [repF] at hr
    obtain ⟨hx, hsb, ht'⟩ := ht.hd h
    obtain ⟨hy, _, _⟩ := ht'.hd h
    have ho := opRow (C := C) (Nm := Nm) (T := T) (kd := 3) (by decide) (by decide) (by decide) (by decide) (by decide) (by decide) (show x < 20000 by omega)
    have ih := rowI h hC hK hs r2 k2 p2 v2 c2 y ys (i + 1) hr.2.2 ht' he.2
    have t59 := tS (Nm := Nm) (T := T) (ns := ns) hC 59 44 (by decide) (by decide) (by decide)
    rw [tkF_cons (nbrk hK), hs, fl_cons, nf_cons]
    have e := EMI.opn ho (row_comma (by omega) (by omega) (by decide) hsb (fun h => absurd h (by decide))) (EMI.cons he.1 (EMI.cons t59 ih)) (by (first | omega | (simp only [List.length_cons, List.length_nil, List.length_append]; omega)))
    dsimp only [FO.cons] at e ⊢
    exact e.mono (by (first | omega | (simp only [List.length_cons, List.length_nil, List.length_append]; omega))) (by omega)
/-- choices: ranges with commas between them, and a body -/
theorem rangesI (h : GTr T N ch rk) (hC : MC C) {V : Int32} : ∀ (r : FO) (k : Int32) (p : Nat) (v : Int32) (c : FO) (x : Nat) (xs : List Nat) (i : Nat), repF T ch (x :: xs) (FO.cons k p v c r) → TL N ch (x :: xs) → EACH C Nm T ns (x :: xs) (FO.cons k p v c r) → lastP (FO.cons k p v c r).ks → EMI C Nm T ns [(6, Jn x)] (innT k v c ++ tkF 17 V (i + 1) r) (3 + needF (FO.cons k p v c r)) (20 * (FO.cons k p v c r).flat.length + 1)
  | .leaf, k, p, v, c, x, xs, i, hr, ht, he, hl => by
    have hN := h.2.1
    rw [repF] at hr
    obtain ⟨hx, hsb, ht'⟩ := ht.hd h
    have ho := opRow (C := C) (Nm := Nm) (T := T) (kd := 6) (by decide) (by decide) (by decide) (by decide) (by decide) (by decide) (show x < 20000 by omega)
    have hr0 : xs = [] := List.length_eq_zero_iff.mp hr.2.2.len
    subst hr0
    rw [tkF, List.append_nil, fl_cons, nf_cons]
    exact (EMI.opn ho (row_last (by omega) hsb) he.1 (by rw [List.length_singleton]; have := nk3 k; omega)).mono (by omega) (by omega)
  | .inner p2 k2 v2 c2 r2, k, p, v, c, x, [], i, hr, ht, he, hl => by
    rw [repF] at hr
    have := hr.2.2
    rw [repF] at this
    exact this.elim
  | .inner p2 k2 v2 c2 r2, k, p, v, c, x, y :: ys, i, hr, ht, he, hl => by
    have hN := h.2.1
    rw [repF] at hr
    obtain ⟨hx, hsb, ht'⟩ := ht.hd h
    obtain ⟨hy, _, _⟩ := ht'.hd h
    have ho := opRow (C := C) (Nm := Nm) (T := T) (kd := 6) (by decide) (by decide) (by decide) (by decide) (by decide) (by decide) (show x < 20000 by omega)
    have hky : T.2.2.1 y = k2 := by
      have := hr.2.2
      rw [repF] at this
      exact congrArg Prod.fst this.1
    have t59 := tS (Nm := Nm) (T := T) (ns := ns) hC 59 44 (by decide) (by decide) (by decide)
    have t61 := tS (Nm := Nm) (T := T) (ns := ns) hC 61 58 (by decide) (by decide) (by decide)
    rw [tkF_cons (nbrk ⟨by decide, by decide⟩), fl_cons, nf_cons, nf_cons, fl_cons]
    by_cases c11 : k2 = 11
    · have hr2 : r2 = FO.nil := by
        cases r2 with
        | leaf => rfl
        | inner p3 k3 =>
          have := hl.2.1
          exact absurd c11 this
      subst hr2
      have es : sepT 17 V (i + 1) k2 = [(58, 0)] := by subst c11; rfl
      rw [es, tkF, List.append_nil]
      have e := EMI.opn ho (row_body (by omega) (by omega) hsb (by rw [hky]; exact c11)) (EMI.cons he.1 (EMI.cons t61 he.2.1)) (by have := nk3 k; (first | omega | (simp only [List.length_cons, List.length_nil, List.length_append]; omega)))
      exact e.mono (by (first | omega | (simp only [List.length_cons, List.length_nil, List.length_append]; omega))) (by omega)
    · have ih := rangesI h hC (V := V) r2 k2 p2 v2 c2 y ys (i + 1) hr.2.2 ht' he.2 hl.2
      have es : sepT 17 V (i + 1) k2 = [(44, 0)] := by
        unfold sepT
        have : sepc 17 k2 (i + 1) = 44 := by
          show (if k2 = 11 then (58 : Int32) else if i + 1 = 0 then -1 else 44) = 44
          rw [if_neg c11, if_neg (by omega)]
        rw [this]; rfl
      rw [es]
      have e := EMI.opn ho (row_comma (by omega) (by omega) (by decide) hsb (fun _ => by rw [hky]; exact c11)) (EMI.cons he.1 (EMI.cons t59 ih)) (by (first | omega | (simp only [List.length_cons, List.length_nil, List.length_append]; omega)))
      rw [nf_cons, fl_cons] at e
      exact e.mono (by (first | omega | (simp only [List.length_cons, List.length_nil, List.length_append]; omega))) (by omega)
/-- parts of a declaration -/
theorem partsI (h : GTr T N ch rk) (hC : MC C) : ∀ (fo : FO) (xs : List Nat) (i : Nat), repF T ch xs fo → TL N ch xs → EACH C Nm T ns xs fo → (∀ k, k ∈ (FO.ks fo) → k = 6 ∨ k = 7 ∨ k = 8 ∨ k = 9 ∨ k = 10 ∨ k = 30 ∨ k = 31) → EMI C Nm T ns [(7, hdJ xs)] (tkF 5 0 (i + 1) fo ++ [(59, 0)]) (3 + needF fo) (20 * (FO.flat fo).length + 1)
  | .leaf, [], i, hr, ht, he, hk => by
    have := EMI.put (C := C) (Nm := Nm) (T := T) (ns := ns) (a := 7) (b := -1) (X := [(59, 0)]) (G := fun V => f_Model_putToken C V (Jn 60)) (fun V I => by
      unfold f_Model_openItem f_Model_openParts
      rw [if_neg (by decide), if_pos rfl, if_pos rfl]
      show ((f_Model_putToken C V (Jn 60)).bind fun r14 => some (r14, I)).bind _ = _
      cases f_Model_putToken C V (Jn 60) <;> rfl) (msign hC (by decide) (by decide))
    rw [tkF, List.nil_append]
    exact this.mono (by omega) (by omega)
  | .leaf, _ :: _, i, hr, ht, he, hk => by rw [repF] at hr; exact hr.elim
  | .inner _ _ _ _ _, [], i, hr, ht, he, hk => by rw [repF] at hr; exact hr.elim
  | .inner p k v c r, x :: xs, i, hr, ht, he, hk => by
    have hN := h.2.1
    rw [repF] at hr
    obtain ⟨hx, hsb, ht'⟩ := ht.hd h
    have hkx : T.2.2.1 x = k := congrArg Prod.fst hr.1
    have ih := partsI h hC r xs (i + 1) hr.2.2 ht' he.2 (fun k2 h2 => hk k2 (List.mem_cons_of_mem _ h2))
    rw [tkF_cons (nbrk ⟨by decide, by decide⟩), fl_cons, nf_cons, List.append_assoc, List.append_assoc]
    have t59 := tS (Nm := Nm) (T := T) (ns := ns) hC 59 44 (by decide) (by decide) (by decide)
    have t61 := tS (Nm := Nm) (T := T) (ns := ns) hC 61 58 (by decide) (by decide) (by decide)
    have t50 := tS (Nm := Nm) (T := T) (ns := ns) hC 50 14909 (by decide) (by decide) (by decide)
    have t10 := tW (Nm := Nm) (T := T) (ns := ns) hC 10 (by decide)
    -- one form of it
    have go : ∀ (tt K : Int32), sepT 5 0 (i + 1) k = [(K, 0)] → EMI C Nm T ns [(0, tt)] [(K, 0)] 1 1 → (∀ V I, f_Model_openParts C T V I (Jn x) = (f_Model_item I 7 (hdJ xs)).bind fun r5 => (f_Model_item r5 1 (Jn x)).bind fun r6 => (f_Model_item r6 0 tt).bind fun r => some (V, r)) → EMI C Nm T ns [(7, Jn x)] (sepT 5 0 (i + 1) k ++ (innT k v c ++ (tkF 5 0 (i + 1 + 1) r ++ [(59, 0)]))) (3 + max (nk k + needF c) (needF r)) (20 * (1 + (FO.flat c).length + (FO.flat r).length) + 1) := by
      intro tt K es et eo
      rw [es]
      have e := EMI.opn (a := 7) (b := Jn x) (its := [(0, tt), (1, Jn x), (7, hdJ xs)]) (F := fun I => (f_Model_item I 7 (hdJ xs)).bind fun r5 => (f_Model_item r5 1 (Jn x)).bind fun r6 => f_Model_item r6 0 tt) (fun V I => by
        unfold f_Model_openItem
        rw [if_neg (by decide), if_pos rfl, eo]
        simp only [Option.bind_assoc, ob_some]) (PSH.item 7 (hdJ xs) (PSH.item 1 (Jn x) (PSH.last 0 tt))) (EMI.cons et (EMI.cons he.1 ih)) (by (first | omega | (simp only [List.length_cons, List.length_nil, List.length_append]; omega)))
      exact e.mono (by (first | omega | (simp only [List.length_cons, List.length_nil, List.length_append]; omega))) (by omega)
    have eo : ∀ V I, f_Model_openParts C T V I (Jn x) = (f_Model_item I 7 (hdJ xs)).bind fun r5 => (f_Model_item r5 1 (Jn x)).bind fun r6 => (if k = 6 then (f_Model_item r6 0 59).bind fun r => some (V, r) else if k = 7 then (f_Model_item r6 0 10).bind fun r => some (V, r) else if 11 ≤ k then (f_Model_item r6 0 50).bind fun r => some (V, r) else (f_Model_item r6 0 61).bind fun r => some (V, r)) := by
      intro V I
      unfold f_Model_openParts
      rw [if_neg (J_nm1 (by omega)), gd_Jn (by omega) (by omega), Jn_cl (by omega), nm_eq, gd_Jn (by omega) (by omega), hsb, hkx]
    have hmem : k ∈ (FO.cons k p v c r).ks := List.mem_cons_self
    rcases hk k hmem with rfl | rfl | rfl | rfl | rfl | rfl | rfl
    · exact go 59 44 rfl t59 (fun V I => eo V I)
    · exact go 10 266 rfl t10 (fun V I => eo V I)
    · exact go 61 58 rfl t61 (fun V I => eo V I)
    · exact go 61 58 rfl t61 (fun V I => eo V I)
    · exact go 61 58 rfl t61 (fun V I => eo V I)
    · exact go 50 14909 rfl t50 (fun V I => eo V I)
    · exact go 50 14909 rfl t50 (fun V I => eo V I)
end
end
section
/-! The reference's writer: the parts of IF and CASE. -/
section
variable {C : S_MC} {Nm : S_MN} {T : S_MT} {ns : List (List Int32)} {N : Nat} {ch : Nat → List Nat} {rk : Nat → Nat}
theorem opIf (h : GTr T N ch rk) (hC : MC C) {x : Nat} (hx : x < 20000) (V : S_MV) (I : S_MI) : f_Model_openItem C Nm T V I 4 (Jn x) = (f_Model_openIf T I (Jn x)).bind fun I' => some (V, I') := by
  unfold f_Model_openItem
  rw [if_neg (by decide), if_neg (by decide), if_neg (by decide), if_neg (J_nm1 (by omega)), if_neg (by decide), if_pos rfl]
theorem opCase (h : GTr T N ch rk) (hC : MC C) {x : Nat} (hx : x < 20000) (V : S_MV) (I : S_MI) : f_Model_openItem C Nm T V I 5 (Jn x) = (f_Model_openCase T I (Jn x)).bind fun I' => some (V, I') := by
  unfold f_Model_openItem
  rw [if_neg (by decide), if_neg (by decide), if_neg (by decide), if_neg (J_nm1 (by omega)), if_neg (by decide), if_neg (by decide), if_pos rfl]
theorem ifsI (h : GTr T N ch rk) (hC : MC C) : ∀ (fo : Std.DTreeMap.Internal.Impl Int32 (fun _ => Int32)) (xs : List Nat) (j : Nat), repF T ch xs fo → TL N ch xs → EACH C Nm T ns xs fo → ifP (FO.ks fo) → EMI C Nm T ns [(4, hdJ xs)] (tkF 15 0 (2 * j + 2) fo) (5 + needF fo) (20 * (FO.flat fo).length + 1)
  | .leaf, [], j, hr, ht, he, hl => (EMI.none (by decide) (by decide) (by decide)).mono (by omega) (by omega)
  | .leaf, _ :: _, j, hr, ht, he, hl => by rw [repF] at hr; exact hr.elim
  | .inner _ _ _ _ _, [], j, hr, ht, he, hl => by rw [repF] at hr; exact hr.elim
  | .inner p k v c .leaf, x :: xs, j, hr, ht, he, hl => by
    have hN := h.2.1
    rw [repF] at hr
    obtain ⟨hx, hsb, ht'⟩ := ht.hd h
    have hkx : T.2.2.1 x = k := congrArg Prod.fst hr.1
    have k11 : k = 11 := hl
    subst k11
    have es : sepT 15 0 (2 * j + 2) 11 = [(275, 0)] := by
      unfold sepT
      have : sepc 15 11 (2 * j + 2) = 275 := by
        show (if (2 * j + 2) % 2 = 1 then (273 : Int32) else if 2 * j + 2 = 0 then -1 else 275) = 275
        rw [if_neg (by omega), if_neg (by omega)]
      rw [this]; rfl
    rw [tkF_cons (nbrk ⟨by decide, by decide⟩), es, tkF, List.append_nil, fl_cons, nf_cons]
    have t19 := tW (Nm := Nm) (T := T) (ns := ns) hC 19 (by decide)
    have hp : PSH (fun I => f_Model_openIf T I (Jn x)) [(0, 19), (1, Jn x)] := by
      refine PSH.cong (PSH.item 1 (Jn x) (PSH.last 0 19)) fun I => ?_
      unfold f_Model_openIf
      rw [gd_Jn (by omega) (by omega), Jn_cl (by omega), if_pos hkx]
      simp only [ob_id]
    exact (EMI.opn (opIf h hC (by omega)) hp (EMI.cons t19 he.1) (by have := nk3 11; (first | omega | (simp only [List.length_cons, List.length_nil, List.length_append]; omega)))).mono (by (first | omega | (simp only [List.length_cons, List.length_nil, List.length_append]; omega))) (by omega)
  | .inner p k v c (.inner p2 k2 v2 c2 r), [x], j, hr, ht, he, hl => by
    rw [repF] at hr
    have := hr.2.2
    rw [repF] at this
    exact this.elim
  | .inner p k v c (.inner p2 k2 v2 c2 r), x :: y :: ys, j, hr, ht, he, hl => by
    have hN := h.2.1
    rw [repF, repF] at hr
    obtain ⟨hx, hsb, ht'⟩ := ht.hd h
    obtain ⟨hy, hsb2, ht2⟩ := ht'.hd h
    have hkx : T.2.2.1 x = k := congrArg Prod.fst hr.1
    obtain ⟨l1, l2, l3⟩ := hl
    have ih := ifsI h hC r ys (j + 1) hr.2.2.2.2 ht2 he.2.2 l3
    have es : sepT 15 0 (2 * j + 2) k = [(274, 0)] := by
      unfold sepT
      have : sepc 15 k (2 * j + 2) = 274 := by
        show (if (2 * j + 2) % 2 = 1 then (273 : Int32) else if 2 * j + 2 = 0 then -1 else if k = 11 then 275 else 274) = 274
        rw [if_neg (by omega), if_neg (by omega), if_neg l1]
      rw [this]; rfl
    have es2 : sepT 15 0 (2 * j + 2 + 1) k2 = [(273, 0)] := by
      unfold sepT
      have : sepc 15 k2 (2 * j + 2 + 1) = 273 := by
        show (if (2 * j + 2 + 1) % 2 = 1 then (273 : Int32) else if 2 * j + 2 + 1 = 0 then -1 else if k2 = 11 then 275 else 274) = 273
        rw [if_pos (by omega)]
      rw [this]; rfl
    rw [tkF_cons (nbrk ⟨by decide, by decide⟩), es, tkF_cons (nbrk ⟨by decide, by decide⟩), es2, fl_cons, nf_cons, fl_cons, nf_cons]
    have t17 := tW (Nm := Nm) (T := T) (ns := ns) hC 17 (by decide)
    have t18 := tW (Nm := Nm) (T := T) (ns := ns) hC 18 (by decide)
    have hp : PSH (fun I => f_Model_openIf T I (Jn x)) [(0, 18), (1, Jn x), (0, 17), (1, Jn y), (4, hdJ ys)] := by
      refine PSH.cong (PSH.item 4 (hdJ ys) (PSH.item 1 (Jn y) (PSH.item 0 17 (PSH.item 1 (Jn x) (PSH.last 0 18))))) fun I => ?_
      unfold f_Model_openIf
      rw [gd_Jn (by omega) (by omega), Jn_cl (by omega), if_neg (by rw [hkx]; exact l1), gd_Jn (by omega) (by omega), hsb, nm_eq]
      show gd (Jn y) 20000 _ = _
      rw [gd_Jn (by omega) (by omega), show hdJ (y :: ys) = Jn y from rfl, Jn_cl (by omega), hsb2]
      simp only [ob_id]
    rw [show 2 * (j + 1) + 2 = 2 * j + 2 + 1 + 1 by omega] at ih
    exact (EMI.opn (opIf h hC (by omega)) hp (EMI.cons t18 (EMI.cons he.1 (EMI.cons t17 (EMI.cons he.2.1 ih)))) (by (first | omega | (simp only [List.length_cons, List.length_nil, List.length_append]; omega)))).mono (by (first | omega | (simp only [List.length_cons, List.length_nil, List.length_append]; omega))) (by omega)
theorem sep16 (i : Nat) (k : Int32) : sepT 16 0 (i + 2) k = if k = 11 then [(275, 0)] else [] := by
  unfold sepT
  rw [if_neg (by rintro ⟨x, _⟩; exact absurd x (by decide)), if_neg (by rintro ⟨_, x⟩; omega), if_neg (by rintro ⟨x, _⟩; exact absurd x (by decide))]
  show [] ++ ([] ++ ([] ++ sgT (if k = 11 then (275 : Int32) else -1))) = _
  by_cases c : k = 11
  · rw [if_pos c, if_pos c]; rfl
  · rw [if_neg c, if_neg c]; rfl
theorem caseI (h : GTr T N ch rk) (hC : MC C) : ∀ (fo : FO) (xs : List Nat) (i : Nat), repF T ch xs fo → TL N ch xs → EACH C Nm T ns xs fo → lastP (FO.ks fo) → EMI C Nm T ns [(5, hdJ xs)] (tkF 16 0 (i + 2) fo) (2 + needF fo) (20 * (FO.flat fo).length + 1)
  | .leaf, [], i, hr, ht, he, hl => (EMI.none (by decide) (by decide) (by decide)).mono (by omega) (by omega)
  | .leaf, _ :: _, i, hr, ht, he, hl => by rw [repF] at hr; exact hr.elim
  | .inner _ _ _ _ _, [], i, hr, ht, he, hl => by rw [repF] at hr; exact hr.elim
  | .inner p k v c r, x :: xs, i, hr, ht, he, hl => by
    have hN := h.2.1
    rw [repF] at hr
    obtain ⟨hx, hsb, ht'⟩ := ht.hd h
    have hkx : T.2.2.1 x = k := congrArg Prod.fst hr.1
    rw [tkF_cons (nbrk ⟨by decide, by decide⟩), sep16, fl_cons, nf_cons]
    by_cases c11 : k = 11
    · have hr2 : r = FO.nil := by
        cases r with
        | leaf => rfl
        | inner p3 k3 => exact absurd c11 hl.1
      subst hr2
      rw [if_pos c11, tkF, List.append_nil]
      have t19 := tW (Nm := Nm) (T := T) (ns := ns) hC 19 (by decide)
      have hp : PSH (fun I => f_Model_openCase T I (Jn x)) [(0, 19), (1, Jn x)] := by
        refine PSH.cong (PSH.item 1 (Jn x) (PSH.last 0 19)) fun I => ?_
        unfold f_Model_openCase
        rw [gd_Jn (by omega) (by omega), Jn_cl (by omega), if_pos (by rw [hkx]; exact c11)]
        simp only [ob_id]
      exact (EMI.opn (opCase h hC (by omega)) hp (EMI.cons t19 he.1) (by have := nk3 k; (first | omega | (simp only [List.length_cons, List.length_nil, List.length_append]; omega)))).mono (by have := nk3 k; (first | omega | (simp only [List.length_cons, List.length_nil, List.length_append]; omega))) (by omega)
    · have hl2 : lastP (FO.ks r) := by
        cases r with
        | leaf => trivial
        | inner p3 k3 => exact hl.2
      have ih := caseI h hC r xs (i + 1) hr.2.2 ht' he.2 hl2
      rw [if_neg c11, List.nil_append]
      have hp : PSH (fun I => f_Model_openCase T I (Jn x)) [(1, Jn x), (5, hdJ xs)] := by
        refine PSH.cong (PSH.item 5 (hdJ xs) (PSH.last 1 (Jn x))) fun I => ?_
        unfold f_Model_openCase
        rw [gd_Jn (by omega) (by omega), Jn_cl (by omega), if_neg (by rw [hkx]; exact c11), gd_Jn (by omega) (by omega), hsb]
        simp only [ob_id]
      rw [show i + 1 + 2 = i + 2 + 1 by omega] at ih
      exact (EMI.opn (opCase h hC (by omega)) hp (EMI.cons he.1 ih) (by (first | omega | (simp only [List.length_cons, List.length_nil, List.length_append]; omega)))).mono (by (first | omega | (simp only [List.length_cons, List.length_nil, List.length_append]; omega))) (by omega)
end
end
section
/-! The reference's writer: one node. -/
section
variable {C : S_MC} {Nm : S_MN} {T : S_MT} {ns : List (List Int32)} {N : Nat} {ch : Nat → List Nat} {rk : Nat → Nat}
def RWS (C : S_MC) (Nm : S_MN) (T : S_MT) (ns : List (List Int32)) (N : Nat) (ch : Nat → List Nat) (xs : List Nat) (fo : FO) : Prop :=
  (repF T ch xs fo) ∧
  (TL N ch xs) ∧
  (EACH C Nm T ns xs fo) ∧
  (goodF ns.length fo)
theorem RWS.rep {C : S_MC} {Nm : S_MN} {T : S_MT} {ns : List (List Int32)} {N : Nat} {ch : Nat → List Nat} {xs : List Nat} {fo : FO} (h : RWS C Nm T ns N ch xs fo) : repF T ch xs fo := h.1
theorem RWS.tl {C : S_MC} {Nm : S_MN} {T : S_MT} {ns : List (List Int32)} {N : Nat} {ch : Nat → List Nat} {xs : List Nat} {fo : FO} (h : RWS C Nm T ns N ch xs fo) : TL N ch xs := h.2.1
theorem RWS.each {C : S_MC} {Nm : S_MN} {T : S_MT} {ns : List (List Int32)} {N : Nat} {ch : Nat → List Nat} {xs : List Nat} {fo : FO} (h : RWS C Nm T ns N ch xs fo) : EACH C Nm T ns xs fo := h.2.2.1
theorem RWS.good {C : S_MC} {Nm : S_MN} {T : S_MT} {ns : List (List Int32)} {N : Nat} {ch : Nat → List Nat} {xs : List Nat} {fo : FO} (h : RWS C Nm T ns N ch xs fo) : goodF ns.length fo := h.2.2.2
theorem ks_nil {c : FO} (h : (FO.ks c) = []) : c = FO.nil := by
  cases c with
  | leaf => rfl
  | inner => cases h
theorem RWS.one {xs : List Nat} {fo : FO} {k : Int32} {l : List Int32} (h : GTr T N ch rk) (hw : RWS C Nm T ns N ch xs fo) (hk : (FO.ks fo) = k :: l) : ∃ p v c r a as, fo = FO.cons k p v c r ∧ (FO.ks r) = l ∧ xs = a :: as ∧ T.2.2.1 a = k ∧ T.2.2.2.2.1 a = v ∧ a < N ∧ T.2.2.2.2.2.2.2.2 a = hdJ as ∧ EMI C Nm T ns [(1, Jn a)] (innT k v c) (nk k + needF c) (20 * (FO.flat c).length + 14) ∧ RWS C Nm T ns N ch as r ∧ LOC ns.length k v (FO.ks c) := by
  cases fo with
  | leaf => cases hk
  | inner p k' v c r =>
    injection hk with e1 e2
    subst e1
    obtain ⟨h1, h2, h3, h4⟩ := hw
    cases xs with
    | nil => rw [repF] at h1; exact h1.elim
    | cons a as =>
      rw [repF] at h1
      obtain ⟨ha, hs, ht⟩ := h2.hd h
      exact ⟨p, v, c, r, a, as, rfl, e2, rfl, congrArg Prod.fst h1.1, congrArg (fun z => z.2.2) h1.1, ha, hs, h3.1, ⟨h1.2.2, ht, h3.2, h4.2.2⟩, h4.1⟩
/-- which part of the reference opens a node -/
theorem op1 {x : Nat} (hx : x < 20000) (V : S_MV) (I : S_MI) : f_Model_openItem C Nm T V I 1 (Jn x) = f_Model_openNode C Nm T V I (Jn x) := by
  unfold f_Model_openItem
  rw [if_neg (by decide), if_neg (by decide), if_neg (by decide), if_neg (J_nm1 (by omega)), if_pos rfl]
  cases f_Model_openNode C Nm T V I (Jn x) <;> rfl
theorem opB {x : Nat} (hx : x < 20000) (h1 : ¬ 12 ≤ T.2.2.1 x) (V : S_MV) (I : S_MI) : f_Model_openItem C Nm T V I 1 (Jn x) = f_Model_openBlock C Nm T V I (Jn x) := by
  rw [op1 hx]
  unfold f_Model_openNode
  rw [gd_Jn hx (by omega), Jn_cl (by omega), if_neg h1]
  cases f_Model_openBlock C Nm T V I (Jn x) <;> rfl
theorem opS {x : Nat} (hx : x < 20000) (h1 : 12 ≤ T.2.2.1 x) (h2 : ¬ 22 ≤ T.2.2.1 x) (V : S_MV) (I : S_MI) : f_Model_openItem C Nm T V I 1 (Jn x) = (f_Model_openStatement T I (Jn x)).bind fun r => some (V, r) := by
  rw [op1 hx]
  unfold f_Model_openNode
  rw [gd_Jn hx (by omega), Jn_cl (by omega), if_pos h1, gd_Jn hx (by omega), if_neg h2]
theorem opR {x : Nat} (hx : x < 20000) (h1 : 22 ≤ T.2.2.1 x) (h2 : ¬ 30 ≤ T.2.2.1 x) (V : S_MV) (I : S_MI) : f_Model_openItem C Nm T V I 1 (Jn x) = f_Model_openRung C T V I (Jn x) := by
  rw [op1 hx]
  unfold f_Model_openNode
  rw [gd_Jn hx (by omega), Jn_cl (by omega), if_pos (Int32.le_trans (by decide) h1), gd_Jn hx (by omega), if_pos h1, gd_Jn hx (by omega), if_neg h2]
  cases f_Model_openRung C T V I (Jn x) <;> rfl
theorem opO {x : Nat} (hx : x < 20000) (h1 : 30 ≤ T.2.2.1 x) (V : S_MV) (I : S_MI) : f_Model_openItem C Nm T V I 1 (Jn x) = f_Model_openOperand C T V I (Jn x) := by
  rw [op1 hx]
  unfold f_Model_openNode
  rw [gd_Jn hx (by omega), Jn_cl (by omega), if_pos (Int32.le_trans (by decide) h1), gd_Jn hx (by omega), if_pos (Int32.le_trans (by decide) h1), gd_Jn hx (by omega), if_pos h1]
  cases f_Model_openOperand C T V I (Jn x) <;> rfl
/-- items before and behind the children -/
theorem al_nn {x : Nat} (hx : x < 20000) (kd : Int32) : PSH (fun I => f_Model_itemAll T I (-1) kd (Jn x) (-1)) [(kd, T.2.2.2.2.2.2.1 x)] := by
  refine PSH.cong (PSH.last kd (T.2.2.2.2.2.2.1 x)) fun I => ?_
  unfold f_Model_itemAll
  rw [if_pos rfl, gd_Jn hx (by omega), Jn_cl (by omega)]
  simp only [if_true, ob_id]
theorem al_nb {x : Nat} (hx : x < 20000) (kd b : Int32) (hb : b ≠ -1) : PSH (fun I => f_Model_itemAll T I (-1) kd (Jn x) b) [(0, b), (kd, T.2.2.2.2.2.2.1 x)] := by
  refine PSH.cong (PSH.item kd (T.2.2.2.2.2.2.1 x) (PSH.last 0 b)) fun I => ?_
  unfold f_Model_itemAll
  rw [if_pos rfl, gd_Jn hx (by omega), Jn_cl (by omega)]
  simp only [if_neg hb, ob_id]
theorem al_an {x : Nat} (hx : x < 20000) (a kd : Int32) (ha : a ≠ -1) : PSH (fun I => f_Model_itemAll T I a kd (Jn x) (-1)) [(kd, T.2.2.2.2.2.2.1 x), (0, a)] := by
  refine PSH.cong (PSH.item 0 a (PSH.last kd (T.2.2.2.2.2.2.1 x))) fun I => ?_
  unfold f_Model_itemAll
  rw [if_neg ha]
  simp only [gd_Jn hx (show 20000 < 2147483648 by omega), Jn_cl (show x < 2147483648 by omega), if_true, ob_id]
theorem al_ab {x : Nat} (hx : x < 20000) (a kd b : Int32) (ha : a ≠ -1) (hb : b ≠ -1) : PSH (fun I => f_Model_itemAll T I a kd (Jn x) b) [(0, b), (kd, T.2.2.2.2.2.2.1 x), (0, a)] := by
  refine PSH.cong (PSH.item 0 a (PSH.item kd (T.2.2.2.2.2.2.1 x) (PSH.last 0 b))) fun I => ?_
  unfold f_Model_itemAll
  rw [if_neg ha]
  simp only [gd_Jn hx (show 20000 < 2147483648 by omega), Jn_cl (show x < 2147483648 by omega), if_neg hb, ob_id]
theorem second_ok {x a : Nat} (hx : x < 20000) (ha : a < 20000) (hf : T.2.2.2.2.2.2.1 x = Jn a) : f_Model_second T (Jn x) = some (T.2.2.2.2.2.2.2.2 a) := by
  unfold f_Model_second
  rw [gd_Jn hx (by omega), Jn_cl (by omega), hf, gd_Jn ha (by omega), Jn_cl (by omega)]
theorem close14 {v : Int32} (h : ∃ j : Nat, v = Jn j ∧ j < 14) : f_Model_closeness v = some (bindN v) ∧ bindN v < 8 := by
  obtain ⟨j, rfl, hj⟩ := h
  have key : ∀ j : Fin 14, f_Model_closeness (Jn j.1) = some (bindN (Jn j.1)) ∧ bindN (Jn j.1) < 8 := by decide +kernel
  exact key ⟨j, hj⟩
theorem tokof14 {v : Int32} (h : ∃ j : Nat, v = Jn j ∧ j < 14) : ∃ t : Nat, f_Model_tokenOf v = some (Jn t) ∧ ((t < 41 ∧ betw v = Jn (256 + t)) ∨ (50 ≤ t ∧ t < 72 ∧ sgm t = betw v)) := by
  obtain ⟨j, rfl, hj⟩ := h
  have key : ∀ j : Fin 14, ∃ t : Fin 72, f_Model_tokenOf (Jn j.1) = some (Jn t.1) ∧ ((t.1 < 41 ∧ betw (Jn j.1) = Jn (256 + t.1)) ∨ (50 ≤ t.1 ∧ t.1 < 72 ∧ sgm t.1 = betw (Jn j.1))) := by decide +kernel
  obtain ⟨t, h1, h2⟩ := key ⟨j, hj⟩
  exact ⟨t.1, h1, h2⟩
/-- an operand, in brackets or not -/
def opI (b : Prop) [Decidable b] (a : Nat) : List Itm := if b then [(0, 55), (1, Jn a), (0, 56)] else [(1, Jn a)]
def opT (b : Prop) [Decidable b] (X : List Tok) : List Tok := if b then [(40, 0)] ++ (X ++ [(41, 0)]) else X
theorem tkF_consB {K V : Int32} {i : Nat} {k : Int32} {p : Nat} {v : Int32} {c r : FO} : tkF K V i (FO.cons k p v c r) = sepT K V i k ++ (opT (brk K V i k v) (innT k v c) ++ tkF K V (i + 1) r) := by
  by_cases h : brk K V i k v
  · have e : k = 35 := h.1
    subst e
    have e1 : begT 35 v = [] := by
      unfold begT fstc nxtc sgT
      simp (decide := true) [bears]
    have e2 : ∀ n, finT 35 n = [] := by
      intro n
      unfold finT lstc sgT
      simp (decide := true) [semi]
    unfold innT opT
    rw [tkF, if_pos h, if_pos h, if_pos h, e1, e2]
    simp only [List.nil_append, List.append_nil, List.append_assoc]
  · unfold opT
    rw [tkF_cons h, if_neg h]
theorem opI_len (b : Prop) [Decidable b] (a : Nat) : (opI b a).length ≤ 3 := by
  unfold opI
  split
  · exact Nat.le_refl 3
  · exact Nat.le_of_ble_eq_true rfl
theorem operI (hC : MC C) {b : Prop} [Decidable b] {a : Nat} {X : List Tok} {r w : Nat} (h : EMI C Nm T ns [(1, Jn a)] X r w) (hr : 3 ≤ r) : EMI C Nm T ns (opI b a) (opT b X) (r + 1) (w + 2) := by
  have t55 := tS (Nm := Nm) (T := T) (ns := ns) hC 55 40 (by decide) (by decide) (by decide)
  have t56 := tS (Nm := Nm) (T := T) (ns := ns) hC 56 41 (by decide) (by decide) (by decide)
  unfold opI opT
  by_cases c : b
  · rw [if_pos c, if_pos c]
    exact (EMI.cons t55 (EMI.cons h t56)).mono (by (first | omega | (simp only [List.length_cons, List.length_nil, List.length_append]; omega))) (by omega)
  · rw [if_neg c, if_neg c]
    exact h.mono (by omega) (by omega)
theorem oper_psh {x a i : Nat} {k v K V : Int32} (hx : x < 20000) (ha : a < 20000) (hk : T.2.2.1 a = k) (hv : T.2.2.2.2.1 a = v) (hK : T.2.2.1 x = K) (hV : T.2.2.2.2.1 x = V) (h35 : k = 35 → ∃ j : Nat, v = Jn j ∧ j < 14) (hi : i = 0 ∨ i = 1) (hx2 : K = 36 ∨ (K = 35 ∧ ∃ j : Nat, V = Jn j ∧ j < 14)) : PSH (fun I => f_Model_itemOperand T I (Jn a) (Jn x) (Jn i)) (opI (brk K V i k v) a) := by
  have three : PSH (fun I => (f_Model_item I 0 56).bind fun r => (f_Model_item r 1 (Jn a)).bind fun r => f_Model_item r 0 55) [(0, 55), (1, Jn a), (0, 56)] := PSH.item 0 56 (PSH.item 1 (Jn a) (PSH.last 0 55))
  have n20 : (20000 : Nat) < 2147483648 := by omega
  by_cases c35 : k = 35
  · obtain ⟨q1, q2⟩ := close14 (h35 c35)
    rcases hx2 with e36 | ⟨e35, hVr⟩
    · have hb : brk K V i k v := ⟨c35, Or.inl e36⟩
      unfold opI
      rw [if_pos hb]
      refine PSH.cong three fun I => ?_
      unfold f_Model_itemOperand
      rw [gd_Jn ha n20, Jn_cl (by omega), hk, if_pos c35, gd_Jn ha n20, hv, q1, ob_some, gd_Jn hx n20, Jn_cl (by omega), hK, if_pos e36, if_pos q2]
      simp only [ob_id]
    · obtain ⟨w1, w2⟩ := close14 hVr
      have n36 : ¬ K = 36 := by rw [e35]; decide
      have base : ∀ I, f_Model_itemOperand T I (Jn a) (Jn x) (Jn i) = (if bindN v < bindN V then (f_Model_item I 0 56).bind fun r => (f_Model_item r 1 (Jn a)).bind fun r => f_Model_item r 0 55 else if Jn i = 0 then f_Model_item I 1 (Jn a) else if bindN V = bindN v then (f_Model_item I 0 56).bind fun r => (f_Model_item r 1 (Jn a)).bind fun r => f_Model_item r 0 55 else f_Model_item I 1 (Jn a)) := by
        intro I
        unfold f_Model_itemOperand
        rw [gd_Jn ha n20, Jn_cl (by omega), hk, if_pos c35, gd_Jn ha n20, hv, q1, ob_some, gd_Jn hx n20, Jn_cl (by omega), hK, if_neg n36, gd_Jn hx n20, hV, w1, ob_some]
        simp only [ob_id]
      by_cases c1 : bindN v < bindN V
      · have hb : brk K V i k v := ⟨c35, Or.inr ⟨e35, Or.inl c1⟩⟩
        unfold opI
        rw [if_pos hb]
        refine PSH.cong three fun I => ?_
        rw [base, if_pos c1]
      · rcases hi with rfl | rfl
        · have hb : ¬ brk K V 0 k v := by
            rintro ⟨_, y | ⟨_, y | ⟨_, y⟩⟩⟩
            · exact n36 y
            · exact c1 y
            · exact absurd y (by decide)
          unfold opI
          rw [if_neg hb]
          refine PSH.cong (PSH.last 1 (Jn a)) fun I => ?_
          rw [base, if_neg c1, if_pos (show Jn 0 = 0 from rfl)]
        · by_cases c2 : bindN V = bindN v
          · have hb : brk K V 1 k v := ⟨c35, Or.inr ⟨e35, Or.inr ⟨c2.symm, rfl⟩⟩⟩
            unfold opI
            rw [if_pos hb]
            refine PSH.cong three fun I => ?_
            rw [base, if_neg c1, if_neg (show ¬ Jn 1 = 0 by decide), if_pos c2]
          · have hb : ¬ brk K V 1 k v := by
              rintro ⟨_, y | ⟨_, y | ⟨y, _⟩⟩⟩
              · exact n36 y
              · exact c1 y
              · exact c2 y.symm
            unfold opI
            rw [if_neg hb]
            refine PSH.cong (PSH.last 1 (Jn a)) fun I => ?_
            rw [base, if_neg c1, if_neg (show ¬ Jn 1 = 0 by decide), if_neg c2]
  · have hb : ¬ brk K V i k v := fun y => c35 y.1
    unfold opI
    rw [if_neg hb]
    refine PSH.cong (PSH.last 1 (Jn a)) fun I => ?_
    unfold f_Model_itemOperand
    rw [gd_Jn ha n20, Jn_cl (by omega), hk, if_neg c35, gd_Jn hx n20, Jn_cl (by omega), hK]
    rcases hx2 with e36 | ⟨e35, hVr⟩
    · rw [if_pos e36]
      simp only [ob_id]
    · rw [if_neg (by rw [e35]; decide), gd_Jn hx n20, hV, (close14 hVr).1, ob_some]
      simp only [ob_id]
end
end
