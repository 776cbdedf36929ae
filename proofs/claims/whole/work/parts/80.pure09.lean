section
/-! One token: how the class calls it and how the reference does. -/
def KMT : List (Int32 × Int32) := [(1, 80), (2, 81), (3, 82), (4, 83), (256, 0), (257, 1), (258, 2), (259, 3), (260, 4), (261, 5), (262, 6), (263, 7), (264, 8), (265, 9), (266, 10), (267, 11), (268, 12), (269, 13), (270, 14), (271, 15), (272, 16), (273, 17), (274, 18), (275, 19), (276, 20), (277, 21), (278, 22), (279, 23), (280, 24), (281, 25), (282, 26), (283, 27), (284, 28), (285, 29), (286, 30), (287, 31), (288, 32), (289, 33), (290, 34), (291, 35), (292, 36), (293, 37), (294, 38), (295, 39), (296, 40), (14909, 50), (11822, 51), (15421, 52), (15933, 53), (15422, 54), (40, 55), (41, 56), (91, 57), (93, 58), (44, 59), (59, 60), (58, 61), (46, 62), (43, 63), (45, 64), (42, 65), (47, 66), (61, 67), (60, 68), (62, 69), (38, 70), (124, 71)]
def KM (K T : Int32) : Prop := (K, T) ∈ KMT
theorem KM_word {j : Nat} (h : j < 41) : KM (Jn (256 + j)) (Jn j) := by
  have key : ∀ j, j < 41 → (Jn (256 + j), Jn j) ∈ KMT := by decide +kernel
  exact key j h
theorem tok_add {j : Nat} (h : j < 8193) (at' K P V : Int32) (kd pl vl : Nat → Int32) : f_Tokens_add (Jn j, at', kd, pl, vl) K P V = some (Jn (j + 1), at', upd kd j K, upd pl j P, upd vl j V) := by
  unfold f_Tokens_add
  dsimp only
  rw [if_neg (J_nneg), if_neg (nleL 8193 h), gd_Jn h (by omega), gd_Jn h (by omega), gd_Jn h (by omega), Jn_cl (by omega), addL j 1]
abbrev zNm (x : Int32) : Prop := zLt x ∨ zDg x
theorem nmLoopJ {cT mX n b} (h : TX cT mX n b) (sz : Int32) (ar : (Nat → Int32) × (Nat → Int32) × (Nat → Int32)) (bg tk wo : Int32) (rs : Int32 × Int32 × Int32) : ∀ (d p t fC fM : Nat), n - p < d → d ≤ fC → d ≤ fM → p ≤ n → t ≤ p →
    ∃ q, p ≤ q ∧ q ≤ n ∧ ¬ zNm (b q) ∧ (zNm (b p) → p < q) ∧ f_Tokens_scanName_L7 cT fC (Jn t) (sz, Jn p, ar) = some (sz, Jn q, ar) ∧ f_Model_readName_L0 mX fM (bg, tk, wo, Jn p, rs) = some (bg, tk, wo, Jn q, rs) := by
  have hn : n ≤ 8192 := h.1
  intro d
  induction d with
  | zero => intro p t fC fM h1; omega
  | succ d ih =>
    intro p t fC fM h1 h2 h3 hp ht
    obtain ⟨fC, rfl⟩ : ∃ f, fC = f + 1 := ⟨fC - 1, by omega⟩
    obtain ⟨fM, rfl⟩ : ∃ f, fM = f + 1 := ⟨fM - 1, by omega⟩
    have endOfText : p = n → ¬ zNm (b p) := by
      intro e
      rw [h.2.2.2.2 p (by omega)]
      unfold zNm zLt zDg
      rw [show (-1 : Int32).toInt = -1 by decide]
      omega
    unfold f_Model_readName_L0
    dsimp only
    rw [h.goesOn (by omega)]
    by_cases c : zNm (b p)
    · have hlt : p < n := by
        apply Classical.byContradiction
        intro x
        exact endOfText (by omega) c
      unfold f_Tokens_scanName_L7
      dsimp only
      rw [if_neg (nleL 8192 (by omega)), h.get (by omega), ob_some, (isNm_C _).1 c, ob_some, if_neg (by decide), nm_eq, addL p 1, addL t 1, ob_some, if_neg (by decide)]
      obtain ⟨q, a1, a2, a3, a4, a5, a6⟩ := ih (p + 1) (t + 1) fC fM (by omega) (by omega) (by omega) (by omega) (by omega)
      exact ⟨q, by omega, a2, a3, fun _ => by omega, a5, a6⟩
    · refine ⟨p, by omega, hp, c, fun x => absurd x c, ?_, ?_⟩
      · unfold f_Tokens_scanName_L7
        dsimp only
        by_cases c8 : 8192 ≤ t
        · rw [if_pos (leL 8192 c8)]
        · rw [if_neg (nleL 8192 (by omega)), h.get (by omega), ob_some, (isNm_C _).2 c, ob_some, if_pos rfl]
      · rw [(isNm_C _).2 c, ob_some, if_pos rfl]
theorem letL {cT mX n b} (h : TX cT mX n b) {L : List (List Int32)} {s q : Nat} (sz : Int32) (ar : (Nat → Int32) × (Nat → Int32) × (Nat → Int32)) (hq : q ≤ n) (hr : L.flatten.length + (q - s) ≤ 8704) : ∀ (d k f : Nat) (o : S_Names), q - (s + k) < d → d ≤ f → s + k ≤ q → CN o L (seg b s k) →
    ∃ o', f_Tokens_scanName_L68 (sz, Jn q, ar) cT f (Jn (s + k)) o = some o' ∧ CN o' L (seg b s (q - s)) := by
  have hn : n ≤ 8192 := h.1
  intro d
  induction d with
  | zero => intro k f o h1; omega
  | succ d ih =>
    intro k f o hd hf hk hC
    obtain ⟨f, rfl⟩ : ∃ g, f = g + 1 := ⟨f - 1, by omega⟩
    unfold f_Tokens_scanName_L68
    dsimp only
    by_cases c : s + k = q
    · rw [if_pos (J_le (by omega))]
      refine ⟨o, rfl, ?_⟩
      rw [show q - s = k by omega]; exact hC
    · rw [if_neg (J_nle (by omega)), h.get (by omega), ob_some]
      obtain ⟨o', a1, a2⟩ := hC.addLetter (b (s + k)) (by rw [seg_len]; omega)
      rw [a1, ob_some, nm_eq, addL _ 1]
      have e : seg b s (k + 1) = seg b s k ++ [zGr (b (s + k))] := by
        unfold seg; rw [List.range_succ, List.map_append]; rfl
      rw [← e] at a2
      exact ih (k + 1) f o' (by omega) (by omega) (by omega) a2
theorem gdApp (A B : List (List Int32)) (i : Nat) (h : i < A.length) : (A ++ B).getD i [] = A.getD i [] := by
  rw [List.getD_eq_getElem?_getD, List.getD_eq_getElem?_getD, List.getElem?_append_left h]
theorem gdApp2 (A B : List (List Int32)) (i : Nat) (h : A.length ≤ i) : (A ++ B).getD i [] = B.getD (i - A.length) [] := by
  rw [List.getD_eq_getElem?_getD, List.getD_eq_getElem?_getD, List.getElem?_append_right h]
/-- what the names of both sides have in common, when the bytes before p are read -/
def NR (cn : S_Names) (mn : S_MN) (ns : List (List Int32)) (p : Nat) : Prop :=
  CN cn (WS ++ ns) [] ∧ MN mn ns ∧ UQ (WS ++ ns) ∧ ns.flatten.length ≤ p ∧ 2 * ns.length ≤ p + 1
/-- names are bytes, not many -/
def NB (ns : List (List Int32)) : Prop := ∀ x, x ∈ ns → x.length ≤ 32 ∧ ∀ c, c ∈ x → 0 ≤ c.toInt ∧ c.toInt ≤ 255
def TFw (b : Nat → Int32) (s q : Nat) (K V : Int32) (ns ns' : List (List Int32)) : Prop :=
  zNm (b s) ∧ ¬ zNm (b q) ∧ (∃ l, ns' = ns ++ l) ∧ (NB ns → NB ns') ∧ ((∃ w, w < 41 ∧ K = Jn (256 + w) ∧ (WS.getD w []).length = q - s) ∨ (K = 1 ∧ ∃ a, V = Jn a ∧ a < ns'.length ∧ (ns'.getD a []).length = q - s))
theorem seg_bytes {cT mX n b} (h : TX cT mX n b) {s q : Nat} (hq : q ≤ n) : ∀ c, c ∈ seg b s (q - s) → 0 ≤ c.toInt ∧ c.toInt ≤ 255 := by
  intro c hc
  unfold seg at hc
  obtain ⟨k, hk, rfl⟩ := List.mem_map.mp hc
  rw [List.mem_range] at hk
  obtain ⟨_, _, h3, h4⟩ := h.2.2.2.1 (s + k) (by omega)
  unfold zGr
  split
  · rename_i c
    have e : (b (s + k) - 32).toInt = (b (s + k)).toInt - 32 := by
      rw [Int32.toInt_sub, show (32 : Int32).toInt = 32 from rfl, Int.bmod_eq_of_le] <;> omega
    rw [e]; omega
  · exact ⟨h3, h4⟩
theorem nameJ {cT mX n b} (h : TX cT mX n b) {C} (hC : MC C) {cn mn ns} {s : Nat} (hN : NR cn mn ns s) (h2 : 2 * ns.length ≤ s) (hs : s < n) (hb : zNm (b s)) {j : Nat} (hj : j < 8193) (kd pl vl : Nat → Int32) (tk wo lp fp : Int32) :
    ∃ q, s < q ∧ q ≤ n ∧ ¬ zNm (b q) ∧ (
      (f_Tokens_scanName (Jn j, Jn s, kd, pl, vl) cT cn = some ((Jn (j + 1), Jn q, upd kd j 5, upd pl j (Jn s), upd vl j 3), cn) ∧ f_Model_readName C mX (Jn s, tk, wo, Jn s, lp, 0, fp) mn = some ((Jn s, tk, wo, Jn q, lp, 3, Jn s), mn)) ∨
      (∃ K V T cn' mn' ns', KM K T ∧ K ≠ 4 ∧ NR cn' mn' ns' q ∧ (T = 0 ∨ T = 2 ∨ T = 4 → s + 7 ≤ q) ∧ f_Tokens_scanName (Jn j, Jn s, kd, pl, vl) cT cn = some ((Jn (j + 1), Jn q, upd kd j K, upd pl j (Jn s), upd vl j V), cn') ∧ f_Model_readName C mX (Jn s, tk, wo, Jn s, lp, 0, fp) mn = some ((Jn s, T, V, Jn q, lp, 0, fp), mn') ∧ TFw b s q K V ns ns')) := by
  have hn : n ≤ 8192 := h.1
  obtain ⟨q, a1, a2, a3, a4, a5, a6⟩ := nmLoopJ h (Jn j) (kd, pl, vl) (Jn s) tk wo (lp, 0, fp) 10000 s 0 FU FU (by omega) (by decide) (by decide) (by omega) (by omega)
  have hsq := a4 hb
  refine ⟨q, hsq, a2, a3, ?_⟩
  unfold f_Tokens_scanName f_Model_readName
  rw [show f_Tokens_scanName_L7 cT FU 0 (Jn j, Jn s, kd, pl, vl) = _ from a5, a6, ob_some, ob_some]
  dsimp only
  rw [Jn_sub (by omega)]
  by_cases c32 : q - s ≤ 32
  · right
    rw [if_pos (leR 32 c32), if_pos (leR 32 c32)]
    obtain ⟨n1, n2, n3, n4, n5⟩ := hN
    have hfl : (WS ++ ns).flatten.length = 229 + ns.flatten.length := by rw [List.flatten_append, List.length_append, WS_flat]
    have hll : (WS ++ ns).length = 41 + ns.length := by rw [List.length_append, WS_len]
    obtain ⟨o', b1, b2⟩ := letL h (L := WS ++ ns) (s := s) (q := q) (Jn j) (kd, pl, vl) a2 (by omega) 10000 0 FU cn (by omega) (by decide) (by omega) (by rw [show seg b s 0 = [] from rfl]; exact n1)
    rw [show f_Tokens_scanName_L68 (Jn j, Jn q, kd, pl, vl) cT FU (Jn s) cn = _ from b1, ob_some]
    rcases wordOfM h hC (s := s) (m := q - s) (by omega) with ⟨w, w1, w2, w3⟩ | ⟨w1, w3⟩
    · -- a word
      rcases b2.number with ⟨i, i1, i2, o2, i3, i4⟩ | ⟨i1, i2⟩
      · have ew : i = w := n3 i w i1 (by omega) (by rw [i2, gdApp _ _ _ (by rw [WS_len]; exact w1), w2])
        subst ew
        rw [i3, ob_some]
        dsimp only
        rw [if_neg (nleL 41 w1), show (256 : Int32) + Jn i = Jn (256 + i) from Jn_add 256 i, tok_add hj, ob_some, w3, ob_some, if_neg J_nneg, if_neg J_nneg]
        have hlen : (WS.getD i []).length = q - s := by rw [w2, seg_len]
        have h7 : Jn i = 0 ∨ Jn i = 2 ∨ Jn i = 4 → s + 7 ≤ q := by
          intro x
          have hx : i = 0 ∨ i = 2 ∨ i = 4 := by
            rcases x with x | x | x
            · exact Or.inl (Classical.byContradiction fun c => neR 0 c (by omega) (by omega) x)
            · exact Or.inr (Or.inl (Classical.byContradiction fun c => neR 2 c (by omega) (by omega) x))
            · exact Or.inr (Or.inr (Classical.byContradiction fun c => neR 4 c (by omega) (by omega) x))
          rcases hx with rfl | rfl | rfl
          · have : (WS.getD 0 []).length = 8 := rfl
            omega
          · have : (WS.getD 2 []).length = 14 := rfl
            omega
          · have : (WS.getD 4 []).length = 7 := rfl
            omega
        exact ⟨_, _, _, o2, mn, ns, KM_word w1, J_ne (a := 256 + i) (b := 4) (by omega) (by omega), ⟨i4, n2, n3, by omega, by omega⟩, h7, rfl, rfl, hb, a3, ⟨[], (List.append_nil ns).symm⟩, fun z => z, Or.inl ⟨i, w1, rfl, hlen⟩⟩
      · exact absurd w2 (by rw [← gdApp WS ns w (by rw [WS_len]; exact w1)]; exact i1 w (by omega))
    · rw [w3, ob_some, if_pos (by decide), if_pos (by decide)]
      rcases b2.number with ⟨i, i1, i2, o2, i3, i4⟩ | ⟨i1, i2⟩
      · have hi41 : 41 ≤ i := by
          apply Classical.byContradiction
          intro x
          exact w1 i (by omega) (by rw [← gdApp WS ns i (by rw [WS_len]; omega)]; exact i2)
        have i2' : ns.getD (i - 41) [] = seg b s (q - s) := by
          rw [gdApp2 _ _ _ (by rw [WS_len]; exact hi41), WS_len] at i2; exact i2
        rw [i3, ob_some]
        dsimp only
        rw [if_pos (leL 41 hi41), subL 41 hi41, tok_add hj, ob_some]
        rcases nameOfM h n2 (s := s) (m := q - s) (by omega) with ⟨k, k1, k2, k3⟩ | ⟨k1, k2⟩
        · have ek : i = 41 + k := n3 i (41 + k) i1 (by omega) (by
            rw [i2, gdApp2 _ _ (41 + k) (by rw [WS_len]; omega), WS_len, show 41 + k - 41 = k by omega, k2])
          subst ek
          rw [show 41 + k - 41 = k by omega, k3, ob_some]
          exact ⟨_, _, _, o2, mn, ns, show KM 1 80 by unfold KM; decide, by decide, ⟨i4, n2, n3, by omega, by omega⟩, fun x => absurd x (by decide), rfl, rfl, hb, a3, ⟨[], (List.append_nil ns).symm⟩, fun z => z, Or.inr ⟨rfl, k, rfl, k1, by rw [k2, seg_len]⟩⟩
        · exact absurd i2' (k1 (i - 41) (by omega))
      · obtain ⟨o2, i3, i4⟩ := i2 (by omega)
        rw [i3, ob_some]
        dsimp only
        rw [hll, if_pos (leL 41 (by omega)), subL 41 (by omega), tok_add hj, ob_some]
        rcases nameOfM h n2 (s := s) (m := q - s) (by omega) with ⟨k, k1, k2, k3⟩ | ⟨k1, k2⟩
        · exact absurd k2 (by
            have := i1 (41 + k) (by omega)
            rw [gdApp2 _ _ (41 + k) (by rw [WS_len]; omega), WS_len, show 41 + k - 41 = k by omega] at this
            exact this)
        · obtain ⟨m2, k3, k4⟩ := k2 (by omega) (by omega)
          rw [k3, ob_some, show 41 + ns.length - 41 = ns.length by omega]
          refine ⟨_, _, _, o2, m2, ns ++ [seg b s (q - s)], show KM 1 80 by unfold KM; decide, by decide, ⟨by rw [← List.append_assoc]; exact i4, k4, ?_, ?_, ?_⟩, fun x => absurd x (by decide), rfl, rfl, hb, a3, ⟨_, rfl⟩, ?_, Or.inr ⟨rfl, ns.length, rfl, by rw [List.length_append, List.length_singleton]; omega, ?_⟩⟩
          · rw [← List.append_assoc]; exact n3.app i1
          · have : (ns ++ [seg b s (q - s)]).flatten.length = ns.flatten.length + (q - s) := by simp [seg_len]
            omega
          · rw [List.length_append, List.length_singleton]; omega
          · intro hz x hx
            rcases List.mem_append.mp hx with y | y
            · exact hz x y
            · rw [List.mem_singleton.mp y]
              exact ⟨by rw [seg_len]; exact c32, seg_bytes h a2⟩
          · rw [List.getD_eq_getElem?_getD, List.getElem?_append_right (Nat.le_refl _), Nat.sub_self]
            show (seg b s (q - s)).length = _
            rw [seg_len]
  · left
    rw [if_neg (nleR 32 (by omega)), if_neg (nleR 32 (by omega)), tok_add hj, ob_some]
    refine ⟨rfl, ?_⟩
    unfold f_Model_fail
    rw [if_pos rfl, ob_some]
end
section
/-! Long numbers. -/
def Lj (n : Nat) : Int64 := Int64.ofNat n
theorem Lj_int {a : Nat} (h : a < 9223372036854775808) : (Lj a).toInt = (a : Int) := by
  unfold Lj
  rw [Int64.toInt_ofNat']
  have : Int64.size = 18446744073709551616 := rfl
  rw [Int.bmod_eq_of_le] <;> omega
theorem Lj_add (a b : Nat) : Lj a + Lj b = Lj (a + b) := by unfold Lj; rw [Int64.ofNat_add]
theorem Lj_mul (a b : Nat) : Lj a * Lj b = Lj (a * b) := by unfold Lj; rw [Int64.ofNat_mul]
theorem Jn_64 {a : Nat} (h : a < 2147483648) : (Jn a).toInt64 = Lj a := by
  apply Int64.toInt_inj.mp
  rw [Int32.toInt_toInt64, Jn_int h, Lj_int (by omega)]
theorem Lj_32 (a : Nat) : (Lj a).toInt32 = Jn a := by
  unfold Lj Jn
  rw [Int64.toInt32_ofNat']
theorem lg_lt0 (x y : Int64) : (lg_cmp x y < 0) = (x.toInt < y.toInt) := by
  unfold lg_cmp
  apply propext
  have h1 : (x > y) = (y.toInt < x.toInt) := by rw [gt_iff_lt, Int64.lt_iff_toInt_lt]
  have h2 : (x = y) = (x.toInt = y.toInt) := by rw [Int64.toInt_inj]
  simp only [h1, h2]
  repeat' split
  · have : ¬ (1 : Int32) < 0 := by decide
    constructor
    · intro x; exact absurd x this
    · intro x; omega
  · have : ¬ (0 : Int32) < 0 := by decide
    constructor
    · intro x; exact absurd x this
    · intro x; omega
  · have : (-1 : Int32) < 0 := by decide
    constructor
    · intro x; omega
    · intro x; exact this
theorem lg_gt0 (x y : Int64) : (0 < lg_cmp x y) = (y.toInt < x.toInt) := by
  unfold lg_cmp
  apply propext
  have h1 : (x > y) = (y.toInt < x.toInt) := by rw [gt_iff_lt, Int64.lt_iff_toInt_lt]
  have h2 : (x = y) = (x.toInt = y.toInt) := by rw [Int64.toInt_inj]
  simp only [h1, h2]
  repeat' split
  · have : (0 : Int32) < 1 := by decide
    constructor
    · intro x; omega
    · intro x; exact this
  · have : ¬ (0 : Int32) < 0 := by decide
    constructor
    · intro x; exact absurd x this
    · intro x; omega
  · have : ¬ (0 : Int32) < -1 := by decide
    constructor
    · intro x; exact absurd x this
    · intro x; omega
theorem lg_le0 (x y : Int64) : (lg_cmp x y ≤ 0) = (x.toInt ≤ y.toInt) := by
  have h := lg_gt0 x y
  have : (lg_cmp x y ≤ 0) = ¬ (0 < lg_cmp x y) := by
    apply propext
    rw [Int32.le_iff_toInt_le, Int32.lt_iff_toInt_lt]; omega
  rw [this, h]
  apply propext; omega
theorem lg_eq0 (x y : Int64) : (lg_cmp x y = 0) = (x.toInt = y.toInt) := by
  have h := lg_gt0 x y
  have h' := lg_lt0 x y
  have : (lg_cmp x y = 0) = (¬ (0 < lg_cmp x y) ∧ ¬ (lg_cmp x y < 0)) := by
    apply propext
    rw [Int32.lt_iff_toInt_lt, Int32.lt_iff_toInt_lt, ← Int32.toInt_inj]
    rw [show (0 : Int32).toInt = 0 by decide]
    omega
  rw [this, h, h']
  apply propext; omega
def zDig (x : Int32) : Option Nat := if 48 ≤ x.toInt ∧ x.toInt ≤ 57 then some (x.toInt - 48).toNat else if 65 ≤ (zGr x).toInt ∧ (zGr x).toInt ≤ 70 then some ((zGr x).toInt - 55).toNat else none
theorem sub_int {x : Int32} {k : Nat} (hk : k < 1000) (h : (k : Int) ≤ x.toInt) : x - Jn k = Jn (x.toInt - k).toNat := by
  have hl := Int32.toInt_lt x
  have e : x = Jn x.toInt.toNat := by
    apply Int32.toInt_inj.mp
    rw [Jn_int (by omega)]; omega
  rw [e, Jn_sub (by omega), Jn_int (by omega)]
  congr 1; omega
theorem zGr_dg {x : Int32} (h : x.toInt ≤ 57) : zGr x = x := by
  unfold zGr; rw [if_neg (by omega)]
theorem digC (x : Int32) : f_Tokens_digit x = some (match zDig x with | none => -1 | some d => Jn d) := by
  unfold f_Tokens_digit zDig
  rw [great_C, ob_some]
  have hA : (zGr x < 65) = ((zGr x).toInt < 65) := zlt_l (zGr x) 65 (by omega)
  have hB : (70 < zGr x) = (70 < (zGr x).toInt) := zlt_r (zGr x) 70 (by omega)
  simp only [hA, hB]
  by_cases c : 48 ≤ x.toInt ∧ x.toInt ≤ 57
  · rw [if_pos c, zGr_dg c.2, if_pos (by omega), (isDg_C x).1 c, ob_some, if_neg (by decide), show x - 48 = _ from sub_int (k := 48) (by omega) (by omega)]; rfl
  · rw [if_neg c]
    by_cases d : 65 ≤ (zGr x).toInt ∧ (zGr x).toInt ≤ 70
    · rw [if_pos d, if_neg (by omega), if_neg (by omega), show zGr x - 65 = _ from sub_int (k := 65) (by omega) (by omega), addL _ 10]
      congr 2; omega
    · rw [if_neg d]
      by_cases e : (zGr x).toInt < 65
      · rw [if_pos (by omega), (isDg_C x).2 c]; rfl
      · rw [if_neg (by omega), if_pos (by omega), (isDg_C x).2 c]; rfl
theorem digM (x : Int32) : f_Model_digitOf x = some (match zDig x with | none => 99 | some d => Jn d) := by
  unfold f_Model_digitOf zDig
  rw [great_M, ob_some, isDg_M]
  have hA : (zGr x < 65) = ((zGr x).toInt < 65) := zlt_l (zGr x) 65 (by omega)
  have hB : (70 < zGr x) = (70 < (zGr x).toInt) := zlt_r (zGr x) 70 (by omega)
  simp only [hA, hB]
  by_cases c : 48 ≤ x.toInt ∧ x.toInt ≤ 57
  · rw [if_pos c, (isDg_C x).1 c, ob_some, if_neg (by decide), show x - 48 = _ from sub_int (k := 48) (by omega) (by omega)]; rfl
  · rw [if_neg c, (isDg_C x).2 c, ob_some, if_pos rfl]
    by_cases d : 65 ≤ (zGr x).toInt ∧ (zGr x).toInt ≤ 70
    · rw [if_pos d, if_neg (by omega), if_neg (by omega), show zGr x - 65 = _ from sub_int (k := 65) (by omega) (by omega), addL _ 10]
      congr 2; omega
    · rw [if_neg d]
      by_cases e : (zGr x).toInt < 65
      · rw [if_pos (by omega)]
      · rw [if_neg (by omega), if_pos (by omega)]
theorem zDig_lt {x : Int32} {d : Nat} (h : zDig x = some d) : d < 16 := by
  unfold zDig at h
  split at h
  · injection h; omega
  · split at h
    · injection h; omega
    · cases h
theorem zDig_m1 : zDig (-1) = none := by decide
theorem minMB (V B d : Nat) (hB : 1 ≤ B) (M : Nat) : min M (min V M * B + d) = min (V * B + d) M := by
  by_cases c : V ≤ M
  · rw [Nat.min_eq_left (show V ≤ M from c), Nat.min_comm]
  · rw [Nat.min_eq_right (show M ≤ V by omega)]
    have h1 : M ≤ M * B := Nat.le_mul_of_pos_right M hB
    have h2 : M * B ≤ V * B := Nat.mul_le_mul_right B (by omega)
    omega
def capC : Nat := 2147483648
def capM : Nat := 1000000000000
theorem mathMin (W : Nat) (h : W < 9223372036854775808) : f_Math_min 2147483648 (Lj W) = some (Lj (min capC W)) := by
  unfold f_Math_min
  have hcC : capC = 2147483648 := rfl
  have e3 : (2147483648 : Int64).toInt = 2147483648 := by decide
  by_cases c : W < 2147483648
  · rw [if_pos (by rw [lg_gt0, Lj_int h, e3]; omega), Nat.min_eq_right (by omega)]
  · rw [if_neg (by rw [lg_gt0, Lj_int h, e3]; omega), Nat.min_eq_left (by omega)]; rfl
theorem digsJ {cT mX n b} (h : TX cT mX n b) {B : Nat} (hB : B = 10 ∨ B = 16 ∨ B = 2) (st : Nat) (hst : st < 9000) (sz : Int32) (ar : (Nat → Int32) × (Nat → Int32) × (Nat → Int32)) (bg tk wo : Int32) (rs : Int32 × Int32 × Int32) :
    ∀ (d p t V fC fM : Nat), 9000 - p < d → d ≤ fC → d ≤ fM → p ≤ n + 3 → t ≤ p → (p = st → V = 0) → st ≤ p →
    ∃ q V', p ≤ q ∧ (q ≤ n ∨ q = p) ∧ (q = st → V' = 0) ∧ f_Tokens_digits_L11 cT (Jn st) (Jn B) fC (Jn t) (Lj (min V capC)) (sz, Jn p, ar) = some (if q = st then -1 else Lj (min V' capC), (sz, Jn q, ar)) ∧
      f_Model_digits_L8 (Jn B) mX fM (Lj (min V capM)) (bg, tk, wo, Jn p, rs) = some (Lj (min V' capM), (bg, tk, wo, Jn q, rs)) ∧ V' + 1 ≤ (V + 1) * B ^ (q - p) := by
  have hn : n ≤ 8192 := h.1
  have hB1 : 1 ≤ B ∧ B ≤ 16 := by omega
  have hcC : capC = 2147483648 := rfl
  have hcM : capM = 1000000000000 := rfl
  intro d
  induction d with
  | zero => intro p t V fC fM h1; omega
  | succ d ih =>
    intro p t V fC fM h1 h2 h3 hp ht hV hsp
    obtain ⟨fC, rfl⟩ : ∃ f, fC = f + 1 := ⟨fC - 1, by omega⟩
    obtain ⟨fM, rfl⟩ : ∃ f, fM = f + 1 := ⟨fM - 1, by omega⟩
    have eqst : (Jn p = Jn st) = (p = st) := Jn_eq (by omega) (by omega)
    have stopC : (if Jn p = Jn st then some ((-1 : Int64), ((sz, Jn p, ar) : S_Tokens)) else some (Lj (min V capC), (sz, Jn p, ar))) = some (if p = st then -1 else Lj (min V capC), (sz, Jn p, ar)) := by
      by_cases c : p = st
      · rw [if_pos (by rw [c]), if_pos c]
      · rw [if_neg (J_ne c), if_neg c]
    have dead : (∀ x, zDig (b p) = some x → B ≤ x) → ∃ q V', p ≤ q ∧ (q ≤ n ∨ q = p) ∧ (q = st → V' = 0) ∧ f_Tokens_digits_L11 cT (Jn st) (Jn B) (fC + 1) (Jn t) (Lj (min V capC)) (sz, Jn p, ar) = some (if q = st then -1 else Lj (min V' capC), (sz, Jn q, ar)) ∧
      f_Model_digits_L8 (Jn B) mX (fM + 1) (Lj (min V capM)) (bg, tk, wo, Jn p, rs) = some (Lj (min V' capM), (bg, tk, wo, Jn q, rs)) ∧ V' + 1 ≤ (V + 1) * B ^ (q - p) := by
      intro nd
      refine ⟨p, V, by omega, by omega, hV, ?_, ?_, by rw [Nat.sub_self, Nat.pow_zero, Nat.mul_one]; exact Nat.le_refl _⟩
      · unfold f_Tokens_digits_L11
        dsimp only
        by_cases c8 : 8192 ≤ t
        · rw [if_pos (leL 8192 c8)]; exact stopC
        · rw [if_neg (nleL 8192 (by omega)), h.get (by omega), ob_some, digC, ob_some]
          cases e : zDig (b p) with
          | none => rw [if_pos rfl]; exact stopC
          | some x =>
            dsimp only
            have := zDig_lt e
            rw [if_neg (J_nm1 (by omega)), if_neg (J_nlt (nd x e) (by omega))]; exact stopC
      · unfold f_Model_digits_L8
        dsimp only
        rw [h.2.2.1]
        by_cases c8 : n ≤ p
        · rw [if_pos (J_le c8 (by omega))]
        · rw [if_neg (J_nle (by omega)), gd_Jn (by omega) (by omega), Jn_cl (by omega), (h.2.2.2.1 p (by omega)).2.1, digM, ob_some]
          cases e : zDig (b p) with
          | none => rw [if_pos (leR 99 (by omega))]
          | some x =>
            dsimp only
            have := zDig_lt e
            rw [if_pos (J_le (nd x e) (by omega))]
    cases e : zDig (b p) with
    | none => exact dead (by intro x ex; rw [e] at ex; cases ex)
    | some x =>
      by_cases cx : B ≤ x
      · exact dead (by intro y ey; rw [e] at ey; injection ey; omega)
      · have hx := zDig_lt e
        have hpn : p < n := by
          apply Classical.byContradiction
          intro c
          rw [h.2.2.2.2 p (by omega), zDig_m1] at e
          cases e
        obtain ⟨q, V', a1, a2, a3, a4, a5, a6⟩ := ih (p + 1) (t + 1) (V * B + x) fC fM (by omega) (by omega) (by omega) (by omega) (by omega) (by omega) (by omega)
        refine ⟨q, V', by omega, by omega, a3, ?_, ?_, ?_⟩
        · unfold f_Tokens_digits_L11
          dsimp only
          have hm : min V capC * B + x < 9223372036854775808 := by
            have : min V capC ≤ 2147483648 := by rw [← hcC]; exact Nat.min_le_right _ _
            have : min V capC * B ≤ 2147483648 * 16 := Nat.mul_le_mul this hB1.2
            omega
          have emin := mathMin _ hm
          rw [minMB V B x hB1.1 capC] at emin
          rw [if_neg (nleL 8192 (by omega)), h.get (by omega), ob_some, digC, ob_some, e]
          dsimp only
          rw [if_neg (J_nm1 (by omega)), if_pos (J_lt (by omega) (by omega)), Jn_64 (by omega), Jn_64 (by omega), Lj_mul, Lj_add, emin, ob_some, nm_eq, addL t 1, addL p 1]
          exact a4
        · unfold f_Model_digits_L8
          dsimp only
          have hm : min V capM * B + x < 9223372036854775808 := by
            have : min V capM ≤ 1000000000000 := by rw [← hcM]; exact Nat.min_le_right _ _
            have : min V capM * B ≤ 1000000000000 * 16 := Nat.mul_le_mul this hB1.2
            omega
          have e3 : (1000000000000 : Int64).toInt = 1000000000000 := by decide
          rw [h.2.2.1, if_neg (J_nle (by omega)), gd_Jn (by omega) (by omega), gd_Jn (by omega) (by omega), Jn_cl (by omega), (h.2.2.2.1 p (by omega)).2.1, digM, ob_some, ob_some, e]
          dsimp only
          rw [if_neg (J_nle (by omega) (by omega)), Jn_64 (by omega), Jn_64 (by omega), Lj_mul, Lj_add, nm_eq, addL p 1]
          have emin := minMB V B x hB1.1 capM
          by_cases c : min V capM * B + x ≤ 1000000000000
          · rw [if_pos (by rw [lg_le0, Lj_int hm, e3]; omega)]
            rw [Nat.min_eq_right (show min V capM * B + x ≤ capM by omega)] at emin
            rw [emin]; exact a5
          · rw [if_neg (by rw [lg_le0, Lj_int hm, e3]; omega)]
            rw [Nat.min_eq_left (show capM ≤ min V capM * B + x by omega)] at emin
            have e5 : (1000000000000 : Int64) = Lj (min (V * B + x) capM) := by rw [← emin]; rfl
            rw [e5]; exact a5
        · refine Nat.le_trans a6 ?_
          have e1 : q - p = (q - (p + 1)) + 1 := by omega
          rw [e1, Nat.pow_succ, Nat.mul_comm (B ^ (q - (p + 1))) B, ← Nat.mul_assoc]
          apply Nat.mul_le_mul_right
          rw [Nat.add_mul]
          omega
end
section
/-! Numbers and times: both sides alike. -/
theorem digsF {cT mX n b} (h : TX cT mX n b) {B : Nat} (hB : B = 10 ∨ B = 16 ∨ B = 2) {st : Nat} (hst : st ≤ n + 3) (sz : Int32) (ar : (Nat → Int32) × (Nat → Int32) × (Nat → Int32)) (bg tk wo : Int32) (rs : Int32 × Int32 × Int32) :
    ∃ q V, st ≤ q ∧ (q ≤ n ∨ q = st) ∧ f_Tokens_digits (sz, Jn st, ar) cT (Jn B) = some (if q = st then -1 else Lj (min V capC), (sz, Jn q, ar)) ∧
      f_Model_digits mX (bg, tk, wo, Jn st, rs) (Jn B) = some (if q = st then -1 else Lj (min V capM), (bg, tk, wo, Jn q, rs)) ∧ V + 1 ≤ B ^ (q - st) := by
  have hn : n ≤ 8192 := h.1
  obtain ⟨q, V, a1, a2, a3, a4, a5, a6⟩ := digsJ h hB st (by omega) sz ar bg tk wo rs 10000 st 0 0 FU FU (by omega) (by decide) (by decide) hst (by omega) (fun _ => rfl) (Nat.le_refl _)
  refine ⟨q, V, a1, a2, a4, ?_, by rw [Nat.zero_add, Nat.one_mul] at a6; exact a6⟩
  unfold f_Model_digits
  rw [show f_Model_digits_L8 (Jn B) mX FU 0 (bg, tk, wo, Jn st, rs) = _ from a5, ob_some]
  dsimp only
  by_cases c : q = st
  · rw [if_pos (by rw [c]), if_pos c]
  · rw [if_neg (J_ne c), if_neg c]
def BADT (j s : Nat) (kd pl vl : Nat → Int32) (F : Int32) (rc : Option S_Tokens) (rm : Option S_ML) : Prop :=
  ∃ a' L', rc = some (Jn (j + 1), a', upd kd j 5, upd pl j (Jn s), upd vl j F) ∧ rm = some L' ∧ L'.2.2.2.2.2 = (F, Jn s)
def dgN (x : Nat) : Nat := if x < 10 then 1 else if x < 100 then 2 else 3
def sgL (K : Int32) : Nat := if 255 < K then 2 else 1
/-- what is known of a token that is no name and no word -/
def TFn (b : Nat → Int32) (s q : Nat) (K V : Int32) : Prop :=
  (K = 2 ∧ zNm (b s) ∧ ¬ zNm (b q) ∧ ∃ a, V = Jn a ∧ a < 2147483648 ∧ a < 100 ^ (q - s)) ∨
  (K = 3 ∧ ¬ zNm (b q) ∧ ∃ a, V = Jn a ∧ a < 1536 ∧ s + 3 + dgN (a % 256) ≤ q) ∨
  (¬ (K = 1 ∨ K = 2 ∨ K = 3) ∧ s + sgL K ≤ q ∧ ¬ (255 < K ∧ K < 297))
def GOODT (b : Nat → Int32) (n j s : Nat) (kd pl vl : Nat → Int32) (lp fp : Int32) (rc : Option S_Tokens) (rm : Option S_ML) : Prop :=
  ∃ q K T V W, s < q ∧ q ≤ n ∧ KM K T ∧ K ≠ 4 ∧ ((K = 1 ∨ K = 2 ∨ K = 3) → W = V) ∧ (T = 0 ∨ T = 2 ∨ T = 4 → s + 7 ≤ q) ∧ TFn b s q K V ∧
    rc = some (Jn (j + 1), Jn q, upd kd j K, upd pl j (Jn s), upd vl j V) ∧ rm = some (Jn s, T, W, Jn q, lp, 0, fp)
theorem addNumBad {j : Nat} (hj : j < 8193) (cT : S_Bytes) (a' : Int32) (s : Nat) (kd pl vl : Nat → Int32) : f_Tokens_addNumber (Jn j, a', kd, pl, vl) cT (Jn s) (-1) = some (Jn (j + 1), a', upd kd j 5, upd pl j (Jn s), upd vl j 4) := by
  unfold f_Tokens_addNumber
  rw [if_pos (by decide), tok_add hj, ob_some]
theorem lit31 : (2147483647 : Int64).toInt = 2147483647 := by decide
theorem litZ0 : (0 : Int64).toInt = 0 := by decide
theorem addNumC {cT mX n b} (h : TX cT mX n b) {j : Nat} (hj : j < 8193) {q : Nat} (hq : q < 10000) (s : Nat) (kd pl vl : Nat → Int32) {W : Nat} (hW : W < 9223372036854775808) :
    (W ≤ 2147483647 ∧ ¬ zNm (b q) → f_Tokens_addNumber (Jn j, Jn q, kd, pl, vl) cT (Jn s) (Lj W) = some (Jn (j + 1), Jn q, upd kd j 2, upd pl j (Jn s), upd vl j (Jn W))) ∧
    (¬ (W ≤ 2147483647 ∧ ¬ zNm (b q)) → f_Tokens_addNumber (Jn j, Jn q, kd, pl, vl) cT (Jn s) (Lj W) = some (Jn (j + 1), Jn q, upd kd j 5, upd pl j (Jn s), upd vl j 4)) := by
  unfold f_Tokens_addNumber
  rw [if_neg (by rw [lg_lt0, Lj_int hW, litZ0]; omega)]
  dsimp only
  constructor
  · intro ⟨c1, c2⟩
    rw [if_neg (by rw [lg_gt0, Lj_int hW, lit31]; omega), h.get (by omega), ob_some, (isNm_C _).2 c2, ob_some, if_pos rfl, tok_add hj, Lj_32]; rfl
  · intro c
    by_cases c1 : W ≤ 2147483647
    · have c2 : zNm (b q) := Classical.byContradiction (fun x => c ⟨c1, x⟩)
      rw [if_neg (by rw [lg_gt0, Lj_int hW, lit31]; omega), h.get (by omega), ob_some, (isNm_C _).1 c2, ob_some, if_neg (by decide), tok_add hj]; rfl
    · rw [if_pos (by rw [lg_gt0, Lj_int hW, lit31]; omega), tok_add hj]; rfl
/-- the end of readNumber, where a number v has come -/
def endNum (mX : S_MX) (L : S_ML) (v : Int64) : Option S_ML :=
  (f_Model_goesOn mX L.2.2.2.1).bind fun r17 =>
    if r17 = 0 then
      if (lg_cmp v 2147483647) ≤ 0 then
        some (L.1, 81, v.toInt32, L.2.2.2)
      else
        (f_Model_fail L 4 L.1).bind fun r21 => some r21
    else
      (f_Model_fail L 4 L.1).bind fun r19 => some r19
theorem endNumM {cT mX n b} (h : TX cT mX n b) {q : Nat} (hq : q < 10000) {s : Nat} (tk wo lp fp : Int32) {W : Nat} (hW : W < 9223372036854775808) :
    (W ≤ 2147483647 ∧ ¬ zNm (b q) → endNum mX (Jn s, tk, wo, Jn q, lp, 0, fp) (Lj W) = some (Jn s, 81, Jn W, Jn q, lp, 0, fp)) ∧
    (¬ (W ≤ 2147483647 ∧ ¬ zNm (b q)) → endNum mX (Jn s, tk, wo, Jn q, lp, 0, fp) (Lj W) = some (Jn s, tk, wo, Jn q, lp, 4, Jn s)) := by
  unfold endNum
  dsimp only
  rw [h.goesOn (by omega)]
  constructor
  · intro ⟨c1, c2⟩
    rw [(isNm_C _).2 c2, ob_some, if_pos rfl, if_pos (by rw [lg_le0, Lj_int hW, lit31]; omega), Lj_32]
  · intro c
    by_cases c2 : zNm (b q)
    · rw [(isNm_C _).1 c2, ob_some, if_neg (by decide)]; rfl
    · rw [(isNm_C _).2 c2, ob_some, if_pos rfl, if_neg (by rw [lg_le0, Lj_int hW, lit31]; intro x; exact c ⟨by omega, c2⟩)]; rfl
theorem endJ {cT mX n b} (h : TX cT mX n b) {j : Nat} (hj : j < 8193) {s q : Nat} (hsq : s < q) (hq : q ≤ n) (kd pl vl : Nat → Int32) (tk wo lp fp : Int32) {X Y V : Nat} (hX : X < 9223372036854775808) (hY : Y < 9223372036854775808)
    (hXV : (X ≤ 2147483647 ∨ V ≤ 2147483647) → X = V) (hYV : (Y ≤ 2147483647 ∨ V ≤ 2147483647) → Y = V) (hbs : zNm (b s)) (hV : V < 100 ^ (q - s)) :
    GOODT b n j s kd pl vl lp fp (f_Tokens_addNumber (Jn j, Jn q, kd, pl, vl) cT (Jn s) (Lj X)) (endNum mX (Jn s, tk, wo, Jn q, lp, 0, fp) (Lj Y)) ∨
    BADT j s kd pl vl 4 (f_Tokens_addNumber (Jn j, Jn q, kd, pl, vl) cT (Jn s) (Lj X)) (endNum mX (Jn s, tk, wo, Jn q, lp, 0, fp) (Lj Y)) := by
  have hn := h.1
  by_cases c : V ≤ 2147483647 ∧ ¬ zNm (b q)
  · left
    have e1 := hXV (Or.inr c.1)
    have e2 := hYV (Or.inr c.1)
    subst e1
    subst e2
    rw [(addNumC h hj (by omega) s kd pl vl hX).1 c, (endNumM h (by omega) tk wo lp fp hX).1 c]
    exact ⟨q, 2, 81, Jn Y, Jn Y, hsq, hq, by unfold KM; decide, by decide, fun _ => rfl, fun x => absurd x (by decide), Or.inl ⟨rfl, hbs, c.2, Y, rfl, by omega, hV⟩, rfl, rfl⟩
  · right
    rw [(addNumC h hj (by omega) s kd pl vl hX).2 (fun x => c ⟨by have := hXV (Or.inl x.1); omega, x.2⟩), (endNumM h (by omega) tk wo lp fp hY).2 (fun x => c ⟨by have := hYV (Or.inl x.1); omega, x.2⟩)]
    exact ⟨_, _, rfl, rfl, rfl⟩
theorem capXY (V : Nat) : min V capC < 9223372036854775808 ∧ min V capM < 9223372036854775808 ∧ ((min V capC ≤ 2147483647 ∨ V ≤ 2147483647) → min V capC = V) ∧ ((min V capM ≤ 2147483647 ∨ V ≤ 2147483647) → min V capM = V) := by
  have hcC : capC = 2147483648 := rfl
  have hcM : capM = 1000000000000 := rfl
  omega
theorem numJ {cT mX n b} (h : TX cT mX n b) {j : Nat} (hj : j < 8193) {s : Nat} (hs : s < n) (hb : zDg (b s)) (kd pl vl : Nat → Int32) (tk wo lp fp : Int32) :
    GOODT b n j s kd pl vl lp fp (f_Tokens_scanNumber (Jn j, Jn s, kd, pl, vl) cT) (f_Model_readNumber mX (Jn s, tk, wo, Jn s, lp, 0, fp) 0) ∨
    BADT j s kd pl vl 4 (f_Tokens_scanNumber (Jn j, Jn s, kd, pl, vl) cT) (f_Model_readNumber mX (Jn s, tk, wo, Jn s, lp, 0, fp) 0) := by
  have hn := h.1
  obtain ⟨q, V, a1, a2, a3, a4, aP⟩ := digsF h (B := 10) (Or.inl rfl) (st := s) (by omega) (Jn j) (kd, pl, vl) (Jn s) tk wo (lp, 0, fp)
  unfold f_Tokens_scanNumber f_Model_readNumber
  rw [show f_Tokens_digits (Jn j, Jn s, kd, pl, vl) cT 10 = _ from a3, ob_some, if_pos rfl]
  dsimp only
  rw [show f_Model_digits mX (Jn s, tk, wo, Jn s, lp, 0, fp) 10 = _ from a4, ob_some]
  dsimp only
  by_cases cq : q = s
  · subst cq
    right
    rw [if_pos rfl, if_pos rfl, h.get (by omega), ob_some, if_pos (show lg_cmp (-1) 0 < 0 by decide), if_pos (show (0 : Int32) = 0 from rfl)]
    by_cases c35 : b q = 35
    · rw [if_pos c35, if_neg (show ¬ lg_cmp (-1) 16 = 0 by decide), if_neg (show ¬ lg_cmp (-1) 2 = 0 by decide), addNumBad hj]
      exact ⟨_, _, rfl, rfl, rfl⟩
    · rw [if_neg c35, addNumBad hj]
      exact ⟨_, _, rfl, rfl, rfl⟩
  · obtain ⟨k1, k2, k3, k4⟩ := capXY V
    rw [if_neg cq, if_neg cq, h.get (by omega), ob_some, if_neg (show ¬ lg_cmp (Lj (min V capM)) 0 < 0 by rw [lg_lt0, Lj_int k2, litZ0]; omega), if_pos (show (0 : Int32) = 0 from rfl), h.at' (by omega), ob_some]
    by_cases c35 : b q = 35
    · have hq' := h.lt c35 (by decide)
      rw [if_pos c35, if_pos c35]
      have l16 : (16 : Int64).toInt = 16 := by decide
      have l2 : (2 : Int64).toInt = 2 := by decide
      have go : ∀ B, (B = 10 ∨ B = 16 ∨ B = 2) → 
        (GOODT b n j s kd pl vl lp fp ((f_Tokens_digits (Jn j, Jn q + 1, kd, pl, vl) cT (Jn B)).bind fun r6 => (f_Tokens_addNumber r6.2 cT (Jn s) r6.1).bind fun r7 => some r7)
          ((f_Model_digits mX (Jn s, tk, wo, Jn q + 1, lp, 0, fp) (Jn B)).bind fun r24 => if (lg_cmp r24.1 0) < 0 then (f_Model_fail r24.2 4 r24.2.1).bind fun r28 => some r28 else endNum mX r24.2 r24.1) ∨
        BADT j s kd pl vl 4 ((f_Tokens_digits (Jn j, Jn q + 1, kd, pl, vl) cT (Jn B)).bind fun r6 => (f_Tokens_addNumber r6.2 cT (Jn s) r6.1).bind fun r7 => some r7)
          ((f_Model_digits mX (Jn s, tk, wo, Jn q + 1, lp, 0, fp) (Jn B)).bind fun r24 => if (lg_cmp r24.1 0) < 0 then (f_Model_fail r24.2 4 r24.2.1).bind fun r28 => some r28 else endNum mX r24.2 r24.1)) := by
        intro B hB
        obtain ⟨r, U, d1, d2, d3, d4, dP⟩ := digsF h (B := B) hB (st := q + 1) (by omega) (Jn j) (kd, pl, vl) (Jn s) tk wo (lp, 0, fp)
        rw [addL q 1, d3, d4, ob_some, ob_some]
        dsimp only
        by_cases cr : r = q + 1
        · right
          rw [if_pos cr, if_pos cr, addNumBad hj, if_pos (by decide)]
          exact ⟨_, _, rfl, rfl, rfl⟩
        · obtain ⟨m1, m2, m3, m4⟩ := capXY U
          rw [if_neg cr, if_neg cr, if_neg (by rw [lg_lt0, Lj_int m2, litZ0]; omega)]
          have := endJ h hj (s := s) (q := r) (by omega) (by omega) kd pl vl tk wo lp fp m1 m2 m3 m4 (Or.inr hb) (by
            have e1 : B ^ (r - (q + 1)) ≤ 100 ^ (r - (q + 1)) := Nat.pow_le_pow_left (by omega) _
            have e2 : 100 ^ (r - (q + 1)) ≤ 100 ^ (r - s) := Nat.pow_le_pow_right (by omega) (by omega)
            omega)
          have idb : ∀ (x : Option S_Tokens), (x.bind fun r7 => some r7) = x := by intro x; cases x <;> rfl
          rw [idb]
          exact this
      by_cases c16 : V = 16
      · subst c16
        rw [if_pos (show lg_cmp (Lj (min 16 capC)) 16 = 0 by decide), if_pos (show lg_cmp (Lj (min 16 capM)) 16 = 0 by decide)]
        exact go 16 (by omega)
      · rw [if_neg (show ¬ lg_cmp (Lj (min V capC)) 16 = 0 by rw [lg_eq0, Lj_int k1, l16]; omega), if_neg (show ¬ lg_cmp (Lj (min V capM)) 16 = 0 by rw [lg_eq0, Lj_int k2, l16]; omega)]
        by_cases c2 : V = 2
        · subst c2
          rw [if_pos (show lg_cmp (Lj (min 2 capC)) 2 = 0 by decide), if_pos (show lg_cmp (Lj (min 2 capM)) 2 = 0 by decide)]
          exact go 2 (by omega)
        · rw [if_neg (show ¬ lg_cmp (Lj (min V capC)) 2 = 0 by rw [lg_eq0, Lj_int k1, l2]; omega), if_neg (show ¬ lg_cmp (Lj (min V capM)) 2 = 0 by rw [lg_eq0, Lj_int k2, l2]; omega)]
          right
          rw [addNumBad hj]
          exact ⟨_, _, rfl, rfl, rfl⟩
    · rw [if_neg c35, if_neg c35]
      have := endJ h hj (s := s) (q := q) (by omega) (by omega) kd pl vl tk wo lp fp k1 k2 k3 k4 (Or.inr hb) (by
        have e1 : 10 ^ (q - s) ≤ 100 ^ (q - s) := Nat.pow_le_pow_left (by omega) _
        omega)
      have idb : ∀ (x : Option S_Tokens), (x.bind fun r7 => some r7) = x := by intro x; cases x <;> rfl
      rw [idb]
      exact this
end
section
/-! Times, places and signs: both sides alike. -/
theorem unitJ {cT mX n b} (h : TX cT mX n b) {q : Nat} (hq : q ≤ n) (sz : Int32) (ar : (Nat → Int32) × (Nat → Int32) × (Nat → Int32)) (bg tk wo : Int32) (rs : Int32 × Int32 × Int32) :
    (∃ u e, (u = 1 ∨ u = 1000 ∨ u = 60000 ∨ u = 3600000) ∧ q < e ∧ e ≤ n ∧ f_Tokens_unit (sz, Jn q, ar) cT = some (Lj u, (sz, Jn e, ar)) ∧ f_Model_unit mX (bg, tk, wo, Jn q, rs) = some (Lj u, (bg, tk, wo, Jn e, rs))) ∨
    (f_Tokens_unit (sz, Jn q, ar) cT = some (-1, (sz, Jn (q + 1), ar)) ∧ f_Model_unit mX (bg, tk, wo, Jn q, rs) = some (0, (bg, tk, wo, Jn (q + 1), rs))) := by
  have hn := h.1
  have lt : ∀ k x, zGr (b k) = x → x ≠ -1 → k < n := by
    intro k x e hx
    apply Classical.byContradiction
    intro c
    rw [h.2.2.2.2 k (by omega)] at e
    exact hx (e.symm.trans (by decide))
  unfold f_Tokens_unit f_Model_unit
  dsimp only
  rw [addL q 1, addL q 2, h.get (by omega), ob_some, great_C, ob_some, h.get (by omega), ob_some, great_C, ob_some, h.at' (by omega), ob_some, great_M, ob_some, h.at' (by omega), ob_some, great_M, ob_some]
  by_cases c77 : zGr (b q) = 77
  · have l1 := lt q 77 c77 (by decide)
    by_cases c83 : zGr (b (q + 1)) = 83
    · have l2 := lt (q + 1) 83 c83 (by decide)
      left
      refine ⟨1, q + 2, by omega, by omega, by omega, ?_, ?_⟩
      · rw [if_pos c77, if_pos c83]; rfl
      · rw [if_pos c77, if_pos c83, if_pos c77, if_pos c83]; rfl
    · left
      refine ⟨60000, q + 1, by omega, by omega, by omega, ?_, ?_⟩
      · rw [if_pos c77, if_neg c83, c77, if_neg (by decide), if_pos rfl]; rfl
      · rw [if_pos c77, if_neg c83, if_pos c77, if_neg c83, c77, if_neg (by decide), if_pos rfl]; rfl
  · rw [if_neg c77, if_neg c77]
    by_cases c72 : zGr (b q) = 72
    · have l1 := lt q 72 c72 (by decide)
      left
      refine ⟨3600000, q + 1, by omega, by omega, by omega, ?_, ?_⟩
      · rw [if_pos c72]; rfl
      · simp only [if_neg c77, if_neg (show ¬ zGr (b q) = 83 by rw [c72]; decide), if_pos c72]; rfl
    · by_cases c83 : zGr (b q) = 83
      · have l1 := lt q 83 c83 (by decide)
        left
        refine ⟨1000, q + 1, by omega, by omega, by omega, ?_, ?_⟩
        · simp only [if_neg c72, if_neg c77, if_pos c83]; rfl
        · simp only [if_neg c77, if_pos c83]; rfl
      · right
        refine ⟨?_, ?_⟩
        · simp only [if_neg c72, if_neg c77, if_neg c83]
        · simp only [if_neg c77, if_neg c83, if_neg c72]
theorem idb {α : Type} (x : Option α) : (x.bind fun r => some r) = x := by cases x <;> rfl
theorem timeJ {cT mX n b} (h : TX cT mX n b) {j : Nat} (hj : j < 8193) {s : Nat} (hs : s + 2 ≤ n) (hbs : zNm (b s)) (kd pl vl : Nat → Int32) (tk wo lp fp : Int32) :
    GOODT b n j s kd pl vl lp fp (f_Tokens_scanTime (Jn j, Jn s, kd, pl, vl) cT) (f_Model_readNumber mX (Jn s, tk, wo, Jn s, lp, 0, fp) 1) ∨
    BADT j s kd pl vl 4 (f_Tokens_scanTime (Jn j, Jn s, kd, pl, vl) cT) (f_Model_readNumber mX (Jn s, tk, wo, Jn s, lp, 0, fp) 1) := by
  have hn := h.1
  obtain ⟨q, V, a1, a2, a3, a4, aP⟩ := digsF h (B := 10) (Or.inl rfl) (st := s + 2) (by omega) (Jn j) (kd, pl, vl) (Jn s) tk wo (lp, 0, fp)
  have hqn : q ≤ n := by omega
  unfold f_Tokens_scanTime f_Model_readNumber
  rw [if_neg (show ¬ (1 : Int32) = 0 by decide)]
  dsimp only
  rw [addL s 2, show f_Tokens_digits (Jn j, Jn (s + 2), kd, pl, vl) cT 10 = _ from a3, ob_some]
  dsimp only
  rw [show f_Model_digits mX (Jn s, tk, wo, Jn (s + 2), lp, 0, fp) 10 = _ from a4, ob_some]
  dsimp only
  by_cases cq : q = s + 2
  · right
    rw [if_pos cq, if_pos cq, if_pos (show lg_cmp (-1) 0 < 0 by decide), if_neg (show ¬ (1 : Int32) = 0 by decide)]
    have hu : ∃ v r, f_Tokens_unit (Jn j, Jn q, kd, pl, vl) cT = some (v, (Jn j, r, kd, pl, vl)) := by
      rcases unitJ h hqn (Jn j) (kd, pl, vl) (Jn s) tk wo (lp, 0, fp) with ⟨u, e, u1, u2, u3, u4, u5⟩ | ⟨u4, u5⟩
      · exact ⟨_, _, u4⟩
      · exact ⟨_, _, u4⟩
    obtain ⟨v, r, hu⟩ := hu
    rw [hu, ob_some, if_pos (show lg_cmp (-1) (-1) = 0 by decide)]
    dsimp only
    rw [addNumBad hj]
    exact ⟨_, _, rfl, rfl, rfl⟩
  · obtain ⟨k1, k2, k3, k4⟩ := capXY V
    have hcC : capC = 2147483648 := rfl
    have hcM : capM = 1000000000000 := rfl
    rw [if_neg cq, if_neg cq, if_neg (show ¬ lg_cmp (Lj (min V capM)) 0 < 0 by rw [lg_lt0, Lj_int k2, litZ0]; omega), if_neg (show ¬ (1 : Int32) = 0 by decide)]
    have lm1 : (-1 : Int64).toInt = -1 := by decide
    rcases unitJ h hqn (Jn j) (kd, pl, vl) (Jn s) tk wo (lp, 0, fp) with ⟨u, e, u1, u2, u3, u4, u5⟩ | ⟨u4, u5⟩
    · rw [u4, u5, ob_some, ob_some]
      dsimp only
      rw [if_neg (show ¬ lg_cmp (Lj (min V capC)) (-1) = 0 by rw [lg_eq0, Lj_int k1, lm1]; omega), if_neg (show ¬ lg_cmp (Lj u) (-1) = 0 by rw [lg_eq0, Lj_int (by omega), lm1]; omega),
        if_neg (show ¬ lg_cmp (Lj u) 0 ≤ 0 by rw [lg_le0, Lj_int (by omega), litZ0]; omega), Lj_mul, Lj_mul, idb]
      have := endJ h hj (s := s) (q := e) (by omega) u3 kd pl vl tk wo lp fp (X := min V capC * u) (Y := min V capM * u) (V := V * u)
        (by rcases u1 with rfl | rfl | rfl | rfl <;> omega) (by rcases u1 with rfl | rfl | rfl | rfl <;> omega) (by rcases u1 with rfl | rfl | rfl | rfl <;> omega) (by rcases u1 with rfl | rfl | rfl | rfl <;> omega) hbs (by
          have hl : 1 ≤ q - (s + 2) := by omega
          obtain ⟨l, hl'⟩ : ∃ l, q - (s + 2) = l + 1 := ⟨q - (s + 2) - 1, by omega⟩
          rw [hl'] at aP
          have e1 : 10 ^ (l + 1) * 4000000 ≤ 100 ^ (l + 4) := by
            have f1 : (10 : Nat) ^ l ≤ 100 ^ l := Nat.pow_le_pow_left (by omega) _
            rw [Nat.pow_succ, show l + 4 = l + 3 + 1 from rfl, Nat.pow_succ, Nat.pow_succ, Nat.pow_succ, Nat.pow_succ]
            omega
          have e2 : 100 ^ (l + 4) ≤ 100 ^ (e - s) := Nat.pow_le_pow_right (by omega) (by omega)
          have e3 : V * u ≤ V * 3600000 := Nat.mul_le_mul_left _ (by rcases u1 with rfl | rfl | rfl | rfl <;> omega)
          omega)
      exact this
    · right
      rw [u4, u5, ob_some, ob_some]
      dsimp only
      rw [if_neg (show ¬ lg_cmp (Lj (min V capC)) (-1) = 0 by rw [lg_eq0, Lj_int k1, lm1]; omega), if_pos (show lg_cmp (-1) (-1) = 0 by decide), if_pos (show lg_cmp 0 0 ≤ 0 by decide), addNumBad hj]
      exact ⟨_, _, rfl, rfl, rfl⟩
/-- the row of places that two letters name -/
def rowOf (x y : Int32) : Option Nat :=
  if x = 73 ∧ y = 88 then some 0 else if x = 81 ∧ y = 88 then some 1 else if x = 77 ∧ y = 88 then some 2 else
  if x = 73 ∧ y = 87 then some 3 else if x = 81 ∧ y = 87 then some 4 else if x = 77 ∧ y = 87 then some 5 else none
theorem rowC (x y : Int32) : f_Tokens_placeRow x y = some (match rowOf x y with | none => -1 | some r => Jn r) := by
  unfold f_Tokens_placeRow rowOf
  by_cases x1 : x = 73
  · subst x1
    by_cases y1 : y = 88
    · subst y1; rfl
    · by_cases y2 : y = 87
      · subst y2; rfl
      · simp [y1, y2]
  · by_cases x2 : x = 81
    · subst x2
      by_cases y1 : y = 88
      · subst y1; rfl
      · by_cases y2 : y = 87
        · subst y2; rfl
        · simp [y1, y2]
    · by_cases x3 : x = 77
      · subst x3
        by_cases y1 : y = 88
        · subst y1; rfl
        · by_cases y2 : y = 87
          · subst y2; rfl
          · simp [y1, y2]
      · simp [x1, x2, x3]
theorem PL_at {C} (hC : MC C) (k : Nat) (h : k < 12) : C.2.2.2 k = PL.getD k 0 := hC.2.2.2.2 k h
theorem rowM {cT mX n b} (h : TX cT mX n b) {C} (hC : MC C) {s : Nat} (hs : s ≤ n) (L : S_ML) (hL : L.1 = Jn s) : f_Model_readPlace_L4 C mX L FU 0 (-1) = some (match rowOf (zGr (b (s + 1))) (zGr (b (s + 2))) with | none => -1 | some r => Jn r) := by
  have hn := h.1
  have step : ∀ (k f : Nat) (v : Int32), k < 6 → f_Model_readPlace_L4 C mX L (f + 1) (Jn k) v = f_Model_readPlace_L4 C mX L f (Jn (k + 1)) (if zGr (b (s + 1)) = PL.getD (2 * k) 0 ∧ zGr (b (s + 2)) = PL.getD (2 * k + 1) 0 then Jn k else v) := by
    intro k f v hk
    conv => lhs; unfold f_Model_readPlace_L4
    rw [if_neg (nleL 6 hk), hL, addL s 1, addL s 2, h.at' (by omega), ob_some, great_M, ob_some, show (2 : Int32) * Jn k = Jn (2 * k) from Jn_mul 2 k, addL _ 1, gd_Jn (by omega) (by omega), h.at' (by omega), ob_some, great_M, ob_some, gd_Jn (by omega) (by omega), Jn_cl (by omega), Jn_cl (by omega), PL_at hC _ (by omega), PL_at hC _ (by omega)]
    simp only [nm_eq, addL k 1]
    by_cases c1 : zGr (b (s + 1)) = PL.getD (2 * k) 0
    · by_cases c2 : zGr (b (s + 2)) = PL.getD (2 * k + 1) 0
      · rw [if_pos c1, if_pos c2, if_pos ⟨c1, c2⟩]
      · rw [if_pos c1, if_neg c2, if_neg (fun x => c2 x.2)]
    · rw [if_neg c1, if_neg (fun x => c1 x.1)]
  rw [show FU = 999993 + 1 + 1 + 1 + 1 + 1 + 1 + 1 from rfl, show (0 : Int32) = Jn 0 from rfl, step 0 _ _ (by omega), step 1 _ _ (by omega), step 2 _ _ (by omega), step 3 _ _ (by omega), step 4 _ _ (by omega), step 5 _ _ (by omega)]
  unfold f_Model_readPlace_L4
  rw [if_pos (leL 6 (by omega))]
  congr 1
  generalize zGr (b (s + 1)) = x
  generalize zGr (b (s + 2)) = y
  show (if x = 77 ∧ y = 87 then Jn 5 else if x = 81 ∧ y = 87 then Jn 4 else if x = 73 ∧ y = 87 then Jn 3 else if x = 77 ∧ y = 88 then Jn 2 else if x = 81 ∧ y = 88 then Jn 1 else if x = 73 ∧ y = 88 then Jn 0 else -1) = _
  unfold rowOf
  by_cases y1 : y = 88
  · subst y1
    by_cases x1 : x = 73
    · subst x1; rfl
    · by_cases x2 : x = 81
      · subst x2; rfl
      · by_cases x3 : x = 77
        · subst x3; rfl
        · simp [x1, x2, x3]
  · by_cases y2 : y = 87
    · subst y2
      by_cases x1 : x = 73
      · subst x1; rfl
      · by_cases x2 : x = 81
        · subst x2; rfl
        · by_cases x3 : x = 77
          · subst x3; rfl
          · simp [x1, x2, x3]
    · simp [y1, y2]
end
