section
/-! Places and signs: both sides alike. -/
theorem placeJ {cT mX n b} (h : TX cT mX n b) {C} (hC : MC C) {j : Nat} (hj : j < 8193) {s : Nat} (hs : s < n) (kd pl vl : Nat → Int32) (tk wo lp fp : Int32) :
    GOODT b n j s kd pl vl lp fp (f_Tokens_scanPlace (Jn j, Jn s, kd, pl, vl) cT) (f_Model_readPlace C mX (Jn s, tk, wo, Jn s, lp, 0, fp)) ∨
    BADT j s kd pl vl 5 (f_Tokens_scanPlace (Jn j, Jn s, kd, pl, vl) cT) (f_Model_readPlace C mX (Jn s, tk, wo, Jn s, lp, 0, fp)) := by
  have hn := h.1
  have lt : ∀ k x, zGr (b k) = x → x ≠ -1 → k < n := by
    intro k x e hx
    apply Classical.byContradiction
    intro c
    rw [h.2.2.2.2 k (by omega)] at e
    exact hx (e.symm.trans (by decide))
  obtain ⟨q, V, a1, a2, a3, a4, aP⟩ := digsF h (B := 10) (Or.inl rfl) (st := s + 3) (by omega) (Jn j) (kd, pl, vl) (Jn s) tk wo (lp, 0, fp)
  unfold f_Tokens_scanPlace f_Model_readPlace
  rw [rowM h hC (s := s) (by omega) _ rfl, ob_some]
  dsimp only
  rw [addL s 1, addL s 2, addL s 3, h.get (by omega), ob_some, great_C, ob_some, h.get (by omega), ob_some, great_C, ob_some, rowC, ob_some, show f_Tokens_digits (Jn j, Jn (s + 3), kd, pl, vl) cT 10 = _ from a3, ob_some]
  dsimp only
  cases er : rowOf (zGr (b (s + 1))) (zGr (b (s + 2))) with
  | none =>
    right
    dsimp only
    rw [if_neg (show ¬ (3 : Int32) ≤ -1 by decide), if_pos (show (-1 : Int32) = -1 from rfl), tok_add hj, if_pos (show (-1 : Int32) < 0 by decide), if_pos (show lg_cmp (-1) 0 < 0 by decide)]
    exact ⟨_, _, rfl, rfl, rfl⟩
  | some r =>
    have hr : r < 6 ∧ s + 3 ≤ n := by
      unfold rowOf at er
      have l : ∀ x y, zGr (b (s + 1)) = x → zGr (b (s + 2)) = y → y ≠ -1 → s + 3 ≤ n := by
        intro x y _ e2 ne
        have := lt _ _ e2 ne
        omega
      split at er
      · rename_i c; injection er with er; exact ⟨by omega, l _ _ c.1 c.2 (by decide)⟩
      · split at er
        · rename_i c; injection er with er; exact ⟨by omega, l _ _ c.1 c.2 (by decide)⟩
        · split at er
          · rename_i c; injection er with er; exact ⟨by omega, l _ _ c.1 c.2 (by decide)⟩
          · split at er
            · rename_i c; injection er with er; exact ⟨by omega, l _ _ c.1 c.2 (by decide)⟩
            · split at er
              · rename_i c; injection er with er; exact ⟨by omega, l _ _ c.1 c.2 (by decide)⟩
              · split at er
                · rename_i c; injection er with er; exact ⟨by omega, l _ _ c.1 c.2 (by decide)⟩
                · cases er
    obtain ⟨hr, hs3⟩ := hr
    dsimp only
    rw [if_neg (show ¬ Jn r < 0 from J_nneg), show f_Model_digits mX (Jn s, tk, wo, Jn (s + 3), lp, 0, fp) 10 = _ from a4, ob_some]
    dsimp only
    obtain ⟨k1, k2, k3, k4⟩ := capXY V
    have hcC : capC = 2147483648 := rfl
    have hcM : capM = 1000000000000 := rfl
    have lm1 : (-1 : Int64).toInt = -1 := by decide
    have l63 : (63 : Int64).toInt = 63 := by decide
    have l255 : (255 : Int64).toInt = 255 := by decide
    have e63 : ((63 : Int32).toInt64) = 63 := by decide
    have e255 : ((255 : Int32).toInt64) = 255 := by decide
    by_cases cq : q = s + 3
    · right
      rw [if_pos cq, if_pos cq, if_pos (show lg_cmp (-1) 0 < 0 by decide)]
      refine ⟨Jn q, (Jn s, tk, wo, Jn q, lp, 5, Jn s), ?_, ?_, rfl⟩
      · by_cases c3 : 3 ≤ r
        · rw [if_pos (leL 3 c3), if_neg J_nm1, if_pos (show lg_cmp (-1) (-1) = 0 by decide), tok_add hj]; rfl
        · rw [if_neg (nleL 3 (by omega)), if_neg J_nm1, if_pos (show lg_cmp (-1) (-1) = 0 by decide), tok_add hj]; rfl
      · rfl
    · rw [if_neg cq, if_neg cq, if_neg (show ¬ lg_cmp (Lj (min V capM)) 0 < 0 by rw [lg_lt0, Lj_int k2, litZ0]; omega)]
      have ne1 : ¬ lg_cmp (Lj (min V capC)) (-1) = 0 := by rw [lg_eq0, Lj_int k1, lm1]; omega
      have key : ∀ (M : Int64) (m : Nat), M.toInt = m → m < 256 →
        GOODT b n j s kd pl vl lp fp (if 0 < lg_cmp (Lj (min V capC)) M then (f_Tokens_add (Jn j, Jn q, kd, pl, vl) 5 (Jn s) 5).bind fun r13 => some r13 else (f_Bytes_get 8192 cT (Jn q)).bind fun r14 => (f_Top_isNameByte r14).bind fun r15 => if r15 = 0 then (f_Tokens_add (Jn j, Jn q, kd, pl, vl) 3 (Jn s) ((256 * Jn r) + (Lj (min V capC)).toInt32)).bind fun r17 => some r17 else (f_Tokens_add (Jn j, Jn q, kd, pl, vl) 5 (Jn s) 5).bind fun r18 => some r18)
          (if 0 < lg_cmp (Lj (min V capM)) M then (f_Model_fail (Jn s, tk, wo, Jn q, lp, 0, fp) 5 (Jn s)).bind fun r23 => some r23 else (f_Model_goesOn mX (Jn q)).bind fun r24 => if r24 = 0 then nm ((256 * Jn r) + (Lj (min V capM)).toInt32) fun x26 => some (Jn s, 82, x26, Jn q, lp, 0, fp) else (f_Model_fail (Jn s, tk, wo, Jn q, lp, 0, fp) 5 (Jn s)).bind fun r27 => some r27) ∨
        BADT j s kd pl vl 5 (if 0 < lg_cmp (Lj (min V capC)) M then (f_Tokens_add (Jn j, Jn q, kd, pl, vl) 5 (Jn s) 5).bind fun r13 => some r13 else (f_Bytes_get 8192 cT (Jn q)).bind fun r14 => (f_Top_isNameByte r14).bind fun r15 => if r15 = 0 then (f_Tokens_add (Jn j, Jn q, kd, pl, vl) 3 (Jn s) ((256 * Jn r) + (Lj (min V capC)).toInt32)).bind fun r17 => some r17 else (f_Tokens_add (Jn j, Jn q, kd, pl, vl) 5 (Jn s) 5).bind fun r18 => some r18)
          (if 0 < lg_cmp (Lj (min V capM)) M then (f_Model_fail (Jn s, tk, wo, Jn q, lp, 0, fp) 5 (Jn s)).bind fun r23 => some r23 else (f_Model_goesOn mX (Jn q)).bind fun r24 => if r24 = 0 then nm ((256 * Jn r) + (Lj (min V capM)).toInt32) fun x26 => some (Jn s, 82, x26, Jn q, lp, 0, fp) else (f_Model_fail (Jn s, tk, wo, Jn q, lp, 0, fp) 5 (Jn s)).bind fun r27 => some r27) := by
        intro M m hM hm
        by_cases cV : V ≤ m
        · rw [if_neg (show ¬ 0 < lg_cmp (Lj (min V capC)) M by rw [lg_gt0, Lj_int k1, hM]; omega), if_neg (show ¬ 0 < lg_cmp (Lj (min V capM)) M by rw [lg_gt0, Lj_int k2, hM]; omega), h.get (by omega), ob_some, h.goesOn (by omega), nm_eq, Lj_32, Lj_32, show min V capC = V by omega, show min V capM = V by omega]
          by_cases cn : zNm (b q)
          · right
            rw [(isNm_C _).1 cn, ob_some, ob_some, if_neg (show ¬ (1 : Int32) = 0 by decide), if_neg (show ¬ (1 : Int32) = 0 by decide), tok_add hj]
            exact ⟨_, _, rfl, rfl, rfl⟩
          · left
            rw [(isNm_C _).2 cn, ob_some, ob_some, if_pos rfl, if_pos rfl, tok_add hj]
            refine ⟨q, 3, 82, _, _, by omega, by omega, by unfold KM; decide, by decide, fun _ => rfl, fun x => absurd x (by decide), Or.inr (Or.inl ⟨rfl, cn, 256 * r + V, ?_, by omega, ?_⟩), rfl, rfl⟩
            · rw [show (256 : Int32) * Jn r = Jn (256 * r) from Jn_mul 256 r]; exact J_add
            · rw [show (256 * r + V) % 256 = V by omega]
              obtain ⟨l, hl'⟩ : ∃ l, q - (s + 3) = l + 1 := ⟨q - (s + 3) - 1, by omega⟩
              rw [hl'] at aP
              unfold dgN
              match l, aP, hl' with
              | 0, aP, hl' =>
                have : V < 10 := by omega
                rw [if_pos this]; omega
              | 1, aP, hl' =>
                have : V < 100 := by omega
                split <;> (try split) <;> omega
              | l + 2, aP, hl' => split <;> (try split) <;> omega
        · right
          rw [if_pos (show 0 < lg_cmp (Lj (min V capC)) M by rw [lg_gt0, Lj_int k1, hM]; omega), if_pos (show 0 < lg_cmp (Lj (min V capM)) M by rw [lg_gt0, Lj_int k2, hM]; omega), tok_add hj]
          exact ⟨_, _, rfl, rfl, rfl⟩
      by_cases c3 : 3 ≤ r
      · rw [if_pos (leL 3 c3), if_pos (leL 3 c3), if_neg (show ¬ Jn r = -1 from J_nm1), if_neg ne1]
        exact key 63 63 l63 (by omega)
      · rw [if_neg (nleL 3 (by omega)), if_neg (nleL 3 (by omega)), if_neg (show ¬ Jn r = -1 from J_nm1), if_neg ne1]
        exact key 255 255 l255 (by omega)
def sgnQ (x y : Int32) : Option (Nat × Int32 × Nat) := if x = 58 ∧ y = 61 then some (0, 14909, 2) else if x = 46 ∧ y = 46 then some (1, 11822, 2) else if x = 60 ∧ y = 61 then some (2, 15421, 2) else if x = 62 ∧ y = 61 then some (3, 15933, 2) else if x = 60 ∧ y = 62 then some (4, 15422, 2) else if x = 40 then some (5, 40, 1) else if x = 41 then some (6, 41, 1) else if x = 91 then some (7, 91, 1) else if x = 93 then some (8, 93, 1) else if x = 44 then some (9, 44, 1) else if x = 59 then some (10, 59, 1) else if x = 58 then some (11, 58, 1) else if x = 46 then some (12, 46, 1) else if x = 43 then some (13, 43, 1) else if x = 45 then some (14, 45, 1) else if x = 42 then some (15, 42, 1) else if x = 47 then some (16, 47, 1) else if x = 61 then some (17, 61, 1) else if x = 60 then some (18, 60, 1) else if x = 62 then some (19, 62, 1) else if x = 38 then some (20, 38, 1) else if x = 124 then some (21, 124, 1) else none
end
section
/-! Signs. -/
theorem shlJ {a c : Nat} (ha : a < 256) (hc : c < 256) : (Jn a <<< (8 &&& 31)) ||| Jn c = Jn (a * 256 + c) := by
  apply Int32.toBitVec_inj.mp
  rw [Int32.toBitVec_or, Int32.toBitVec_shiftLeft]
  have ea : (Jn a).toBitVec = BitVec.ofNat 32 a := by unfold Jn; rw [Int32.toBitVec_ofNat']
  have ec : (Jn c).toBitVec = BitVec.ofNat 32 c := by unfold Jn; rw [Int32.toBitVec_ofNat']
  have er : (Jn (a * 256 + c)).toBitVec = BitVec.ofNat 32 (a * 256 + c) := by unfold Jn; rw [Int32.toBitVec_ofNat']
  have e8 : (Int32.toBitVec (8 &&& 31)).smod 32 = 8#32 := by decide
  rw [ea, ec, er, e8]
  apply BitVec.eq_of_toNat_eq
  rw [BitVec.toNat_or, BitVec.shiftLeft_eq', BitVec.toNat_shiftLeft, BitVec.toNat_ofNat, BitVec.toNat_ofNat, BitVec.toNat_ofNat, BitVec.toNat_ofNat]
  have h1 : a % 2 ^ 32 = a := by omega
  have h2 : c % 2 ^ 32 = c := by omega
  have h3 : 8 % 2 ^ 32 = 8 := by omega
  rw [h1, h2, h3]
  have h4 : a <<< 8 % 2 ^ 32 = a <<< 8 := by rw [Nat.shiftLeft_eq]; omega
  rw [h4, ← Nat.shiftLeft_add_eq_or_of_lt (show c < 2 ^ 8 by omega), Nat.shiftLeft_eq]
  omega
theorem two_eq {a c k : Nat} (ha : a < 256) (hc : c < 256) (hk : k < 65536) : (Jn (a * 256 + c) = @OfNat.ofNat Int32 k _) = (a = k / 256 ∧ c = k % 256) := by
  rw [show (@OfNat.ofNat Int32 k _) = Jn k from rfl, Jn_eq (by omega) (by omega)]
  apply propext; omega
theorem SG_at {C} (hC : MC C) (k : Nat) (h : k < 44) : C.2.2.1 k = SG.getD k 0 := hC.2.2.2.1 k h
theorem sgnM {cT mX n b} (h : TX cT mX n b) {C} (hC : MC C) {s : Nat} (hs : s < n) (x : Int32) (L : S_ML) (hL : L.1 = Jn s) : f_Model_readSign_L14 x C mX L FU 21 (-1) = some (match sgnQ x (b (s + 1)) with | none => -1 | some r => Jn r.1) := by
  have hn := h.1
  have step : ∀ (k f : Nat) (v : Int32), k < 22 → f_Model_readSign_L14 x C mX L (f + 1) (Jn k) v = f_Model_readSign_L14 x C mX L f (Jn k + -1) (if SG.getD (2 * k) 0 = x ∧ (SG.getD (2 * k + 1) 0 = 0 ∨ SG.getD (2 * k + 1) 0 = b (s + 1)) then Jn k else v) := by
    intro k f v hk
    conv => lhs; unfold f_Model_readSign_L14
    rw [if_neg J_nneg, hL, addL s 1, h.at' (by omega), show (2 : Int32) * Jn k = Jn (2 * k) from Jn_mul 2 k, addL _ 1, gd_Jn (by omega) (by omega), gd_Jn (by omega) (by omega), Jn_cl (by omega), Jn_cl (by omega), SG_at hC _ (by omega), SG_at hC _ (by omega)]
    simp only [nm_eq, ob_some]
    by_cases c1 : SG.getD (2 * k + 1) 0 = 0
    · rw [if_pos c1]
      by_cases c2 : SG.getD (2 * k) 0 = x
      · rw [if_pos c2, if_pos ⟨c2, Or.inl c1⟩]
      · rw [if_neg c2, if_neg (fun z => c2 z.1)]
    · rw [if_neg c1, gd_Jn (by omega) (by omega), gd_Jn (by omega) (by omega)]
      by_cases c2 : SG.getD (2 * k) 0 = x
      · rw [if_pos c2]
        by_cases c3 : SG.getD (2 * k + 1) 0 = b (s + 1)
        · rw [if_pos c3, if_pos ⟨c2, Or.inr c3⟩]
        · rw [if_neg c3, if_neg (fun z => z.2.elim c1 c3)]
      · rw [if_neg c2, if_neg (fun z => c2 z.1)]
  have down : ∀ k, 0 < k → Jn k + -1 = Jn (k - 1) := by
    intro k hk
    rw [Int32.add_comm, Jn_m1add k hk]
  have fin : ∀ f v, f_Model_readSign_L14 x C mX L (f + 1) (Jn 0 + -1) v = some v := by
    intro f v
    unfold f_Model_readSign_L14
    rw [if_pos (by decide)]
  rw [show FU = 999977 + 1 + 1 + 1 + 1 + 1 + 1 + 1 + 1 + 1 + 1 + 1 + 1 + 1 + 1 + 1 + 1 + 1 + 1 + 1 + 1 + 1 + 1 + 1 from rfl, show (21 : Int32) = Jn 21 from rfl, step 21 _ _ (by omega), down 21 (by omega), show 21 - 1 = 20 from rfl, step 20 _ _ (by omega), down 20 (by omega), show 20 - 1 = 19 from rfl, step 19 _ _ (by omega), down 19 (by omega), show 19 - 1 = 18 from rfl, step 18 _ _ (by omega), down 18 (by omega), show 18 - 1 = 17 from rfl, step 17 _ _ (by omega), down 17 (by omega), show 17 - 1 = 16 from rfl, step 16 _ _ (by omega), down 16 (by omega), show 16 - 1 = 15 from rfl, step 15 _ _ (by omega), down 15 (by omega), show 15 - 1 = 14 from rfl, step 14 _ _ (by omega), down 14 (by omega), show 14 - 1 = 13 from rfl, step 13 _ _ (by omega), down 13 (by omega), show 13 - 1 = 12 from rfl, step 12 _ _ (by omega), down 12 (by omega), show 12 - 1 = 11 from rfl, step 11 _ _ (by omega), down 11 (by omega), show 11 - 1 = 10 from rfl, step 10 _ _ (by omega), down 10 (by omega), show 10 - 1 = 9 from rfl, step 9 _ _ (by omega), down 9 (by omega), show 9 - 1 = 8 from rfl, step 8 _ _ (by omega), down 8 (by omega), show 8 - 1 = 7 from rfl, step 7 _ _ (by omega), down 7 (by omega), show 7 - 1 = 6 from rfl, step 6 _ _ (by omega), down 6 (by omega), show 6 - 1 = 5 from rfl, step 5 _ _ (by omega), down 5 (by omega), show 5 - 1 = 4 from rfl, step 4 _ _ (by omega), down 4 (by omega), show 4 - 1 = 3 from rfl, step 3 _ _ (by omega), down 3 (by omega), show 3 - 1 = 2 from rfl, step 2 _ _ (by omega), down 2 (by omega), show 2 - 1 = 1 from rfl, step 1 _ _ (by omega), down 1 (by omega), show 1 - 1 = 0 from rfl, step 0 _ _ (by omega), fin]
  congr 1
  generalize b (s + 1) = y
  show (if (58 : Int32) = x ∧ ((61 : Int32) = 0 ∨ (61 : Int32) = y) then Jn 0 else if (46 : Int32) = x ∧ ((46 : Int32) = 0 ∨ (46 : Int32) = y) then Jn 1 else if (60 : Int32) = x ∧ ((61 : Int32) = 0 ∨ (61 : Int32) = y) then Jn 2 else if (62 : Int32) = x ∧ ((61 : Int32) = 0 ∨ (61 : Int32) = y) then Jn 3 else if (60 : Int32) = x ∧ ((62 : Int32) = 0 ∨ (62 : Int32) = y) then Jn 4 else if (40 : Int32) = x ∧ ((0 : Int32) = 0 ∨ (0 : Int32) = y) then Jn 5 else if (41 : Int32) = x ∧ ((0 : Int32) = 0 ∨ (0 : Int32) = y) then Jn 6 else if (91 : Int32) = x ∧ ((0 : Int32) = 0 ∨ (0 : Int32) = y) then Jn 7 else if (93 : Int32) = x ∧ ((0 : Int32) = 0 ∨ (0 : Int32) = y) then Jn 8 else if (44 : Int32) = x ∧ ((0 : Int32) = 0 ∨ (0 : Int32) = y) then Jn 9 else if (59 : Int32) = x ∧ ((0 : Int32) = 0 ∨ (0 : Int32) = y) then Jn 10 else if (58 : Int32) = x ∧ ((0 : Int32) = 0 ∨ (0 : Int32) = y) then Jn 11 else if (46 : Int32) = x ∧ ((0 : Int32) = 0 ∨ (0 : Int32) = y) then Jn 12 else if (43 : Int32) = x ∧ ((0 : Int32) = 0 ∨ (0 : Int32) = y) then Jn 13 else if (45 : Int32) = x ∧ ((0 : Int32) = 0 ∨ (0 : Int32) = y) then Jn 14 else if (42 : Int32) = x ∧ ((0 : Int32) = 0 ∨ (0 : Int32) = y) then Jn 15 else if (47 : Int32) = x ∧ ((0 : Int32) = 0 ∨ (0 : Int32) = y) then Jn 16 else if (61 : Int32) = x ∧ ((0 : Int32) = 0 ∨ (0 : Int32) = y) then Jn 17 else if (60 : Int32) = x ∧ ((0 : Int32) = 0 ∨ (0 : Int32) = y) then Jn 18 else if (62 : Int32) = x ∧ ((0 : Int32) = 0 ∨ (0 : Int32) = y) then Jn 19 else if (38 : Int32) = x ∧ ((0 : Int32) = 0 ∨ (0 : Int32) = y) then Jn 20 else if (124 : Int32) = x ∧ ((0 : Int32) = 0 ∨ (0 : Int32) = y) then Jn 21 else -1) = _
  unfold sgnQ
  have sym : ∀ (k : Int32), (k = x) = (x = k) := fun k => propext ⟨Eq.symm, Eq.symm⟩
  have symy : ∀ (k : Int32), (k = y) = (y = k) := fun k => propext ⟨Eq.symm, Eq.symm⟩
  have z0 : ((0 : Int32) = 0) = True := eq_self _
  have z46 : ((46 : Int32) = 0) = False := eq_false (by decide)
  have z61 : ((61 : Int32) = 0) = False := eq_false (by decide)
  have z62 : ((62 : Int32) = 0) = False := eq_false (by decide)
  simp only [sym, symy, z0, z46, z61, z62, true_or, false_or, and_true]
  by_cases g0 : x = 58 ∧ y = 61
  · rw [if_pos g0, if_pos g0]
  rw [if_neg g0, if_neg g0]
  by_cases g1 : x = 46 ∧ y = 46
  · rw [if_pos g1, if_pos g1]
  rw [if_neg g1, if_neg g1]
  by_cases g2 : x = 60 ∧ y = 61
  · rw [if_pos g2, if_pos g2]
  rw [if_neg g2, if_neg g2]
  by_cases g3 : x = 62 ∧ y = 61
  · rw [if_pos g3, if_pos g3]
  rw [if_neg g3, if_neg g3]
  by_cases g4 : x = 60 ∧ y = 62
  · rw [if_pos g4, if_pos g4]
  rw [if_neg g4, if_neg g4]
  by_cases g5 : x = 40
  · rw [if_pos g5, if_pos g5]
  rw [if_neg g5, if_neg g5]
  by_cases g6 : x = 41
  · rw [if_pos g6, if_pos g6]
  rw [if_neg g6, if_neg g6]
  by_cases g7 : x = 91
  · rw [if_pos g7, if_pos g7]
  rw [if_neg g7, if_neg g7]
  by_cases g8 : x = 93
  · rw [if_pos g8, if_pos g8]
  rw [if_neg g8, if_neg g8]
  by_cases g9 : x = 44
  · rw [if_pos g9, if_pos g9]
  rw [if_neg g9, if_neg g9]
  by_cases g10 : x = 59
  · rw [if_pos g10, if_pos g10]
  rw [if_neg g10, if_neg g10]
  by_cases g11 : x = 58
  · rw [if_pos g11, if_pos g11]
  rw [if_neg g11, if_neg g11]
  by_cases g12 : x = 46
  · rw [if_pos g12, if_pos g12]
  rw [if_neg g12, if_neg g12]
  by_cases g13 : x = 43
  · rw [if_pos g13, if_pos g13]
  rw [if_neg g13, if_neg g13]
  by_cases g14 : x = 45
  · rw [if_pos g14, if_pos g14]
  rw [if_neg g14, if_neg g14]
  by_cases g15 : x = 42
  · rw [if_pos g15, if_pos g15]
  rw [if_neg g15, if_neg g15]
  by_cases g16 : x = 47
  · rw [if_pos g16, if_pos g16]
  rw [if_neg g16, if_neg g16]
  by_cases g17 : x = 61
  · rw [if_pos g17, if_pos g17]
  rw [if_neg g17, if_neg g17]
  by_cases g18 : x = 60
  · rw [if_pos g18, if_pos g18]
  rw [if_neg g18, if_neg g18]
  by_cases g19 : x = 62
  · rw [if_pos g19, if_pos g19]
  rw [if_neg g19, if_neg g19]
  by_cases g20 : x = 38
  · rw [if_pos g20, if_pos g20]
  rw [if_neg g20, if_neg g20]
  by_cases g21 : x = 124
  · rw [if_pos g21, if_pos g21]
  rw [if_neg g21, if_neg g21]
theorem sgnC {x y : Int32} {a : Nat} (hx : x = Jn a) (ha : a < 256) (hy : y = -1 ∨ ∃ c, c < 256 ∧ y = Jn c) :
    (∃ m, f_Math_max 0 y = some m ∧
    ((sgnQ x y = none ∧ f_Tokens_isSignOfTwo ((x <<< (8 &&& 31)) ||| m) = some 0 ∧ f_Tokens_isSignOfOne x = some 0) ∨
    (∃ k K, sgnQ x y = some (k, K, 1) ∧ K = x ∧ f_Tokens_isSignOfTwo ((x <<< (8 &&& 31)) ||| m) = some 0 ∧ f_Tokens_isSignOfOne x = some 1) ∨
    (∃ k K, sgnQ x y = some (k, K, 2) ∧ K = ((x <<< (8 &&& 31)) ||| m) ∧ y ≠ -1 ∧ f_Tokens_isSignOfTwo ((x <<< (8 &&& 31)) ||| m) = some 1))) := by
  have hm : ∃ c, c < 256 ∧ f_Math_max 0 y = some (Jn c) ∧ ((y = -1 ∧ c = 0) ∨ y = Jn c) := by
    rcases hy with rfl | ⟨c, hc, rfl⟩
    · exact ⟨0, by omega, by decide, Or.inl ⟨rfl, rfl⟩⟩
    · refine ⟨c, hc, ?_, Or.inr rfl⟩
      unfold f_Math_max
      by_cases c0 : c = 0
      · subst c0; rfl
      · rw [if_pos (ltL 0 (by omega))]
  obtain ⟨c, hc, m1, m2⟩ := hm
  refine ⟨Jn c, m1, ?_⟩
  subst hx
  rw [shlJ ha hc]
  have ey : ∀ k, k < 256 → k ≠ 0 → (y = Jn k) = (c = k) := by
    intro k hk hk0
    rcases m2 with ⟨e1, e2⟩ | e1
    · rw [e1, e2, Jn_m1' (by omega)]
      apply propext
      constructor
      · intro f; exact f.elim
      · intro f; omega
    · rw [e1, Jn_eq (by omega) (by omega)]
  have e61 : (y = 61) = (c = 61) := ey 61 (by omega) (by omega)
  have e46 : (y = 46) = (c = 46) := ey 46 (by omega) (by omega)
  have e62 : (y = 62) = (c = 62) := ey 62 (by omega) (by omega)
  have nm1 : ∀ k, k ≠ 0 → c = k → y ≠ -1 := by
    intro k hk e f
    rcases m2 with ⟨e1, e2⟩ | e1
    · omega
    · rw [e1] at f
      exact absurd f J_nm1
  have x38 : (Jn a = 38) = (a = 38) := Jn_eq (by omega) (b := 38) (by omega)
  have x40 : (Jn a = 40) = (a = 40) := Jn_eq (by omega) (b := 40) (by omega)
  have x41 : (Jn a = 41) = (a = 41) := Jn_eq (by omega) (b := 41) (by omega)
  have x42 : (Jn a = 42) = (a = 42) := Jn_eq (by omega) (b := 42) (by omega)
  have x43 : (Jn a = 43) = (a = 43) := Jn_eq (by omega) (b := 43) (by omega)
  have x44 : (Jn a = 44) = (a = 44) := Jn_eq (by omega) (b := 44) (by omega)
  have x45 : (Jn a = 45) = (a = 45) := Jn_eq (by omega) (b := 45) (by omega)
  have x46 : (Jn a = 46) = (a = 46) := Jn_eq (by omega) (b := 46) (by omega)
  have x47 : (Jn a = 47) = (a = 47) := Jn_eq (by omega) (b := 47) (by omega)
  have x58 : (Jn a = 58) = (a = 58) := Jn_eq (by omega) (b := 58) (by omega)
  have x59 : (Jn a = 59) = (a = 59) := Jn_eq (by omega) (b := 59) (by omega)
  have x60 : (Jn a = 60) = (a = 60) := Jn_eq (by omega) (b := 60) (by omega)
  have x61 : (Jn a = 61) = (a = 61) := Jn_eq (by omega) (b := 61) (by omega)
  have x62 : (Jn a = 62) = (a = 62) := Jn_eq (by omega) (b := 62) (by omega)
  have x91 : (Jn a = 91) = (a = 91) := Jn_eq (by omega) (b := 91) (by omega)
  have x93 : (Jn a = 93) = (a = 93) := Jn_eq (by omega) (b := 93) (by omega)
  have x124 : (Jn a = 124) = (a = 124) := Jn_eq (by omega) (b := 124) (by omega)
  have t14909 : (Jn (a * 256 + c) = 14909) = (a = 58 ∧ c = 61) := two_eq ha hc (k := 14909) (by omega)
  have t11822 : (Jn (a * 256 + c) = 11822) = (a = 46 ∧ c = 46) := two_eq ha hc (k := 11822) (by omega)
  have t15421 : (Jn (a * 256 + c) = 15421) = (a = 60 ∧ c = 61) := two_eq ha hc (k := 15421) (by omega)
  have t15933 : (Jn (a * 256 + c) = 15933) = (a = 62 ∧ c = 61) := two_eq ha hc (k := 15933) (by omega)
  have t15422 : (Jn (a * 256 + c) = 15422) = (a = 60 ∧ c = 62) := two_eq ha hc (k := 15422) (by omega)
  unfold sgnQ f_Tokens_isSignOfTwo f_Tokens_isSignOfOne
  simp only [e61, e46, e62, x38, x40, x41, x42, x43, x44, x45, x46, x47, x58, x59, x60, x61, x62, x91, x93, x124, t14909, t11822, t15421, t15933, t15422]
  by_cases c14909 : a = 58 ∧ c = 61
  · obtain ⟨r1, r2⟩ := c14909
    refine Or.inr (Or.inr ⟨0, 14909, ?_, ?_, nm1 61 (by omega) r2, ?_⟩)
    · simp [r1, r2]
    · rw [r1, r2]; rfl
    · simp [r1, r2]
  · skip
    by_cases c11822 : a = 46 ∧ c = 46
    · obtain ⟨r1, r2⟩ := c11822
      refine Or.inr (Or.inr ⟨1, 11822, ?_, ?_, nm1 46 (by omega) r2, ?_⟩)
      · simp [r1, r2]
      · rw [r1, r2]; rfl
      · simp [r1, r2]
    · skip
      by_cases c15421 : a = 60 ∧ c = 61
      · obtain ⟨r1, r2⟩ := c15421
        refine Or.inr (Or.inr ⟨2, 15421, ?_, ?_, nm1 61 (by omega) r2, ?_⟩)
        · simp [r1, r2]
        · rw [r1, r2]; rfl
        · simp [r1, r2]
      · skip
        by_cases c15933 : a = 62 ∧ c = 61
        · obtain ⟨r1, r2⟩ := c15933
          refine Or.inr (Or.inr ⟨3, 15933, ?_, ?_, nm1 61 (by omega) r2, ?_⟩)
          · simp [r1, r2]
          · rw [r1, r2]; rfl
          · simp [r1, r2]
        · skip
          by_cases c15422 : a = 60 ∧ c = 62
          · obtain ⟨r1, r2⟩ := c15422
            refine Or.inr (Or.inr ⟨4, 15422, ?_, ?_, nm1 62 (by omega) r2, ?_⟩)
            · simp [r1, r2]
            · rw [r1, r2]; rfl
            · simp [r1, r2]
          · skip
            simp only [if_neg c14909, if_neg c11822, if_neg c15421, if_neg c15933, if_neg c15422]
            simp only [true_and]
            by_cases d40 : a = 40
            · exact Or.inr (Or.inl ⟨5, 40, by simp [d40], by rw [d40]; rfl, by simp [d40]⟩)
            by_cases d41 : a = 41
            · exact Or.inr (Or.inl ⟨6, 41, by simp [d41], by rw [d41]; rfl, by simp [d41]⟩)
            by_cases d91 : a = 91
            · exact Or.inr (Or.inl ⟨7, 91, by simp [d91], by rw [d91]; rfl, by simp [d91]⟩)
            by_cases d93 : a = 93
            · exact Or.inr (Or.inl ⟨8, 93, by simp [d93], by rw [d93]; rfl, by simp [d93]⟩)
            by_cases d44 : a = 44
            · exact Or.inr (Or.inl ⟨9, 44, by simp [d44], by rw [d44]; rfl, by simp [d44]⟩)
            by_cases d59 : a = 59
            · exact Or.inr (Or.inl ⟨10, 59, by simp [d59], by rw [d59]; rfl, by simp [d59]⟩)
            by_cases d58 : a = 58
            · exact Or.inr (Or.inl ⟨11, 58, by simp [d58], by rw [d58]; rfl, by simp [d58]⟩)
            by_cases d46 : a = 46
            · exact Or.inr (Or.inl ⟨12, 46, by simp [d46], by rw [d46]; rfl, by simp [d46]⟩)
            by_cases d43 : a = 43
            · exact Or.inr (Or.inl ⟨13, 43, by simp [d43], by rw [d43]; rfl, by simp [d43]⟩)
            by_cases d45 : a = 45
            · exact Or.inr (Or.inl ⟨14, 45, by simp [d45], by rw [d45]; rfl, by simp [d45]⟩)
            by_cases d42 : a = 42
            · exact Or.inr (Or.inl ⟨15, 42, by simp [d42], by rw [d42]; rfl, by simp [d42]⟩)
            by_cases d47 : a = 47
            · exact Or.inr (Or.inl ⟨16, 47, by simp [d47], by rw [d47]; rfl, by simp [d47]⟩)
            by_cases d61 : a = 61
            · exact Or.inr (Or.inl ⟨17, 61, by simp [d61], by rw [d61]; rfl, by simp [d61]⟩)
            by_cases d60 : a = 60
            · exact Or.inr (Or.inl ⟨18, 60, by simp [d60], by rw [d60]; rfl, by simp [d60]⟩)
            by_cases d62 : a = 62
            · exact Or.inr (Or.inl ⟨19, 62, by simp [d62], by rw [d62]; rfl, by simp [d62]⟩)
            by_cases d38 : a = 38
            · exact Or.inr (Or.inl ⟨20, 38, by simp [d38], by rw [d38]; rfl, by simp [d38]⟩)
            by_cases d124 : a = 124
            · exact Or.inr (Or.inl ⟨21, 124, by simp [d124], by rw [d124]; rfl, by simp [d124]⟩)
            left
            simp only [if_neg d38, if_neg d40, if_neg d41, if_neg d42, if_neg d43, if_neg d44, if_neg d45, if_neg d46, if_neg d47, if_neg d58, if_neg d59, if_neg d60, if_neg d61, if_neg d62, if_neg d91, if_neg d93, if_neg d124, and_self]
end
section
/-! One token after the blanks before it: both sides alike. -/
theorem TX.byte {cT mX n b} (h : TX cT mX n b) {k : Nat} (hk : k < n) : ∃ a, a < 256 ∧ b k = Jn a := by
  have := h.2.2.2.1 k hk
  refine ⟨(b k).toInt.toNat, by omega, ?_⟩
  apply Int32.toInt_inj.mp
  rw [Jn_int (by omega)]; omega
theorem TX.byte' {cT mX n b} (h : TX cT mX n b) (k : Nat) : b k = -1 ∨ ∃ a, a < 256 ∧ b k = Jn a := by
  by_cases c : k < n
  · exact Or.inr (h.byte c)
  · exact Or.inl (h.2.2.2.2 k (by omega))
theorem sgn_KM : ∀ x y k K l, sgnQ x y = some (k, K, l) → KM K (50 + Jn k) ∧ K ≠ 4 ∧ ¬ (K = 1 ∨ K = 2 ∨ K = 3) ∧ k < 22 ∧ (SG.getD (2 * k + 1) 0 = 0 ∧ l = 1 ∨ SG.getD (2 * k + 1) 0 ≠ 0 ∧ l = 2) := by
  intro x y k K l e
  have key : ∀ (k : Nat) (K : Int32) (l : Nat), (k, K, l) ∈ ([(0, 14909, 2), (1, 11822, 2), (2, 15421, 2), (3, 15933, 2), (4, 15422, 2), (5, 40, 1), (6, 41, 1), (7, 91, 1), (8, 93, 1), (9, 44, 1), (10, 59, 1), (11, 58, 1), (12, 46, 1), (13, 43, 1), (14, 45, 1), (15, 42, 1), (16, 47, 1), (17, 61, 1), (18, 60, 1), (19, 62, 1), (20, 38, 1), (21, 124, 1)] : List (Nat × Int32 × Nat)) → ((K, 50 + Jn k) ∈ KMT ∧ K ≠ 4 ∧ ¬ (K = 1 ∨ K = 2 ∨ K = 3) ∧ k < 22 ∧ (SG.getD (2 * k + 1) 0 = 0 ∧ l = 1 ∨ SG.getD (2 * k + 1) 0 ≠ 0 ∧ l = 2)) := by
    intro k K l
    have dec : ∀ p ∈ ([(0, 14909, 2), (1, 11822, 2), (2, 15421, 2), (3, 15933, 2), (4, 15422, 2), (5, 40, 1), (6, 41, 1), (7, 91, 1), (8, 93, 1), (9, 44, 1), (10, 59, 1), (11, 58, 1), (12, 46, 1), (13, 43, 1), (14, 45, 1), (15, 42, 1), (16, 47, 1), (17, 61, 1), (18, 60, 1), (19, 62, 1), (20, 38, 1), (21, 124, 1)] : List (Nat × Int32 × Nat)), ((p.2.1, 50 + Jn p.1) ∈ KMT ∧ p.2.1 ≠ 4 ∧ ¬ (p.2.1 = 1 ∨ p.2.1 = 2 ∨ p.2.1 = 3) ∧ p.1 < 22 ∧ (SG.getD (2 * p.1 + 1) 0 = 0 ∧ p.2.2 = 1 ∨ SG.getD (2 * p.1 + 1) 0 ≠ 0 ∧ p.2.2 = 2)) := by decide +kernel
    exact fun h => dec (k, K, l) h
  refine key k K l ?_
  unfold sgnQ at e
  by_cases g0 : x = 58 ∧ y = 61
  · rw [if_pos g0] at e; injection e with e; rw [← e]; decide
  rw [if_neg g0] at e
  by_cases g1 : x = 46 ∧ y = 46
  · rw [if_pos g1] at e; injection e with e; rw [← e]; decide
  rw [if_neg g1] at e
  by_cases g2 : x = 60 ∧ y = 61
  · rw [if_pos g2] at e; injection e with e; rw [← e]; decide
  rw [if_neg g2] at e
  by_cases g3 : x = 62 ∧ y = 61
  · rw [if_pos g3] at e; injection e with e; rw [← e]; decide
  rw [if_neg g3] at e
  by_cases g4 : x = 60 ∧ y = 62
  · rw [if_pos g4] at e; injection e with e; rw [← e]; decide
  rw [if_neg g4] at e
  by_cases g5 : x = 40
  · rw [if_pos g5] at e; injection e with e; rw [← e]; decide
  rw [if_neg g5] at e
  by_cases g6 : x = 41
  · rw [if_pos g6] at e; injection e with e; rw [← e]; decide
  rw [if_neg g6] at e
  by_cases g7 : x = 91
  · rw [if_pos g7] at e; injection e with e; rw [← e]; decide
  rw [if_neg g7] at e
  by_cases g8 : x = 93
  · rw [if_pos g8] at e; injection e with e; rw [← e]; decide
  rw [if_neg g8] at e
  by_cases g9 : x = 44
  · rw [if_pos g9] at e; injection e with e; rw [← e]; decide
  rw [if_neg g9] at e
  by_cases g10 : x = 59
  · rw [if_pos g10] at e; injection e with e; rw [← e]; decide
  rw [if_neg g10] at e
  by_cases g11 : x = 58
  · rw [if_pos g11] at e; injection e with e; rw [← e]; decide
  rw [if_neg g11] at e
  by_cases g12 : x = 46
  · rw [if_pos g12] at e; injection e with e; rw [← e]; decide
  rw [if_neg g12] at e
  by_cases g13 : x = 43
  · rw [if_pos g13] at e; injection e with e; rw [← e]; decide
  rw [if_neg g13] at e
  by_cases g14 : x = 45
  · rw [if_pos g14] at e; injection e with e; rw [← e]; decide
  rw [if_neg g14] at e
  by_cases g15 : x = 42
  · rw [if_pos g15] at e; injection e with e; rw [← e]; decide
  rw [if_neg g15] at e
  by_cases g16 : x = 47
  · rw [if_pos g16] at e; injection e with e; rw [← e]; decide
  rw [if_neg g16] at e
  by_cases g17 : x = 61
  · rw [if_pos g17] at e; injection e with e; rw [← e]; decide
  rw [if_neg g17] at e
  by_cases g18 : x = 60
  · rw [if_pos g18] at e; injection e with e; rw [← e]; decide
  rw [if_neg g18] at e
  by_cases g19 : x = 62
  · rw [if_pos g19] at e; injection e with e; rw [← e]; decide
  rw [if_neg g19] at e
  by_cases g20 : x = 38
  · rw [if_pos g20] at e; injection e with e; rw [← e]; decide
  rw [if_neg g20] at e
  by_cases g21 : x = 124
  · rw [if_pos g21] at e; injection e with e; rw [← e]; decide
  rw [if_neg g21] at e
  cases e
theorem sgn_len : ∀ x y k K l, sgnQ x y = some (k, K, l) → sgL K ≤ l ∧ ¬ (255 < K ∧ K < 297) := by
  intro x y k K l e
  have key : ∀ (k : Nat) (K : Int32) (l : Nat), (k, K, l) ∈ ([(0, 14909, 2), (1, 11822, 2), (2, 15421, 2), (3, 15933, 2), (4, 15422, 2), (5, 40, 1), (6, 41, 1), (7, 91, 1), (8, 93, 1), (9, 44, 1), (10, 59, 1), (11, 58, 1), (12, 46, 1), (13, 43, 1), (14, 45, 1), (15, 42, 1), (16, 47, 1), (17, 61, 1), (18, 60, 1), (19, 62, 1), (20, 38, 1), (21, 124, 1)] : List (Nat × Int32 × Nat)) → (sgL K ≤ l ∧ ¬ (255 < K ∧ K < 297)) := by
    intro k K l
    have dec : ∀ p ∈ ([(0, 14909, 2), (1, 11822, 2), (2, 15421, 2), (3, 15933, 2), (4, 15422, 2), (5, 40, 1), (6, 41, 1), (7, 91, 1), (8, 93, 1), (9, 44, 1), (10, 59, 1), (11, 58, 1), (12, 46, 1), (13, 43, 1), (14, 45, 1), (15, 42, 1), (16, 47, 1), (17, 61, 1), (18, 60, 1), (19, 62, 1), (20, 38, 1), (21, 124, 1)] : List (Nat × Int32 × Nat)), (sgL p.2.1 ≤ p.2.2 ∧ ¬ (255 < p.2.1 ∧ p.2.1 < 297)) := by decide +kernel
    exact fun h => dec (k, K, l) h
  refine key k K l ?_
  unfold sgnQ at e
  by_cases g0 : x = 58 ∧ y = 61
  · rw [if_pos g0] at e; injection e with e; rw [← e]; decide
  rw [if_neg g0] at e
  by_cases g1 : x = 46 ∧ y = 46
  · rw [if_pos g1] at e; injection e with e; rw [← e]; decide
  rw [if_neg g1] at e
  by_cases g2 : x = 60 ∧ y = 61
  · rw [if_pos g2] at e; injection e with e; rw [← e]; decide
  rw [if_neg g2] at e
  by_cases g3 : x = 62 ∧ y = 61
  · rw [if_pos g3] at e; injection e with e; rw [← e]; decide
  rw [if_neg g3] at e
  by_cases g4 : x = 60 ∧ y = 62
  · rw [if_pos g4] at e; injection e with e; rw [← e]; decide
  rw [if_neg g4] at e
  by_cases g5 : x = 40
  · rw [if_pos g5] at e; injection e with e; rw [← e]; decide
  rw [if_neg g5] at e
  by_cases g6 : x = 41
  · rw [if_pos g6] at e; injection e with e; rw [← e]; decide
  rw [if_neg g6] at e
  by_cases g7 : x = 91
  · rw [if_pos g7] at e; injection e with e; rw [← e]; decide
  rw [if_neg g7] at e
  by_cases g8 : x = 93
  · rw [if_pos g8] at e; injection e with e; rw [← e]; decide
  rw [if_neg g8] at e
  by_cases g9 : x = 44
  · rw [if_pos g9] at e; injection e with e; rw [← e]; decide
  rw [if_neg g9] at e
  by_cases g10 : x = 59
  · rw [if_pos g10] at e; injection e with e; rw [← e]; decide
  rw [if_neg g10] at e
  by_cases g11 : x = 58
  · rw [if_pos g11] at e; injection e with e; rw [← e]; decide
  rw [if_neg g11] at e
  by_cases g12 : x = 46
  · rw [if_pos g12] at e; injection e with e; rw [← e]; decide
  rw [if_neg g12] at e
  by_cases g13 : x = 43
  · rw [if_pos g13] at e; injection e with e; rw [← e]; decide
  rw [if_neg g13] at e
  by_cases g14 : x = 45
  · rw [if_pos g14] at e; injection e with e; rw [← e]; decide
  rw [if_neg g14] at e
  by_cases g15 : x = 42
  · rw [if_pos g15] at e; injection e with e; rw [← e]; decide
  rw [if_neg g15] at e
  by_cases g16 : x = 47
  · rw [if_pos g16] at e; injection e with e; rw [← e]; decide
  rw [if_neg g16] at e
  by_cases g17 : x = 61
  · rw [if_pos g17] at e; injection e with e; rw [← e]; decide
  rw [if_neg g17] at e
  by_cases g18 : x = 60
  · rw [if_pos g18] at e; injection e with e; rw [← e]; decide
  rw [if_neg g18] at e
  by_cases g19 : x = 62
  · rw [if_pos g19] at e; injection e with e; rw [← e]; decide
  rw [if_neg g19] at e
  by_cases g20 : x = 38
  · rw [if_pos g20] at e; injection e with e; rw [← e]; decide
  rw [if_neg g20] at e
  by_cases g21 : x = 124
  · rw [if_pos g21] at e; injection e with e; rw [← e]; decide
  rw [if_neg g21] at e
  cases e
theorem s50 (k : Nat) (h : k < 22) : ¬ ((50 : Int32) + Jn k = 0 ∨ (50 : Int32) + Jn k = 2 ∨ (50 : Int32) + Jn k = 4) := by
  have e : (50 : Int32) + Jn k = Jn (50 + k) := Jn_add 50 k
  rw [e]
  intro x
  rcases x with x | x | x
  · exact neR 0 (by omega) (by omega) (by omega) x
  · exact neR 2 (by omega) (by omega) (by omega) x
  · exact neR 4 (by omega) (by omega) (by omega) x
theorem signJ {cT mX n b} (h : TX cT mX n b) {C} (hC : MC C) {j : Nat} (hj : j < 8193) {s : Nat} (hs : s < n) (kd pl vl : Nat → Int32) (tk wo lp fp : Int32) :
    GOODT b n j s kd pl vl lp fp (f_Tokens_scanSign (Jn j, Jn s, kd, pl, vl) cT) (f_Model_readSign C mX (Jn s, tk, wo, Jn s, lp, 0, fp)) ∨
    BADT j s kd pl vl 1 (f_Tokens_scanSign (Jn j, Jn s, kd, pl, vl) cT) (f_Model_readSign C mX (Jn s, tk, wo, Jn s, lp, 0, fp)) := by
  have hn := h.1
  obtain ⟨a, ha, ea⟩ := h.byte hs
  obtain ⟨m, hm, cases3⟩ := sgnC ea ha (h.byte' (s + 1))
  unfold f_Tokens_scanSign f_Model_readSign
  dsimp only
  rw [addL s 1, addL s 2, h.get (by omega), ob_some, h.get (by omega), ob_some, hm, ob_some, nm_eq, h.at' (by omega), ob_some, sgnM h hC hs _ _ rfl, ob_some]
  rcases cases3 with ⟨e1, e2, e3⟩ | ⟨k, K, e1, e2, e3, e4⟩ | ⟨k, K, e1, e2, e3, e4⟩
  · right
    rw [e1, e2, ob_some, if_pos (show (0 : Int32) = 0 from rfl), e3, ob_some, if_pos (show (0 : Int32) = 0 from rfl), tok_add hj]
    dsimp only
    rw [if_neg (show ¬ (0 : Int32) ≤ -1 by decide)]
    exact ⟨_, _, rfl, rfl, rfl⟩
  · left
    obtain ⟨q1, q2, q3, q4, q5⟩ := sgn_KM _ _ _ _ _ e1
    rw [e1, e3, ob_some, if_pos (show (0 : Int32) = 0 from rfl), e4, ob_some, if_neg (show ¬ (1 : Int32) = 0 by decide), tok_add hj]
    dsimp only
    have q6 : SG.getD (2 * k + 1) 0 = 0 := by
      rcases q5 with x | x
      · exact x.1
      · omega
    rw [if_pos (leL 0 (Nat.zero_le _)), show (2 : Int32) * Jn k = Jn (2 * k) from Jn_mul 2 k, addL _ 1, gd_Jn (by omega) (by omega), Jn_cl (by omega), SG_at hC _ (by omega), if_pos q6]
    rw [e2] at q1 q2 q3
    have q7 := sgn_len _ _ _ _ _ e1
    rw [e2] at q7
    exact ⟨s + 1, _, _, _, _, by omega, by omega, q1, q2, fun x => absurd x q3, fun x => absurd x (s50 k q4), Or.inr (Or.inr ⟨q3, by omega, q7.2⟩), rfl, rfl⟩
  · left
    obtain ⟨q1, q2, q3, q4, q5⟩ := sgn_KM _ _ _ _ _ e1
    have hs2 := h.lt (k := s + 1) rfl e3
    rw [e1, e4, ob_some, if_neg (show ¬ (1 : Int32) = 0 by decide), tok_add hj]
    dsimp only
    have q6 : ¬ SG.getD (2 * k + 1) 0 = 0 := by
      rcases q5 with x | x
      · omega
      · exact x.1
    rw [if_pos (leL 0 (Nat.zero_le _)), show (2 : Int32) * Jn k = Jn (2 * k) from Jn_mul 2 k, addL _ 1, gd_Jn (by omega) (by omega), Jn_cl (by omega), SG_at hC _ (by omega), if_neg q6]
    rw [e2] at q1 q2 q3
    have q7 := sgn_len _ _ _ _ _ e1
    rw [e2] at q7
    exact ⟨s + 2, _, _, _, _, by omega, by omega, q1, q2, fun x => absurd x q3, fun x => absurd x (s50 k q4), Or.inr (Or.inr ⟨q3, by omega, q7.2⟩), rfl, rfl⟩
/-- what is known of a token -/
def TF (b : Nat → Int32) (s q : Nat) (K V : Int32) (ns ns' : List (List Int32)) : Prop := TFw b s q K V ns ns' ∨ (TFn b s q K V ∧ ns' = ns)
def STEP (n : Nat) (b : Nat → Int32) (ns : List (List Int32)) (p j : Nat) (kd pl vl : Nat → Int32) (bg fp : Int32) (cn : S_Names) (mn : S_MN) (rc : Option (S_Tokens × S_Names)) (rm : Option (S_ML × S_MN)) : Prop :=
  (∃ s F a' L' mn', p ≤ s ∧ s ≤ n ∧ F ≠ 0 ∧ rc = some ((Jn (j + 1), a', upd kd j 5, upd pl j (Jn s), upd vl j F), cn) ∧ rm = some (L', mn') ∧ L'.2.2.2.2.2 = (F, Jn s)) ∨
  (∃ W, rc = some ((Jn (j + 1), Jn n, upd kd j 4, upd pl j (Jn n), upd vl j 0), cn) ∧ rm = some ((Jn n, 83, W, Jn n, bg, 0, fp), mn)) ∨
  (∃ s q K T V W cn' mn' ns', p ≤ s ∧ s < q ∧ q ≤ n ∧ KM K T ∧ K ≠ 4 ∧ ((K = 1 ∨ K = 2 ∨ K = 3) → W = V) ∧ NR cn' mn' ns' q ∧ (zNm (b q) → 2 * ns'.length ≤ q) ∧ (T = 0 ∨ T = 2 ∨ T = 4 → s + 7 ≤ q) ∧
    rc = some ((Jn (j + 1), Jn q, upd kd j K, upd pl j (Jn s), upd vl j V), cn') ∧ rm = some ((Jn s, T, W, Jn q, bg, 0, fp), mn') ∧ TF b s q K V ns ns')
theorem dispJ {n : Nat} {b : Nat → Int32} {ns : List (List Int32)} {p s j : Nat} {kd pl vl : Nat → Int32} {bg fp : Int32} {cn : S_Names} {mn : S_MN} {F : Int32} {rc : Option S_Tokens} {rm : Option S_ML} (hF : F ≠ 0) (hp : p ≤ s) (hs : s < n) (hN : NR cn mn ns p)
    (h : GOODT b n j s kd pl vl bg fp rc rm ∨ BADT j s kd pl vl F rc rm) : STEP n b ns p j kd pl vl bg fp cn mn (rc.bind fun r => some (r, cn)) (rm.bind fun r => some (r, mn)) := by
  rcases h with ⟨q, K, T, V, W, h1, h2, h3, h4, h5, hT, hF', h6, h7⟩ | ⟨a', L', h1, h2, h3⟩
  · right; right
    obtain ⟨n1, n2, n3, n4, n5⟩ := hN
    exact ⟨s, q, K, T, V, W, cn, mn, ns, hp, h1, h2, h3, h4, h5, ⟨n1, n2, n3, by omega, by omega⟩, fun _ => by omega, hT, by rw [h6]; rfl, by rw [h7]; rfl, Or.inr ⟨hF', rfl⟩⟩
  · left
    exact ⟨s, F, a', L', mn, hp, by omega, hF, by rw [h1]; rfl, by rw [h2]; rfl, h3⟩
theorem gr84 (x : Int32) : (zGr x = 84) = (x = 84 ∨ x = 116) := by
  apply propext
  unfold zGr
  have h84 : (x = 84) = (x.toInt = 84) := zToInt x 84 (by omega)
  have h116 : (x = 116) = (x.toInt = 116) := zToInt x 116 (by omega)
  split
  · rename_i c
    constructor
    · intro e
      right
      have : x = x - 32 + 32 := by rw [Int32.sub_add_cancel]
      rw [this, e]; rfl
    · intro e
      rcases e with e | e
      · rw [h84] at e; omega
      · rw [e]; rfl
  · rename_i c
    constructor
    · intro e; exact Or.inl e
    · intro e
      rcases e with e | e
      · exact e
      · rw [h116] at e; omega
theorem stepJ {cT mX n b} (h : TX cT mX n b) {C} (hC : MC C) {cn mn ns} {p : Nat} (hN : NR cn mn ns p) (hp : p ≤ n) (hnm : zNm (b p) → 2 * ns.length ≤ p) {j : Nat} (hj : j < 8193) (kd pl vl : Nat → Int32) (bg tk wo lp fp : Int32) :
    STEP n b ns p j kd pl vl bg fp cn mn (f_Tokens_scanToken (Jn j, Jn p, kd, pl, vl) cT cn) (f_Model_step C mX (bg, tk, wo, Jn p, lp, 0, fp) mn) := by
  have hn := h.1
  unfold f_Tokens_scanToken f_Model_step f_Tokens_skipBlanks f_Model_skip
  dsimp only
  obtain ⟨s, s1, s2, s3⟩ := skipJ h (Jn j) (kd, pl, vl) bg tk wo bg fp 10000 p 0 FU FU (by omega) (by decide) (by decide) hp (by omega)
  rcases s3 with ⟨s3, s4⟩ | ⟨s3, e, s4, s5, s6⟩
  · rw [show f_Tokens_skipBlanks_L2 cT FU 0 (Jn j, Jn p, kd, pl, vl) = _ from s3, s4, ob_some, ob_some, ob_some]
    dsimp only
    rw [h.get (by omega), ob_some, if_neg (show ¬ (1 : Int32) = 0 by decide), h.2.2.1]
    by_cases cs : s = n
    · subst cs
      right; left
      rw [h.2.2.2.2 s (Nat.le_refl _), if_pos (show (-1 : Int32) = -1 from rfl), tok_add hj, if_pos (J_le (Nat.le_refl s)), if_pos (show (0 : Int32) ≤ 0 by decide), h.at' (by omega), h.2.2.2.2 s (Nat.le_refl _)]
      exact ⟨wo, rfl, rfl⟩
    · have hsn : s < n := by omega
      rw [if_neg (show ¬ b s = -1 from h.nn hsn), if_neg (J_nle (show s < n by omega)), if_pos (show (0 : Int32) ≤ 0 by decide), h.at' (by omega), ob_some, if_neg (show ¬ b s = -1 from h.nn hsn), great_C, ob_some, addL s 1, h.get (by omega), h.at' (by omega), ob_some, ob_some]
      have nonTime :
        STEP n b ns p j kd pl vl bg fp cn mn
          ((f_Top_isDigit (b s)).bind fun r7 => if r7 = 0 then (f_Top_isNameByte (b s)).bind fun r9 => if r9 = 0 then if b s = 37 then (f_Tokens_scanPlace (Jn j, Jn s, kd, pl, vl) cT).bind fun r13 => some (r13, cn) else (f_Tokens_scanSign (Jn j, Jn s, kd, pl, vl) cT).bind fun r12 => some (r12, cn) else (f_Tokens_scanName (Jn j, Jn s, kd, pl, vl) cT cn).bind fun r14 => some (r14.1, r14.2) else (f_Tokens_scanNumber (Jn j, Jn s, kd, pl, vl) cT).bind fun r15 => some (r15, cn))
          ((f_Model_isLetter (b s)).bind fun r58 => if r58 = 0 then (f_Model_isDigit (b s)).bind fun r60 => if r60 = 0 then if b s = 37 then (f_Model_readPlace C mX (Jn s, tk, wo, Jn s, bg, 0, fp)).bind fun r64 => some (r64, mn) else (f_Model_readSign C mX (Jn s, tk, wo, Jn s, bg, 0, fp)).bind fun r63 => some (r63, mn) else (f_Model_readNumber mX (Jn s, tk, wo, Jn s, bg, 0, fp) 0).bind fun r65 => some (r65, mn) else (f_Model_readName C mX (Jn s, tk, wo, Jn s, bg, 0, fp) mn).bind fun r66 => some (r66.1, r66.2)) := by
        rw [isDg_M]
        by_cases cD : zDg (b s)
        · have nL : ¬ zLt (b s) := by
            unfold zDg at cD
            unfold zLt
            omega
          rw [(isDg_C _).1 cD, (isLt_M _).2 nL, ob_some, ob_some, if_neg (show ¬ (1 : Int32) = 0 by decide), if_pos (show (0 : Int32) = 0 from rfl), ob_some, if_neg (show ¬ (1 : Int32) = 0 by decide)]
          exact dispJ (F := 4) (by decide) s1 hsn hN (numJ h hj hsn cD kd pl vl tk wo bg fp)
        · rw [(isDg_C _).2 cD, ob_some, if_pos (show (0 : Int32) = 0 from rfl)]
          by_cases cL : zLt (b s)
          · rw [(isLt_M _).1 cL, (isNm_C _).1 (Or.inl cL), ob_some, ob_some, if_neg (show ¬ (1 : Int32) = 0 by decide), if_neg (show ¬ (1 : Int32) = 0 by decide)]
            obtain ⟨n1, n2, n3, n4, n5⟩ := hN
            have h2 : 2 * ns.length ≤ s := by
              by_cases cps : p = s
              · subst cps; exact hnm (Or.inl cL)
              · omega
            obtain ⟨q, q1, q2, q3, q4⟩ := nameJ h hC (cn := cn) (mn := mn) (ns := ns) (s := s) ⟨n1, n2, n3, by omega, by omega⟩ h2 hsn (Or.inl cL) hj kd pl vl tk wo bg fp
            rcases q4 with ⟨q4, q5⟩ | ⟨K, V, T, cn', mn', ns', q4, q5, q6, qT, q7, q8, q9⟩
            · left
              rw [q4, q5]
              exact ⟨s, 3, _, _, mn, s1, s2, by decide, rfl, rfl, rfl⟩
            · right; right
              rw [q7, q8]
              exact ⟨s, q, K, T, V, V, cn', mn', ns', s1, q1, q2, q4, q5, fun _ => rfl, q6, fun x => absurd x q3, qT, rfl, rfl, Or.inl q9⟩
          · rw [(isLt_M _).2 cL, (isNm_C _).2 (fun x => x.elim cL cD), ob_some, ob_some, ob_some, if_pos (show (0 : Int32) = 0 from rfl), if_pos (show (0 : Int32) = 0 from rfl), if_pos (show (0 : Int32) = 0 from rfl)]
            by_cases c37 : b s = 37
            · rw [if_pos c37, if_pos c37]
              exact dispJ (F := 5) (by decide) s1 hsn hN (placeJ h hC hj hsn kd pl vl tk wo bg fp)
            · rw [if_neg c37, if_neg c37]
              exact dispJ (F := 1) (by decide) s1 hsn hN (signJ h hC hj hsn kd pl vl tk wo bg fp)
      by_cases cT' : zGr (b s) = 84
      · rw [if_pos cT']
        by_cases c35 : b (s + 1) = 35
        · have hs2 := h.lt c35 (by decide)
          have res := dispJ (b := b) (F := 4) (by decide) s1 hsn hN (timeJ h hj (s := s) (by omega) (by rw [gr84] at cT'; rcases cT' with x | x <;> rw [x] <;> (left; unfold zLt; decide)) kd pl vl tk wo bg fp)
          rw [if_pos c35]
          rw [gr84] at cT'
          by_cases c84 : b s = 84
          · rw [if_pos c84, if_pos c35]; exact res
          · rw [if_neg c84, if_pos (cT'.resolve_left c84), if_pos c35]; exact res
        · rw [if_neg c35]
          rw [gr84] at cT'
          by_cases c84 : b s = 84
          · rw [if_pos c84, if_neg c35]; exact nonTime
          · rw [if_neg c84, if_pos (cT'.resolve_left c84), if_neg c35]; exact nonTime
      · rw [if_neg cT']
        rw [gr84] at cT'
        rw [if_neg (fun x => cT' (Or.inl x)), if_neg (fun x => cT' (Or.inr x))]
        exact nonTime
  · left
    rw [show f_Tokens_skipBlanks_L2 cT FU 0 (Jn j, Jn p, kd, pl, vl) = _ from s3, s6, ob_some, ob_some, ob_some]
    dsimp only
    rw [h.get (by omega), ob_some, if_pos (show (0 : Int32) = 0 from rfl), tok_add hj, h.2.2.1, if_pos (J_le s4), if_neg (show ¬ (2 : Int32) ≤ 0 by decide)]
    exact ⟨s, 2, _, _, mn, s1, s2, by decide, rfl, rfl, rfl⟩
end
section
/-! All tokens: the class's rows and the reference's states, one by one. -/
def TOK (kd pl vl : Nat → Int32) (i : Nat) (L : S_ML) : Prop :=
  (kd i = 5 ∧ vl i ≠ 0 ∧ L.2.2.2.2.2 = (vl i, pl i)) ∨
  (kd i ≠ 5 ∧ KM (kd i) L.2.1 ∧ L.1 = pl i ∧ L.2.2.2.2.2 = (0, -1) ∧ ((kd i = 1 ∨ kd i = 2 ∨ kd i = 3) → L.2.2.1 = vl i) ∧ (0 < i → L.2.2.2.2.1 = pl (i - 1)))
theorem KM_ne5 {K T : Int32} (h : KM K T) : K ≠ 5 := by
  have key : ∀ p ∈ KMT, p.1 ≠ 5 := by decide +kernel
  exact key (K, T) h
theorem KM_blk {K T : Int32} (h : KM K T) : (K = 256 ∨ K = 258 ∨ K = 260) → (T = 0 ∨ T = 2 ∨ T = 4) := by
  have key : ∀ p ∈ KMT, (p.1 = 256 ∨ p.1 = 258 ∨ p.1 = 260) → (p.2 = 0 ∨ p.2 = 2 ∨ p.2 = 4) := by decide +kernel
  exact key (K, T) h
theorem tok_kind {j : Nat} (h : j < 8193) (a' : Int32) (kd pl vl : Nat → Int32) : f_Tokens_kind (Jn (j + 1), a', kd, pl, vl) (Jn (j + 1) - 1) = some (kd j) := by
  rw [subL 1 (by omega), show j + 1 - 1 = j by omega]
  unfold f_Tokens_kind
  dsimp only
  rw [if_neg J_nneg, if_neg (J_nle (by omega)), if_neg (nleL 8193 h), gd_Jn h (by omega), Jn_cl (by omega)]
/-- what is known of a token, with all names -/
def TFG (b : Nat → Int32) (s e : Nat) (K V : Int32) (ns : List (List Int32)) : Prop :=
  (zNm (b s) ∧ ¬ zNm (b e) ∧ ∃ w, w < 41 ∧ K = Jn (256 + w) ∧ (WS.getD w []).length = e - s) ∨ (zNm (b s) ∧ ¬ zNm (b e) ∧ K = 1 ∧ ∃ a, V = Jn a ∧ a < ns.length ∧ (ns.getD a []).length = e - s) ∨ TFn b s e K V
theorem TFG_of {b : Nat → Int32} {s q : Nat} {K V : Int32} {ns ns' : List (List Int32)} (h : TF b s q K V ns ns') (l : List (List Int32)) : TFG b s q K V (ns' ++ l) := by
  rcases h with ⟨h1, h2, _, _, ⟨w, w1, w2, w3⟩ | ⟨k1, a, a1, a2, a3⟩⟩ | ⟨h1, _⟩
  · exact Or.inl ⟨h1, h2, w, w1, w2, w3⟩
  · refine Or.inr (Or.inl ⟨h1, h2, k1, a, a1, by rw [List.length_append]; omega, ?_⟩)
    rw [List.getD_eq_getElem?_getD, List.getElem?_append_left a2, ← List.getD_eq_getElem?_getD]
    exact a3
  · exact Or.inr (Or.inr h1)
/-- the tokens from j on: where they end, and what is known of them -/
def TKS (b : Nat → Int32) (n j m p : Nat) (kd pl vl : Nat → Int32) (ns : List (List Int32)) (En : Nat → Nat) : Prop :=
  (∃ s, pl j = Jn s ∧ p ≤ s ∧ s ≤ n) ∧ ∀ i, j ≤ i → i + 1 < m → ∃ s, pl i = Jn s ∧ s < En i ∧ TFG b s (En i) (kd i) (vl i) ns ∧ ∃ s2, pl (i + 1) = Jn s2 ∧ En i ≤ s2 ∧ s2 ≤ n
def SCAN (b : Nat → Int32) (ns0 : List (List Int32)) (C : S_MC) (mX : S_MX) (n j p : Nat) (kd pl vl : Nat → Int32) (Lp : S_ML) (Np : S_MN) (r : Option (S_Tokens × S_Names)) : Prop :=
  ∃ (m : Nat) (a' : Int32) (kd' pl' vl' : Nat → Int32) (cn' : S_Names) (Ls : Nat → S_ML × S_MN), r = some ((Jn m, a', kd', pl', vl'), cn') ∧ j < m ∧ m ≤ j + (n - p) + 1 ∧ (∀ i, i < j → kd' i = kd i ∧ pl' i = pl i ∧ vl' i = vl i) ∧
    f_Model_step C mX Lp Np = some (Ls j) ∧ (∀ i, j ≤ i → i + 1 < m → f_Model_step C mX (Ls i).1 (Ls i).2 = some (Ls (i + 1))) ∧
    (∀ i, j ≤ i → i < m → TOK kd' pl' vl' i (Ls i).1) ∧ (∀ i, j ≤ i → i + 1 < m → kd' i ≠ 4 ∧ kd' i ≠ 5) ∧ (kd' (m - 1) = 4 ∨ kd' (m - 1) = 5) ∧
    ((kd' j = 256 ∨ kd' j = 258 ∨ kd' j = 260) → m + 6 ≤ j + (n - p) + 1) ∧
    (kd' (m - 1) = 4 → ∃ ns En, NR cn' (Ls (m - 1)).2 ns n ∧ (∃ l, ns = ns0 ++ l) ∧ (NB ns0 → NB ns) ∧ TKS b n j m p kd' pl' vl' ns En) ∧ (∃ ns, CN cn' (WS ++ ns) []) ∧ (∀ i, j ≤ i → i < m → ∃ s, pl' i = Jn s ∧ s ≤ n)
theorem scanL {cT mX n b} (h : TX cT mX n b) {C} (hC : MC C) : ∀ (d p j f : Nat) (cn : S_Names) (mn : S_MN) (ns : List (List Int32)) (kd pl vl : Nat → Int32) (bg tk wo lp : Int32), n - p < d → d + 1 ≤ f → p ≤ n → j ≤ p → NR cn mn ns p → (zNm (b p) → 2 * ns.length ≤ p) → (0 < j → bg = pl (j - 1)) →
    SCAN b ns C mX n j p kd pl vl (bg, tk, wo, Jn p, lp, 0, -1) mn (f_Tokens_scan_L21 cT f (Jn j) 1 (Jn j, Jn p, kd, pl, vl) cn) := by
  have hn := h.1
  intro d
  induction d with
  | zero => intro p j f cn mn ns kd pl vl bg tk wo lp h1; omega
  | succ d ih =>
    intro p j f cn mn ns kd pl vl bg tk wo lp h1 h2 hp hj hN hnm hbg
    obtain ⟨f, rfl⟩ : ∃ g, f = g + 1 := ⟨f - 1, by omega⟩
    obtain ⟨g, rfl⟩ : ∃ g, f = g + 1 := ⟨f - 1, by omega⟩
    have hst := stepJ h hC hN hp hnm (j := j) (by omega) kd pl vl bg tk wo lp (-1)
    unfold f_Tokens_scan_L21
    rw [if_neg (show ¬ (1 : Int32) = 0 by decide), if_neg (nleL 8193 (by omega))]
    rcases hst with ⟨s, F, a', L', mn', c1, c2, c3, c4, c5, c6⟩ | ⟨W, c4, c5⟩ | ⟨s, q, K, T, V, W, cn', mn', ns', c1, c2, c3, k1, k2, k3, k4, k5, kT, c4, c5, kF⟩
    · rw [c4, ob_some]
      dsimp only
      rw [tok_kind (by omega), ob_some, upd_self, if_neg (show ¬ (5 : Int32) = 4 by decide), if_pos (show (5 : Int32) = 5 from rfl), nm_eq]
      unfold f_Tokens_scan_L21
      rw [if_pos rfl]
      refine ⟨j + 1, a', _, _, _, cn, fun _ => (L', mn'), rfl, by omega, by omega, ?_, c5, ?_, ?_, ?_, ?_, ?_, ?_, ⟨ns, hN.1⟩, ?_⟩
      · intro i hi
        rw [upd_ne _ _ (by omega), upd_ne _ _ (by omega), upd_ne _ _ (by omega)]
        exact ⟨rfl, rfl, rfl⟩
      · intro i h1 h2; omega
      · intro i h1 h2
        have : i = j := by omega
        subst this
        left
        rw [upd_self, upd_self, upd_self]
        exact ⟨rfl, c3, c6⟩
      · intro i h1 h2; omega
      · right
        rw [show j + 1 - 1 = j by omega, upd_self]
      · rw [upd_self]
        intro x
        exact absurd x (by decide)
      · rw [show j + 1 - 1 = j by omega, upd_self]
        intro x
        exact absurd x (by decide)
      · intro i h1 h2
        have : i = j := by omega
        subst this
        exact ⟨s, upd_self _ _ _, c2⟩
    · rw [c4, ob_some]
      dsimp only
      rw [tok_kind (by omega), ob_some, upd_self, if_pos (show (4 : Int32) = 4 from rfl), nm_eq]
      unfold f_Tokens_scan_L21
      rw [if_pos rfl]
      refine ⟨j + 1, _, _, _, _, cn, fun _ => ((Jn n, 83, W, Jn n, bg, 0, -1), mn), rfl, by omega, by omega, ?_, c5, ?_, ?_, ?_, ?_, ?_, ?_, ⟨ns, hN.1⟩, ?_⟩
      · intro i hi
        rw [upd_ne _ _ (by omega), upd_ne _ _ (by omega), upd_ne _ _ (by omega)]
        exact ⟨rfl, rfl, rfl⟩
      · intro i h1 h2; omega
      · intro i h1 h2
        have : i = j := by omega
        subst this
        right
        rw [upd_self, upd_self, upd_self]
        refine ⟨by decide, show KM 4 83 by unfold KM; decide, rfl, rfl, fun x => absurd x (by decide), ?_⟩
        intro hi
        rw [upd_ne _ _ (by omega)]
        exact hbg hi
      · intro i h1 h2; omega
      · left
        rw [show j + 1 - 1 = j by omega, upd_self]
      · rw [upd_self]
        intro x
        exact absurd x (by decide)
      · intro _
        obtain ⟨n1, n2, n3, n4, n5⟩ := hN
        exact ⟨ns, fun _ => 0, ⟨n1, n2, n3, by omega, by omega⟩, ⟨[], (List.append_nil ns).symm⟩, fun z => z, ⟨n, upd_self _ _ _, hp, Nat.le_refl _⟩, fun i h1 h2 => by omega⟩
      · intro i h1 h2
        have : i = j := by omega
        subst this
        exact ⟨n, upd_self _ _ _, Nat.le_refl _⟩
    · rw [c4, ob_some]
      dsimp only
      have kn5 := KM_ne5 k1
      rw [tok_kind (by omega), ob_some, upd_self, if_neg k2, if_neg kn5, nm_eq, addL j 1]
      obtain ⟨m, a', kd', pl', vl', cn2, Ls, r1, r2, r3, r4, r5, r6, r7, r8, r9, r10, r11, r12, r13⟩ := ih q (j + 1) (g + 1) cn' mn' ns' (upd kd j K) (upd pl j (Jn s)) (upd vl j V) (Jn s) T W bg (by omega) (by omega) c3 (by omega) k4 k5 (fun _ => by rw [show j + 1 - 1 = j by omega, upd_self])
      have lowj := r4 j (by omega)
      rw [upd_self, upd_self, upd_self] at lowj
      refine ⟨m, a', kd', pl', vl', cn2, fun i => if i = j then ((Jn s, T, W, Jn q, bg, 0, -1), mn') else Ls i, r1, by omega, by omega, ?_, ?_, ?_, ?_, ?_, r9, ?_, ?_, r12, ?_⟩
      · intro i hi
        obtain ⟨x1, x2, x3⟩ := r4 i (by omega)
        rw [upd_ne _ _ (by omega)] at x1 x2 x3
        exact ⟨x1, x2, x3⟩
      · dsimp only; rw [c5, if_pos rfl]
      · intro i h1 h2
        by_cases ci : i = j
        · subst ci
          dsimp only
          rw [if_pos rfl, if_neg (by omega)]
          exact r5
        · dsimp only
          rw [if_neg ci, if_neg (by omega)]
          exact r6 i (by omega) h2
      · intro i h1 h2
        by_cases ci : i = j
        · subst ci
          dsimp only
          rw [if_pos rfl]
          right
          rw [lowj.1, lowj.2.1, lowj.2.2]
          refine ⟨kn5, k1, rfl, rfl, k3, ?_⟩
          intro hi
          have := (r4 (i - 1) (by omega)).2.1
          rw [upd_ne _ _ (by omega)] at this
          rw [this]
          exact hbg hi
        · dsimp only
          rw [if_neg ci]
          exact r7 i (by omega) h2
      · intro i h1 h2
        by_cases ci : i = j
        · subst ci
          rw [lowj.1]; exact ⟨k2, kn5⟩
        · exact r8 i (by omega) h2
      · rw [lowj.1]
        intro x
        have := kT (KM_blk k1 x)
        omega
      · dsimp only
        rw [if_neg (by omega)]
        intro h4
        obtain ⟨nsF, En, x1, ⟨l, x2⟩, x3, ⟨s2, y1, y2, y3⟩, y4⟩ := r11 h4
        have hpre : ∃ l0, ns' = ns ++ l0 := by
          rcases kF with ⟨_, _, z, _⟩ | ⟨_, z⟩
          · exact z
          · exact ⟨[], by rw [z, List.append_nil]⟩
        obtain ⟨l0, hl0⟩ := hpre
        refine ⟨nsF, fun i => if i = j then q else En i, x1, ⟨l0 ++ l, by rw [x2, hl0, List.append_assoc]⟩, ?_, ⟨s, lowj.2.1, c1, by omega⟩, ?_⟩
        · intro z
          apply x3
          rcases kF with ⟨_, _, _, z2, _⟩ | ⟨_, z2⟩
          · exact z2 z
          · rw [z2]; exact z
        · intro i h1 h2
          by_cases ci : i = j
          · subst ci
            dsimp only
            rw [if_pos rfl]
            refine ⟨s, lowj.2.1, c2, ?_, s2, y1, y2, y3⟩
            rw [lowj.1, lowj.2.2, x2]
            exact TFG_of kF l
          · dsimp only
            rw [if_neg ci]
            exact y4 i (by omega) h2
      · intro i h1 h2
        by_cases ci : i = j
        · subst ci
          exact ⟨s, lowj.2.1, by omega⟩
        · exact r13 i (by omega) h2
end
