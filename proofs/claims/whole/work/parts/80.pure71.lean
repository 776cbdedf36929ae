section
/-! Tokens as bytes: how a text is written, and how long it is. -/
def ndig (a : Nat) : Nat := if a < 10 then 1 else if a < 100 then 2 else if a < 1000 then 3 else if a < 10000 then 4 else if a < 100000 then 5 else if a < 1000000 then 6 else if a < 10000000 then 7 else if a < 100000000 then 8 else if a < 1000000000 then 9 else 10
def dgs : Nat → Nat → List Int32
  | 0, _ => []
  | k + 1, a => Jn (48 + a / 10 ^ k % 10) :: dgs k a
theorem dgs_len : ∀ (k a : Nat), (dgs k a).length = k
  | 0, _ => rfl
  | k + 1, a => by rw [dgs, List.length_cons, dgs_len k a]
def digs (a : Nat) : List Int32 := dgs (ndig a) a
def plB (a : Nat) : List Int32 := 37 :: PL.getD (2 * (a / 256)) 0 :: PL.getD (2 * (a / 256) + 1) 0 :: digs (a % 256)
abbrev wordK (K : Int32) : Prop := 255 < K ∧ K < 297
def sgB (K : Int32) : List Int32 := if 255 < K then [K >>> 8, K &&& 255] else [K]
def tkB (ns : List (List Int32)) (t : Tok) : List Int32 :=
  if t.1 = 1 then ns.getD t.2.toNatClampNeg [] else if t.1 = 2 then digs t.2.toNatClampNeg else if t.1 = 3 then plB t.2.toNatClampNeg else if wordK t.1 then WS.getD (t.1 - 256).toNatClampNeg [] else sgB t.1
abbrev prt (K : Int32) : Prop := K = 1 ∨ K = 2 ∨ wordK K
abbrev nlB (acc : List Int32) : Prop := zNm (acc.getLast?.getD 0)
def ren1 (ns : List (List Int32)) (acc : List Int32) (t : Tok) : List Int32 := acc ++ (if prt t.1 ∧ nlB acc then [32] else []) ++ tkB ns t
def ren (ns : List (List Int32)) : List Int32 → List Tok → List Int32
  | acc, [] => acc
  | acc, t :: ts => ren ns (ren1 ns acc t) ts
theorem ren_app (ns : List (List Int32)) : ∀ (a b : List Tok) (acc : List Int32), ren ns acc (a ++ b) = ren ns (ren ns acc a) b
  | [], b, acc => rfl
  | t :: a, b, acc => by rw [List.cons_append, ren, ren, ren_app ns a b]
theorem ndig_le {a j : Nat} (h : a < 10 ^ j) (hj : 1 ≤ j) : ndig a ≤ j := by
  unfold ndig
  match j, hj, h with
  | 1, _, h => rw [if_pos h]; exact Nat.le_refl _
  | 2, _, h => split <;> (try split) <;> omega
  | 3, _, h => repeat' (split <;> try omega)
  | 4, _, h => repeat' (split <;> try omega)
  | 5, _, h => repeat' (split <;> try omega)
  | 6, _, h => repeat' (split <;> try omega)
  | 7, _, h => repeat' (split <;> try omega)
  | 8, _, h => repeat' (split <;> try omega)
  | 9, _, h => repeat' (split <;> try omega)
  | j + 10, _, _ => repeat' (split <;> try omega)
theorem digs_len (a : Nat) : (digs a).length = ndig a := dgs_len _ _
theorem dgN_eq {a : Nat} (h : a < 1000) : ndig a = dgN a := by
  unfold ndig dgN
  repeat' (split <;> try omega)
theorem KM_sign {K T : Int32} (h : KM K T) (h1 : ¬ (K = 1 ∨ K = 2 ∨ K = 3)) (h4 : K ≠ 4) (hw : ¬ wordK K) : (sgB K).length = sgL K ∧ ¬ zNm ((sgB K).getLast?.getD 0) ∧ sgB K ≠ [] ∧ K ≠ 288 := by
  have key : ∀ p ∈ KMT, ¬ (p.1 = 1 ∨ p.1 = 2 ∨ p.1 = 3) → p.1 ≠ 4 → ¬ wordK p.1 → (sgB p.1).length = sgL p.1 ∧ ¬ zNm ((sgB p.1).getLast?.getD 0) ∧ sgB p.1 ≠ [] ∧ p.1 ≠ 288 := by decide +kernel
  exact key (K, T) h h1 h4 hw
theorem last_app {a b : List Int32} (hb : b ≠ []) : (a ++ b).getLast?.getD 0 = b.getLast?.getD 0 := by
  rw [List.getLast?_append]
  cases h : b.getLast? with
  | none => exact absurd (List.getLast?_eq_none_iff.mp h) hb
  | some x => rfl
theorem ren_len {b : Nat → Int32} {n m : Nat} {kd pl vl : Nat → Int32} {ns : List (List Int32)} {En : Nat → Nat} (hn : n ≤ 8192) (hns : ns.length ≤ 8192) (hk : TKS b n 0 m 0 kd pl vl ns En) (hKM : ∀ i, i + 1 < m → ∃ T, KM (kd i) T) (h4 : ∀ i, i + 1 < m → kd i ≠ 4) :
    ∀ (k i e : Nat) (acc : List Int32) (X : List Tok), i + k + 1 = m → X.Sublist (tks kd vl i k) → (∃ s, pl i = Jn s ∧ e ≤ s ∧ s ≤ n) → acc.length ≤ 2 * e → (nlB acc → acc.length + 1 ≤ 2 * e ∨ ¬ zNm (b e)) → (ren ns acc X).length ≤ 16384
  | 0, i, e, acc, X, hi, hX, ⟨s, _, hs, hsn⟩, ha, _ => by
    have : X = [] := List.sublist_nil.mp hX
    subst this
    rw [ren]; omega
  | k + 1, i, e, acc, X, hi, hX, ⟨s, hps, hs, hsn⟩, ha, hnl => by
    obtain ⟨s', p1, p2, p3, s2, p4, p5, p6⟩ := hk.2 i (Nat.zero_le _) (by omega)
    have es : s' = s := by
      rw [hps] at p1
      exact (((Jn_eq (by omega) (by omega)).mp p1).symm)
    subst es
    rw [tks] at hX
    -- what comes behind this token
    have drop : ∀ (X' : List Tok) (acc' : List Int32), X'.Sublist (tks kd vl (i + 1) k) → acc'.length ≤ 2 * En i → (nlB acc' → acc'.length + 1 ≤ 2 * En i ∨ ¬ zNm (b (En i))) → (ren ns acc' X').length ≤ 16384 := by
      intro X' acc' hX' h1 h2
      exact ren_len hn hns hk hKM h4 k (i + 1) (En i) acc' X' (by omega) hX' ⟨s2, p4, p5, p6⟩ h1 h2
    cases hX with
    | cons _ h => exact drop X acc h (by omega) (fun _ => Or.inl (by omega))
    | cons_cons _ h =>
      rename_i X'
      rw [ren]
      have blank : ∀ K : Int32, (prt K → zNm (b s')) → acc.length + (if prt K ∧ nlB acc then [(32 : Int32)] else []).length ≤ 2 * s' := by
        intro K hz
        by_cases c : prt K ∧ nlB acc
        · rw [if_pos c, List.length_singleton]
          rcases hnl c.2 with x | x
          · omega
          · have : s' ≠ e := fun h => x (h ▸ hz c.1)
            omega
        · rw [if_neg c, List.length_nil]; omega
      have fin : ∀ t : Tok, (prt t.1 → zNm (b s')) → (tkB ns t).length ≤ 2 * (En i - s') → (¬ zNm (b (En i)) ∨ (tkB ns t ≠ [] ∧ ¬ zNm ((tkB ns t).getLast?.getD 0))) → (ren ns (ren1 ns acc t) X').length ≤ 16384 := by
        intro t hz hlen hlast
        refine drop X' _ h ?_ ?_
        · have := blank t.1 hz
          unfold ren1
          rw [List.length_append, List.length_append]; omega
        · intro hnl'
          right
          rcases hlast with x | ⟨x1, x2⟩
          · exact x
          · unfold nlB ren1 at hnl'
            rw [last_app x1] at hnl'
            exact absurd hnl' x2
      obtain ⟨T, hT⟩ := hKM i (by omega)
      rcases p3 with ⟨z1, z2, w, w1, w2, w3⟩ | ⟨z1, z2, k1, a, a1, a2, a3⟩ | hF
      · -- a word
        have hnk : ¬ kd i = 1 ∧ ¬ kd i = 2 ∧ ¬ kd i = 3 := by
          rw [w2]
          exact ⟨neR 1 (by omega), neR 2 (by omega), neR 3 (by omega)⟩
        by_cases c32 : w = 32
        · have en : nzT (kd i) (vl i) = (38, 0) := by
            subst c32
            unfold nzT
            rw [if_neg hnk.1, if_neg hnk.2.1, if_neg hnk.2.2, if_pos (by rw [w2]; rfl)]
          rw [en]
          have et : tkB ns (38, 0) = [38] := rfl
          refine fin (38, 0) (fun hp => absurd hp (by decide)) (by rw [et, List.length_singleton]; omega) (Or.inl z2)
        · have en : nzT (kd i) (vl i) = (kd i, 0) := by
            unfold nzT
            rw [if_neg hnk.1, if_neg hnk.2.1, if_neg hnk.2.2, if_neg (by rw [w2]; exact neR 288 (by omega))]
          rw [en]
          have hw : wordK (kd i) := by
            rw [w2]
            exact ⟨ltL 255 (by omega), ltR 297 (by omega)⟩
          have et : tkB ns (kd i, 0) = WS.getD w [] := by
            unfold tkB
            rw [if_neg hnk.1, if_neg hnk.2.1, if_neg hnk.2.2, if_pos hw]
            dsimp only
            rw [w2, subL 256 (by omega), Jn_cl (by omega), show 256 + w - 256 = w by omega]
          refine fin (kd i, 0) (fun _ => z1) (by rw [et, w3]; omega) (Or.inl z2)
      · -- a name
        have en : nzT (kd i) (vl i) = (1, vl i) := by
          unfold nzT
          rw [if_pos k1]
        rw [en]
        have et : tkB ns (1, vl i) = ns.getD a [] := by
          unfold tkB
          rw [if_pos rfl]
          dsimp only
          rw [a1, Jn_cl (by omega)]
        exact fin (1, vl i) (fun _ => z1) (by rw [et, a3]; omega) (Or.inl z2)
      · rcases hF with ⟨k1, z1, z2, a, a1, a2, a3⟩ | ⟨k1, z2, a, a1, a2, a3⟩ | ⟨k1, k2, k3⟩
        · -- a number
          have en : nzT (kd i) (vl i) = (2, vl i) := by
            unfold nzT
            rw [if_neg (by rw [k1]; decide), if_pos k1]
          rw [en]
          have et : tkB ns (2, vl i) = digs a := by
            unfold tkB
            rw [if_neg (show ¬ (2 : Int32) = 1 by decide), if_pos rfl]
            dsimp only
            rw [a1, Jn_cl a2]
          refine fin (2, vl i) (fun _ => z1) ?_ (Or.inl z2)
          rw [et, digs_len]
          apply ndig_le
          · rw [Nat.pow_mul]; exact a3
          · omega
        · -- a place
          have en : nzT (kd i) (vl i) = (3, vl i) := by
            unfold nzT
            rw [if_neg (by rw [k1]; decide), if_neg (by rw [k1]; decide), if_pos k1]
          rw [en]
          have et : tkB ns (3, vl i) = plB a := by
            unfold tkB
            rw [if_neg (show ¬ (3 : Int32) = 1 by decide), if_neg (show ¬ (3 : Int32) = 2 by decide), if_pos rfl]
            dsimp only
            rw [a1, Jn_cl (by omega)]
          refine fin (3, vl i) (fun hp => absurd hp (show ¬ prt 3 by decide)) ?_ (Or.inl z2)
          rw [et]
          unfold plB
          rw [List.length_cons, List.length_cons, List.length_cons, digs_len, dgN_eq (by omega)]
          omega
        · -- a sign
          obtain ⟨q1, q2, q3, q4⟩ := KM_sign hT k1 (h4 i (by omega)) k3
          have hnk : ¬ kd i = 1 ∧ ¬ kd i = 2 ∧ ¬ kd i = 3 := ⟨fun x => k1 (Or.inl x), fun x => k1 (Or.inr (Or.inl x)), fun x => k1 (Or.inr (Or.inr x))⟩
          have en : nzT (kd i) (vl i) = (kd i, 0) := by
            unfold nzT
            rw [if_neg hnk.1, if_neg hnk.2.1, if_neg hnk.2.2, if_neg q4]
          rw [en]
          have et : tkB ns (kd i, 0) = sgB (kd i) := by
            unfold tkB
            rw [if_neg hnk.1, if_neg hnk.2.1, if_neg hnk.2.2, if_neg (show ¬ wordK (kd i) from k3)]
          refine fin (kd i, 0) (fun hp => ?_) (by rw [et, q1]; omega) (Or.inr (by rw [et]; exact ⟨q3, q2⟩))
          rcases hp with x | x | x
          · exact absurd x hnk.1
          · exact absurd x hnk.2.1
          · exact absurd x k3
end
section
/-! The class's writer: tokens become bytes. -/
theorem Jn_div {a b : Nat} (ha : a < 2147483648) (hb : b < 2147483648) : Jn a / Jn b = Jn (a / b) := by
  apply Int32.toInt_inj.mp
  have hd : a / b ≤ a := Nat.div_le_self a b
  have hd0 : (0 : Int) ≤ (a : Int) / (b : Int) := Int.ediv_nonneg (by omega) (by omega)
  rw [Int32.toInt_div, Jn_int ha, Jn_int hb, Jn_int (by omega), ← Int.ofNat_tdiv, Int.bmod_eq_of_le] <;> omega
theorem Jn_mod10 {a : Nat} (ha : a < 2147483648) : Jn a - Jn a / 10 * 10 = Jn (a % 10) := by
  rw [show (10 : Int32) = Jn 10 from rfl, Jn_div ha (by omega), Jn_mul, Jn_sub (by omega)]
  congr 1
  omega
/-- what the class has written -/
def WRc (o : S_Bytes) (acc : List Int32) : Prop := o.1 = Jn acc.length ∧ acc.length ≤ 16384 ∧ Arr o.2 acc
def EMc (ns : List (List Int32)) (F : S_Bytes → Option S_Bytes) (X : List Tok) : Prop := ∀ o acc, WRc o acc → (ren ns acc X).length ≤ 16384 → ∃ o', F o = some o' ∧ WRc o' (ren ns acc X)
theorem ren1_le (ns : List (List Int32)) (acc : List Int32) (t : Tok) : acc.length ≤ (ren1 ns acc t).length := by
  unfold ren1
  rw [List.length_append, List.length_append]; omega
theorem ren_le (ns : List (List Int32)) : ∀ (X : List Tok) (acc : List Int32), acc.length ≤ (ren ns acc X).length
  | [], acc => Nat.le_refl _
  | t :: X, acc => Nat.le_trans (ren1_le ns acc t) (ren_le ns X _)
theorem EMc.nil {ns : List (List Int32)} : EMc ns (fun o => some o) [] := fun o acc h _ => ⟨o, rfl, h⟩
theorem EMc.seq {ns : List (List Int32)} {F G : S_Bytes → Option S_Bytes} {X Y : List Tok} (h1 : EMc ns F X) (h2 : EMc ns G Y) : EMc ns (fun o => (F o).bind G) (X ++ Y) := by
  intro o acc h hl
  rw [ren_app] at hl ⊢
  obtain ⟨o1, a1, a2⟩ := h1 o acc h (Nat.le_trans (ren_le ns Y _) hl)
  obtain ⟨o2, b1, b2⟩ := h2 o1 _ a2 hl
  exact ⟨o2, by show (F o).bind G = _; rw [a1, ob_some, b1], b2⟩
theorem EMc.cong {ns : List (List Int32)} {F G : S_Bytes → Option S_Bytes} {X : List Tok} (h : EMc ns F X) (e : ∀ o, G o = F o) : EMc ns G X := by
  intro o acc h1 h2
  rw [e o]
  exact h o acc h1 h2
theorem Arr.snocW {f : Nat → Int32} {l : List Int32} (h : Arr f l) (x : Int32) : Arr (upd f l.length x) (l ++ [x]) := h.snoc x
theorem put_c {o : S_Bytes} {acc : List Int32} (h : WRc o acc) (hl : acc.length < 16384) (c : Int32) : ∃ o', f_Bytes_put 16384 o c = some o' ∧ WRc o' (acc ++ [c]) := by
  unfold f_Bytes_put
  rw [h.1, if_neg J_nneg, show (Int32.ofNat 16384) = Jn 16384 from rfl, if_neg (J_nle hl), gd_Jn hl (by omega), addL _ 1, Jn_cl (by omega)]
  exact ⟨_, rfl, by rw [List.length_append, List.length_singleton], by rw [List.length_append, List.length_singleton]; omega, h.2.2.snoc c⟩
theorem get_c {o : S_Bytes} {acc : List Int32} (h : WRc o acc) {k : Nat} (hk : k < acc.length) : f_Bytes_get 16384 o (Jn k) = some (acc.getD k 0) := by
  have := h.2.1
  unfold f_Bytes_get
  rw [if_neg (J_nneg (by omega)), h.1, if_neg (J_nle hk (by omega)), show (Int32.ofNat 16384) = Jn 16384 from rfl, if_neg (J_nle (by omega)), gd_Jn (by omega) (by omega), Jn_cl (by omega), h.2.2 k hk]
theorem last_eq {acc : List Int32} (h : acc ≠ []) : acc.getLast?.getD 0 = acc.getD (acc.length - 1) 0 := by
  rw [List.getLast?_eq_getElem?, List.getD_eq_getElem?_getD]
theorem part_c {o : S_Bytes} {acc : List Int32} (h : WRc o acc) (hl : (acc ++ (if nlB acc then [(32 : Int32)] else [])).length ≤ 16384) : ∃ o', f_Writer_part o = some o' ∧ WRc o' (acc ++ (if nlB acc then [(32 : Int32)] else [])) := by
  unfold f_Writer_part
  by_cases c0 : acc = []
  · subst c0
    have hn : ¬ nlB ([] : List Int32) := by unfold nlB; decide
    rw [if_neg hn, List.append_nil]
    have e : f_Bytes_get 16384 o (o.1 - 1) = some (-1) := by
      unfold f_Bytes_get
      rw [h.1, if_pos (by decide)]
    rw [e, ob_some, show f_Top_isNameByte (-1) = some 0 from (isNm_C _).2 (show ¬ zNm (-1) by decide), ob_some, if_pos rfl]
    exact ⟨o, rfl, h⟩
  · have hp : 0 < acc.length := List.length_pos_iff.mpr c0
    have e : f_Bytes_get 16384 o (o.1 - 1) = some (acc.getLast?.getD 0) := by
      rw [h.1, subL 1 (by omega), get_c h (by omega), last_eq c0]
    rw [e, ob_some]
    by_cases c : nlB acc
    · rw [if_pos c] at hl ⊢
      rw [List.length_append, List.length_singleton] at hl
      rw [show f_Top_isNameByte (acc.getLast?.getD 0) = some 1 from (isNm_C _).1 c, ob_some, if_neg (show ¬ (1 : Int32) = 0 by decide)]
      obtain ⟨o', a1, a2⟩ := put_c h (by omega) 32
      exact ⟨o', by rw [a1]; rfl, a2⟩
    · rw [if_neg c, List.append_nil] at hl ⊢
      rw [show f_Top_isNameByte (acc.getLast?.getD 0) = some 0 from (isNm_C _).2 c, ob_some, if_pos rfl]
      exact ⟨o, rfl, h⟩
theorem CN.letter {o : S_Names} {L : List (List Int32)} (h : CN o L []) {i k : Nat} (hi : i < L.length) (hk : k < 2147483648) : f_Names_letterOf o (Jn i) (Jn k) = some (if k < (L.getD i []).length then (L.getD i []).getD k 0 else -1) := by
  obtain ⟨h1, h2, h3, h4, h5, h6, h7⟩ := h
  rw [List.length_nil, Nat.add_zero] at h3
  rw [List.append_nil] at h5
  have ho := offs_lt L i hi
  have hs := offs_succ L i hi
  unfold f_Names_letterOf
  rw [if_neg (J_nneg (by omega)), h1, if_neg (J_nle hi (by omega)), if_neg (nleL 4137 (by omega)), if_neg (J_nneg hk), addL i 1, gd_Jn (by omega) (by omega), gd_Jn (by omega) (by omega), Jn_cl (by omega), Jn_cl (by omega), h6 (i + 1) (by omega), h6 i (by omega), hs, Jn_sub (by omega), show offs L i + (L.getD i []).length - offs L i = (L.getD i []).length by omega]
  by_cases c : k < (L.getD i []).length
  · rw [if_pos (J_lt c (by omega)), if_pos c, gd_Jn (by omega) (by omega), nm_eq, Jn_add, if_neg (J_nneg (by omega)), if_neg (nleL 8704 (by omega)), gd_Jn (by omega) (by omega), Jn_cl (by omega), Arr.name (f := o.2.2.1) (m := []) (by rw [List.append_nil]; exact h5) hi c]
  · rw [if_neg (J_nlt (by omega) hk), if_neg c]
theorem wordL_c {cn : S_Names} {L : List (List Int32)} (hC : CN cn L []) {i : Nat} (hi : i < L.length) (h32 : (L.getD i []).length ≤ 32) (hm : ∀ c, c ∈ L.getD i [] → c ≠ -1) : ∀ (d k f : Nat) (o : S_Bytes) (acc : List Int32), (L.getD i []).length - k < d → d ≤ f → k ≤ (L.getD i []).length → WRc o acc → acc.length + ((L.getD i []).length - k) ≤ 16384 → ∃ o', f_Writer_word_L6 cn (Jn i) f (Jn k) o = some o' ∧ WRc o' (acc ++ (L.getD i []).drop k) := by
  intro d
  induction d with
  | zero => intro k f o acc h1; omega
  | succ d ih =>
    intro k f o acc h1 h2 h3 hw hl
    obtain ⟨f, rfl⟩ : ∃ g, f = g + 1 := ⟨f - 1, by omega⟩
    unfold f_Writer_word_L6
    by_cases c32 : 32 ≤ k
    · rw [if_pos (leL 32 c32), List.drop_eq_nil_of_le (by omega), List.append_nil]
      exact ⟨o, rfl, hw⟩
    · rw [if_neg (nleL 32 (by omega)), hC.letter hi (by omega), ob_some]
      by_cases c : k < (L.getD i []).length
      · have hmem : (L.getD i []).getD k 0 ∈ L.getD i [] := by
          rw [List.getD_eq_getElem?_getD (l := L.getD i []), List.getElem?_eq_getElem c]
          exact List.getElem_mem c
        rw [if_pos c, if_neg (hm _ hmem)]
        obtain ⟨o1, a1, a2⟩ := put_c hw (by omega) ((L.getD i []).getD k 0)
        rw [a1, ob_some, nm_eq, addL k 1]
        obtain ⟨o2, b1, b2⟩ := ih (k + 1) f o1 _ (by omega) (by omega) (by omega) a2 (by rw [List.length_append, List.length_singleton]; omega)
        refine ⟨o2, b1, ?_⟩
        have e : (L.getD i []).drop k = (L.getD i []).getD k 0 :: (L.getD i []).drop (k + 1) := by
          rw [List.drop_eq_getElem_cons c, List.getD_eq_getElem?_getD (l := L.getD i []) (i := k), List.getElem?_eq_getElem c]; rfl
        rw [e]
        rw [List.append_assoc] at b2
        exact b2
      · rw [if_neg c, if_pos rfl, List.drop_eq_nil_of_le (by omega), List.append_nil]
        exact ⟨o, rfl, hw⟩
theorem word_c {cn : S_Names} {L : List (List Int32)} (hC : CN cn L []) {i : Nat} (hi : i < L.length) (h32 : (L.getD i []).length ≤ 32) (hm : ∀ c, c ∈ L.getD i [] → c ≠ -1) {o : S_Bytes} {acc : List Int32} (h : WRc o acc) (hl : (acc ++ (if nlB acc then [(32 : Int32)] else []) ++ L.getD i []).length ≤ 16384) : ∃ o', f_Writer_word cn o (Jn i) = some o' ∧ WRc o' (acc ++ (if nlB acc then [(32 : Int32)] else []) ++ L.getD i []) := by
  rw [List.length_append] at hl
  obtain ⟨o1, a1, a2⟩ := part_c h (by omega)
  unfold f_Writer_word
  rw [a1, ob_some]
  obtain ⟨o2, b1, b2⟩ := wordL_c hC hi h32 hm 33 0 FU o1 _ (by omega) (by decide) (Nat.zero_le _) a2 (by omega)
  rw [List.drop_zero] at b2
  exact ⟨o2, b1, b2⟩
/-- the digits of a number, from a power of ten on -/
theorem ng0 {a : Nat} (h : 1 ≤ a) : 0 < ndig a := by
  unfold ndig
  repeat' (split <;> try omega)
theorem ng1 {a : Nat} (h : 10 ≤ a) : 1 < ndig a := by
  unfold ndig
  rw [if_neg (by omega)]
  repeat' (split <;> try omega)
theorem ng2 {a : Nat} (h : 100 ≤ a) : 2 < ndig a := by
  unfold ndig
  rw [if_neg (by omega), if_neg (by omega)]
  repeat' (split <;> try omega)
theorem ng3 {a : Nat} (h : 1000 ≤ a) : 3 < ndig a := by
  unfold ndig
  rw [if_neg (by omega), if_neg (by omega), if_neg (by omega)]
  repeat' (split <;> try omega)
theorem ng4 {a : Nat} (h : 10000 ≤ a) : 4 < ndig a := by
  unfold ndig
  rw [if_neg (by omega), if_neg (by omega), if_neg (by omega), if_neg (by omega)]
  repeat' (split <;> try omega)
theorem ng5 {a : Nat} (h : 100000 ≤ a) : 5 < ndig a := by
  unfold ndig
  rw [if_neg (by omega), if_neg (by omega), if_neg (by omega), if_neg (by omega), if_neg (by omega)]
  repeat' (split <;> try omega)
theorem ng6 {a : Nat} (h : 1000000 ≤ a) : 6 < ndig a := by
  unfold ndig
  rw [if_neg (by omega), if_neg (by omega), if_neg (by omega), if_neg (by omega), if_neg (by omega), if_neg (by omega)]
  repeat' (split <;> try omega)
theorem ng7 {a : Nat} (h : 10000000 ≤ a) : 7 < ndig a := by
  unfold ndig
  rw [if_neg (by omega), if_neg (by omega), if_neg (by omega), if_neg (by omega), if_neg (by omega), if_neg (by omega), if_neg (by omega)]
  repeat' (split <;> try omega)
theorem ng8 {a : Nat} (h : 100000000 ≤ a) : 8 < ndig a := by
  unfold ndig
  rw [if_neg (by omega), if_neg (by omega), if_neg (by omega), if_neg (by omega), if_neg (by omega), if_neg (by omega), if_neg (by omega), if_neg (by omega)]
  repeat' (split <;> try omega)
theorem ng9 {a : Nat} (h : 1000000000 ≤ a) : 9 < ndig a := by
  unfold ndig
  rw [if_neg (by omega), if_neg (by omega), if_neg (by omega), if_neg (by omega), if_neg (by omega), if_neg (by omega), if_neg (by omega), if_neg (by omega), if_neg (by omega)]
  exact Nat.lt_succ_self 9
theorem ndig_gt {a k : Nat} (hk : k ≤ 9) (h : 10 ^ k ≤ a) : k < ndig a := by
  match k, hk, h with
  | 0, _, h => exact ng0 (Nat.le_trans (by decide) h)
  | 1, _, h => exact ng1 (Nat.le_trans (by decide) h)
  | 2, _, h => exact ng2 (Nat.le_trans (by decide) h)
  | 3, _, h => exact ng3 (Nat.le_trans (by decide) h)
  | 4, _, h => exact ng4 (Nat.le_trans (by decide) h)
  | 5, _, h => exact ng5 (Nat.le_trans (by decide) h)
  | 6, _, h => exact ng6 (Nat.le_trans (by decide) h)
  | 7, _, h => exact ng7 (Nat.le_trans (by decide) h)
  | 8, _, h => exact ng8 (Nat.le_trans (by decide) h)
  | 9, _, h => exact ng9 (Nat.le_trans (by decide) h)
theorem ndig_pos (a : Nat) : 0 < ndig a := by
  unfold ndig
  repeat' (split <;> try omega)
theorem ndig_10 (a : Nat) : ndig a ≤ 10 := by
  unfold ndig
  repeat' (split <;> try omega)
theorem pow_b {k : Nat} (hk : k ≤ 9) : 10 ^ k ≤ 1000000000 ∧ 0 < 10 ^ k := ⟨Nat.le_trans (Nat.pow_le_pow_right (by omega) hk) (by decide), Nat.pow_pos (by omega)⟩
theorem digL_c {a : Nat} (ha : a < 2147483648) : ∀ (k f : Nat) (o : S_Bytes) (acc : List Int32), k ≤ 9 → k + 2 ≤ f → WRc o acc → acc.length + min (k + 1) (ndig a) ≤ 16384 → ∃ o', f_Writer_digits_L3 (Jn a) f (Jn (10 ^ k)) o = some o' ∧ WRc o' (acc ++ dgs (min (k + 1) (ndig a)) a)
  | k, 0, o, acc, hk, hf, _, _ => by omega
  | 0, f + 1, o, acc, hk, hf, hw, hl => by
    obtain ⟨f, rfl⟩ : ∃ g, f = g + 1 := ⟨f - 1, by omega⟩
    have hm : min (0 + 1) (ndig a) = 1 := by have := ndig_pos a; omega
    rw [hm] at hl ⊢
    have last : ∀ r, f_Writer_digits_L3 (Jn a) (f + 1) (Jn (10 ^ 0) / 10) r = some r := by
      intro r
      rw [show Jn (10 ^ 0) / 10 = (0 : Int32) from by decide, f_Writer_digits_L3, if_pos (by decide)]
    obtain ⟨o1, a1, a2⟩ := put_c hw (by omega) (Jn (48 + a / 10 ^ 0 % 10))
    have ed : (48 : Int32) + (Jn a / Jn (10 ^ 0) - Jn a / Jn (10 ^ 0) / 10 * 10) = Jn (48 + a / 10 ^ 0 % 10) := by
      rw [Jn_div ha (by decide), Jn_mod10 (Nat.lt_of_le_of_lt (Nat.div_le_self _ _) ha)]
      exact Jn_add 48 _
    refine ⟨o1, ?_, a2⟩
    rw [f_Writer_digits_L3, if_neg (show ¬ Jn (10 ^ 0) ≤ 0 by decide)]
    unfold dz
    by_cases c : Jn (10 ^ 0) ≤ Jn a
    · rw [if_pos c, if_neg (show ¬ Jn (10 ^ 0) = 0 by decide), ed, a1, ob_some, last]
    · rw [if_neg c, if_pos (show Jn (10 ^ 0) = 1 by decide), if_neg (show ¬ Jn (10 ^ 0) = 0 by decide), ed, a1, ob_some, last]
  | k + 1, f + 1, o, acc, hk, hf, hw, hl => by
    have hp := pow_b (k := k + 1) hk
    have hp0 := pow_b (k := k) (by omega)
    have hdiv : Jn (10 ^ (k + 1)) / 10 = Jn (10 ^ k) := by
      rw [show (10 : Int32) = Jn 10 from rfl, Jn_div (by omega) (by omega), Nat.pow_succ, Nat.mul_div_cancel _ (by omega)]
    have hne1 : 10 ^ (k + 1) ≠ 1 := by rw [Nat.pow_succ]; omega
    rw [f_Writer_digits_L3, if_neg (nleR 0 hp.2 (by omega)), hdiv]
    by_cases c : 10 ^ (k + 1) ≤ a
    · have hg := ndig_gt hk c
      have hm : min (k + 1 + 1) (ndig a) = min (k + 1) (ndig a) + 1 := by omega
      have hm1 : min (k + 1) (ndig a) = k + 1 := by omega
      rw [if_pos (J_le c ha)]
      unfold dz
      rw [if_neg (neR 0 (by omega) (by omega)), Jn_div ha (by omega), Jn_mod10 (Nat.lt_of_le_of_lt (Nat.div_le_self _ _) ha), show (48 : Int32) + Jn (a / 10 ^ (k + 1) % 10) = Jn (48 + a / 10 ^ (k + 1) % 10) from Jn_add 48 _]
      obtain ⟨o1, a1, a2⟩ := put_c hw (by omega) (Jn (48 + a / 10 ^ (k + 1) % 10))
      rw [a1, ob_some]
      obtain ⟨o2, b1, b2⟩ := digL_c ha k f o1 _ (by omega) (by omega) a2 (by rw [List.length_append, List.length_singleton]; omega)
      refine ⟨o2, b1, ?_⟩
      rw [hm, hm1, dgs]
      rw [hm1, List.append_assoc] at b2
      exact b2
    · have hg := ndig_le (a := a) (j := k + 1) (by omega) (by omega)
      have hm : min (k + 1 + 1) (ndig a) = min (k + 1) (ndig a) := by omega
      rw [if_neg (J_nle (by omega) (by omega)), if_neg (neR 1 hne1 (by omega)), hm]
      rw [hm] at hl
      exact digL_c ha k f o acc (by omega) (by omega) hw hl
theorem digits_c {a : Nat} (ha : a < 2147483648) {o : S_Bytes} {acc : List Int32} (h : WRc o acc) (hl : (acc ++ digs a).length ≤ 16384) : ∃ o', f_Writer_digits o (Jn a) = some o' ∧ WRc o' (acc ++ digs a) := by
  rw [List.length_append, digs_len] at hl
  have h10 := ndig_10 a
  have hm : min (9 + 1) (ndig a) = ndig a := by omega
  obtain ⟨o', b1, b2⟩ := digL_c ha 9 FU o acc (by omega) (by decide) h (by omega)
  rw [hm] at b2
  refine ⟨o', ?_, b2⟩
  unfold f_Writer_digits
  rw [show (1000000000 : Int32) = Jn (10 ^ 9) from rfl, b1]
  rfl
end
section
/-! The class's writer: its steps, token by token. -/
def NBs (ns : List (List Int32)) : Prop := ns.length ≤ 4096 ∧ ∀ i, i < ns.length → (ns.getD i []).length ≤ 32 ∧ ∀ c, c ∈ ns.getD i [] → c ≠ -1
/-- the class's names, when it writes -/
def CNW (cn : S_Names) (ns : List (List Int32)) : Prop := CN cn (WS ++ ns) [] ∧ NBs ns
theorem wsF : WS.length = 41 ∧ ∀ i, i < 41 → (WS.getD i []).length ≤ 32 ∧ ∀ c, c ∈ WS.getD i [] → c ≠ -1 := by decide +kernel
theorem getA {l m : List (List Int32)} {k : Nat} (h : k < l.length) : (l ++ m).getD k [] = l.getD k [] := by
  rw [List.getD_eq_getElem?_getD, List.getD_eq_getElem?_getD, List.getElem?_append_left h]
theorem getB {l m : List (List Int32)} {k : Nat} : (l ++ m).getD (l.length + k) [] = m.getD k [] := by
  rw [List.getD_eq_getElem?_getD, List.getD_eq_getElem?_getD, List.getElem?_append_right (by omega)]
  congr 2; omega
theorem ren_one (ns : List (List Int32)) (acc : List Int32) (t : Tok) : ren ns acc [t] = ren1 ns acc t := rfl
/-- a word of the language -/
theorem wordW_c {cn : S_Names} {ns : List (List Int32)} (h : CNW cn ns) {i : Nat} (hi : i < 41) : EMc ns (fun o => f_Writer_word cn o (Jn i)) [(Jn (256 + i), 0)] := by
  intro o acc hw hl
  have hL : i < (WS ++ ns).length := by rw [List.length_append, wsF.1]; omega
  have e : (WS ++ ns).getD i [] = WS.getD i [] := getA (by rw [wsF.1]; exact hi)
  have hwk : wordK (Jn (256 + i)) := ⟨ltL 255 (by omega), ltR 297 (by omega)⟩
  have hr : ren ns acc [(Jn (256 + i), 0)] = acc ++ (if nlB acc then [(32 : Int32)] else []) ++ WS.getD i [] := by
    rw [ren_one]
    unfold ren1 tkB
    dsimp only
    have hp : prt (Jn (256 + i)) := Or.inr (Or.inr hwk)
    rw [if_neg (neR 1 (by omega)), if_neg (neR 2 (by omega)), if_neg (neR 3 (by omega)), if_pos hwk, subL 256 (by omega), Jn_cl (by omega), show 256 + i - 256 = i by omega]
    by_cases c : nlB acc
    · rw [if_pos ⟨hp, c⟩, if_pos c]
    · rw [if_neg (fun x => c x.2), if_neg c]
  rw [hr] at hl ⊢
  rw [← e] at hl ⊢
  exact word_c h.1 hL (by rw [e]; exact (wsF.2 i hi).1) (by rw [e]; exact (wsF.2 i hi).2) hw hl
/-- a name -/
theorem name_c {cn : S_Names} {ns : List (List Int32)} (h : CNW cn ns) {i : Nat} (hi : i < ns.length) : EMc ns (fun o => f_Writer_word cn o (41 + Jn i)) [(1, Jn i)] := by
  intro o acc hw hl
  have hb := h.2.1
  have hL : 41 + i < (WS ++ ns).length := by rw [List.length_append, wsF.1]; omega
  have e : (WS ++ ns).getD (41 + i) [] = ns.getD i [] := by
    have := getB (l := WS) (m := ns) (k := i)
    rw [wsF.1] at this
    exact this
  have hr : ren ns acc [(1, Jn i)] = acc ++ (if nlB acc then [(32 : Int32)] else []) ++ ns.getD i [] := by
    rw [ren_one]
    unfold ren1 tkB
    dsimp only
    have hp : prt 1 := Or.inl rfl
    rw [if_pos rfl, Jn_cl (by omega)]
    by_cases c : nlB acc
    · rw [if_pos ⟨hp, c⟩, if_pos c]
    · rw [if_neg (fun x => c x.2), if_neg c]
  rw [hr] at hl ⊢
  rw [← e] at hl ⊢
  show ∃ o', f_Writer_word cn o (Jn 41 + Jn i) = some o' ∧ _
  rw [Jn_add]
  exact word_c h.1 hL (by rw [e]; exact (h.2.2 i hi).1) (by rw [e]; exact (h.2.2 i hi).2) hw hl
/-- the signs and words that the writer knows -/
def tkOK (K : Int32) : Prop := K = -1 ∨ (4 ≤ K ∧ K ≤ 255) ∨ (∃ i : Nat, i < 41 ∧ K = Jn (256 + i)) ∨ 297 ≤ K
theorem token_c {cn : S_Names} {ns : List (List Int32)} (h : CNW cn ns) {K : Int32} (hK : tkOK K) : EMc ns (fun o => f_Writer_token cn o K) (sgT K) := by
  unfold sgT
  rcases hK with rfl | ⟨h1, h2⟩ | ⟨i, hi, rfl⟩ | h1
  · rw [if_pos rfl]
    refine EMc.nil.cong fun o => ?_
    unfold f_Writer_token
    rw [if_pos (by decide), if_pos (by decide), if_pos (by decide)]
  · obtain ⟨a, ha, rfl⟩ := Jn_of (x := K) (Int32.le_trans (by decide) h1)
    have h1' : 4 ≤ a := by have : Jn 4 ≤ Jn a := h1; rw [Jn_le (by omega) ha] at this; exact this
    have h2' : a ≤ 255 := by have : Jn a ≤ Jn 255 := h2; rw [Jn_le ha (by omega)] at this; exact this
    rw [if_neg (J_nm1 ha)]
    intro o acc hw hl
    have hr : ren ns acc [(Jn a, 0)] = acc ++ [Jn a] := by
      rw [ren_one]
      unfold ren1 tkB sgB
      dsimp only
      have hwk : ¬ wordK (Jn a) := fun x => absurd x.1 (nltL 255 (by omega))
      have hp : ¬ prt (Jn a) := by
        rintro (x | x | x)
        · exact absurd x (neR 1 (by omega))
        · exact absurd x (neR 2 (by omega))
        · exact hwk x
      rw [if_neg (fun x => hp x.1), if_neg (neR 1 (by omega)), if_neg (neR 2 (by omega)), if_neg (neR 3 (by omega)), if_neg hwk, if_neg (nltL 255 (by omega)), List.append_nil]
    rw [hr] at hl ⊢
    rw [List.length_append, List.length_singleton] at hl
    obtain ⟨o', b1, b2⟩ := put_c hw (by omega) (Jn a)
    refine ⟨o', ?_, b2⟩
    show f_Writer_token cn o (Jn a) = _
    unfold f_Writer_token
    rw [if_pos (ltR 256 (by omega)), if_pos (leR 255 (by omega)), if_neg (J_nneg ha), b1]
    rfl
  · rw [if_neg (J_nm1 (by omega))]
    refine (wordW_c h hi).cong fun o => ?_
    unfold f_Writer_token
    rw [if_neg (nltR 256 (by omega)), if_neg (nleL 297 (by omega)), subL 256 (by omega), show 256 + i - 256 = i by omega]
    cases f_Writer_word cn o (Jn i) <;> rfl
  · obtain ⟨a, ha, rfl⟩ := Jn_of (x := K) (Int32.le_trans (by decide) h1)
    have h1' : 297 ≤ a := by have : Jn 297 ≤ Jn a := h1; rw [Jn_le (by omega) ha] at this; exact this
    rw [if_neg (J_nm1 ha)]
    intro o acc hw hl
    have hr : ren ns acc [(Jn a, 0)] = acc ++ [Jn a >>> 8, Jn a &&& 255] := by
      rw [ren_one]
      unfold ren1 tkB sgB
      dsimp only
      have hwk : ¬ wordK (Jn a) := fun x => absurd x.2 (nltR 297 (by omega))
      have hp : ¬ prt (Jn a) := by
        rintro (x | x | x)
        · exact absurd x (neR 1 (by omega))
        · exact absurd x (neR 2 (by omega))
        · exact hwk x
      rw [if_neg (fun x => hp x.1), if_neg (neR 1 (by omega)), if_neg (neR 2 (by omega)), if_neg (neR 3 (by omega)), if_neg hwk, if_pos (ltL 255 (by omega)), List.append_nil]
    rw [hr] at hl ⊢
    rw [List.length_append, List.length_cons, List.length_singleton] at hl
    obtain ⟨o1, b1, b2⟩ := put_c hw (by omega) (Jn a >>> 8)
    obtain ⟨o2, d1, d2⟩ := put_c b2 (by rw [List.length_append, List.length_singleton]; omega) (Jn a &&& 255)
    rw [List.append_assoc] at d2
    refine ⟨o2, ?_, d2⟩
    show f_Writer_token cn o (Jn a) = _
    unfold f_Writer_token
    rw [if_neg (nltR 256 (by omega)), if_pos (leL 297 (by omega)), if_neg (nleR 255 (by omega)), show ((8 : Int32) &&& 31) = 8 from by decide, b1, ob_some, d1]
    rfl
/-- digits of a number, parted from what is before -/
theorem dig2_c {ns : List (List Int32)} {a : Nat} (ha : a < 2147483648) : EMc ns (fun o => (f_Writer_part o).bind fun r => f_Writer_digits r (Jn a)) [(2, Jn a)] := by
  intro o acc hw hl
  have hr : ren ns acc [(2, Jn a)] = acc ++ (if nlB acc then [(32 : Int32)] else []) ++ digs a := by
    rw [ren_one]
    unfold ren1 tkB
    dsimp only
    have hp : prt 2 := Or.inr (Or.inl rfl)
    rw [if_neg (show ¬ (2 : Int32) = 1 by decide), if_pos rfl, Jn_cl ha]
    by_cases c : nlB acc
    · rw [if_pos ⟨hp, c⟩, if_pos c]
    · rw [if_neg (fun x => c x.2), if_neg c]
  rw [hr] at hl ⊢
  obtain ⟨o1, a1, a2⟩ := part_c hw (by rw [List.length_append] at hl; omega)
  obtain ⟨o2, b1, b2⟩ := digits_c ha a2 hl
  refine ⟨o2, ?_, b2⟩
  show (f_Writer_part o).bind _ = _
  rw [a1, ob_some, b1]
def numV (v : Int32) : Prop := ∃ a : Nat, a < 2147483648 ∧ (v = Jn a ∨ v = -(Jn a))
theorem neg_J {a : Nat} (ha : a < 2147483648) (h0 : a ≠ 0) : -(Jn a) < 0 ∧ ¬ 0 ≤ -(Jn a) ∧ - -(Jn a) = Jn a := by
  have hi : (-(Jn a)).toInt = -(a : Int) := by
    rw [Int32.toInt_neg, Jn_int ha, Int.bmod_eq_of_le] <;> omega
  refine ⟨?_, ?_, Int32.neg_neg⟩
  · rw [Int32.lt_iff_toInt_lt, hi]; show -(a : Int) < 0; omega
  · rw [Int32.le_iff_toInt_le, hi]; show ¬ 0 ≤ -(a : Int); omega
theorem number_c {cn : S_Names} {ns : List (List Int32)} (h : CNW cn ns) {v : Int32} (hv : numV v) : EMc ns (fun o => f_Writer_number cn o v) (numT v) := by
  obtain ⟨a, ha, hv⟩ := hv
  have pos : EMc ns (fun o => f_Writer_number cn o (Jn a)) (numT (Jn a)) := by
    unfold numT
    rw [if_neg (J_nneg ha)]
    refine (dig2_c ha).cong fun o => ?_
    unfold f_Writer_number f_Math_abs
    rw [if_pos (leL 0 (Nat.zero_le a) ha), if_pos (leL 0 (Nat.zero_le a) ha)]
    cases f_Writer_part o with
    | none => rfl
    | some x => rw [ob_some, ob_some, ob_some]; cases f_Writer_digits x (Jn a) <;> rfl
  rcases hv with rfl | rfl
  · exact pos
  · by_cases h0 : a = 0
    · subst h0
      exact pos
    · obtain ⟨n1, n2, n3⟩ := neg_J ha h0
      unfold numT
      rw [if_pos n1, n3]
      have := (token_c h (K := 45) (Or.inr (Or.inl ⟨by decide, by decide⟩))).seq (dig2_c (ns := ns) ha)
      refine EMc.cong this fun o => ?_
      unfold f_Writer_number f_Math_abs
      rw [if_neg n2, if_neg n2, n3]
      cases f_Writer_token cn o 45 with
      | none => rfl
      | some y =>
        rw [ob_some, ob_some]
        cases f_Writer_part y with
        | none => rfl
        | some x => rw [ob_some, ob_some, ob_some]; cases f_Writer_digits x (Jn a) <;> rfl
theorem shr8 {a : Nat} (ha : a < 1536) : Jn a >>> (8 &&& 31) = Jn (a / 256) := by
  have : ∀ a : Fin 1536, Jn a.1 >>> (8 &&& 31) = Jn (a.1 / 256) := by decide +kernel
  exact this ⟨a, ha⟩
theorem and8 {a : Nat} (ha : a < 1536) : Jn a &&& 255 = Jn (a % 256) := by
  have : ∀ a : Fin 1536, Jn a.1 &&& 255 = Jn (a.1 % 256) := by decide +kernel
  exact this ⟨a, ha⟩
theorem place3 {cn : S_Names} {ns : List (List Int32)} (h : CNW cn ns) {a : Nat} (x y : Int32) {o : S_Bytes} {acc : List Int32} (hw : WRc o acc) (hl : (acc ++ (37 :: x :: y :: digs (a % 256))).length ≤ 16384) :
    ∃ o', ((f_Writer_token cn o 37).bind fun r => (f_Bytes_put 16384 r x).bind fun r1 => (f_Bytes_put 16384 r1 y).bind fun r2 => (f_Writer_digits r2 (Jn (a % 256))).bind fun r3 => some r3) = some o' ∧ WRc o' (acc ++ (37 :: x :: y :: digs (a % 256))) := by
  rw [List.length_append, List.length_cons, List.length_cons, List.length_cons] at hl
  have h37 : f_Writer_token cn o 37 = (f_Bytes_put 16384 o 37).bind fun r => some r := by
    unfold f_Writer_token
    rw [if_pos (by decide), if_pos (by decide), if_neg (by decide)]
  obtain ⟨o1, a1, a2⟩ := put_c hw (by omega) 37
  obtain ⟨o2, b1, b2⟩ := put_c a2 (by rw [List.length_append, List.length_singleton]; omega) x
  obtain ⟨o3, c1, c2⟩ := put_c b2 (by rw [List.length_append, List.length_append, List.length_singleton, List.length_singleton]; omega) y
  obtain ⟨o4, d1, d2⟩ := digits_c (a := a % 256) (by omega) c2 (by rw [List.length_append, List.length_append, List.length_append, List.length_append, List.length_singleton, List.length_singleton, List.length_singleton]; omega)
  refine ⟨o4, ?_, ?_⟩
  · rw [h37, a1, ob_some, ob_some, b1, ob_some, c1, ob_some, d1, ob_some]
  · rw [List.append_assoc, List.append_assoc, List.append_assoc] at d2
    exact d2
theorem place_c {cn : S_Names} {ns : List (List Int32)} (h : CNW cn ns) {a : Nat} (ha : a < 1536) : EMc ns (fun o => f_Writer_place cn o (Jn a)) [(3, Jn a)] := by
  intro o acc hw hl
  have hr : ren ns acc [(3, Jn a)] = acc ++ (37 :: PL.getD (2 * (a / 256)) 0 :: PL.getD (2 * (a / 256) + 1) 0 :: digs (a % 256)) := by
    rw [ren_one]
    unfold ren1 tkB plB
    dsimp only
    rw [if_neg (fun x => absurd x.1 (show ¬ prt 3 by decide)), if_neg (show ¬ (3 : Int32) = 1 by decide), if_neg (show ¬ (3 : Int32) = 2 by decide), if_pos rfl, Jn_cl (by omega), List.append_nil]
  rw [hr] at hl ⊢
  obtain ⟨o', b1, b2⟩ := place3 h _ _ hw hl
  refine ⟨o', ?_, b2⟩
  rw [← b1]
  show f_Writer_place cn o (Jn a) = _
  unfold f_Writer_place
  rw [shr8 ha, and8 ha]
  have h6 : a / 256 < 6 := by omega
  generalize a / 256 = q at h6
  match q, h6 with
  | 0, _ => rfl
  | 1, _ => rfl
  | 2, _ => rfl
  | 3, _ => rfl
  | 4, _ => rfl
  | 5, _ => rfl
end
