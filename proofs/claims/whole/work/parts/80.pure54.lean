section
/-! Nodes in their order: numbers on the reference's side, links on the class's. -/
abbrev sib (T : S_MT) (y : Nat) : Int32 := T.2.2.2.2.2.2.2.2 y
theorem Jn_ne1 {a : Nat} (h : a < 2147483648) : ¬ Jn a = -1 := by
  intro e
  have := J_nneg (a := a) h
  rw [e] at this
  exact this (by decide)
theorem gdN {l : List Nat} {k : Nat} (h : k < l.length) : l.getD k 0 ∈ l := by
  rw [List.getD_eq_getElem?_getD, List.getElem?_eq_getElem h]
  exact List.getElem_mem h
theorem gdN_l {l m : List Nat} {k : Nat} (h : k < l.length) : (l ++ m).getD k 0 = l.getD k 0 := by
  rw [List.getD_eq_getElem?_getD, List.getD_eq_getElem?_getD, List.getElem?_append_left h]
theorem gdN_e {l : List Nat} {y : Nat} {m : List Nat} : (l ++ y :: m).getD l.length 0 = y := by
  rw [List.getD_eq_getElem?_getD, List.getElem?_append_right (Nat.le_refl _), Nat.sub_self]; rfl
theorem mem_gd {l : List Nat} {y : Nat} (h : y ∈ l) : ∃ k, k < l.length ∧ l.getD k 0 = y := by
  obtain ⟨k, hk, e⟩ := List.getElem_of_mem h
  refine ⟨k, hk, ?_⟩
  rw [List.getD_eq_getElem?_getD, List.getElem?_eq_getElem hk]
  exact e
section
variable {T : S_MT} {N : Nat} {ch : Nat → List Nat} {rk : Nat → Nat}
theorem GTr.nodup (h : GTr T N ch rk) {x : Nat} (hx : x < N) : (ch x).Nodup := by
  rw [List.Nodup, List.pairwise_iff_getElem]
  intro i j hi hj hij e
  have a := (h.2.2.2.1 x i hx hi).2.2.1
  have b := (h.2.2.2.1 x j hx hj).2.2.1
  have ei : (ch x).getD i 0 = (ch x)[i] := by rw [List.getD_eq_getElem?_getD, List.getElem?_eq_getElem hi]; rfl
  have ej : (ch x).getD j 0 = (ch x)[j] := by rw [List.getD_eq_getElem?_getD, List.getElem?_eq_getElem hj]; rfl
  rw [ei, e] at a
  rw [ej] at b
  omega
theorem GTr.mem (h : GTr T N ch rk) {x y : Nat} (hx : x < N) (hy : y ∈ ch x) : y < N ∧ par T y = Jn x := by
  obtain ⟨k, hk, e⟩ := mem_gd hy
  have := h.2.2.2.1 x k hx hk
  rw [e] at this
  exact ⟨this.1, this.2.1⟩
theorem PreI.nodup (h : GTr T N ch rk) (h0 : par T 0 = -1) : ∀ (I V st : List Nat), PreI ch st I → (V ++ st).Nodup → (∀ y, y ∈ V ++ st → y < N ∧ (y = 0 ∨ ∃ x, x ∈ V ∧ par T y = Jn x)) → (V ++ I).Nodup ∧ ∀ y, y ∈ V ++ I → y < N
  | [], V, st, hp, hn, ha => by
    have : st = [] := by
      cases st with
      | nil => rfl
      | cons x a => exact hp
    subst this
    exact ⟨hn, fun y hy => (ha y hy).1⟩
  | y :: I, V, [], hp, hn, ha => hp.elim
  | y :: I, V, x :: st, hp, hn, ha => by
    obtain ⟨rfl, hp⟩ := hp
    have hN := h.2.1
    have hx := (ha x (List.mem_append_right _ List.mem_cons_self)).1
    obtain ⟨n1, n2, n3⟩ := List.nodup_append.mp hn
    have xV : x ∉ V := fun hc => n3 x hc x List.mem_cons_self rfl
    have dis : ∀ z, z ∈ ch x → z ∉ V ++ x :: st := by
      intro z hz hc
      have hz' := (h.mem hx hz).2
      rcases (ha z hc).2 with e | ⟨w, hw, e⟩
      · rw [e, h0] at hz'
        exact Jn_ne1 (by omega) hz'.symm
      · rw [hz'] at e
        have hwN := (ha w (List.mem_append_left _ hw)).1
        have := (Jn_eq (by omega) (by omega)).mp e
        exact xV (by rw [this]; exact hw)
    have key := PreI.nodup h h0 I (V ++ [x]) (ch x ++ st) hp (by
      rw [List.nodup_append]
      refine ⟨?_, ?_, ?_⟩
      · rw [List.nodup_append]
        exact ⟨n1, by simp, fun a ha' b hb => by
          rw [List.mem_singleton] at hb
          rw [hb]
          exact fun e => xV (by rw [← e]; exact ha')⟩
      · rw [List.nodup_append]
        refine ⟨h.nodup hx, (List.nodup_cons.mp n2).2, fun a ha' b hb e => ?_⟩
        exact dis a ha' (List.mem_append_right _ (List.mem_cons_of_mem _ (by rw [e]; exact hb)))
      · intro a ha' b hb e
        rw [List.mem_append, List.mem_singleton] at ha'
        rw [List.mem_append] at hb
        rcases hb with hb | hb
        · apply dis b hb
          rw [← e]
          rcases ha' with q | q
          · exact List.mem_append_left _ q
          · rw [q]; exact List.mem_append_right _ List.mem_cons_self
        · rcases ha' with q | q
          · exact n3 a q b (List.mem_cons_of_mem _ hb) e
          · have := (List.nodup_cons.mp n2).1
            rw [← q, e] at this
            exact this hb) (by
      intro z hz
      rw [List.append_assoc, List.mem_append, List.singleton_append, List.mem_cons, List.mem_append] at hz
      have up : (z = 0 ∨ ∃ w, w ∈ V ∧ par T z = Jn w) → (z = 0 ∨ ∃ w, w ∈ V ++ [x] ∧ par T z = Jn w) := by
        rintro (e | ⟨w, hw, e⟩)
        · exact Or.inl e
        · exact Or.inr ⟨w, List.mem_append_left _ hw, e⟩
      rcases hz with q | q | q | q
      · have := ha z (List.mem_append_left _ q)
        exact ⟨this.1, up this.2⟩
      · have := ha z (by rw [q]; exact List.mem_append_right _ List.mem_cons_self)
        exact ⟨this.1, up this.2⟩
      · have := h.mem hx q
        exact ⟨this.1, Or.inr ⟨x, List.mem_append_right _ (List.mem_singleton.mpr rfl), this.2⟩⟩
      · have := ha z (List.mem_append_right _ (List.mem_cons_of_mem _ q))
        exact ⟨this.1, up this.2⟩)
    rw [List.append_assoc] at key
    exact key
/-- the way from a node up to the root: node, its number, its children that haven't come -/
abbrev PE : Type := Nat × Nat × List Nat
def pst (l : List PE) : List Nat := l.flatMap (fun e => e.2.2)
def PATH (T : S_MT) (N : Nat) (ch : Nat → List Nat) : List PE → Prop
  | [] => True
  | [a] => a.1 < N ∧ (∃ i, a.2.2 = (ch a.1).drop i) ∧ par T a.1 = -1 ∧ sib T a.1 = -1
  | a :: b :: l => a.1 < N ∧ (∃ i, a.2.2 = (ch a.1).drop i) ∧ (par T a.1 = Jn b.1 ∧ sib T a.1 = hdJ b.2.2 ∧ b.2.1 < a.2.1) ∧ PATH T N ch (b :: l)
theorem PATH.hd {a l} (h : PATH T N ch (a :: l)) : a.1 < N ∧ (∃ i, a.2.2 = (ch a.1).drop i) := by
  cases l with
  | nil => exact ⟨h.1, h.2.1⟩
  | cons b l => exact ⟨h.1, h.2.1⟩
theorem PATH.tl {a l} (h : PATH T N ch (a :: l)) : PATH T N ch l := by
  cases l with
  | nil => trivial
  | cons b l => exact h.2.2.2
/-- the head's rest may shrink -/
theorem PATH.less {x k r r' l} (h : PATH T N ch ((x, k, r) :: l)) (hr : ∃ i, r' = (ch x).drop i) : PATH T N ch ((x, k, r') :: l) := by
  cases l with
  | nil => exact ⟨h.1, hr, h.2.2⟩
  | cons b l => exact ⟨h.1, hr, h.2.2⟩
theorem drop_gd {l : List Nat} {i y : Nat} {r : List Nat} (h : l.drop i = y :: r) : i < l.length ∧ l.getD i 0 = y ∧ r = l.drop (i + 1) := by
  have hl : i < l.length := by
    apply Classical.byContradiction
    intro hc
    rw [List.drop_eq_nil_of_le (by omega)] at h
    exact List.cons_ne_nil _ _ h.symm
  rw [List.drop_eq_getElem_cons hl] at h
  injection h with h1 h2
  refine ⟨hl, ?_, h2.symm⟩
  rw [List.getD_eq_getElem?_getD, List.getElem?_eq_getElem hl]
  exact h1
theorem pop_path (h : GTr T N ch rk) : ∀ (l : List PE) (y : Nat) (st : List Nat), PATH T N ch l → pst l = y :: st → ∃ x k r l' u, l = u ++ (x, k, y :: r) :: l' ∧ pst ((x, k, r) :: l') = st ∧ (∀ e, e ∈ u → e.2.2 = []) ∧ PATH T N ch ((x, k, r) :: l') ∧ (∃ i, i < (ch x).length ∧ (ch x).getD i 0 = y ∧ r = (ch x).drop (i + 1)) ∧ ∀ kk, k < kk → PATH T N ch ((y, kk, ch y) :: (x, k, r) :: l')
  | [], y, st, _, hs => (List.cons_ne_nil _ _ hs.symm).elim
  | (x, k, []) :: l, y, st, hp, hs => by
    have hs' : pst l = y :: st := hs
    obtain ⟨x', k', r, l', u, a1, a2, a3, a4, a5⟩ := pop_path h l y st hp.tl hs'
    refine ⟨x', k', r, l', (x, k, []) :: u, by rw [a1]; rfl, a2, ?_, a4, a5⟩
    intro e he
    rcases List.mem_cons.mp he with q | q
    · rw [q]
    · exact a3 e q
  | (x, k, z :: r) :: l, y, st, hp, hs => by
    have hs' : z :: (r ++ pst l) = y :: st := hs
    injection hs' with e1 e2
    subst e1
    obtain ⟨hx, i, hi⟩ := hp.hd
    dsimp only at hx hi
    obtain ⟨d1, d2, d3⟩ := drop_gd hi.symm
    have hg := h.2.2.2.1 x i hx d1
    rw [d2, ← d3] at hg
    refine ⟨x, k, r, l, [], rfl, e2, fun e he => absurd he List.not_mem_nil, hp.less ⟨i + 1, d3⟩, ⟨i, d1, d2, d3⟩, fun kk hk => ?_⟩
    exact ⟨hg.1, ⟨0, rfl⟩, ⟨hg.2.1, hg.2.2.2, hk⟩, hp.less ⟨i + 1, d3⟩⟩
theorem hdJ_ne {l : List Nat} (h : ∀ y, y ∈ l → y < 2147483648) : hdJ l = -1 → l = [] := by
  cases l with
  | nil => intro _; rfl
  | cons x l => intro e; exact absurd e (Jn_ne1 (h x List.mem_cons_self))
theorem follow_up (h : GTr T N ch rk) : ∀ (l : List PE) (a : PE) (f : Nat), PATH T N ch (a :: l) → l.length + 2 ≤ f → ∃ v, f_Model_following_L19 T f (Jn a.1) = some v ∧ (if v = -1 then some (-1) else gd v 20000 (some (T.2.2.2.2.2.2.2.2 v.toNatClampNeg))) = some (hdJ (pst l))
  | [], a, f, hp, hf => by
    have hN := h.2.1
    obtain ⟨f, rfl⟩ : ∃ g, f = g + 1 + 1 := ⟨f - 2, by simp only [List.length_nil] at hf; omega⟩
    obtain ⟨h1, h2, h3, h4⟩ := hp
    refine ⟨-1, ?_, by rw [if_pos rfl]; rfl⟩
    unfold f_Model_following_L19
    rw [if_neg (Jn_ne1 (by omega)), gd_Jn (by omega) (by omega), Jn_cl (by omega), if_pos h4, gd_Jn (by omega) (by omega), nm_eq]
    unfold par at h3
    rw [h3]
    unfold f_Model_following_L19
    rw [if_pos rfl]
  | b :: l, a, f, hp, hf => by
    have hN := h.2.1
    obtain ⟨f, rfl⟩ : ∃ g, f = g + 1 := ⟨f - 1, by omega⟩
    obtain ⟨h1, h2, ⟨h3, h4, h4'⟩, h5⟩ := hp
    obtain ⟨hb, i, hi⟩ := h5.hd
    unfold f_Model_following_L19
    rw [if_neg (Jn_ne1 (by omega)), gd_Jn (by omega) (by omega), Jn_cl (by omega)]
    by_cases c : b.2.2 = []
    · rw [c] at h4
      obtain ⟨v, v1, v2⟩ := follow_up h l b f h5 (by simp only [List.length_cons] at hf; omega)
      unfold par at h3
      have h4m : T.2.2.2.2.2.2.2.2 a.1 = -1 := h4
      rw [if_pos h4m, gd_Jn (by omega) (by omega), nm_eq, h3]
      refine ⟨v, v1, ?_⟩
      rw [v2]
      unfold pst
      rw [List.flatMap_cons, c, List.nil_append]
    · obtain ⟨z, r, hz⟩ : ∃ z r, b.2.2 = z :: r := by
        cases hh : b.2.2 with
        | nil => exact absurd hh c
        | cons z r => exact ⟨z, r, rfl⟩
      have zN : z < N := by
        rw [hz] at hi
        obtain ⟨d1, d2, d3⟩ := drop_gd hi.symm
        have := (h.2.2.2.1 b.1 i hb d1).1
        rw [d2] at this
        exact this
      rw [hz] at h4
      have h4z : T.2.2.2.2.2.2.2.2 a.1 = Jn z := h4
      refine ⟨Jn a.1, by rw [if_neg (by rw [h4z]; exact Jn_ne1 (by omega))], ?_⟩
      rw [if_neg (Jn_ne1 (by omega)), gd_Jn (by omega) (by omega), Jn_cl (by omega), h4z]
      unfold pst
      rw [List.flatMap_cons, hz]; rfl
theorem follow_ok (h : GTr T N ch rk) {x k : Nat} {l : List PE} (hp : PATH T N ch ((x, k, ch x) :: l)) (hl : l.length + 2 ≤ FU) : f_Model_following T (Jn x) = some (hdJ (ch x ++ pst l)) := by
  have hN := h.2.1
  have hx : x < N := hp.hd.1
  unfold f_Model_following
  rw [gd_Jn (by omega) (by omega), Jn_cl (by omega), (h.2.2.1 x hx).1]
  by_cases c : ch x = []
  · obtain ⟨v, v1, v2⟩ := follow_up h l (x, k, ch x) FU hp hl
    dsimp only at v1
    rw [c, if_pos (show hdJ [] = -1 from rfl), v1, ob_some, v2]; rfl
  · rw [if_neg (fun e => c (hdJ_ne (fun y hy => by have := (h.mem hx hy).1; omega) e)), gd_Jn (by omega) (by omega), hdJ_app c]
/-- the reference's numbers -/
def QR (Q : S_MQ) (V : List Nat) : Prop := Q.1 = Jn V.length ∧ ∀ k, k < V.length → Q.2.1 k = Jn (V.getD k 0) ∧ Q.2.2 (V.getD k 0) = Jn k
theorem QR.snoc {Q : S_MQ} {V : List Nat} {y : Nat} (h : QR Q V) (hy : y ∉ V) : QR (Jn (V.length + 1), upd Q.2.1 V.length (Jn y), upd Q.2.2 y (Jn V.length)) (V ++ [y]) := by
  refine ⟨by rw [List.length_append, List.length_singleton], fun k hk => ?_⟩
  rw [List.length_append, List.length_singleton] at hk
  by_cases c : k = V.length
  · subst c
    rw [gdN_e]
    exact ⟨upd_self _ _ _, upd_self _ _ _⟩
  · rw [gdN_l (by omega)]
    have := h.2 k (by omega)
    dsimp only
    have hm := gdN (l := V) (show k < V.length by omega)
    rw [upd_ne _ _ c, upd_ne _ _ (fun e => hy (by rw [← e]; exact hm))]
    exact this
theorem PATH.len : ∀ {l : List PE} {a : PE}, PATH T N ch (a :: l) → l.length ≤ a.2.1
  | [], a, _ => Nat.zero_le _
  | b :: l, a, h => by
    have := PATH.len h.2.2.2
    have := h.2.2.1.2.2
    rw [List.length_cons]; omega
theorem numL (h : GTr T N ch rk) : ∀ (I V st : List Nat) (l : List PE) (Q : S_MQ) (f : Nat), PATH T N ch l → (∀ e, e ∈ l → e.2.1 < V.length) → st = pst l → PreI ch st I → QR Q V → (V ++ I).Nodup → (V ++ I).length ≤ 16384 → (∀ y, y ∈ V ++ I → y < N) → I.length < f → ∃ Q', f_Model_number_L7 T f (hdJ st) Q = some Q' ∧ QR Q' (V ++ I)
  | [], V, st, l, Q, f, hp, hk, hst, hI, hQ, hn, hl, hlt, hf => by
    have : st = [] := by
      cases st with
      | nil => rfl
      | cons x a => exact hI
    subst this
    obtain ⟨f, rfl⟩ : ∃ g, f = g + 1 := ⟨f - 1, by simp only [List.length_nil] at hf; omega⟩
    unfold f_Model_number_L7
    rw [if_pos (show hdJ [] = -1 from rfl), List.append_nil]
    exact ⟨_, rfl, hQ⟩
  | y :: I, V, [], l, Q, f, hp, hk, hst, hI, hQ, hn, hl, hlt, hf => hI.elim
  | y :: I, V, z :: st, l, Q, f, hp, hk, hst, hI, hQ, hn, hl, hlt, hf => by
    have hN := h.2.1
    obtain ⟨rfl, hI⟩ := hI
    obtain ⟨f, rfl⟩ : ∃ g, f = g + 1 := ⟨f - 1, by omega⟩
    obtain ⟨x, k, r, l', u, a1, a2, a3, a4, a5, a6⟩ := pop_path h l z st hp hst.symm
    have zN := hlt z (List.mem_append_right _ List.mem_cons_self)
    have kV : k < V.length := hk (x, k, z :: r) (by rw [a1]; exact List.mem_append_right _ List.mem_cons_self)
    have hl' : V.length + (I.length + 1) ≤ 16384 := by rw [List.length_append, List.length_cons] at hl; exact hl
    have hpath := a6 V.length kV
    have hlen := hpath.len
    dsimp only at hlen
    have hfo := follow_ok h hpath (by unfold FU; omega)
    rw [show hdJ (z :: st) = Jn z from rfl]
    unfold f_Model_number_L7
    rw [if_neg (Jn_ne1 (by omega)), hQ.1, gd_Jn (by omega) (by omega), gd_Jn (by omega) (by omega), hfo, ob_some, addL _ 1, Jn_cl (by omega), Jn_cl (by omega)]
    have hzV : z ∉ V := fun hc => (List.nodup_append.mp hn).2.2 z hc z List.mem_cons_self rfl
    have eA : V ++ z :: I = (V ++ [z]) ++ I := by rw [List.append_assoc]; rfl
    have e2 : ch z ++ pst ((x, k, r) :: l') = pst ((z, V.length, ch z) :: (x, k, r) :: l') := by
      unfold pst
      rw [List.flatMap_cons (xs := (x, k, r) :: l')]
    have hk' : ∀ e, e ∈ (z, V.length, ch z) :: (x, k, r) :: l' → e.2.1 < (V ++ [z]).length := by
      intro e he
      rw [List.length_append, List.length_singleton]
      rcases List.mem_cons.mp he with q | q
      · rw [q]; dsimp only; omega
      · rcases List.mem_cons.mp q with q | q
        · rw [q]; dsimp only; omega
        · have := hk e (by rw [a1]; exact List.mem_append_right _ (List.mem_cons_of_mem _ q))
          omega
    rw [eA] at hn hl hlt ⊢
    exact numL h I (V ++ [z]) (ch z ++ pst ((x, k, r) :: l')) _ _ f hpath hk' e2 (by rw [a2]; exact hI) (hQ.snoc hzV) hn hl hlt (by rw [List.length_cons] at hf; omega)
theorem number_ok (h : GTr T N ch rk) (h0 : par T 0 = -1) (hN : 0 < N) {D : List Nat} (hp : PreI ch (ch 0) D) (hD : D.length < 16384) (Q : S_MQ) : ∃ Q', f_Model_number T Q = some Q' ∧ QR Q' (0 :: D) ∧ (0 :: D).Nodup ∧ ∀ y, y ∈ 0 :: D → y < N := by
  have hN2 := h.2.1
  have nd := PreI.nodup h h0 (0 :: D) [] [0] (PreI.one hp) (by simp) (fun y hy => by
    rw [List.nil_append, List.mem_singleton] at hy
    subst hy
    exact ⟨hN, Or.inl rfl⟩)
  rw [List.nil_append] at nd
  have hsib : sib T 0 = -1 := h.2.2.2.2 0 hN h0
  have hpath : PATH T N ch [(0, 0, ch 0)] := ⟨hN, ⟨0, rfl⟩, h0, hsib⟩
  have hfo := follow_ok h hpath (by decide)
  have q0 : QR (0, Q.2) [] := ⟨rfl, fun k hk => absurd hk (Nat.not_lt_zero _)⟩
  have q1 := q0.snoc (y := 0) List.not_mem_nil
  have e1 : ch 0 ++ pst [] = pst [(0, 0, ch 0)] := rfl
  obtain ⟨Q', x1, x2⟩ := numL h D [0] (ch 0 ++ pst []) [(0, 0, ch 0)] _ 999999 hpath (fun e he => by
    rw [List.mem_singleton] at he
    rw [he]; exact Nat.zero_lt_one) e1 (by rw [e1]; show PreI ch (ch 0 ++ []) D; rw [List.append_nil]; exact hp) q1 nd.1 (by rw [List.length_append, List.length_singleton]; omega) nd.2 (by omega)
  refine ⟨Q', ?_, x2, nd.1, nd.2⟩
  unfold f_Model_number
  rw [FU1]
  unfold f_Model_number_L7
  rw [if_neg (by decide), show (0 : Int32) = Jn 0 from rfl, gd_Jn (by omega) (by omega), gd_Jn (by omega) (by omega), hfo, ob_some, addL 0 1, Jn_cl (by omega)]
  have x1' : f_Model_number_L7 T 999999 (hdJ (ch 0 ++ pst [])) (Jn (0 + 1), upd Q.2.1 0 (Jn 0), upd Q.2.2 0 (Jn 0)) = some Q' := x1
  dsimp only
  rw [x1', ob_some]
theorem childL (h : GTr T N ch rk) {x : Nat} (hx : x < N) : ∀ (d i f : Nat), (ch x).length - i < d → d ≤ f → i ≤ (ch x).length → f_Model_children_L9 T f (hdJ ((ch x).drop i)) (Jn i) = some (Jn (ch x).length) := by
  have hN := h.2.1
  intro d
  induction d with
  | zero => intro i f h1; omega
  | succ d ih =>
    intro i f h1 h2 h3
    obtain ⟨f, rfl⟩ : ∃ g, f = g + 1 := ⟨f - 1, by omega⟩
    unfold f_Model_children_L9
    by_cases c : i = (ch x).length
    · rw [c, List.drop_length, if_pos (show hdJ [] = -1 from rfl)]
    · have hi : i < (ch x).length := by omega
      obtain ⟨g1, g2, g3, g4⟩ := h.2.2.2.1 x i hx hi
      have e : hdJ ((ch x).drop i) = Jn ((ch x).getD i 0) := by
        rw [List.drop_eq_getElem_cons hi, List.getD_eq_getElem?_getD, List.getElem?_eq_getElem hi]; rfl
      rw [e, if_neg (Jn_ne1 (by omega)), nm_eq, gd_Jn (by omega) (by omega), nm_eq, Jn_cl (by omega), g4, addL i 1]
      exact ih (i + 1) f (by omega) (by omega) (by omega)
theorem children_ok (h : GTr T N ch rk) {x : Nat} (hx : x < N) (hl : (ch x).length < 20000) : f_Model_children T (Jn x) = some (Jn (ch x).length) := by
  have hN := h.2.1
  unfold f_Model_children
  rw [gd_Jn (by omega) (by omega), nm_eq, Jn_cl (by omega), (h.2.2.1 x hx).1]
  have := childL h hx (20001) 0 FU (by omega) (by decide) (Nat.zero_le _)
  rw [List.drop_zero] at this
  rw [show (0 : Int32) = Jn 0 from rfl, this, ob_some]
end
end
section
/-! The class's links: parents and ranks from the numbers of children. -/
abbrev tCnt (t : S_Tree) (k : Nat) : Int32 := t.2.2.2.2.1 k
abbrev tPar (t : S_Tree) (k : Nat) : Int32 := t.2.2.2.2.2.1 k
abbrev tRnk (t : S_Tree) (k : Nat) : Int32 := t.2.2.2.2.2.2.1 k
abbrev tFil (t : S_Tree) (k : Nat) : Int32 := t.2.2.2.2.2.2.2 k
def CPE (t : S_Tree) (ch : Nat → List Nat) (V : List Nat) (a : PE) : Prop := a.2.1 < V.length ∧ V.getD a.2.1 0 = a.1 ∧ a.2.2.length ≤ (ch a.1).length ∧ (ch a.1).length ≤ 16384 ∧ tCnt t a.2.1 = Jn (ch a.1).length ∧ tFil t a.2.1 = Jn ((ch a.1).length - a.2.2.length)
def CPATH (t : S_Tree) (ch : Nat → List Nat) (V : List Nat) : List PE → Prop
  | [] => True
  | [a] => CPE t ch V a ∧ tPar t a.2.1 = -1
  | a :: b :: l => CPE t ch V a ∧ (tPar t a.2.1 = Jn b.2.1 ∧ b.2.1 < a.2.1) ∧ CPATH t ch V (b :: l)
theorem CPATH.hd {t ch V a l} (h : CPATH t ch V (a :: l)) : CPE t ch V a := by
  cases l with
  | nil => exact h.1
  | cons b l => exact h.1
theorem CPATH.tl {t ch V a l} (h : CPATH t ch V (a :: l)) : CPATH t ch V l := by
  cases l with
  | nil => trivial
  | cons b l => exact h.2.2
theorem CPATH.app {t ch V} : ∀ {u l : List PE}, CPATH t ch V (u ++ l) → CPATH t ch V l
  | [], l, h => h
  | a :: u, l, h => CPATH.app (u := u) (CPATH.tl h)
theorem CPATH.low {t ch V} : ∀ {l : List PE} {a : PE}, CPATH t ch V (a :: l) → ∀ e, e ∈ l → e.2.1 < a.2.1
  | [], a, _, e, he => absurd he List.not_mem_nil
  | b :: l, a, h, e, he => by
    have hb := h.2.1.2
    rcases List.mem_cons.mp he with q | q
    · rw [q]; exact hb
    · have := CPATH.low h.2.2 e q
      omega
theorem CPATH.congr {t t' : S_Tree} {ch : Nat → List Nat} {V V' : List Nat} : ∀ {l : List PE}, (∀ e, e ∈ l → tCnt t' e.2.1 = tCnt t e.2.1 ∧ tPar t' e.2.1 = tPar t e.2.1 ∧ tFil t' e.2.1 = tFil t e.2.1) → CPATH t ch V l → CPATH t' ch (V ++ V') l
  | [], _, _ => trivial
  | [a], h, hp => by
    obtain ⟨e1, e2, e3⟩ := h a List.mem_cons_self
    obtain ⟨⟨a1, a2, a3, a4, a5, a6⟩, a7⟩ := hp
    exact ⟨⟨by rw [List.length_append]; omega, by rw [gdN_l a1]; exact a2, a3, a4, e1.trans a5, e3.trans a6⟩, e2.trans a7⟩
  | a :: b :: l, h, hp => by
    obtain ⟨e1, e2, e3⟩ := h a List.mem_cons_self
    obtain ⟨⟨a1, a2, a3, a4, a5, a6⟩, ⟨a7, a8⟩, a9⟩ := hp
    exact ⟨⟨by rw [List.length_append]; omega, by rw [gdN_l a1]; exact a2, a3, a4, e1.trans a5, e3.trans a6⟩, ⟨e2.trans a7, a8⟩, CPATH.congr (fun e he => h e (List.mem_cons_of_mem _ he)) a9⟩
theorem has_in {t : S_Tree} {S k : Nat} (hS : t.1 = Jn S) (hk : k < S) (hS2 : S ≤ 16384) : f_Tree_has t (Jn k) = some 1 := by
  unfold f_Tree_has
  rw [if_neg J_nneg, hS, if_neg (J_nle hk), if_neg (nleL 16384 (by omega))]
theorem unf {t : S_Tree} {ch : Nat → List Nat} {V : List Nat} {S x k y : Nat} {r : List Nat} {l' : List PE} (hS : t.1 = Jn S) (hS2 : S ≤ 16384) (hV : V.length ≤ S) : ∀ (u : List PE) (f v : Nat) (a : PE) (l0 : List PE), CPATH t ch V (a :: l0) → a :: l0 = u ++ (x, k, y :: r) :: l' → (∀ e, e ∈ u → e.2.2 = []) → v + a.2.1 + 1 ≤ S → u.length < f → f_Tree_firstUnfilled_L4 t f (Jn v) (Jn a.2.1) = some (Jn k)
  | [], f, v, a, l0, hp, he, hu, hv, hf => by
    obtain ⟨f, rfl⟩ : ∃ g, f = g + 1 := ⟨f - 1, by omega⟩
    injection he with e1 e2
    subst e1
    obtain ⟨a1, a2, a3, a4, a5, a6⟩ := hp.hd
    dsimp only at a1 a2 a3 a4 a5 a6 hv ⊢
    rw [List.length_cons] at a3 a6
    have a5' : t.2.2.2.2.1 k = Jn (ch x).length := a5
    have a6' : t.2.2.2.2.2.2.2 k = Jn ((ch x).length - (r.length + 1)) := a6
    unfold f_Tree_firstUnfilled_L4
    rw [hS, if_neg (J_nle (by omega)), has_in hS (by omega) hS2, ob_some, if_neg (by decide), gd_Jn (by omega) (by omega), gd_Jn (by omega) (by omega), Jn_cl (by omega), a5', a6', if_pos (J_lt (by omega))]
  | b :: u, f, v, a, l0, hp, he, hu, hv, hf => by
    obtain ⟨f, rfl⟩ : ∃ g, f = g + 1 := ⟨f - 1, by omega⟩
    injection he with e1 e2
    subst e1
    have hr := hu a List.mem_cons_self
    obtain ⟨a1, a2, a3, a4, a5, a6⟩ := hp.hd
    rw [hr, List.length_nil, Nat.sub_zero] at a6
    have a5' : t.2.2.2.2.1 a.2.1 = Jn (ch a.1).length := a5
    have a6' : t.2.2.2.2.2.2.2 a.2.1 = Jn (ch a.1).length := a6
    unfold f_Tree_firstUnfilled_L4
    rw [hS, if_neg (J_nle (by omega)), has_in hS (by omega) hS2, ob_some, if_neg (by decide), gd_Jn (by omega) (by omega), gd_Jn (by omega) (by omega), Jn_cl (by omega), a5', a6', if_neg (J_nlt (Nat.le_refl _) (by omega)), gd_Jn (by omega) (by omega), nm_eq, nm_eq, addL v 1]
    cases l0 with
    | nil => cases u <;> exact (List.cons_ne_nil _ _ e2.symm).elim
    | cons c l0 =>
      obtain ⟨_, ⟨b1, b2⟩, b3⟩ := hp
      have b1' : t.2.2.2.2.2.1 a.2.1 = Jn c.2.1 := b1
      rw [b1']
      exact unf hS hS2 hV u f (v + 1) c l0 b3 e2 (fun e he => hu e (List.mem_cons_of_mem _ he)) (by omega) (by rw [List.length_cons] at hf; omega)
/-- what the links say -/
def LKR (t : S_Tree) (ch : Nat → List Nat) (V : List Nat) : Prop := ∀ k, k < V.length → (k = 0 → tPar t 0 = -1 ∧ tRnk t 0 = 0) ∧ (0 < k → ∃ j i, j < k ∧ tPar t k = Jn j ∧ tRnk t k = Jn i ∧ i < (ch (V.getD j 0)).length ∧ (ch (V.getD j 0)).getD i 0 = V.getD k 0)
def tSame (t t' : S_Tree) : Prop := t'.1 = t.1 ∧ t'.2.1 = t.2.1 ∧ t'.2.2.1 = t.2.2.1 ∧ t'.2.2.2.1 = t.2.2.2.1 ∧ t'.2.2.2.2.1 = t.2.2.2.2.1
theorem linkL {T : S_MT} {N : Nat} {ch : Nat → List Nat} {rk : Nat → Nat} (h : GTr T N ch rk) : ∀ (I V st : List Nat) (a : PE) (l : List PE) (t : S_Tree) (f : Nat), PATH T N ch (a :: l) → CPATH t ch V (a :: l) → a.2.1 + 1 = V.length → st = pst (a :: l) → PreI ch st I → LKR t ch V → t.1 = Jn (V ++ I).length → (V ++ I).length ≤ 16384 → (∀ k, k < (V ++ I).length → tCnt t k = Jn (ch ((V ++ I).getD k 0)).length ∧ (ch ((V ++ I).getD k 0)).length ≤ 16384) → I.length < f → ∃ t', f_Tree_link_L4 f (Jn V.length) (Jn a.2.1) t = some t' ∧ LKR t' ch (V ++ I) ∧ tSame t t'
  | [], V, st, a, l, t, f, hp, hc, ha, hst, hI, hL, hS, hS2, hcn, hf => by
    obtain ⟨f, rfl⟩ : ∃ g, f = g + 1 := ⟨f - 1, by simp only [List.length_nil] at hf; omega⟩
    rw [List.append_nil] at hS ⊢
    unfold f_Tree_link_L4
    rw [hS, if_pos (Int32.le_refl _)]
    exact ⟨t, rfl, hL, rfl, rfl, rfl, rfl, rfl⟩
  | y :: I, V, [], a, l, t, f, hp, hc, ha, hst, hI, hL, hS, hS2, hcn, hf => hI.elim
  | y :: I, V, z :: st, a, l, t, f, hp, hc, ha, hst, hI, hL, hS, hS2, hcn, hf => by
    obtain ⟨rfl, hI⟩ := hI
    obtain ⟨f, rfl⟩ : ∃ g, f = g + 1 := ⟨f - 1, by omega⟩
    obtain ⟨x, k, r, l', u, a1, a2, a3, a4, ⟨i, i1, i2, i3⟩, a6⟩ := pop_path h (a :: l) z st hp hst.symm
    have hlen : (V ++ z :: I).length = V.length + (I.length + 1) := by rw [List.length_append, List.length_cons]
    rw [hlen] at hS hS2 hcn
    have hcc := hc
    rw [a1] at hcc
    have hck := CPATH.app hcc
    obtain ⟨b1, b2, b3, b4, b5, b6⟩ := hck.hd
    dsimp only at b1 b2 b3 b4 b5 b6
    rw [List.length_cons] at b3 b6
    have ulen : u.length < FU := by
      have h1 := hp.len
      have h2 := congrArg List.length a1
      simp only [List.length_cons, List.length_append] at h2
      unfold FU; omega
    have hun : f_Tree_firstUnfilled t (Jn a.2.1) = some (Jn k) := by
      unfold f_Tree_firstUnfilled
      have := unf hS hS2 (by omega) u FU 0 a l hc a1 a3 (by omega) ulen
      rw [show (0 : Int32) = Jn 0 from rfl, this, ob_some]
    have ri : (ch x).length - (r.length + 1) = i := by
      have := congrArg List.length i3
      rw [List.length_drop] at this
      omega
    rw [ri] at b6
    unfold f_Tree_link_L4
    rw [hS, if_neg (J_nle (by omega)), if_neg (nleL 16384 (by omega)), hun, ob_some, gd_Jn (by omega) (by omega), Jn_cl (by omega)]
    rw [has_in (S := V.length + (I.length + 1)) (k := k) rfl (by omega) hS2, ob_some, if_neg (by decide)]
    simp only [gd_Jn (show k < 16384 by omega) (show 16384 < 2147483648 by omega), gd_Jn (show V.length < 16384 by omega) (show 16384 < 2147483648 by omega), Jn_cl (show k < 2147483648 by omega), nm_eq, addL V.length 1]
    have b6' : t.2.2.2.2.2.2.2 k = Jn i := b6
    rw [b6', addL i 1]
    generalize ht' : ((Jn (V.length + (I.length + 1)), t.2.1, t.2.2.1, t.2.2.2.1, t.2.2.2.2.1, upd t.2.2.2.2.2.1 V.length (Jn k), upd t.2.2.2.2.2.2.1 V.length (Jn i), upd (upd t.2.2.2.2.2.2.2 k (Jn (i + 1))) V.length 0) : S_Tree) = t'
    have eA : V ++ z :: I = (V ++ [z]) ++ I := by rw [List.append_assoc]; rfl
    have q1 : t'.1 = t.1 := by rw [← ht', hS]
    have q2 : t'.2.1 = t.2.1 ∧ t'.2.2.1 = t.2.2.1 ∧ t'.2.2.2.1 = t.2.2.2.1 ∧ t'.2.2.2.2.1 = t.2.2.2.2.1 := by rw [← ht']; exact ⟨rfl, rfl, rfl, rfl⟩
    have pK : tPar t' V.length = Jn k := by rw [← ht']; exact upd_self _ _ _
    have rK : tRnk t' V.length = Jn i := by rw [← ht']; exact upd_self _ _ _
    have fK : tFil t' V.length = 0 := by rw [← ht']; exact upd_self _ _ _
    have pO : ∀ j, j < V.length → tPar t' j = tPar t j ∧ tRnk t' j = tRnk t j := by
      intro j hj
      rw [← ht']
      exact ⟨upd_ne _ _ (by omega), upd_ne _ _ (by omega)⟩
    have fO : ∀ j, j < V.length → j ≠ k → tFil t' j = tFil t j := by
      intro j hj hne
      rw [← ht']
      show upd (upd t.2.2.2.2.2.2.2 k (Jn (i + 1))) V.length 0 j = _
      rw [upd_ne _ _ (by omega), upd_ne _ _ hne]
    have fk : tFil t' k = Jn (i + 1) := by
      rw [← ht']
      show upd (upd t.2.2.2.2.2.2.2 k (Jn (i + 1))) V.length 0 k = _
      rw [upd_ne _ _ (by omega), upd_self]
    have cO : ∀ j, tCnt t' j = tCnt t j := by
      intro j
      unfold tCnt
      rw [q2.2.2.2]
    have hcz := hcn V.length (by omega)
    rw [gdN_e] at hcz
    have rl : r.length = (ch x).length - (i + 1) := by rw [i3, List.length_drop]
    have hpath := a6 V.length b1
    have hcp : CPATH t' ch (V ++ [z]) ((z, V.length, ch z) :: (x, k, r) :: l') := by
      have e1 : (V ++ [z]).length = V.length + 1 := by rw [List.length_append, List.length_singleton]
      refine ⟨⟨?_, gdN_e, Nat.le_refl _, hcz.2, (cO _).trans hcz.1, ?_⟩, ⟨pK, b1⟩, ?_⟩
      · dsimp only; omega
      · dsimp only
        rw [Nat.sub_self]; exact fK
      · have hx : CPE t' ch (V ++ [z]) (x, k, r) := by
          refine ⟨by dsimp only; omega, by dsimp only; rw [gdN_l b1]; exact b2, by dsimp only; omega, b4, (cO _).trans b5, ?_⟩
          dsimp only
          rw [fk, rl, show (ch x).length - ((ch x).length - (i + 1)) = i + 1 by omega]
        cases l' with
        | nil => exact ⟨hx, (pO k b1).1.trans hck.2⟩
        | cons b l' =>
          have lo := CPATH.low hck
          refine ⟨hx, ⟨(pO k b1).1.trans hck.2.1.1, hck.2.1.2⟩, CPATH.congr (t := t) (V := V) (fun e he => ?_) hck.2.2⟩
          have := lo e he
          dsimp only at this
          exact ⟨cO _, (pO _ (by omega)).1, fO _ (by omega) (by omega)⟩
    have hlk : LKR t' ch (V ++ [z]) := by
      intro j hj
      rw [List.length_append, List.length_singleton] at hj
      by_cases c : j = V.length
      · subst c
        refine ⟨fun e => by omega, fun _ => ⟨k, i, b1, pK, rK, ?_⟩⟩
        rw [gdN_l b1, b2, gdN_e]
        exact ⟨i1, i2⟩
      · have hj' : j < V.length := by omega
        obtain ⟨g1, g2⟩ := hL j hj'
        refine ⟨fun e => ?_, fun hp0 => ?_⟩
        · obtain ⟨w1, w2⟩ := g1 e
          have := pO 0 (by omega)
          exact ⟨this.1.trans w1, this.2.trans w2⟩
        · obtain ⟨j2, i2', w1, w2, w3, w4, w5⟩ := g2 hp0
          refine ⟨j2, i2', w1, (pO j hj').1.trans w2, (pO j hj').2.trans w3, ?_⟩
          rw [gdN_l (by omega), gdN_l hj']
          exact ⟨w4, w5⟩
    have hst2 : ch z ++ st = pst ((z, V.length, ch z) :: (x, k, r) :: l') := by
      rw [← a2]
      unfold pst
      rw [List.flatMap_cons (xs := (x, k, r) :: l')]
    have hl2 : ((V ++ [z]) ++ I).length = V.length + (I.length + 1) := by rw [← eA]; exact hlen
    obtain ⟨t'', x1, x2, x3⟩ := linkL h I (V ++ [z]) (ch z ++ st) (z, V.length, ch z) ((x, k, r) :: l') t' f hpath hcp (by rw [List.length_append, List.length_singleton]) hst2 hI hlk (by rw [q1, hS, hl2]) (by rw [hl2]; exact hS2) (by
      rw [hl2]
      intro j hj
      have := hcn j hj
      rw [eA] at this
      exact ⟨(cO j).trans this.1, this.2⟩) (by rw [List.length_cons] at hf; omega)
    rw [List.length_append, List.length_singleton] at x1
    refine ⟨t'', x1, by rw [eA]; exact x2, x3.1.trans q1, x3.2.1.trans q2.1, x3.2.2.1.trans q2.2.1, x3.2.2.2.1.trans q2.2.2.1, x3.2.2.2.2.trans q2.2.2.2⟩
theorem ent_at {T : S_MT} {ch : Nat → List Nat} {V : List Nat} {k : Nat} (hk : k < V.length) : (V.map (ent T ch)).getD k e0 = ent T ch (V.getD k 0) := by
  rw [List.getD_eq_getElem?_getD, List.getElem?_map, List.getD_eq_getElem?_getD, List.getElem?_eq_getElem hk]; rfl
theorem link_ok {T : S_MT} {N : Nat} {ch : Nat → List Nat} {rk : Nat → Nat} (h : GTr T N ch rk) (h0 : par T 0 = -1) (hN : 0 < N) {D : List Nat} (hp : PreI ch (ch 0) D) {t : S_Tree} (ht : CT t ((0 :: D).map (ent T ch))) : ∃ t', f_Tree_link t = some t' ∧ LKR t' ch (0 :: D) ∧ tSame t t' := by
  obtain ⟨c1, c2, c3⟩ := ht
  rw [List.length_map] at c1 c2 c3
  have hsib : sib T 0 = -1 := h.2.2.2.2 0 hN h0
  have hDl : D.length + 1 ≤ 16384 := by rw [List.length_cons] at c2; exact c2
  have hcn : ∀ k, k < ([0] ++ D).length → tCnt t k = Jn (ch (([0] ++ D).getD k 0)).length ∧ (ch (([0] ++ D).getD k 0)).length ≤ 16384 := by
    intro k hk
    obtain ⟨d1, d2, d3, d4, d5⟩ := c3 k hk
    rw [ent_at (V := 0 :: D) hk] at d4 d5
    unfold ent at d4 d5
    dsimp only at d4 d5
    exact ⟨d4, Nat.le_trans d5 c2⟩
  obtain ⟨t1, ht1⟩ : ∃ t1 : S_Tree, t1 = (t.1, t.2.1, t.2.2.1, t.2.2.2.1, t.2.2.2.2.1, upd t.2.2.2.2.2.1 0 (-1), upd t.2.2.2.2.2.2.1 0 0, upd t.2.2.2.2.2.2.2 0 0) := ⟨_, rfl⟩
  have hpath : PATH T N ch [(0, 0, ch 0)] := ⟨hN, ⟨0, rfl⟩, h0, hsib⟩
  have hc0 := hcn 0 (by rw [List.length_append, List.length_singleton]; omega)
  have hcp : CPATH t1 ch [0] [(0, 0, ch 0)] := by
    rw [ht1]
    refine ⟨⟨Nat.zero_lt_one, rfl, Nat.le_refl _, hc0.2, hc0.1, ?_⟩, ?_⟩
    · dsimp only
      rw [Nat.sub_self]
      show upd t.2.2.2.2.2.2.2 0 0 0 = 0
      exact upd_self _ _ _
    · show upd t.2.2.2.2.2.1 0 (-1) 0 = -1
      exact upd_self _ _ _
  have hlk : LKR t1 ch [0] := by
    intro k hk
    rw [List.length_singleton] at hk
    refine ⟨fun _ => ?_, fun hc => by omega⟩
    rw [ht1]
    refine ⟨?_, ?_⟩
    · show upd t.2.2.2.2.2.1 0 (-1) 0 = -1
      exact upd_self _ _ _
    · show upd t.2.2.2.2.2.2.1 0 0 0 = 0
      exact upd_self _ _ _
  obtain ⟨t', x1, x2, x3⟩ := linkL h D [0] (ch 0) (0, 0, ch 0) [] t1 999999 hpath hcp rfl (by unfold pst; rw [List.flatMap_cons]; exact (List.append_nil _).symm) hp hlk (by rw [ht1]; exact c1) c2 (by
    intro k hk
    have := hcn k hk
    rw [ht1]; exact this) (by
      rw [List.length_cons] at c2
      omega)
  refine ⟨t', ?_, x2, ?_⟩
  · unfold f_Tree_link
    rw [FU1]
    unfold f_Tree_link_L4
    have u0 : f_Tree_firstUnfilled t (-1) = some (-1) := by
      unfold f_Tree_firstUnfilled
      rw [FU1]
      unfold f_Tree_firstUnfilled_L4
      rw [c1, if_neg (by
        rw [List.length_cons, show (0 : Int32) = Jn 0 from rfl]
        exact J_nle (by omega))]
      unfold f_Tree_has
      rw [if_pos (by decide), ob_some, if_pos rfl, ob_some]
    have has0 : ∀ q : S_Tree, f_Tree_has q (-1) = some 0 := by
      intro q
      unfold f_Tree_has
      rw [if_pos (by decide)]
    rw [c1, if_neg (by
      rw [List.length_cons, show (0 : Int32) = Jn 0 from rfl]
      exact J_nle (by omega)), if_neg (by decide), u0, ob_some, has0]
    rw [show (0 : Int32) = Jn 0 from rfl]
    simp only [gd_Jn (show 0 < 16384 by omega) (show 16384 < 2147483648 by omega), Jn_cl (show 0 < 2147483648 by omega), ob_some, if_pos, nm_eq, addL 0 1]
    rw [ht1, c1] at x1
    have x1' : f_Tree_link_L4 999999 (Jn (0 + 1)) (Jn 0) (Jn (0 :: D).length, t.2.1, t.2.2.1, t.2.2.2.1, t.2.2.2.2.1, upd t.2.2.2.2.2.1 0 (-1), upd t.2.2.2.2.2.2.1 0 (Jn 0), upd t.2.2.2.2.2.2.2 0 (Jn 0)) = some t' := x1
    rw [x1', ob_some]
  · rw [ht1] at x3
    exact x3
end
section
/-! Forests: what the class's lists stand for. -/
abbrev FO : Type := Std.DTreeMap.Internal.Impl Int32 (fun _ => Int32)
abbrev FO.nil : FO := .leaf
abbrev FO.cons (k : Int32) (p : Nat) (v : Int32) (c r : FO) : FO := .inner p k v c r
def tn (p : Int32) : Nat := p.toBitVec.toNat
theorem Jn_tn (p : Int32) : Jn (tn p) = p := by
  apply Int32.toBitVec_inj.mp
  unfold Jn tn
  rw [Int32.toBitVec_ofNat', BitVec.ofNat_toNat, BitVec.setWidth_eq]
def FO.len : FO → Nat
  | .leaf => 0
  | .inner _ _ _ _ r => FO.len r + 1
def FO.flat : FO → List E4
  | .leaf => []
  | .inner p k v c r => (k, Jn p, v, FO.len c) :: (FO.flat c ++ FO.flat r)
def FO.app : FO → FO → FO
  | .leaf, b => b
  | .inner p k v c r, b => .inner p k v c (FO.app r b)
def FO.ks : FO → List Int32
  | .leaf => []
  | .inner _ k _ _ r => k :: FO.ks r
theorem FO.app_nil : ∀ a : FO, FO.app a .leaf = a
  | .leaf => rfl
  | .inner p k v c r => by rw [FO.app, FO.app_nil r]
theorem FO.app_assoc : ∀ a b c : FO, FO.app (FO.app a b) c = FO.app a (FO.app b c)
  | .leaf, _, _ => rfl
  | .inner p k v x r, b, c => by rw [FO.app, FO.app, FO.app, FO.app_assoc r]
theorem FO.len_app : ∀ a b : FO, FO.len (FO.app a b) = FO.len a + FO.len b
  | .leaf, b => by rw [FO.app, FO.len, Nat.zero_add]
  | .inner p k v c r, b => by rw [FO.app, FO.len, FO.len, FO.len_app r]; omega
theorem FO.flat_app : ∀ a b : FO, FO.flat (FO.app a b) = FO.flat a ++ FO.flat b
  | .leaf, b => rfl
  | .inner p k v c r, b => by rw [FO.app, FO.flat, FO.flat, FO.flat_app r, List.cons_append, List.append_assoc]
theorem FO.ks_app : ∀ a b : FO, FO.ks (FO.app a b) = FO.ks a ++ FO.ks b
  | .leaf, b => rfl
  | .inner p k v c r, b => by rw [FO.app, FO.ks, FO.ks, FO.ks_app r, List.cons_append]
theorem FO.ks_len : ∀ a : FO, (FO.ks a).length = FO.len a
  | .leaf => rfl
  | .inner p k v c r => by rw [FO.ks, FO.len, List.length_cons, FO.ks_len r]
theorem FO.flat_ne {a : FO} (h : a ≠ .leaf) : FO.flat a ≠ [] := by
  cases a with
  | leaf => exact absurd rfl h
  | inner p k v c r => exact List.cons_ne_nil _ _
abbrev one (k p v : Int32) (c : FO) : FO := FO.cons k (tn p) v c FO.nil
theorem flat_one (k p v : Int32) (c : FO) : (one k p v c).flat = (k, p, v, c.len) :: c.flat := by
  show (k, Jn (tn p), v, FO.len c) :: (FO.flat c ++ []) = _
  rw [List.append_nil, Jn_tn]
/-- below node idx of a list these trees were put -/
def AT (l0 : List E4) (idx : Nat) (ts : FO) (t : S_Tree) : Prop := idx < l0.length ∧ CT t (bump l0 idx ts.len ++ ts.flat)
/-- how many nodes there are -/
abbrev atL (l0 : List E4) (ts : FO) : Nat := l0.length + ts.flat.length
/-- the list, as it stands when a further child is begun -/
def nx (l0 : List E4) (idx : Nat) (ts : FO) (e : E4) : List E4 := bump l0 idx (ts.len + 1) ++ ts.flat ++ [e]
theorem nx_len (l0 : List E4) (idx : Nat) (ts : FO) (e : E4) : (nx l0 idx ts e).length = atL l0 ts + 1 := by
  unfold nx atL
  rw [List.length_append, List.length_append, bump_len, List.length_singleton]
theorem AT.size {l0 idx ts t} (h : AT l0 idx ts t) : t.1 = Jn (atL l0 ts) := by
  rw [h.2.1, List.length_append, bump_len]
/-- a child is begun -/
theorem AT.down {l0 idx ts t n t'} (h : AT l0 idx ts t) (hl : atL l0 ts < 16384) {k p v : Int32} (e : f_Tree_add t (Jn idx) k p v = some (n, t')) : n = Jn (atL l0 ts) ∧ AT (nx l0 idx ts (k, p, v, 0)) (atL l0 ts) FO.nil t' := by
  have hL : (bump l0 idx ts.len ++ ts.flat).length = atL l0 ts := by rw [List.length_append, bump_len]
  obtain ⟨t2, x1, x2⟩ := add_ok h.2 (p := idx) (by rw [hL]; have := h.1; unfold atL; omega) (by rw [hL]; exact hl) k p v
  rw [x1] at e
  injection e with e
  injection e with e1 e2
  rw [hL] at e1
  subst e2
  refine ⟨e1.symm, by rw [nx_len]; omega, ?_⟩
  rw [show FO.nil.len = 0 from rfl, bump_zero, show FO.nil.flat = [] from rfl, List.append_nil]
  unfold nx
  rw [bump_app _ _ _ _ (by rw [bump_len]; exact h.1), bump_bump] at x2
  exact x2
/-- and is ended -/
theorem AT.up {l0 idx ts t} {k p v : Int32} {c : FO} (h0 : idx < l0.length) (h : AT (nx l0 idx ts (k, p, v, 0)) (atL l0 ts) c t) : AT l0 idx (ts.app (one k p v c)) t := by
  refine ⟨h0, ?_⟩
  have := h.2
  unfold nx at this
  have e1 : (bump l0 idx (ts.len + 1) ++ ts.flat).length = atL l0 ts := by rw [List.length_append, bump_len]
  have e2 := bump_mid (bump l0 idx (ts.len + 1) ++ ts.flat) (k, p, v, 0) [] c.len
  rw [e1] at e2
  rw [e2] at this
  rw [FO.len_app, FO.flat_app, flat_one]
  unfold inc at this
  dsimp only at this
  rw [Nat.zero_add, List.append_assoc, List.append_assoc] at this
  exact this
theorem AT.leaf {l0 idx ts t n t'} (h : AT l0 idx ts t) (hl : atL l0 ts < 16384) {k p v : Int32} (e : f_Tree_add t (Jn idx) k p v = some (n, t')) : AT l0 idx (ts.app (one k p v FO.nil)) t' := AT.up h.1 (h.down hl e).2
/-- the last child gets a node above it -/
theorem AT.wrap {l0 idx ts t t'} {k0 p0 v0 : Int32} {c0 : FO} (h : AT l0 idx (ts.app (one k0 p0 v0 c0)) t) (hl : atL l0 (ts.app (one k0 p0 v0 c0)) < 16384) {k p v : Int32} (e : f_Tree_wrap t (Jn (atL l0 ts)) k p v = some t') : AT (nx l0 idx ts (k, p, v, 0)) (atL l0 ts) (one k0 p0 v0 c0) t' := by
  have h2 := h.2
  rw [FO.len_app, FO.flat_app, ← List.append_assoc] at h2
  have eA : (bump l0 idx (ts.len + 1) ++ ts.flat).length = atL l0 ts := by rw [List.length_append, bump_len]
  have h2' : CT t ((bump l0 idx (ts.len + 1) ++ ts.flat) ++ (one k0 p0 v0 c0).flat) := h2
  obtain ⟨t2, x1, x2⟩ := wrap_ok h2' (by rw [flat_one]; exact List.cons_ne_nil _ _) (by
    rw [List.length_append, eA]
    unfold atL at hl ⊢
    rw [FO.flat_app, List.length_append] at hl
    omega) k p v
  rw [eA] at x1
  rw [x1] at e
  injection e with e
  subst e
  refine ⟨by rw [nx_len]; omega, ?_⟩
  unfold nx
  have e2 := bump_mid (bump l0 idx (ts.len + 1) ++ ts.flat) (k, p, v, 0) [] 1
  rw [eA] at e2
  rw [show (one k0 p0 v0 c0).len = 1 from rfl, e2, List.append_assoc]
  exact x2
/-! The tokens that a forest is written by. -/
abbrev Tok : Type := Int32 × Int32
def sgT (c : Int32) : List Tok := if c = -1 then [] else [(c, 0)]
def bindN (v : Int32) : Int32 := stG t_BINDING v.toNatClampNeg
def betw (v : Int32) : Int32 := stG t_BETWEEN v.toNatClampNeg
def sepc (K k : Int32) (i : Nat) : Int32 :=
  if K = 5 then (if k = 6 then (if i = 0 then -1 else 44) else if k = 7 then 266 else if k = 30 then 14909 else if k = 31 then 14909 else 58)
  else if K = 9 then (if i = 0 then -1 else if i = 1 then 11822 else 271)
  else if K = 15 then (if i % 2 = 1 then 273 else if i = 0 then -1 else if k = 11 then 275 else 274)
  else if K = 16 then (if k = 11 then 275 else -1)
  else if K = 17 then (if k = 11 then 58 else if i = 0 then -1 else 44)
  else if K = 19 then (if k = 11 then 282 else if i = 0 then -1 else if i = 1 then 280 else 281)
  else if K = 13 then (if i = 0 then -1 else 44)
  else if K = 34 then (if i = 0 then -1 else 44)
  else if K = 12 then (if i = 0 then -1 else 14909)
  else if K = 18 then (if i = 0 then -1 else 11822)
  else -1
def sepT (K V : Int32) (i : Nat) (k : Int32) : List Tok :=
  (if K = 9 ∧ i = 2 then [(93, 0)] else []) ++ ((if K = 16 ∧ i = 1 then [(271, 0)] else []) ++ ((if K = 35 ∧ i = 1 then [(betw V, 0)] else []) ++ sgT (sepc K k i)))
abbrev brk (K V : Int32) (i : Nat) (k v : Int32) : Prop := k = 35 ∧ (K = 36 ∨ (K = 35 ∧ (bindN v < bindN V ∨ (bindN v = bindN V ∧ i = 1))))
def fstc (k v : Int32) : Int32 :=
  if k = 1 then 256 else if k = 2 then 258 else if k = 3 then 260 else if k = 4 then 262 + v else if k = 8 then 267 + v else if k = 9 then 270 else if k = 15 then 272 else if k = 16 then 277 else if k = 19 then 279 else if k = 20 then 284 else if k = 21 then 285 else if k = 22 then 293 else if k = 23 then 295
  else if k = 25 then (if v = 1 then 47 else if v = 2 then 62 else if v = 3 then 60 else -1) else if k = 26 then 45 else if k = 27 then 42 else if k = 28 then 40 else if k = 29 then 124 else if k = 31 then (if v = 1 then 291 else 292) else if k = 36 then (if v = 1 then 290 else 45) else -1
def nxtc (k v : Int32) : Int32 :=
  if k = 1 then 58 else if k = 9 then 91 else if k = 32 then 91 else if k = 13 then 40 else if k = 34 then 40 else if k = 14 then 14909 else if k = 19 then 14909 else if k = 28 then (if v = 1 then 47 else if v = 2 then 43 else if v = 3 then 45 else -1) else if k = 33 then 46 else -1
def lstc (k : Int32) : Int32 :=
  if k = 1 then 257 else if k = 2 then 259 else if k = 3 then 261 else if k = 4 then 265 else if k = 15 then 276 else if k = 16 then 278 else if k = 19 then 283 else if k = 22 then 294 else if k = 23 then 296 else if k = 13 then 41 else if k = 34 then 41 else if k = 28 then 41 else if k = 32 then 93 else -1
def semi (k : Int32) : Bool := [(5 : Int32), 12, 13, 15, 16, 19, 20, 21, 24].contains k
def bears (k : Int32) : Bool := [(1 : Int32), 2, 3, 6, 10, 13, 14, 19, 32, 33, 34].contains k
def numT (v : Int32) : List Tok := if v < 0 then [(45, 0), (2, -v)] else [(2, v)]
def begT (k v : Int32) : List Tok := sgT (fstc k v) ++ ((if bears k then [(1, v)] else []) ++ ((if k = 30 then numT v else []) ++ ((if k = 7 then [(3, v)] else []) ++ sgT (nxtc k v))))
def finT (k : Int32) (n : Nat) : List Tok := (if k = 16 ∧ n = 1 then [(271, 0)] else []) ++ (sgT (lstc k) ++ (if semi k then [(59, 0)] else []))
def tkF (K V : Int32) (i : Nat) : FO → List Tok
  | .leaf => []
  | .inner _ k v c r => sepT K V i k ++ ((if brk K V i k v then [(40, 0)] else []) ++ (begT k v ++ (tkF k v 0 c ++ ((if brk K V i k v then [(41, 0)] else []) ++ (finT k (FO.len c) ++ tkF K V (i + 1) r)))))
/-- a tree's own tokens -/
def innT (k v : Int32) (c : FO) : List Tok := begT k v ++ (tkF k v 0 c ++ finT k c.len)
theorem tkF_app (K V : Int32) : ∀ (a b : FO) (i : Nat), tkF K V i (a.app b) = tkF K V i a ++ tkF K V (i + a.len) b
  | .leaf, b, i => by rw [FO.app, tkF, FO.len, Nat.add_zero, List.nil_append]
  | .inner p k v c r, b, i => by
    rw [FO.app, tkF, tkF, tkF_app K V r b (i + 1), FO.len, show i + 1 + FO.len r = i + (FO.len r + 1) by omega]
    simp only [List.append_assoc]
theorem tkF_one {K V : Int32} {i : Nat} {k p v : Int32} {c : FO} (h : ¬ brk K V i k v) : tkF K V i (one k p v c) = sepT K V i k ++ innT k v c := by
  unfold one innT
  rw [tkF, if_neg h, if_neg h, tkF]
  simp only [List.append_nil, List.nil_append]
theorem tkF_oneB {K V : Int32} {i : Nat} {p v : Int32} {c : FO} (h : brk K V i 35 v) : tkF K V i (one 35 p v c) = sepT K V i 35 ++ ((40, 0) :: (innT 35 v c ++ [(41, 0)])) := by
  unfold one innT
  rw [tkF, if_pos h, if_pos h, tkF]
  have e1 : begT 35 v = [] := by
    unfold begT fstc nxtc sgT
    simp (decide := true) [bears]
  have e2 : ∀ n, finT 35 n = [] := by
    intro n
    unfold finT lstc sgT
    simp (decide := true) [semi]
  rw [e1, e2]
  simp only [List.append_nil, List.nil_append, List.singleton_append, List.cons_append]
/-! Which trees the text can give. -/
def CONK (k : Int32) : Prop := k = 30 ∨ k = 31
def EXPK (k : Int32) : Prop := k = 6 ∨ k = 30 ∨ k = 31 ∨ k = 32 ∨ k = 33 ∨ k = 34 ∨ k = 35 ∨ k = 36
def ifP : List Int32 → Prop
  | [] => True
  | [k] => k = 11
  | k :: k2 :: l => k ≠ 11 ∧ k2 = 11 ∧ ifP l
/-- no body but as the last -/
def lastP : List Int32 → Prop
  | [] => True
  | [_] => True
  | k :: k2 :: l => k ≠ 11 ∧ lastP (k2 :: l)
def nmd (nn : Nat) (v : Int32) : Prop := ∃ a : Nat, v = Jn a ∧ a < nn
def LOC (nn : Nat) (k' v' : Int32) (ks' : List Int32) : Prop :=
  (∃ ks : List Int32, k' = 0 ∧ v' = 0 ∧ ks' = ks) ∨
  (∃ k : Int32, ∃ ks : List Int32, k' = 1 ∧ ks' = k :: ks ∧ (nmd nn v')) ∨
  (∃ ks : List Int32, k' = 2 ∧ ks' = ks ∧ (nmd nn v')) ∨
  (∃ ks : List Int32, k' = 3 ∧ ks' = ks ∧ (nmd nn v')) ∨
  (∃ ks : List Int32, k' = 4 ∧ ks' = ks ∧ (v' = 0 ∨ v' = 1 ∨ v' = 2)) ∨
  (∃ ks : List Int32, k' = 5 ∧ v' = 0 ∧ ks' = 6 :: ks ∧ ((∀ k, k ∈ ks → k = 6 ∨ k = 7 ∨ k = 8 ∨ k = 9 ∨ k = 10 ∨ k = 30 ∨ k = 31))) ∨
  (k' = 6 ∧ ks' = [] ∧ (nmd nn v')) ∨
  (k' = 7 ∧ ks' = [] ∧ ((∃ a : Nat, v' = Jn a ∧ a < 1536))) ∨
  (k' = 8 ∧ ks' = [] ∧ (v' = 0 ∨ v' = 1 ∨ v' = 2)) ∨
  (∃ a : Int32, ∃ b : Int32, ∃ c : Int32, k' = 9 ∧ v' = 0 ∧ ks' = [a, b, c]) ∨
  (k' = 10 ∧ ks' = [] ∧ (nmd nn v')) ∨
  (∃ ks : List Int32, k' = 11 ∧ v' = 0 ∧ ks' = ks) ∨
  (∃ a : Int32, ∃ b : Int32, k' = 12 ∧ v' = 0 ∧ ks' = [a, b]) ∨
  (∃ ks : List Int32, k' = 13 ∧ ks' = ks ∧ (nmd nn v')) ∨
  (∃ a : Int32, k' = 14 ∧ ks' = [a] ∧ (nmd nn v')) ∨
  (∃ k : Int32, ∃ ks : List Int32, k' = 15 ∧ v' = 0 ∧ ks' = k :: 11 :: ks ∧ (k ≠ 11) ∧ (ifP ks)) ∨
  (∃ k : Int32, ∃ ks : List Int32, k' = 16 ∧ v' = 0 ∧ ks' = k :: ks ∧ (k ≠ 11) ∧ (lastP ks)) ∨
  (∃ k : Int32, ∃ ks : List Int32, k' = 17 ∧ v' = 0 ∧ ks' = k :: ks ∧ (k ≠ 11) ∧ (lastP (k :: ks))) ∨
  (∃ a : Int32, k' = 18 ∧ v' = 0 ∧ ks' = [a]) ∨
  (∃ a : Int32, ∃ b : Int32, k' = 18 ∧ v' = 0 ∧ ks' = [a, b]) ∨
  (∃ a : Int32, ∃ b : Int32, k' = 19 ∧ ks' = [a, b, 11] ∧ (nmd nn v') ∧ (a ≠ 11) ∧ (b ≠ 11)) ∨
  (∃ a : Int32, ∃ b : Int32, ∃ c : Int32, k' = 19 ∧ ks' = [a, b, c, 11] ∧ (nmd nn v') ∧ (a ≠ 11) ∧ (b ≠ 11) ∧ (c ≠ 11)) ∨
  (k' = 20 ∧ v' = 0 ∧ ks' = []) ∨
  (k' = 21 ∧ v' = 0 ∧ ks' = []) ∨
  (∃ ks : List Int32, k' = 22 ∧ v' = 0 ∧ ks' = ks) ∨
  (∃ ks : List Int32, k' = 23 ∧ v' = 0 ∧ ks' = ks) ∨
  (∃ ks : List Int32, k' = 24 ∧ v' = 0 ∧ ks' = ks) ∨
  (∃ a : Int32, k' = 25 ∧ ks' = [a] ∧ (v' = 0 ∨ v' = 1 ∨ v' = 2 ∨ v' = 3)) ∨
  (k' = 26 ∧ v' = 0 ∧ ks' = []) ∨
  (k' = 27 ∧ v' = 0 ∧ ks' = []) ∨
  (∃ a : Int32, k' = 28 ∧ ks' = [a] ∧ (v' = 0 ∨ v' = 1 ∨ v' = 2 ∨ v' = 3)) ∨
  (k' = 29 ∧ v' = 0 ∧ ks' = []) ∨
  (k' = 30 ∧ ks' = [] ∧ ((∃ a : Nat, a < 2147483648 ∧ (v' = Jn a ∨ v' = -(Jn a))))) ∨
  (k' = 31 ∧ ks' = [] ∧ (v' = 0 ∨ v' = 1)) ∨
  (∃ a : Int32, k' = 32 ∧ ks' = [a] ∧ (nmd nn v')) ∨
  (∃ a : Int32, k' = 33 ∧ ks' = [a] ∧ (nmd nn v')) ∨
  (∃ ks : List Int32, k' = 34 ∧ ks' = ks ∧ (nmd nn v')) ∨
  (∃ a : Int32, ∃ b : Int32, k' = 35 ∧ ks' = [a, b] ∧ ((∃ j : Nat, v' = Jn j ∧ j < 14))) ∨
  (∃ a : Int32, k' = 36 ∧ ks' = [a] ∧ (v' = 0 ∨ v' = 1))
theorem LOC.text {nn : Nat} (ks : List Int32) : LOC nn 0 0 ks := Or.inl ⟨ks, rfl, rfl, rfl⟩
theorem LOC.func {nn : Nat} (v : Int32) (k : Int32) (ks : List Int32) (h0 : nmd nn v) : LOC nn 1 v (k :: ks) := Or.inr (Or.inl ⟨k, ks, rfl, rfl, h0⟩)
theorem LOC.blk {nn : Nat} (v : Int32) (ks : List Int32) (h0 : nmd nn v) : LOC nn 2 v ks := Or.inr (Or.inr (Or.inl ⟨ks, rfl, rfl, h0⟩))
theorem LOC.prog {nn : Nat} (v : Int32) (ks : List Int32) (h0 : nmd nn v) : LOC nn 3 v ks := Or.inr (Or.inr (Or.inr (Or.inl ⟨ks, rfl, rfl, h0⟩)))
theorem LOC.sect {nn : Nat} (v : Int32) (ks : List Int32) (h0 : v = 0 ∨ v = 1 ∨ v = 2) : LOC nn 4 v ks := Or.inr (Or.inr (Or.inr (Or.inr (Or.inl ⟨ks, rfl, rfl, h0⟩))))
theorem LOC.decl {nn : Nat} (ks : List Int32) (h0 : (∀ k, k ∈ ks → k = 6 ∨ k = 7 ∨ k = 8 ∨ k = 9 ∨ k = 10 ∨ k = 30 ∨ k = 31)) : LOC nn 5 0 (6 :: ks) := Or.inr (Or.inr (Or.inr (Or.inr (Or.inr (Or.inl ⟨ks, rfl, rfl, rfl, h0⟩)))))
theorem LOC.name {nn : Nat} (v : Int32) (h0 : nmd nn v) : LOC nn 6 v [] := Or.inr (Or.inr (Or.inr (Or.inr (Or.inr (Or.inr (Or.inl ⟨rfl, rfl, h0⟩))))))
theorem LOC.place {nn : Nat} (v : Int32) (h0 : (∃ a : Nat, v = Jn a ∧ a < 1536)) : LOC nn 7 v [] := Or.inr (Or.inr (Or.inr (Or.inr (Or.inr (Or.inr (Or.inr (Or.inl ⟨rfl, rfl, h0⟩)))))))
theorem LOC.type {nn : Nat} (v : Int32) (h0 : v = 0 ∨ v = 1 ∨ v = 2) : LOC nn 8 v [] := Or.inr (Or.inr (Or.inr (Or.inr (Or.inr (Or.inr (Or.inr (Or.inr (Or.inl ⟨rfl, rfl, h0⟩))))))))
theorem LOC.array {nn : Nat} (a : Int32) (b : Int32) (c : Int32) : LOC nn 9 0 [a, b, c] := Or.inr (Or.inr (Or.inr (Or.inr (Or.inr (Or.inr (Or.inr (Or.inr (Or.inr (Or.inl ⟨a, b, c, rfl, rfl, rfl⟩)))))))))
theorem LOC.btype {nn : Nat} (v : Int32) (h0 : nmd nn v) : LOC nn 10 v [] := Or.inr (Or.inr (Or.inr (Or.inr (Or.inr (Or.inr (Or.inr (Or.inr (Or.inr (Or.inr (Or.inl ⟨rfl, rfl, h0⟩))))))))))
theorem LOC.body {nn : Nat} (ks : List Int32) : LOC nn 11 0 ks := Or.inr (Or.inr (Or.inr (Or.inr (Or.inr (Or.inr (Or.inr (Or.inr (Or.inr (Or.inr (Or.inr (Or.inl ⟨ks, rfl, rfl, rfl⟩)))))))))))
theorem LOC.asg {nn : Nat} (a : Int32) (b : Int32) : LOC nn 12 0 [a, b] := Or.inr (Or.inr (Or.inr (Or.inr (Or.inr (Or.inr (Or.inr (Or.inr (Or.inr (Or.inr (Or.inr (Or.inr (Or.inl ⟨a, b, rfl, rfl, rfl⟩))))))))))))
theorem LOC.inv {nn : Nat} (v : Int32) (ks : List Int32) (h0 : nmd nn v) : LOC nn 13 v ks := Or.inr (Or.inr (Or.inr (Or.inr (Or.inr (Or.inr (Or.inr (Or.inr (Or.inr (Or.inr (Or.inr (Or.inr (Or.inr (Or.inl ⟨ks, rfl, rfl, h0⟩)))))))))))))
theorem LOC.par {nn : Nat} (v : Int32) (a : Int32) (h0 : nmd nn v) : LOC nn 14 v [a] := Or.inr (Or.inr (Or.inr (Or.inr (Or.inr (Or.inr (Or.inr (Or.inr (Or.inr (Or.inr (Or.inr (Or.inr (Or.inr (Or.inr (Or.inl ⟨a, rfl, rfl, h0⟩))))))))))))))
theorem LOC.iff {nn : Nat} (k : Int32) (ks : List Int32) (h0 : k ≠ 11) (h1 : ifP ks) : LOC nn 15 0 (k :: 11 :: ks) := Or.inr (Or.inr (Or.inr (Or.inr (Or.inr (Or.inr (Or.inr (Or.inr (Or.inr (Or.inr (Or.inr (Or.inr (Or.inr (Or.inr (Or.inr (Or.inl ⟨k, ks, rfl, rfl, rfl, h0, h1⟩)))))))))))))))
theorem LOC.case {nn : Nat} (k : Int32) (ks : List Int32) (h0 : k ≠ 11) (h1 : lastP ks) : LOC nn 16 0 (k :: ks) := Or.inr (Or.inr (Or.inr (Or.inr (Or.inr (Or.inr (Or.inr (Or.inr (Or.inr (Or.inr (Or.inr (Or.inr (Or.inr (Or.inr (Or.inr (Or.inr (Or.inl ⟨k, ks, rfl, rfl, rfl, h0, h1⟩))))))))))))))))
theorem LOC.choice {nn : Nat} (k : Int32) (ks : List Int32) (h0 : k ≠ 11) (h1 : lastP (k :: ks)) : LOC nn 17 0 (k :: ks) := Or.inr (Or.inr (Or.inr (Or.inr (Or.inr (Or.inr (Or.inr (Or.inr (Or.inr (Or.inr (Or.inr (Or.inr (Or.inr (Or.inr (Or.inr (Or.inr (Or.inr (Or.inl ⟨k, ks, rfl, rfl, rfl, h0, h1⟩)))))))))))))))))
theorem LOC.range1 {nn : Nat} (a : Int32) : LOC nn 18 0 [a] := Or.inr (Or.inr (Or.inr (Or.inr (Or.inr (Or.inr (Or.inr (Or.inr (Or.inr (Or.inr (Or.inr (Or.inr (Or.inr (Or.inr (Or.inr (Or.inr (Or.inr (Or.inr (Or.inl ⟨a, rfl, rfl, rfl⟩))))))))))))))))))
theorem LOC.range2 {nn : Nat} (a : Int32) (b : Int32) : LOC nn 18 0 [a, b] := Or.inr (Or.inr (Or.inr (Or.inr (Or.inr (Or.inr (Or.inr (Or.inr (Or.inr (Or.inr (Or.inr (Or.inr (Or.inr (Or.inr (Or.inr (Or.inr (Or.inr (Or.inr (Or.inr (Or.inl ⟨a, b, rfl, rfl, rfl⟩)))))))))))))))))))
theorem LOC.for3 {nn : Nat} (v : Int32) (a : Int32) (b : Int32) (h0 : nmd nn v) (h1 : a ≠ 11) (h2 : b ≠ 11) : LOC nn 19 v [a, b, 11] := Or.inr (Or.inr (Or.inr (Or.inr (Or.inr (Or.inr (Or.inr (Or.inr (Or.inr (Or.inr (Or.inr (Or.inr (Or.inr (Or.inr (Or.inr (Or.inr (Or.inr (Or.inr (Or.inr (Or.inr (Or.inl ⟨a, b, rfl, rfl, h0, h1, h2⟩))))))))))))))))))))
theorem LOC.for4 {nn : Nat} (v : Int32) (a : Int32) (b : Int32) (c : Int32) (h0 : nmd nn v) (h1 : a ≠ 11) (h2 : b ≠ 11) (h3 : c ≠ 11) : LOC nn 19 v [a, b, c, 11] := Or.inr (Or.inr (Or.inr (Or.inr (Or.inr (Or.inr (Or.inr (Or.inr (Or.inr (Or.inr (Or.inr (Or.inr (Or.inr (Or.inr (Or.inr (Or.inr (Or.inr (Or.inr (Or.inr (Or.inr (Or.inr (Or.inl ⟨a, b, c, rfl, rfl, h0, h1, h2, h3⟩)))))))))))))))))))))
theorem LOC.exit {nn : Nat} : LOC nn 20 0 [] := Or.inr (Or.inr (Or.inr (Or.inr (Or.inr (Or.inr (Or.inr (Or.inr (Or.inr (Or.inr (Or.inr (Or.inr (Or.inr (Or.inr (Or.inr (Or.inr (Or.inr (Or.inr (Or.inr (Or.inr (Or.inr (Or.inr (Or.inl ⟨rfl, rfl, rfl⟩))))))))))))))))))))))
theorem LOC.ret {nn : Nat} : LOC nn 21 0 [] := Or.inr (Or.inr (Or.inr (Or.inr (Or.inr (Or.inr (Or.inr (Or.inr (Or.inr (Or.inr (Or.inr (Or.inr (Or.inr (Or.inr (Or.inr (Or.inr (Or.inr (Or.inr (Or.inr (Or.inr (Or.inr (Or.inr (Or.inr (Or.inl ⟨rfl, rfl, rfl⟩)))))))))))))))))))))))
theorem LOC.lad {nn : Nat} (ks : List Int32) : LOC nn 22 0 ks := Or.inr (Or.inr (Or.inr (Or.inr (Or.inr (Or.inr (Or.inr (Or.inr (Or.inr (Or.inr (Or.inr (Or.inr (Or.inr (Or.inr (Or.inr (Or.inr (Or.inr (Or.inr (Or.inr (Or.inr (Or.inr (Or.inr (Or.inr (Or.inr (Or.inl ⟨ks, rfl, rfl, rfl⟩))))))))))))))))))))))))
theorem LOC.rung {nn : Nat} (ks : List Int32) : LOC nn 23 0 ks := Or.inr (Or.inr (Or.inr (Or.inr (Or.inr (Or.inr (Or.inr (Or.inr (Or.inr (Or.inr (Or.inr (Or.inr (Or.inr (Or.inr (Or.inr (Or.inr (Or.inr (Or.inr (Or.inr (Or.inr (Or.inr (Or.inr (Or.inr (Or.inr (Or.inr (Or.inl ⟨ks, rfl, rfl, rfl⟩)))))))))))))))))))))))))
theorem LOC.row {nn : Nat} (ks : List Int32) : LOC nn 24 0 ks := Or.inr (Or.inr (Or.inr (Or.inr (Or.inr (Or.inr (Or.inr (Or.inr (Or.inr (Or.inr (Or.inr (Or.inr (Or.inr (Or.inr (Or.inr (Or.inr (Or.inr (Or.inr (Or.inr (Or.inr (Or.inr (Or.inr (Or.inr (Or.inr (Or.inr (Or.inr (Or.inl ⟨ks, rfl, rfl, rfl⟩))))))))))))))))))))))))))
theorem LOC.cont {nn : Nat} (v : Int32) (a : Int32) (h0 : v = 0 ∨ v = 1 ∨ v = 2 ∨ v = 3) : LOC nn 25 v [a] := Or.inr (Or.inr (Or.inr (Or.inr (Or.inr (Or.inr (Or.inr (Or.inr (Or.inr (Or.inr (Or.inr (Or.inr (Or.inr (Or.inr (Or.inr (Or.inr (Or.inr (Or.inr (Or.inr (Or.inr (Or.inr (Or.inr (Or.inr (Or.inr (Or.inr (Or.inr (Or.inr (Or.inl ⟨a, rfl, rfl, h0⟩)))))))))))))))))))))))))))
theorem LOC.wire {nn : Nat} : LOC nn 26 0 [] := Or.inr (Or.inr (Or.inr (Or.inr (Or.inr (Or.inr (Or.inr (Or.inr (Or.inr (Or.inr (Or.inr (Or.inr (Or.inr (Or.inr (Or.inr (Or.inr (Or.inr (Or.inr (Or.inr (Or.inr (Or.inr (Or.inr (Or.inr (Or.inr (Or.inr (Or.inr (Or.inr (Or.inr (Or.inl ⟨rfl, rfl, rfl⟩))))))))))))))))))))))))))))
theorem LOC.gap {nn : Nat} : LOC nn 27 0 [] := Or.inr (Or.inr (Or.inr (Or.inr (Or.inr (Or.inr (Or.inr (Or.inr (Or.inr (Or.inr (Or.inr (Or.inr (Or.inr (Or.inr (Or.inr (Or.inr (Or.inr (Or.inr (Or.inr (Or.inr (Or.inr (Or.inr (Or.inr (Or.inr (Or.inr (Or.inr (Or.inr (Or.inr (Or.inr (Or.inl ⟨rfl, rfl, rfl⟩)))))))))))))))))))))))))))))
theorem LOC.coil {nn : Nat} (v : Int32) (a : Int32) (h0 : v = 0 ∨ v = 1 ∨ v = 2 ∨ v = 3) : LOC nn 28 v [a] := Or.inr (Or.inr (Or.inr (Or.inr (Or.inr (Or.inr (Or.inr (Or.inr (Or.inr (Or.inr (Or.inr (Or.inr (Or.inr (Or.inr (Or.inr (Or.inr (Or.inr (Or.inr (Or.inr (Or.inr (Or.inr (Or.inr (Or.inr (Or.inr (Or.inr (Or.inr (Or.inr (Or.inr (Or.inr (Or.inr (Or.inl ⟨a, rfl, rfl, h0⟩))))))))))))))))))))))))))))))
theorem LOC.link {nn : Nat} : LOC nn 29 0 [] := Or.inr (Or.inr (Or.inr (Or.inr (Or.inr (Or.inr (Or.inr (Or.inr (Or.inr (Or.inr (Or.inr (Or.inr (Or.inr (Or.inr (Or.inr (Or.inr (Or.inr (Or.inr (Or.inr (Or.inr (Or.inr (Or.inr (Or.inr (Or.inr (Or.inr (Or.inr (Or.inr (Or.inr (Or.inr (Or.inr (Or.inr (Or.inl ⟨rfl, rfl, rfl⟩)))))))))))))))))))))))))))))))
theorem LOC.num {nn : Nat} (v : Int32) (h0 : (∃ a : Nat, a < 2147483648 ∧ (v = Jn a ∨ v = -(Jn a)))) : LOC nn 30 v [] := Or.inr (Or.inr (Or.inr (Or.inr (Or.inr (Or.inr (Or.inr (Or.inr (Or.inr (Or.inr (Or.inr (Or.inr (Or.inr (Or.inr (Or.inr (Or.inr (Or.inr (Or.inr (Or.inr (Or.inr (Or.inr (Or.inr (Or.inr (Or.inr (Or.inr (Or.inr (Or.inr (Or.inr (Or.inr (Or.inr (Or.inr (Or.inr (Or.inl ⟨rfl, rfl, h0⟩))))))))))))))))))))))))))))))))
theorem LOC.truth {nn : Nat} (v : Int32) (h0 : v = 0 ∨ v = 1) : LOC nn 31 v [] := Or.inr (Or.inr (Or.inr (Or.inr (Or.inr (Or.inr (Or.inr (Or.inr (Or.inr (Or.inr (Or.inr (Or.inr (Or.inr (Or.inr (Or.inr (Or.inr (Or.inr (Or.inr (Or.inr (Or.inr (Or.inr (Or.inr (Or.inr (Or.inr (Or.inr (Or.inr (Or.inr (Or.inr (Or.inr (Or.inr (Or.inr (Or.inr (Or.inr (Or.inl ⟨rfl, rfl, h0⟩)))))))))))))))))))))))))))))))))
theorem LOC.elem {nn : Nat} (v : Int32) (a : Int32) (h0 : nmd nn v) : LOC nn 32 v [a] := Or.inr (Or.inr (Or.inr (Or.inr (Or.inr (Or.inr (Or.inr (Or.inr (Or.inr (Or.inr (Or.inr (Or.inr (Or.inr (Or.inr (Or.inr (Or.inr (Or.inr (Or.inr (Or.inr (Or.inr (Or.inr (Or.inr (Or.inr (Or.inr (Or.inr (Or.inr (Or.inr (Or.inr (Or.inr (Or.inr (Or.inr (Or.inr (Or.inr (Or.inr (Or.inl ⟨a, rfl, rfl, h0⟩))))))))))))))))))))))))))))))))))
theorem LOC.outp {nn : Nat} (v : Int32) (a : Int32) (h0 : nmd nn v) : LOC nn 33 v [a] := Or.inr (Or.inr (Or.inr (Or.inr (Or.inr (Or.inr (Or.inr (Or.inr (Or.inr (Or.inr (Or.inr (Or.inr (Or.inr (Or.inr (Or.inr (Or.inr (Or.inr (Or.inr (Or.inr (Or.inr (Or.inr (Or.inr (Or.inr (Or.inr (Or.inr (Or.inr (Or.inr (Or.inr (Or.inr (Or.inr (Or.inr (Or.inr (Or.inr (Or.inr (Or.inr (Or.inl ⟨a, rfl, rfl, h0⟩)))))))))))))))))))))))))))))))))))
theorem LOC.call {nn : Nat} (v : Int32) (ks : List Int32) (h0 : nmd nn v) : LOC nn 34 v ks := Or.inr (Or.inr (Or.inr (Or.inr (Or.inr (Or.inr (Or.inr (Or.inr (Or.inr (Or.inr (Or.inr (Or.inr (Or.inr (Or.inr (Or.inr (Or.inr (Or.inr (Or.inr (Or.inr (Or.inr (Or.inr (Or.inr (Or.inr (Or.inr (Or.inr (Or.inr (Or.inr (Or.inr (Or.inr (Or.inr (Or.inr (Or.inr (Or.inr (Or.inr (Or.inr (Or.inr (Or.inl ⟨ks, rfl, rfl, h0⟩))))))))))))))))))))))))))))))))))))
theorem LOC.two {nn : Nat} (v : Int32) (a : Int32) (b : Int32) (h0 : (∃ j : Nat, v = Jn j ∧ j < 14)) : LOC nn 35 v [a, b] := Or.inr (Or.inr (Or.inr (Or.inr (Or.inr (Or.inr (Or.inr (Or.inr (Or.inr (Or.inr (Or.inr (Or.inr (Or.inr (Or.inr (Or.inr (Or.inr (Or.inr (Or.inr (Or.inr (Or.inr (Or.inr (Or.inr (Or.inr (Or.inr (Or.inr (Or.inr (Or.inr (Or.inr (Or.inr (Or.inr (Or.inr (Or.inr (Or.inr (Or.inr (Or.inr (Or.inr (Or.inr (Or.inl ⟨a, b, rfl, rfl, h0⟩)))))))))))))))))))))))))))))))))))))
theorem LOC.neg {nn : Nat} (v : Int32) (a : Int32) (h0 : v = 0 ∨ v = 1) : LOC nn 36 v [a] := Or.inr (Or.inr (Or.inr (Or.inr (Or.inr (Or.inr (Or.inr (Or.inr (Or.inr (Or.inr (Or.inr (Or.inr (Or.inr (Or.inr (Or.inr (Or.inr (Or.inr (Or.inr (Or.inr (Or.inr (Or.inr (Or.inr (Or.inr (Or.inr (Or.inr (Or.inr (Or.inr (Or.inr (Or.inr (Or.inr (Or.inr (Or.inr (Or.inr (Or.inr (Or.inr (Or.inr (Or.inr (Or.inr (⟨a, rfl, rfl, h0⟩))))))))))))))))))))))))))))))))))))))
theorem LOC.elim {nn : Nat} {motive : Int32 → Int32 → List Int32 → Prop}
    (text : ∀ (ks : List Int32), motive 0 0 ks)
    (func : ∀ (v : Int32) (k : Int32) (ks : List Int32), (nmd nn v) → motive 1 v (k :: ks))
    (blk : ∀ (v : Int32) (ks : List Int32), (nmd nn v) → motive 2 v ks)
    (prog : ∀ (v : Int32) (ks : List Int32), (nmd nn v) → motive 3 v ks)
    (sect : ∀ (v : Int32) (ks : List Int32), (v = 0 ∨ v = 1 ∨ v = 2) → motive 4 v ks)
    (decl : ∀ (ks : List Int32), ((∀ k, k ∈ ks → k = 6 ∨ k = 7 ∨ k = 8 ∨ k = 9 ∨ k = 10 ∨ k = 30 ∨ k = 31)) → motive 5 0 (6 :: ks))
    (name : ∀ (v : Int32), (nmd nn v) → motive 6 v [])
    (place : ∀ (v : Int32), ((∃ a : Nat, v = Jn a ∧ a < 1536)) → motive 7 v [])
    (type : ∀ (v : Int32), (v = 0 ∨ v = 1 ∨ v = 2) → motive 8 v [])
    (array : ∀ (a : Int32) (b : Int32) (c : Int32), motive 9 0 [a, b, c])
    (btype : ∀ (v : Int32), (nmd nn v) → motive 10 v [])
    (body : ∀ (ks : List Int32), motive 11 0 ks)
    (asg : ∀ (a : Int32) (b : Int32), motive 12 0 [a, b])
    (inv : ∀ (v : Int32) (ks : List Int32), (nmd nn v) → motive 13 v ks)
    (par : ∀ (v : Int32) (a : Int32), (nmd nn v) → motive 14 v [a])
    (iff : ∀ (k : Int32) (ks : List Int32), (k ≠ 11) → (ifP ks) → motive 15 0 (k :: 11 :: ks))
    (case : ∀ (k : Int32) (ks : List Int32), (k ≠ 11) → (lastP ks) → motive 16 0 (k :: ks))
    (choice : ∀ (k : Int32) (ks : List Int32), (k ≠ 11) → (lastP (k :: ks)) → motive 17 0 (k :: ks))
    (range1 : ∀ (a : Int32), motive 18 0 [a])
    (range2 : ∀ (a : Int32) (b : Int32), motive 18 0 [a, b])
    (for3 : ∀ (v : Int32) (a : Int32) (b : Int32), (nmd nn v) → (a ≠ 11) → (b ≠ 11) → motive 19 v [a, b, 11])
    (for4 : ∀ (v : Int32) (a : Int32) (b : Int32) (c : Int32), (nmd nn v) → (a ≠ 11) → (b ≠ 11) → (c ≠ 11) → motive 19 v [a, b, c, 11])
    (exit : motive 20 0 [])
    (ret : motive 21 0 [])
    (lad : ∀ (ks : List Int32), motive 22 0 ks)
    (rung : ∀ (ks : List Int32), motive 23 0 ks)
    (row : ∀ (ks : List Int32), motive 24 0 ks)
    (cont : ∀ (v : Int32) (a : Int32), (v = 0 ∨ v = 1 ∨ v = 2 ∨ v = 3) → motive 25 v [a])
    (wire : motive 26 0 [])
    (gap : motive 27 0 [])
    (coil : ∀ (v : Int32) (a : Int32), (v = 0 ∨ v = 1 ∨ v = 2 ∨ v = 3) → motive 28 v [a])
    (link : motive 29 0 [])
    (num : ∀ (v : Int32), ((∃ a : Nat, a < 2147483648 ∧ (v = Jn a ∨ v = -(Jn a)))) → motive 30 v [])
    (truth : ∀ (v : Int32), (v = 0 ∨ v = 1) → motive 31 v [])
    (elem : ∀ (v : Int32) (a : Int32), (nmd nn v) → motive 32 v [a])
    (outp : ∀ (v : Int32) (a : Int32), (nmd nn v) → motive 33 v [a])
    (call : ∀ (v : Int32) (ks : List Int32), (nmd nn v) → motive 34 v ks)
    (two : ∀ (v : Int32) (a : Int32) (b : Int32), ((∃ j : Nat, v = Jn j ∧ j < 14)) → motive 35 v [a, b])
    (neg : ∀ (v : Int32) (a : Int32), (v = 0 ∨ v = 1) → motive 36 v [a])
    {k v : Int32} {ks : List Int32} (h : LOC nn k v ks) : motive k v ks := by
  unfold LOC at h
  rcases h with ⟨xks, rfl, rfl, rfl⟩ | ⟨xk, xks, rfl, rfl, h0⟩ | ⟨xks, rfl, rfl, h0⟩ | ⟨xks, rfl, rfl, h0⟩ | ⟨xks, rfl, rfl, h0⟩ | ⟨xks, rfl, rfl, rfl, h0⟩ | ⟨rfl, rfl, h0⟩ | ⟨rfl, rfl, h0⟩ | ⟨rfl, rfl, h0⟩ | ⟨xa, xb, xc, rfl, rfl, rfl⟩ | ⟨rfl, rfl, h0⟩ | ⟨xks, rfl, rfl, rfl⟩ | ⟨xa, xb, rfl, rfl, rfl⟩ | ⟨xks, rfl, rfl, h0⟩ | ⟨xa, rfl, rfl, h0⟩ | ⟨xk, xks, rfl, rfl, rfl, h0, h1⟩ | ⟨xk, xks, rfl, rfl, rfl, h0, h1⟩ | ⟨xk, xks, rfl, rfl, rfl, h0, h1⟩ | ⟨xa, rfl, rfl, rfl⟩ | ⟨xa, xb, rfl, rfl, rfl⟩ | ⟨xa, xb, rfl, rfl, h0, h1, h2⟩ | ⟨xa, xb, xc, rfl, rfl, h0, h1, h2, h3⟩ | ⟨rfl, rfl, rfl⟩ | ⟨rfl, rfl, rfl⟩ | ⟨xks, rfl, rfl, rfl⟩ | ⟨xks, rfl, rfl, rfl⟩ | ⟨xks, rfl, rfl, rfl⟩ | ⟨xa, rfl, rfl, h0⟩ | ⟨rfl, rfl, rfl⟩ | ⟨rfl, rfl, rfl⟩ | ⟨xa, rfl, rfl, h0⟩ | ⟨rfl, rfl, rfl⟩ | ⟨rfl, rfl, h0⟩ | ⟨rfl, rfl, h0⟩ | ⟨xa, rfl, rfl, h0⟩ | ⟨xa, rfl, rfl, h0⟩ | ⟨xks, rfl, rfl, h0⟩ | ⟨xa, xb, rfl, rfl, h0⟩ | ⟨xa, rfl, rfl, h0⟩
  · exact text _
  · exact func _ _ _ h0
  · exact blk _ _ h0
  · exact prog _ _ h0
  · exact sect _ _ h0
  · exact decl _ h0
  · exact name _ h0
  · exact place _ h0
  · exact type _ h0
  · exact array _ _ _
  · exact btype _ h0
  · exact body _
  · exact asg _ _
  · exact inv _ _ h0
  · exact par _ _ h0
  · exact iff _ _ h0 h1
  · exact case _ _ h0 h1
  · exact choice _ _ h0 h1
  · exact range1 _
  · exact range2 _ _
  · exact for3 _ _ _ h0 h1 h2
  · exact for4 _ _ _ _ h0 h1 h2 h3
  · exact exit
  · exact ret
  · exact lad _
  · exact rung _
  · exact row _
  · exact cont _ _ h0
  · exact wire
  · exact gap
  · exact coil _ _ h0
  · exact link
  · exact num _ h0
  · exact truth _ h0
  · exact elem _ _ h0
  · exact outp _ _ h0
  · exact call _ _ h0
  · exact two _ _ _ h0
  · exact neg _ _ h0
def goodF (nn : Nat) : FO → Prop
  | .leaf => True
  | .inner _ k v c r => LOC nn k v (FO.ks c) ∧ goodF nn c ∧ goodF nn r
theorem goodF_app {nn : Nat} : ∀ {a b : FO}, goodF nn a → goodF nn b → goodF nn (a.app b)
  | .leaf, _, _, hb => hb
  | .inner _ _ _ _ _, _, ha, hb => ⟨ha.1, ha.2.1, goodF_app ha.2.2 hb⟩
theorem good_one {nn : Nat} {k p v : Int32} {c : FO} (h1 : LOC nn k v c.ks) (h2 : goodF nn c) : goodF nn (one k p v c) := ⟨h1, h2, trivial⟩
/-- how many items the reference keeps while it writes -/
def nk (k : Int32) : Nat := if k = 19 then 12 else if k = 36 then 4 else if k = 35 then 7 else if k = 34 then 4 else if k = 14 then 3 else if k = 32 then 4 else 10
def needF : FO → Nat
  | .leaf => 0
  | .inner _ k _ c r => max (nk k + needF c) (needF r)
theorem needF_app : ∀ (a b : FO), needF (a.app b) = max (needF a) (needF b)
  | .leaf, b => by rw [FO.app, needF]; omega
  | .inner p k v c r, b => by rw [FO.app, needF, needF, needF_app r b]; omega
end
section
/-! The class's parser once more, alone: what trees it makes, and of which tokens. -/
def nzT (K v : Int32) : Tok := if K = 1 then (1, v) else if K = 2 then (2, v) else if K = 3 then (3, v) else if K = 288 then (38, 0) else (K, 0)
def tks (kd vl : Nat → Int32) (i : Nat) : Nat → List Tok
  | 0 => []
  | n + 1 => nzT (kd i) (vl i) :: tks kd vl (i + 1) n
theorem tks_add (kd vl : Nat → Int32) : ∀ (a b i : Nat), tks kd vl i (a + b) = tks kd vl i a ++ tks kd vl (i + a) b
  | 0, b, i => by rw [Nat.zero_add, Nat.add_zero, tks, List.nil_append]
  | a + 1, b, i => by rw [show a + 1 + b = (a + b) + 1 by omega, tks, tks, tks_add kd vl a b (i + 1), show i + 1 + a = i + (a + 1) by omega, List.cons_append]
/-- these tokens come, in this order, among those from i to before j -/
def SubT (kd vl : Nat → Int32) (i j : Nat) (X : List Tok) : Prop := i ≤ j ∧ X.Sublist (tks kd vl i (j - i))
section
variable {kd vl : Nat → Int32}
theorem SubT.nil {i j : Nat} (h : i ≤ j) : SubT kd vl i j [] := ⟨h, List.nil_sublist _⟩
theorem SubT.app {i j k : Nat} {X Y : List Tok} (h1 : SubT kd vl i j X) (h2 : SubT kd vl j k Y) : SubT kd vl i k (X ++ Y) := by
  refine ⟨Nat.le_trans h1.1 h2.1, ?_⟩
  have a := h1.1
  have b := h2.1
  have : k - i = (j - i) + (k - j) := by omega
  rw [this, tks_add, show i + (j - i) = j by omega]
  exact h1.2.append h2.2
theorem SubT.tok (i : Nat) : SubT kd vl i (i + 1) [nzT (kd i) (vl i)] := by
  refine ⟨by omega, ?_⟩
  rw [show i + 1 - i = 1 by omega, tks, tks]
  exact List.Sublist.refl _
theorem SubT.ext {i j k : Nat} {X : List Tok} (h1 : SubT kd vl i j X) (h : j ≤ k) : SubT kd vl i k X := by
  have := h1.app (SubT.nil (kd := kd) (vl := vl) h)
  rw [List.append_nil] at this
  exact this
theorem SubT.snoc {i j : Nat} {X : List Tok} (h1 : SubT kd vl i j X) : SubT kd vl i (j + 1) (X ++ [nzT (kd j) (vl j)]) := h1.app (SubT.tok j)
theorem SubT.sub {i j : Nat} {X Y : List Tok} (h1 : SubT kd vl i j X) (h : Y.Sublist X) : SubT kd vl i j Y := ⟨h1.1, h.trans h1.2⟩
end
/-- the class's parser is lost, or at a token -/
def CK (m : Nat) (kd pl vl : Nat → Int32) (i0 : Nat) (p : S_Parser) (W : Nat → Nat → Nat → Prop) : Prop := (∃ i td, PD p i td) ∨ ∃ i sg op, i0 ≤ i ∧ SP m kd pl vl p i sg op ∧ W i sg op
section
variable {C : S_MC} {mX : S_MX} {m : Nat} {ar : Int32} {kd pl vl : Nat → Int32} {Ls : Nat → S_ML × S_MN}
theorem CK.seq {i0 : Nat} {p : S_Parser} {W W' : Nat → Nat → Nat → Prop} {β : Type} {r : Option β} {b : β} (pr : β → S_Parser) (h : CK m kd pl vl i0 p W) (e : r = some b) (hs : ∀ i sg op, i0 ≤ i → SP m kd pl vl p i sg op → W i sg op → CK m kd pl vl i (pr b) W') (hd : ∀ i td, PD p i td → ∃ b, r = some b ∧ PD (pr b) i td) : CK m kd pl vl i0 (pr b) W' := by
  rcases h with ⟨i, td, h⟩ | ⟨i, sg, op, h1, h2, h3⟩
  · obtain ⟨b', x1, x2⟩ := hd i td h
    rw [x1] at e
    injection e with e
    rw [e] at x2
    exact Or.inl ⟨i, td, x2⟩
  · rcases hs i sg op h1 h2 h3 with x | ⟨i2, sg2, op2, y1, y2, y3⟩
    · exact Or.inl x
    · exact Or.inr ⟨i2, sg2, op2, by omega, y2, y3⟩
theorem CK.mono {i0 : Nat} {p : S_Parser} {W W' : Nat → Nat → Nat → Prop} (h : CK m kd pl vl i0 p W) (hw : ∀ i sg op, i0 ≤ i → SP m kd pl vl p i sg op → W i sg op → W' i sg op) : CK m kd pl vl i0 p W' := by
  rcases h with h | ⟨i, sg, op, h1, h2, h3⟩
  · exact Or.inl h
  · exact Or.inr ⟨i, sg, op, h1, h2, hw i sg op h1 h2 h3⟩
theorem CK.ret {i sg op : Nat} {p : S_Parser} {W : Nat → Nat → Nat → Prop} (hs : SP m kd pl vl p i sg op) (hw : W i sg op) : CK m kd pl vl i p W := Or.inr ⟨i, sg, op, Nat.le_refl _, hs, hw⟩
theorem ck_take (h : LX C mX m kd pl vl Ls) {p p' : S_Parser} {i sg op : Nat} {c : Int32} (hs : SP m kd pl vl p i sg op) (h4 : c ≠ 4) (e : f_Parser_take p (Jn m, ar, kd, pl, vl) c = some p') : CK m kd pl vl i p' (fun i' sg' op' => i' = i + 1 ∧ sg' = sg ∧ op' = op ∧ kd i = c ∧ p'.2.2.2.2.1 = pl i) := by
  obtain ⟨hi, h5, pb, fq, rfl, hpb⟩ := id hs
  by_cases c1 : kd i = c
  · have hn := nxt h hi h5 (by rw [c1]; exact h4)
    have hm := h.2.2.2.2.2
    have n6 := KM_n6 (tokF h hi h5).1
    unfold f_Parser_take at e
    dsimp only at e
    rw [if_pos c1, if_neg n6, addL i 1, if_neg J_nneg, if_neg (J_nle hn), if_neg (nleL 8193 (by omega))] at e
    simp only [gd_Jn (show i + 1 < 8193 by omega) (show 8193 < 2147483648 by omega), Jn_cl (show i + 1 < 2147483648 by omega), nm_eq] at e
    injection e with e
    subst e
    by_cases c5 : kd (i + 1) = 5
    · exact Or.inl ⟨i + 1, 0, rfl, Or.inl c5, rfl⟩
    · exact Or.inr ⟨i + 1, sg, op, by omega, ⟨hn, c5, pl i, fq, rfl, fun _ => rfl⟩, rfl, rfl, rfl, c1, rfl⟩
  · rw [take_miss c1] at e
    injection e with e
    subst e
    exact Or.inl ⟨i, 0, rfl, Or.inr rfl, rfl⟩
theorem ck_open (h : LX C mX m kd pl vl Ls) {p p' : S_Parser} {i sg op : Nat} (hs : SP m kd pl vl p i sg op) (h4 : kd i ≠ 4) (hle : op + sg ≤ 60) (e : f_Parser_takeOpening p (Jn m, ar, kd, pl, vl) = some p') : CK m kd pl vl i p' (fun i' sg' op' => i' = i + 1 ∧ sg' = sg ∧ op' = op + 1 ∧ op + sg < 60) := by
  obtain ⟨hi, h5, pb, fq, rfl, hpb⟩ := id hs
  unfold f_Parser_takeOpening f_Parser_mayOpen at e
  dsimp only at e
  rw [show Jn op + Jn sg = Jn (op + sg) from J_add] at e
  by_cases c : 60 ≤ op + sg
  · rw [if_pos (leL 60 c (by omega))] at e
    rw [ob_some, if_pos rfl] at e
    injection e with e
    subst e
    exact Or.inl ⟨i, 1, rfl, Or.inr rfl, rfl⟩
  · rw [if_neg (nleL 60 (by omega)), ob_some, if_neg (show ¬ (1 : Int32) = 0 by decide)] at e
    dsimp only at e
    obtain ⟨q, e1, e2⟩ := Option.bind_eq_some_iff.mp e
    injection e2 with e2
    subst e2
    rw [addL op 1] at e1
    have hs' : SP m kd pl vl (Jn i, kd i, pl i, vl i, pb, Jn sg, Jn (op + 1), 0, fq) i sg (op + 1) := ⟨hi, h5, pb, fq, rfl, hpb⟩
    exact (ck_take h hs' h4 e1).mono (fun i' sg' op' _ _ hw => ⟨hw.1, hw.2.1, hw.2.2.1, by omega⟩)
theorem ck_close (h : LX C mX m kd pl vl Ls) {p p' : S_Parser} {i sg op : Nat} {c : Int32} (hs : SP m kd pl vl p i sg (op + 1)) (h4 : c ≠ 4) (e : f_Parser_takeClosing p (Jn m, ar, kd, pl, vl) c = some p') : CK m kd pl vl i p' (fun i' sg' op' => i' = i + 1 ∧ sg' = sg ∧ op' = op ∧ kd i = c) := by
  unfold f_Parser_takeClosing at e
  obtain ⟨q, e1, e2⟩ := Option.bind_eq_some_iff.mp e
  injection e2 with e2
  subst e2
  exact (ck_take h hs.close h4 e1).mono (fun i' sg' op' _ _ hw => ⟨hw.1, hw.2.1, hw.2.2.1, hw.2.2.2.1⟩)
theorem unb {α β : Type} {x : Option α} {f : α → Option β} {r : β} (h : x.bind f = some r) : ∃ a, x = some a ∧ f a = some r := Option.bind_eq_some_iff.mp h
end
end
