section
/-! The reference's tree: pointers stand for lists of children. -/
def updN (f : Nat → List Nat) (k : Nat) (v : List Nat) : Nat → List Nat := fun j => if j = k then v else f j
theorem updN_self (f : Nat → List Nat) (k : Nat) (v : List Nat) : updN f k v k = v := by simp [updN]
theorem updN_ne (f : Nat → List Nat) {k j : Nat} (v : List Nat) (h : j ≠ k) : updN f k v j = f j := by simp [updN, h]
def hdJ : List Nat → Int32
  | [] => -1
  | x :: _ => Jn x
def laJ (l : List Nat) : Int32 := hdJ l.reverse
theorem hdJ_app {a b : List Nat} (h : a ≠ []) : hdJ (a ++ b) = hdJ a := by
  cases a with
  | nil => exact absurd rfl h
  | cons x a => rfl
/-- T = (nodes, current, kinds, where, values, parents, firsts, lasts, siblings) -/
def GTr (T : S_MT) (N : Nat) (ch : Nat → List Nat) (rk : Nat → Nat) : Prop :=
  T.1 = Jn N ∧ N ≤ 20000 ∧
  (∀ x, x < N → T.2.2.2.2.2.2.1 x = hdJ (ch x) ∧ T.2.2.2.2.2.2.2.1 x = laJ (ch x)) ∧
  (∀ x i, x < N → i < (ch x).length → (ch x).getD i 0 < N ∧ T.2.2.2.2.2.1 ((ch x).getD i 0) = Jn x ∧ rk ((ch x).getD i 0) = i ∧ T.2.2.2.2.2.2.2.2 ((ch x).getD i 0) = hdJ ((ch x).drop (i + 1))) ∧
  (∀ y, y < N → T.2.2.2.2.2.1 y = -1 → T.2.2.2.2.2.2.2.2 y = -1)
def GT (T : S_MT) (N : Nat) (ch : Nat → List Nat) : Prop := ∃ rk, GTr T N ch rk
def par (T : S_MT) (y : Nat) : Int32 := T.2.2.2.2.2.1 y
def dat (T : S_MT) (y : Nat) : Int32 × Int32 × Int32 := (T.2.2.1 y, T.2.2.2.1 y, T.2.2.2.2.1 y)
theorem make_ok {T N ch} (h : GT T N ch) (hN : N < 20000) (k p v : Int32) : ∃ T', f_Model_make T k p v = some (Jn N, T') ∧ GT T' (N + 1) (updN ch N []) ∧ T'.2.1 = T.2.1 ∧ par T' N = -1 ∧ dat T' N = (k, p, v) ∧ ∀ y, y ≠ N → par T' y = par T y ∧ dat T' y = dat T y := by
  obtain ⟨rk, h1, h2, h3, h4, h5⟩ := h
  unfold f_Model_make
  rw [h1]
  simp only [gd_Jn hN (show 20000 < 2147483648 by omega), Jn_cl (show N < 2147483648 by omega), addL N 1]
  rw [subL 1 (by omega), show N + 1 - 1 = N by omega]
  refine ⟨_, rfl, ⟨rk, rfl, by omega, ?_, ?_, ?_⟩, rfl, ?_, ?_, ?_⟩
  · intro x hx
    by_cases c : x = N
    · subst c
      simp only [upd_self, updN_self]
      exact ⟨rfl, rfl⟩
    · simp only [upd_ne _ _ c, updN_ne _ _ c]
      exact h3 x (by omega)
  · intro x i hx hi
    by_cases c : x = N
    · subst c
      rw [updN_self] at hi
      exact absurd hi (by simp)
    · rw [updN_ne _ _ c] at hi ⊢
      obtain ⟨a1, a2, a3, a4⟩ := h4 x i (by omega) hi
      have ne : (ch x).getD i 0 ≠ N := by omega
      simp only [upd_ne _ _ ne]
      exact ⟨by omega, a2, a3, a4⟩
  · intro y hy
    by_cases c : y = N
    · subst c
      simp only [upd_self]
      intro _; trivial
    · simp only [upd_ne _ _ c]
      exact h5 y (by omega)
  · unfold par; simp only [upd_self]
  · unfold dat; simp only [upd_self]
  · intro y hy
    unfold par dat
    simp only [upd_ne _ _ hy]
    exact ⟨trivial, trivial⟩
theorem getD_app1 {l m : List Nat} {k : Nat} (h : k < l.length) : (l ++ m).getD k 0 = l.getD k 0 := by
  rw [List.getD_eq_getElem?_getD, List.getD_eq_getElem?_getD, List.getElem?_append_left h]
theorem getD_app2 {l : List Nat} {x : Nat} : (l ++ [x]).getD l.length 0 = x := by
  rw [List.getD_eq_getElem?_getD, List.getElem?_append_right (Nat.le_refl _), Nat.sub_self]; rfl
theorem laJ_app (l : List Nat) (x : Nat) : laJ (l ++ [x]) = Jn x := by
  unfold laJ; rw [List.reverse_append]; rfl
theorem laJ_get {l : List Nat} (h : 0 < l.length) : laJ l = Jn (l.getD (l.length - 1) 0) := by
  unfold laJ
  rcases List.eq_nil_or_concat l with e | ⟨a, b, e⟩
  · rw [e] at h; exact absurd h (by simp)
  · subst e
    rw [List.concat_eq_append, List.reverse_append, List.length_append, List.length_singleton, Nat.add_sub_cancel, getD_app2]; rfl
theorem hang_ok {T N ch} (h : GT T N ch) {y x : Nat} (hy : y < N) (hx : x < N) (hr : par T y = -1) : ∃ T', f_Model_hang T (Jn y) (Jn x) = some T' ∧ GT T' N (updN ch x (ch x ++ [y])) ∧ T'.2.1 = T.2.1 ∧ par T' y = Jn x ∧ (∀ z, z ≠ y → par T' z = par T z) ∧ ∀ z, dat T' z = dat T z := by
  obtain ⟨rk, h1, h2, h3, h4, h5⟩ := h
  have hrp : T.2.2.2.2.2.1 y = -1 := hr
  have old : ∀ x' i, x' < N → i < (ch x').length → (ch x').getD i 0 ≠ y := by
    intro x' i hx' hi e
    obtain ⟨a1, a2, a3, a4⟩ := h4 x' i hx' hi
    rw [e, hrp] at a2
    exact J_nm1 (a := x') (by omega) a2.symm
  unfold f_Model_hang
  rw [gd_Jn (by omega) (by omega), gd_Jn (by omega) (by omega), Jn_cl (show x < 2147483648 by omega), Jn_cl (show y < 2147483648 by omega), (h3 x hx).1]
  by_cases c : ch x = []
  · rw [c]
    rw [if_pos (show hdJ [] = -1 from rfl), gd_Jn (by omega) (by omega), gd_Jn (by omega) (by omega)]
    refine ⟨_, rfl, ⟨fun z => if z = y then 0 else rk z, h1, h2, ?_, ?_, ?_⟩, rfl, ?_, ?_, ?_⟩
    · intro z hz
      by_cases cz : z = x
      · subst cz
        simp only [upd_self, updN_self]
        exact ⟨rfl, rfl⟩
      · simp only [upd_ne _ _ cz, updN_ne _ _ cz]
        exact h3 z hz
    · intro z i hz hi
      by_cases cz : z = x
      · subst cz
        rw [updN_self] at hi ⊢
        have hi0 : i = 0 := by simpa using hi
        subst hi0
        show y < N ∧ upd _ _ _ y = _ ∧ (if y = y then 0 else _) = _ ∧ T.2.2.2.2.2.2.2.2 y = _
        rw [upd_self, if_pos rfl, h5 y hy hrp]
        exact ⟨hy, rfl, rfl, rfl⟩
      · rw [updN_ne _ _ cz] at hi ⊢
        obtain ⟨a1, a2, a3, a4⟩ := h4 z i hz hi
        have ne := old z i hz hi
        simp only [upd_ne _ _ ne, if_neg ne]
        exact ⟨a1, a2, a3, a4⟩
    · intro z hz
      by_cases cz : z = y
      · subst cz
        simp only [upd_self]
        intro e; exact absurd e (J_nm1 (by omega))
      · simp only [upd_ne _ _ cz]
        exact h5 z hz
    · unfold par; simp only [upd_self]
    · intro z hz; unfold par; simp only [upd_ne _ _ hz]
    · intro z; rfl
  · have hlen : 0 < (ch x).length := by
      cases e : ch x with
      | nil => exact absurd e c
      | cons a l => simp
    have hla := (h3 x hx).2
    rw [laJ_get hlen] at hla
    obtain ⟨b1, b2, b3, b4⟩ := h4 x ((ch x).length - 1) hx (by omega)
    generalize hla' : (ch x).getD ((ch x).length - 1) 0 = la at hla b1 b2 b3 b4
    have nhd : ¬ hdJ (ch x) = -1 := by
      obtain ⟨a0, _, _, _⟩ := h4 x 0 hx hlen
      cases e : ch x with
      | nil => exact absurd e c
      | cons a l =>
        rw [e] at a0
        exact J_nm1 (by have : a < N := a0; omega)
    rw [if_neg nhd, gd_Jn (by omega) (by omega), hla, gd_Jn (by omega) (by omega), gd_Jn (by omega) (by omega), Jn_cl (by omega)]
    refine ⟨_, rfl, ⟨fun z => if z = y then (ch x).length else rk z, h1, h2, ?_, ?_, ?_⟩, rfl, ?_, ?_, ?_⟩
    · intro z hz
      by_cases cz : z = x
      · subst cz
        simp only [upd_self, updN_self]
        exact ⟨by rw [hdJ_app c]; exact (h3 z hz).1, (laJ_app _ _).symm⟩
      · simp only [upd_ne _ _ cz, updN_ne _ _ cz]
        exact h3 z hz
    · intro z i hz hi
      by_cases cz : z = x
      · subst cz
        rw [updN_self] at hi ⊢
        rw [List.length_append, List.length_singleton] at hi
        by_cases ci : i = (ch z).length
        · subst ci
          rw [getD_app2]
          have ney : y ≠ la := by
            intro e
            rw [← e, hrp] at b2
            exact J_nm1 (a := z) (by omega) b2.symm
          show y < N ∧ upd _ _ _ y = _ ∧ (if y = y then _ else _) = _ ∧ upd _ _ _ y = _
          rw [upd_self, if_pos rfl, upd_ne _ _ ney, h5 y hy hrp]
          refine ⟨hy, rfl, rfl, ?_⟩
          rw [List.drop_of_length_le (by rw [List.length_append, List.length_singleton]; exact Nat.le_refl _)]; rfl
        · rw [getD_app1 (by omega)]
          obtain ⟨a1, a2, a3, a4⟩ := h4 z i hz (by omega)
          have ne := old z i hz (by omega)
          simp only [upd_ne _ _ ne, if_neg ne]
          refine ⟨a1, a2, a3, ?_⟩
          by_cases cl : i = (ch z).length - 1
          · rw [cl, hla', upd_self, show (ch z).length - 1 + 1 = (ch z).length by omega, List.drop_left]; rfl
          · rw [upd_ne _ _ (by intro e; rw [e] at a3; omega), a4, List.drop_append_of_le_length (by omega), hdJ_app (by
              intro e
              have := congrArg List.length e
              rw [List.length_drop, List.length_nil] at this
              omega)]
      · rw [updN_ne _ _ cz] at hi ⊢
        obtain ⟨a1, a2, a3, a4⟩ := h4 z i hz hi
        have ne := old z i hz hi
        simp only [upd_ne _ _ ne, if_neg ne]
        refine ⟨a1, a2, a3, ?_⟩
        rw [upd_ne _ _ (by
          intro e
          rw [e, b2, Jn_eq (by omega) (by omega)] at a2
          exact cz a2.symm)]
        exact a4
    · intro z hz
      by_cases cz : z = y
      · subst cz
        simp only [upd_self]
        intro e; exact absurd e (J_nm1 (by omega))
      · simp only [upd_ne _ _ cz]
        intro e
        by_cases cl : z = la
        · subst cl
          rw [b2] at e
          exact absurd e (J_nm1 (by omega))
        · rw [upd_ne _ _ cl]
          exact h5 z hz e
    · unfold par; simp only [upd_self]
    · intro z hz; unfold par; simp only [upd_ne _ _ hz]
    · intro z; rfl
end
section
/-! Trees as lists: each node before its children, with their number. -/
abbrev E4 : Type := Int32 × Int32 × Int32 × Nat
/-- the nodes in their order, from a row of nodes on -/
def PreI (ch : Nat → List Nat) : List Nat → List Nat → Prop
  | st, [] => st = []
  | [], _ :: _ => False
  | x :: st, y :: I => x = y ∧ PreI ch (ch x ++ st) I
theorem PreI.app {ch : Nat → List Nat} : ∀ {I a b J : List Nat}, PreI ch a I → PreI ch b J → PreI ch (a ++ b) (I ++ J)
  | [], a, b, J, h1, h2 => by
    have : a = [] := by
      cases a with
      | nil => rfl
      | cons x a => exact h1
    subst this; exact h2
  | y :: I, [], b, J, h1, h2 => h1.elim
  | y :: I, x :: a, b, J, h1, h2 => by
    refine ⟨h1.1, ?_⟩
    have := PreI.app h1.2 h2
    rw [List.append_assoc] at this
    exact this
theorem PreI.congr {ch ch' : Nat → List Nat} : ∀ {I a : List Nat}, (∀ y, y ∈ I → ch' y = ch y) → PreI ch a I → PreI ch' a I
  | [], a, _, h2 => by
    cases a with
    | nil => exact h2
    | cons x a => exact h2
  | y :: I, [], h1, h2 => h2.elim
  | y :: I, x :: a, h1, h2 => by
    refine ⟨h2.1, ?_⟩
    rw [h1 x (by rw [h2.1]; exact List.mem_cons_self)]
    exact PreI.congr (fun z hz => h1 z (List.mem_cons_of_mem _ hz)) h2.2
theorem PreI.one {ch : Nat → List Nat} {x : Nat} {I : List Nat} (h : PreI ch (ch x) I) : PreI ch [x] (x :: I) := ⟨rfl, by rw [List.append_nil]; exact h⟩
theorem PreI.nil {ch : Nat → List Nat} : PreI ch [] [] := rfl
def ent (T : S_MT) (ch : Nat → List Nat) (x : Nat) : E4 := ((dat T x).1, (dat T x).2.1, (dat T x).2.2, (ch x).length)
/-- a row of so many trees -/
def FOR : Nat → List E4 → Prop
  | 0, [] => True
  | _ + 1, [] => False
  | 0, _ :: _ => False
  | c + 1, e :: L => FOR (c + e.2.2.2) L
theorem PreI.forest {ch : Nat → List Nat} {T : S_MT} : ∀ {I a : List Nat}, PreI ch a I → FOR a.length (I.map (ent T ch))
  | [], a, h => by
    cases a with
    | nil => trivial
    | cons x a => exact (List.cons_ne_nil x a h).elim
  | y :: I, [], h => h.elim
  | y :: I, x :: a, h => by
    have := PreI.forest (T := T) h.2
    rw [List.length_append] at this
    show FOR (a.length + (ch y).length) _
    rw [← h.1, Nat.add_comm]
    exact this
/-! The class's tree. -/
def e0 : E4 := (0, 0, 0, 0)
def CT (t : S_Tree) (l : List E4) : Prop :=
  t.1 = Jn l.length ∧ l.length ≤ 16384 ∧ ∀ i, i < l.length → t.2.1 i = (l.getD i e0).1 ∧ t.2.2.1 i = (l.getD i e0).2.1 ∧ t.2.2.2.1 i = (l.getD i e0).2.2.1 ∧ t.2.2.2.2.1 i = Jn (l.getD i e0).2.2.2 ∧ (l.getD i e0).2.2.2 ≤ l.length
def inc (e : E4) (c : Nat) : E4 := (e.1, e.2.1, e.2.2.1, e.2.2.2 + c)
def bump : List E4 → Nat → Nat → List E4
  | [], _, _ => []
  | e :: l, 0, c => inc e c :: l
  | e :: l, p + 1, c => e :: bump l p c
theorem bump_len : ∀ (l : List E4) (p c : Nat), (bump l p c).length = l.length
  | [], _, _ => rfl
  | e :: l, 0, c => rfl
  | e :: l, p + 1, c => by
    show (bump l p c).length + 1 = l.length + 1
    rw [bump_len l p c]
theorem bump_bump : ∀ (l : List E4) (p c d : Nat), bump (bump l p c) p d = bump l p (c + d)
  | [], _, _, _ => rfl
  | e :: l, 0, c, d => by
    show inc (inc e c) d :: l = inc e (c + d) :: l
    unfold inc; rw [Nat.add_assoc]
  | e :: l, p + 1, c, d => by
    show e :: bump (bump l p c) p d = e :: bump l p (c + d)
    rw [bump_bump l p c d]
theorem bump_zero : ∀ (l : List E4) (p : Nat), bump l p 0 = l
  | [], _ => rfl
  | e :: l, 0 => rfl
  | e :: l, p + 1 => by
    show e :: bump l p 0 = e :: l
    rw [bump_zero l p]
theorem bump_app : ∀ (l r : List E4) (p c : Nat), p < l.length → bump (l ++ r) p c = bump l p c ++ r
  | [], r, p, c, h => absurd h (by simp)
  | e :: l, r, 0, c, h => rfl
  | e :: l, r, p + 1, c, h => by
    show e :: bump (l ++ r) p c = e :: (bump l p c ++ r)
    rw [bump_app l r p c (by simpa using h)]
theorem bump_mid : ∀ (l : List E4) (e : E4) (r : List E4) (c : Nat), bump (l ++ e :: r) l.length c = l ++ inc e c :: r
  | [], e, r, c => rfl
  | x :: l, e, r, c => by
    show x :: bump (l ++ e :: r) l.length c = x :: (l ++ inc e c :: r)
    rw [bump_mid l e r c]
theorem bump_get : ∀ (l : List E4) (p c i : Nat), i < l.length → (bump l p c).getD i e0 = if i = p then inc (l.getD i e0) c else l.getD i e0
  | [], p, c, i, h => absurd h (by simp)
  | e :: l, 0, c, 0, h => rfl
  | e :: l, 0, c, i + 1, h => rfl
  | e :: l, p + 1, c, 0, h => rfl
  | e :: l, p + 1, c, i + 1, h => by
    show (bump l p c).getD i e0 = if i + 1 = p + 1 then inc (l.getD i e0) c else l.getD i e0
    rw [bump_get l p c i (by simpa using h)]
    by_cases q : i = p
    · rw [if_pos q, if_pos (by omega)]
    · rw [if_neg q, if_neg (by omega)]
theorem eApp1 {l m : List E4} {k : Nat} (h : k < l.length) : (l ++ m).getD k e0 = l.getD k e0 := by
  rw [List.getD_eq_getElem?_getD, List.getD_eq_getElem?_getD, List.getElem?_append_left h]
theorem eApp2 {l m : List E4} {k : Nat} (h : l.length ≤ k) : (l ++ m).getD k e0 = m.getD (k - l.length) e0 := by
  rw [List.getD_eq_getElem?_getD, List.getD_eq_getElem?_getD, List.getElem?_append_right h]
theorem add_ok {t l} (h : CT t l) {p : Nat} (hp : p < l.length) (hl : l.length < 16384) (k pl v : Int32) : ∃ t', f_Tree_add t (Jn p) k pl v = some (Jn l.length, t') ∧ CT t' (bump l p 1 ++ [(k, pl, v, 0)]) := by
  obtain ⟨h1, h2, h3⟩ := h
  unfold f_Tree_add
  rw [h1, if_neg J_nneg, if_pos (ltR 16384 hl), if_neg J_nneg, if_neg (J_nle hp)]
  simp only [gd_Jn hl (show 16384 < 2147483648 by omega), gd_Jn (show p < 16384 by omega) (show 16384 < 2147483648 by omega), nm_eq, Jn_cl (show l.length < 2147483648 by omega), Jn_cl (show p < 2147483648 by omega), addL l.length 1, (h3 p hp).2.2.2.1, addL _ 1]
  refine ⟨_, rfl, ?_, ?_, ?_⟩
  · rw [List.length_append, bump_len, List.length_singleton]
  · rw [List.length_append, bump_len, List.length_singleton]; omega
  · intro i hi
    rw [List.length_append, bump_len, List.length_singleton] at hi
    by_cases c : i = l.length
    · subst c
      rw [eApp2 (by rw [bump_len]; exact Nat.le_refl _), bump_len, Nat.sub_self]
      simp only [upd_self]
      exact ⟨rfl, rfl, rfl, rfl, Nat.zero_le _⟩
    · rw [eApp1 (by rw [bump_len]; omega), bump_get _ _ _ _ (by omega), List.length_append, bump_len, List.length_singleton]
      simp only [upd_ne _ _ c]
      obtain ⟨a1, a2, a3, a4, a5⟩ := h3 i (by omega)
      by_cases q : i = p
      · subst q
        rw [if_pos rfl, upd_self]
        exact ⟨a1, a2, a3, rfl, by unfold inc; show (l.getD i e0).2.2.2 + 1 ≤ _; omega⟩
      · rw [if_neg q, upd_ne _ _ q]
        exact ⟨a1, a2, a3, a4, by omega⟩
theorem root_ok {t} (h : t.1 = 0) (k pl v : Int32) : ∃ t', f_Tree_add t (-1) k pl v = some (0, t') ∧ CT t' [(k, pl, v, 0)] := by
  unfold f_Tree_add
  rw [h, if_neg (by decide), if_pos (by decide), if_pos (by decide), show (0 : Int32) = Jn 0 from rfl]
  simp only [gd_Jn (show 0 < 16384 by omega) (show 16384 < 2147483648 by omega), Jn_cl (show 0 < 2147483648 by omega), addL 0 1]
  refine ⟨_, rfl, rfl, by simp, ?_⟩
  intro i hi
  have : i = 0 := by simpa using hi
  subst this
  simp only [upd_self]
  exact ⟨rfl, rfl, rfl, rfl, Nat.zero_le _⟩
theorem wrap_ok {t A S} (h : CT t (A ++ S)) (hS : S ≠ []) (hl : (A ++ S).length < 16384) (k pl v : Int32) : ∃ t', f_Tree_wrap t (Jn A.length) k pl v = some t' ∧ CT t' (A ++ (k, pl, v, 1) :: S) := by
  obtain ⟨h1, h2, h3⟩ := h
  have hS1 : 1 ≤ S.length := by
    cases S with
    | nil => exact absurd rfl hS
    | cons a b => simp
  rw [List.length_append] at hl h1 h2
  unfold f_Tree_wrap f_Tree_has
  have e1 : (1 : Int32) = 0 ↔ False := by decide
  rw [h1, if_neg J_nneg, if_neg (J_nle (by omega)), if_neg (nleL 16384 (by omega)), ob_some, if_neg (by decide), if_pos (ltR 16384 hl), addL _ 1, Jn_sub (by omega), addL _ 1]
  have ac1 : ∀ {β : Type} (K : Option β), ac (Jn A.length) (Jn (A.length + 1)) (Jn (A.length + S.length - A.length)) 16384 16384 K = K := by
    intro β K
    unfold ac
    rw [if_pos]
    rw [Jn_cl (by omega), Jn_cl (by omega), Jn_cl (by omega)]
    exact ⟨J_nneg, J_nneg, J_nneg, by omega, by omega⟩
  simp only [ac1, gd_Jn (show A.length < 16384 by omega) (show 16384 < 2147483648 by omega), Jn_cl (show A.length < 2147483648 by omega), Jn_cl (show A.length + 1 < 2147483648 by omega), Jn_cl (show A.length + S.length - A.length < 2147483648 by omega)]
  refine ⟨_, rfl, ?_, ?_, ?_⟩
  · rw [List.length_append, List.length_cons]; rfl
  · rw [List.length_append, List.length_cons]; omega
  · intro i hi
    rw [List.length_append, List.length_cons] at hi
    by_cases c : i < A.length
    · rw [eApp1 c]
      have := h3 i (by rw [List.length_append]; omega)
      rw [eApp1 c] at this
      simp only [upd_ne _ _ (show i ≠ A.length by omega)]
      unfold va_cpy
      simp only [if_neg (show ¬ (A.length + 1 ≤ i ∧ i < A.length + 1 + (A.length + S.length - A.length)) by omega)]
      rw [List.length_append] at this
      rw [List.length_append, List.length_cons]
      exact ⟨this.1, this.2.1, this.2.2.1, this.2.2.2.1, by have := this.2.2.2.2; omega⟩
    · by_cases q : i = A.length
      · subst q
        rw [eApp2 (Nat.le_refl _), Nat.sub_self]
        simp only [upd_self]
        exact ⟨rfl, rfl, rfl, rfl, by rw [List.length_append, List.length_cons]; show 1 ≤ _; omega⟩
      · rw [eApp2 (by omega)]
        obtain ⟨j, hj⟩ : ∃ j, i = A.length + 1 + j := ⟨i - A.length - 1, by omega⟩
        subst hj
        have := h3 (A.length + j) (by rw [List.length_append]; omega)
        rw [eApp2 (by omega), show A.length + j - A.length = j by omega] at this
        rw [show A.length + 1 + j - A.length = j + 1 by omega]
        simp only [upd_ne _ _ (show A.length + 1 + j ≠ A.length by omega)]
        unfold va_cpy
        simp only [if_pos (show (A.length + 1 ≤ A.length + 1 + j ∧ A.length + 1 + j < A.length + 1 + (A.length + S.length - A.length)) by omega), show A.length + (A.length + 1 + j - (A.length + 1)) = A.length + j by omega]
        rw [List.length_append] at this
        rw [List.length_append, List.length_cons]
        exact ⟨this.1, this.2.1, this.2.2.1, this.2.2.2.1, by have := this.2.2.2.2; show (S.getD j e0).2.2.2 ≤ _; omega⟩
theorem gd_in {β : Type} {a : Int32} {n : Nat} (h0 : ¬ a < 0) (h1 : a < Jn n) (hn : n < 2147483648) (k : Option β) : gd a n k = k := by
  obtain ⟨x, hx, rfl⟩ := Jn_of (Int32.not_lt.mp h0)
  rw [Jn_lt hx hn] at h1
  exact gd_Jn h1 hn k
theorem add_tot (t : S_Tree) (a k pl v : Int32) : ∃ n t', f_Tree_add t a k pl v = some (n, t') := by
  unfold f_Tree_add
  by_cases c1 : t.1 < 0
  · rw [if_pos c1]; exact ⟨_, _, rfl⟩
  · rw [if_neg c1]
    by_cases c2 : t.1 < 16384
    · rw [if_pos c2]
      have g : ∀ {β : Type} (K : Option β), gd t.1 16384 K = K := fun K => gd_in (n := 16384) c1 c2 (by omega) K
      by_cases c3 : a < 0
      · rw [if_pos c3]; simp only [g]; exact ⟨_, _, rfl⟩
      · rw [if_neg c3]
        by_cases c4 : t.1 ≤ a
        · rw [if_pos c4]; simp only [g]; exact ⟨_, _, rfl⟩
        · have g2 : ∀ {β : Type} (K : Option β), gd a 16384 K = K := fun K => gd_in (n := 16384) c3 (Int32.lt_trans (Int32.not_le.mp c4) c2) (by omega) K
          rw [if_neg c4]; simp only [g, g2, nm_eq]; exact ⟨_, _, rfl⟩
    · rw [if_neg c2]; exact ⟨_, _, rfl⟩
theorem wrap_tot (t : S_Tree) (a k pl v : Int32) : ∃ t', f_Tree_wrap t a k pl v = some t' := by
  unfold f_Tree_wrap f_Tree_has
  by_cases c1 : a < 0
  · rw [if_pos c1]; exact ⟨_, rfl⟩
  · rw [if_neg c1]
    by_cases c2 : t.1 ≤ a
    · rw [if_pos c2]; exact ⟨_, rfl⟩
    · rw [if_neg c2]
      by_cases c3 : 16384 ≤ a
      · rw [if_pos c3]; exact ⟨_, rfl⟩
      · rw [if_neg c3, ob_some, if_neg (by decide)]
        by_cases c4 : t.1 < 16384
        · obtain ⟨x, hx, rfl⟩ := Jn_of (Int32.not_lt.mp c1)
          have c2' := Int32.not_le.mp c2
          obtain ⟨y, hy, ey⟩ := Jn_of (x := t.1) (Int32.le_trans (Int32.not_lt.mp c1) (Int32.le_of_lt c2'))
          rw [ey] at c2' c4
          have c4' : y < 16384 := by
            have : Jn y < Jn 16384 := c4
            rwa [Jn_lt hy (by omega)] at this
          rw [Jn_lt hx hy] at c2'
          rw [ey, if_pos c4, addL x 1, Jn_sub (by omega)]
          have ac1 : ∀ {β : Type} (K : Option β), ac (Jn x) (Jn (x + 1)) (Jn (y - x)) 16384 16384 K = K := by
            intro β K
            unfold ac
            rw [if_pos]
            rw [Jn_cl (by omega), Jn_cl (by omega), Jn_cl (by omega)]
            exact ⟨J_nneg, J_nneg, J_nneg, by omega, by omega⟩
          simp only [ac1, gd_Jn (show x < 16384 by omega) (show 16384 < 2147483648 by omega)]
          exact ⟨_, rfl⟩
        · rw [if_neg c4]; exact ⟨_, rfl⟩
end
section
/-! Stacks, runs of the reference's loop, and the parsers' states. -/
def Stk (n : Nat) (c : Int32) (f : Nat → Int32) (ds : List Int32) : Prop := c = Jn ds.length ∧ ds.length ≤ n ∧ Arr f ds.reverse
theorem Stk.push {n c f ds} (h : Stk n c f ds) (x : Int32) (hl : ds.length < n) : Stk n (Jn (ds.length + 1)) (upd f ds.length x) (x :: ds) := by
  refine ⟨by rw [List.length_cons], by rw [List.length_cons]; omega, ?_⟩
  have := h.2.2.snoc x
  rw [List.length_reverse] at this
  rw [List.reverse_cons]; exact this
theorem Stk.pop {n c f x ds} (h : Stk n c f (x :: ds)) : c = Jn (ds.length + 1) ∧ f ds.length = x ∧ Stk n (Jn ds.length) f ds := by
  obtain ⟨h1, h2, h3⟩ := h
  rw [List.length_cons] at h1 h2
  rw [List.reverse_cons] at h3
  refine ⟨h1, ?_, rfl, by omega, h3.pre⟩
  have := h3.suf 0 (by simp)
  rw [List.length_reverse, Nat.add_zero] at this
  exact this
theorem push_ok {U : S_MU} {ds : List Int32} (h : Stk 4000 U.1 U.2 ds) (hl : ds.length < 4000) (x : Int32) : ∃ U', f_Model_push U x = some U' ∧ Stk 4000 U'.1 U'.2 (x :: ds) := by
  unfold f_Model_push
  rw [h.1, gd_Jn hl (by omega), Jn_cl (by omega), addL _ 1]
  exact ⟨_, rfl, h.push x hl⟩
theorem push2_ok {U : S_MU} {ds : List Int32} (h : Stk 4000 U.1 U.2 ds) (hl : ds.length + 1 < 4000) (x y : Int32) : ∃ U', f_Model_push2 U x y = some U' ∧ Stk 4000 U'.1 U'.2 (y :: x :: ds) := by
  unfold f_Model_push2
  obtain ⟨U1, e1, h1⟩ := push_ok h (by omega) x
  obtain ⟨U2, e2, h2⟩ := push_ok h1 (by rw [List.length_cons]; omega) y
  rw [e1, ob_some, e2, ob_some]
  exact ⟨_, rfl, h2⟩
theorem push4_ok {U : S_MU} {ds : List Int32} (h : Stk 4000 U.1 U.2 ds) (hl : ds.length + 3 < 4000) (x y z w : Int32) : ∃ U', f_Model_push4 U x y z w = some U' ∧ Stk 4000 U'.1 U'.2 (w :: z :: y :: x :: ds) := by
  unfold f_Model_push4
  obtain ⟨U1, e1, h1⟩ := push2_ok h (by omega) x y
  obtain ⟨U2, e2, h2⟩ := push2_ok h1 (by rw [List.length_cons, List.length_cons]; omega) z w
  rw [e1, ob_some, e2, ob_some]
  exact ⟨_, rfl, h2⟩
theorem pushE_ok {U : S_MU} {ds : List Int32} (h : Stk 4000 U.1 U.2 ds) (hl : ds.length + 1 < 4000) : ∃ U', f_Model_pushExpression U = some U' ∧ Stk 4000 U'.1 U'.2 (134 :: 137 :: ds) := by
  unfold f_Model_pushExpression
  obtain ⟨U1, e1, h1⟩ := push2_ok h hl 137 134
  rw [e1, ob_some]
  exact ⟨_, rfl, h1⟩
abbrev MSt : Type := S_ML × S_MN × S_MT × S_MU × S_MO × S_ME
def rd (C : S_MC) (mX : S_MX) (n : Nat) (s : MSt) : Option MSt := f_Model_read_L98 C mX n s.1 s.2.1 s.2.2.1 s.2.2.2.1 s.2.2.2.2.1 s.2.2.2.2.2
def RUN (C : S_MC) (mX : S_MX) (k : Nat) (s s' : MSt) : Prop := ∀ n, rd C mX (n + k) s = rd C mX n s'
theorem RUN.refl {C mX s} : RUN C mX 0 s s := fun _ => rfl
theorem RUN.trans {C mX j k s s' s''} (h1 : RUN C mX j s s') (h2 : RUN C mX k s' s'') : RUN C mX (j + k) s s'' := by
  intro n
  rw [show n + (j + k) = (n + k) + j by omega, h1, h2]
theorem RUN.one {C mX} {L : S_ML} {N : S_MN} {T : S_MT} {U : S_MU} {O : S_MO} {E : S_ME} {x : Int32} {ds : List Int32} {s' : MSt} (hf : L.2.2.2.2.2.1 = 0) (hU : Stk 4000 U.1 U.2 (x :: ds)) (h : f_Model_act C mX L N T (Jn ds.length, U.2) O E x = some s') : RUN C mX 1 (L, N, T, U, O, E) s' := by
  intro n
  obtain ⟨u1, u2, u3⟩ := hU.pop
  have hl := hU.2.1
  rw [List.length_cons] at hl
  unfold rd
  dsimp only
  conv => lhs; unfold f_Model_read_L98
  rw [if_pos hf, u1, if_neg (nleR 0 (by omega)), subL 1 (by omega), show ds.length + 1 - 1 = ds.length by omega, gd_Jn (by omega) (by omega), Jn_cl (by omega), u2, h, ob_some]
/-- the tokens that both sides read -/
def LX (C : S_MC) (mX : S_MX) (m : Nat) (kd pl vl : Nat → Int32) (Ls : Nat → S_ML × S_MN) : Prop :=
  (∀ i, i + 1 < m → f_Model_step C mX (Ls i).1 (Ls i).2 = some (Ls (i + 1))) ∧ (∀ i, i < m → TOK kd pl vl i (Ls i).1) ∧ (∀ i, i + 1 < m → kd i ≠ 4 ∧ kd i ≠ 5) ∧ (kd (m - 1) = 4 ∨ kd (m - 1) = 5) ∧ 1 ≤ m ∧ m ≤ 8187
/-- the class's parser, at token i and still well -/
def SP (m : Nat) (kd pl vl : Nat → Int32) (p : S_Parser) (i sg op : Nat) : Prop :=
  i < m ∧ kd i ≠ 5 ∧ ∃ pb fq, p = (Jn i, kd i, pl i, vl i, pb, Jn sg, Jn op, 0, fq) ∧ (0 < i → pb = pl (i - 1))
/-- the class's parser, lost at token i -/
def PD (p : S_Parser) (i : Nat) (td : Int32) : Prop := p.1 = Jn i ∧ (p.2.1 = 5 ∨ p.2.1 = 6) ∧ p.2.2.2.2.2.2.2.1 = td
def tfl (kd vl : Nat → Int32) (i : Nat) (td : Int32) : Int32 := if kd i = 5 then vl i else if td = 0 then 6 else 7
/-- the reference, lost at token i -/
def FL (kd pl vl : Nat → Int32) (s : MSt) (i : Nat) (td : Int32) : Prop := s.1.2.2.2.2.2 = (tfl kd vl i td, pl i) ∧ tfl kd vl i td ≠ 0
def OK (C : S_MC) (mX : S_MX) (m : Nat) (kd pl vl : Nat → Int32) (s0 : MSt) (i0 : Nat) (c F : Int) (p : S_Parser) (W : Nat → MSt → Prop) : Prop :=
  (∃ (i : Nat) (s : MSt) (k : Nat), i0 ≤ i ∧ (k : Int) ≤ 30 * ((i : Int) - i0) + c ∧ RUN C mX k s0 s ∧ W i s) ∨
  (∃ (i : Nat) (td : Int32) (s : MSt) (k : Nat), i0 ≤ i ∧ i < m ∧ (k : Int) ≤ 30 * ((i : Int) - i0) + F ∧ RUN C mX k s0 s ∧ PD p i td ∧ FL kd pl vl s i td)
theorem OK.ret {C mX m kd pl vl s i p} {F : Int} {W : Nat → MSt → Prop} (h : W i s) : OK C mX m kd pl vl s i 0 F p W := Or.inl ⟨i, s, 0, Nat.le_refl _, by omega, RUN.refl, h⟩
theorem OK.seq {C mX m kd pl vl s0 i0} {c F c' F' : Int} {β : Type} {p : S_Parser} {W : Nat → MSt → Prop} {r : Option β} {pr : β → S_Parser} {W' : β → Nat → MSt → Prop}
    (h : OK C mX m kd pl vl s0 i0 c F p W) (hs : ∀ i s, i0 ≤ i → W i s → ∃ b, r = some b ∧ OK C mX m kd pl vl s i c' F' (pr b) (W' b)) (hd : ∀ i td, PD p i td → ∃ b, r = some b ∧ PD (pr b) i td) :
    ∃ b, r = some b ∧ OK C mX m kd pl vl s0 i0 (c + c') (max F (c + F')) (pr b) (W' b) := by
  rcases h with ⟨i, s, k, h1, h2, h3, h4⟩ | ⟨i, td, s, k, h1, hm, h2, h3, h4, h5⟩
  · obtain ⟨b, e, g⟩ := hs i s h1 h4
    refine ⟨b, e, ?_⟩
    rcases g with ⟨i', s', k', g1, g2, g3, g4⟩ | ⟨i', td, s', k', g1, gm, g2, g3, g4, g5⟩
    · exact Or.inl ⟨i', s', k + k', by omega, by omega, h3.trans g3, g4⟩
    · exact Or.inr ⟨i', td, s', k + k', by omega, gm, by omega, h3.trans g3, g4, g5⟩
  · obtain ⟨b, e, g⟩ := hd i td h4
    exact ⟨b, e, Or.inr ⟨i, td, s, k, h1, hm, by omega, h3, g, h5⟩⟩
theorem OK.seqP {C mX m kd pl vl s0 i0} {c F c' F' : Int} {β : Type} {p : S_Parser} {W : Nat → MSt → Prop} {r : Option β} {pr : β → S_Parser} {W' : β → Nat → MSt → Prop}
    (h : OK C mX m kd pl vl s0 i0 c F p W) (hs : ∀ (i : Nat) (s : MSt), i0 ≤ i → (0 : Int) ≤ 30 * ((i : Int) - i0) + c → W i s → ∃ b, r = some b ∧ OK C mX m kd pl vl s i c' F' (pr b) (W' b)) (hd : ∀ i td, PD p i td → ∃ b, r = some b ∧ PD (pr b) i td) :
    ∃ b, r = some b ∧ OK C mX m kd pl vl s0 i0 (c + c') (max F (c + F')) (pr b) (W' b) := by
  rcases h with ⟨i, s, k, h1, h2, h3, h4⟩ | ⟨i, td, s, k, h1, hm, h2, h3, h4, h5⟩
  · obtain ⟨b, e, g⟩ := hs i s h1 (by omega) h4
    refine ⟨b, e, ?_⟩
    rcases g with ⟨i', s', k', g1, g2, g3, g4⟩ | ⟨i', td, s', k', g1, gm, g2, g3, g4, g5⟩
    · exact Or.inl ⟨i', s', k + k', by omega, by omega, h3.trans g3, g4⟩
    · exact Or.inr ⟨i', td, s', k + k', by omega, gm, by omega, h3.trans g3, g4, g5⟩
  · obtain ⟨b, e, g⟩ := hd i td h4
    exact ⟨b, e, Or.inr ⟨i, td, s, k, h1, hm, by omega, h3, g, h5⟩⟩
theorem OK.mono {C mX m kd pl vl s0 i0} {c F c' F' : Int} {p : S_Parser} {W W' : Nat → MSt → Prop} (h : OK C mX m kd pl vl s0 i0 c F p W) (hc : c ≤ c') (hF : F ≤ F') (hw : ∀ i s, i0 ≤ i → W i s → W' i s) : OK C mX m kd pl vl s0 i0 c' F' p W' := by
  rcases h with ⟨i, s, k, h1, h2, h3, h4⟩ | ⟨i, td, s, k, h1, hm, h2, h3, h4, h5⟩
  · exact Or.inl ⟨i, s, k, h1, by omega, h3, hw i s h1 h4⟩
  · exact Or.inr ⟨i, td, s, k, h1, hm, by omega, h3, h4, h5⟩
theorem OK.pre {C mX m kd pl vl s0 s1 i0} {c F : Int} {j : Nat} {p : S_Parser} {W : Nat → MSt → Prop} (h0 : RUN C mX j s0 s1) (h : OK C mX m kd pl vl s1 i0 c F p W) : OK C mX m kd pl vl s0 i0 (c + j) (F + j) p W := by
  rcases h with ⟨i, s, k, h1, h2, h3, h4⟩ | ⟨i, td, s, k, h1, hm, h2, h3, h4, h5⟩
  · exact Or.inl ⟨i, s, j + k, h1, by omega, h0.trans h3, h4⟩
  · exact Or.inr ⟨i, td, s, j + k, h1, hm, by omega, h0.trans h3, h4, h5⟩
/-! A lost parser stays lost. -/
theorem PD.ne {p i td} (h : PD p i td) (k : Int32) (h5 : k ≠ 5) (h6 : k ≠ 6) : ¬ p.2.1 = k := by
  intro e
  rcases h.2.1 with x | x
  · exact h5 (e.symm.trans x)
  · exact h6 (e.symm.trans x)
theorem PD.stop {p i td} (h : PD p i td) : PD (p.1, 6, p.2.2) i td := ⟨h.1, Or.inr rfl, h.2.2⟩
theorem dmb {β γ : Type} {r : Option β} {f : β → Option γ} {Q : β → Prop} {Q' : γ → Prop} (h : ∃ b, r = some b ∧ Q b) (k : ∀ b, Q b → ∃ c, f b = some c ∧ Q' c) : ∃ c, r.bind f = some c ∧ Q' c := by
  obtain ⟨b, e, q⟩ := h
  rw [e, ob_some]; exact k b q
theorem dma {γ : Type} {t : S_Tree} {a k pl v : Int32} {f : Int32 × S_Tree → Option γ} {Q' : γ → Prop} (h : ∀ b, ∃ c, f b = some c ∧ Q' c) : ∃ c, (f_Tree_add t a k pl v).bind f = some c ∧ Q' c := by
  obtain ⟨n, t', e⟩ := add_tot t a k pl v
  rw [e, ob_some]; exact h _
theorem dmw {γ : Type} {t : S_Tree} {a k pl v : Int32} {f : S_Tree → Option γ} {Q' : γ → Prop} (h : ∀ b, ∃ c, f b = some c ∧ Q' c) : ∃ c, (f_Tree_wrap t a k pl v).bind f = some c ∧ Q' c := by
  obtain ⟨t', e⟩ := wrap_tot t a k pl v
  rw [e, ob_some]; exact h _
theorem dm_take {p i td} (h : PD p i td) (tk : S_Tokens) (a : Int32) (ha : a ≠ 5) : ∃ b, f_Parser_take p tk a = some b ∧ PD b i td := by
  unfold f_Parser_take
  by_cases c : p.2.1 = a
  · have c6 : p.2.1 = 6 := by
      rcases h.2.1 with x | x
      · exact absurd (c.symm.trans x) ha
      · exact x
    rw [if_pos c, if_pos c6]
    exact ⟨_, rfl, h.stop⟩
  · rw [if_neg c]
    exact ⟨_, rfl, h.stop⟩
theorem dm_takeName {p i td} (h : PD p i td) (tk : S_Tokens) : ∃ b, f_Parser_takeName p tk = some b ∧ PD b.2 i td := by
  unfold f_Parser_takeName
  exact dmb (dm_take h tk 1 (by decide)) fun b hb => ⟨_, rfl, hb⟩
theorem dm_simpleType {p i td} (h : PD p i td) (tk : S_Tokens) (t : S_Tree) (a : Int32) : ∃ b, f_Parser_simpleType p tk t a = some b ∧ PD b.1 i td := by
  unfold f_Parser_simpleType
  rw [if_neg (h.ne 267 (by decide) (by decide)), if_neg (h.ne 268 (by decide) (by decide)), if_neg (h.ne 269 (by decide) (by decide))]
  exact ⟨_, rfl, h.stop⟩
theorem dm_literal {p i td} (h : PD p i td) (tk : S_Tokens) (t : S_Tree) (a : Int32) : ∃ b, f_Parser_literal p tk t a = some b ∧ PD b.1 i td := by
  unfold f_Parser_literal
  rw [if_neg (h.ne 2 (by decide) (by decide)), if_neg (h.ne 291 (by decide) (by decide)), if_neg (h.ne 292 (by decide) (by decide))]
  exact ⟨_, rfl, h.stop⟩
theorem dm_constant {p i td} (h : PD p i td) (tk : S_Tokens) (t : S_Tree) (a : Int32) : ∃ b, f_Parser_constant p tk t a = some b ∧ PD b.1 i td := by
  unfold f_Parser_constant
  rw [if_neg (h.ne 45 (by decide) (by decide))]
  exact dmb (dm_literal h tk t a) fun b hb => ⟨_, rfl, hb⟩
theorem dm_nameNode {p i td} (h : PD p i td) (tk : S_Tokens) (t : S_Tree) (a : Int32) : ∃ b, f_Parser_nameNode p tk t a = some b ∧ PD b.1 i td := by
  unfold f_Parser_nameNode
  exact dma fun r => dmb (dm_take h tk 1 (by decide)) fun b hb => ⟨_, rfl, hb⟩
theorem dm_takeClosing {p i td} (h : PD p i td) (tk : S_Tokens) (a : Int32) (ha : a ≠ 5) : ∃ b, f_Parser_takeClosing p tk a = some b ∧ PD b i td := by
  unfold f_Parser_takeClosing
  exact dmb (dm_take (p := (p.1, p.2.1, p.2.2.1, p.2.2.2.1, p.2.2.2.2.1, p.2.2.2.2.2.1, p.2.2.2.2.2.2.1 - 1, p.2.2.2.2.2.2.2)) h tk a ha) fun b hb => ⟨_, rfl, hb⟩
theorem dm_takeComma {p i td} (h : PD p i td) (tk : S_Tokens) : f_Parser_takeComma p tk = some (0, p) := by
  unfold f_Parser_takeComma
  rw [if_neg (h.ne 44 (by decide) (by decide))]
theorem dm_type {p i td} (h : PD p i td) (tk : S_Tokens) (t : S_Tree) (a : Int32) : ∃ b, f_Parser_type p tk t a = some b ∧ PD b.1 i td := by
  unfold f_Parser_type
  rw [if_neg (h.ne 1 (by decide) (by decide)), if_neg (h.ne 270 (by decide) (by decide))]
  exact dmb (dm_simpleType h tk t a) fun b hb => ⟨_, rfl, hb⟩
theorem FU1 : FU = 999999 + 1 := rfl
theorem dm_expression {p i td} (h : PD p i td) (tk : S_Tokens) (t : S_Tree) (a l : Int32) (hl : 0 ≤ l) (d : Nat) : ∃ b, (GE (d + 2)).1 p tk t a l = some b ∧ PD b.1 i td := by
  show ∃ b, f_Parser_expression_o (GE (d + 1)).2 (GE (d + 1)).1 p tk t a l = some b ∧ PD b.1 i td
  unfold f_Parser_expression_o
  refine dmb (Q := fun b => PD b.1 i td) ?_ fun b hb => ?_
  · show ∃ b, f_Parser_operand_o (GE d).2 (GE d).1 p tk t a = some b ∧ PD b.1 i td
    unfold f_Parser_operand_o
    rw [if_neg (h.ne 1 (by decide) (by decide)), if_neg (h.ne 40 (by decide) (by decide)), if_neg (h.ne 45 (by decide) (by decide)), if_neg (h.ne 290 (by decide) (by decide))]
    exact dmb (dm_literal h tk t a) fun b hb => ⟨_, rfl, hb⟩
  · rw [FU1]
    unfold f_Parser_expression_o_L16
    have e : f_Sign_operation b.1.2.1 = some (-1) := by
      rcases hb.2.1 with x | x
      · rw [x]; decide
      · rw [x]; decide
    rw [if_neg (by decide), e, ob_some, show f_Sign_binding (-1) = some (-1) by decide, ob_some, if_pos]
    · exact ⟨_, rfl, hb⟩
    · rw [Int32.lt_iff_toInt_lt]
      rw [Int32.le_iff_toInt_le, show (0 : Int32).toInt = 0 by decide] at hl
      rw [show (-1 : Int32).toInt = -1 by decide]
      omega
theorem dm_outermost {p i td} (h : PD p i td) (tk : S_Tokens) (t : S_Tree) (a : Int32) : ∃ b, f_Parser_outermostExpression p tk t a = some b ∧ PD b.1 i td := by
  unfold f_Parser_outermostExpression f_Parser_expression
  exact dmb (dm_expression h tk t a 0 (by decide) 128) fun b hb => ⟨_, rfl, hb⟩
theorem dm_body {p i td} (h : PD p i td) (tk : S_Tokens) (t : S_Tree) (a : Int32) (d : Nat) : ∃ b, GB (d + 1) p tk t a = some b ∧ PD b.1 i td := by
  show ∃ b, f_Parser_body_o (GB d) p tk t a = some b ∧ PD b.1 i td
  unfold f_Parser_body_o
  refine dma fun r => ?_
  have st : f_Parser_statement (GB d) p tk r.2 r.1 = some (0, p, r.2) := by
    unfold f_Parser_statement
    rw [if_neg (h.ne 1 (by decide) (by decide)), if_neg (h.ne 59 (by decide) (by decide)), if_neg (h.ne 272 (by decide) (by decide)), if_neg (h.ne 277 (by decide) (by decide)), if_neg (h.ne 279 (by decide) (by decide)), if_neg (h.ne 284 (by decide) (by decide)), if_neg (h.ne 285 (by decide) (by decide))]
  rw [show FU = 999998 + 1 + 1 from rfl]
  unfold f_Parser_body_o_L21
  rw [if_neg (by decide), if_neg (by decide), st, ob_some]
  dsimp only
  rw [nm_eq]
  unfold f_Parser_body_o_L21
  rw [if_pos rfl]
  exact ⟨_, rfl, h⟩
end
section
/-! A lost parser stays lost: the loops. -/
theorem dm_L22 {p i td} (h : PD p i td) (w : Int32) (tk : S_Tokens) (t : S_Tree) (v : Int32) (f : Nat) : f_Parser_declaration_L22 w tk (f + 1) v p t = some (p, t) := by
  unfold f_Parser_declaration_L22
  rw [if_neg (h.ne 44 (by decide) (by decide))]
  split <;> rfl
theorem dm_startsConstant {p i td} (h : PD p i td) : f_Parser_startsConstant p = some 0 := by
  unfold f_Parser_startsConstant
  rw [if_neg (h.ne 45 (by decide) (by decide)), if_neg (h.ne 2 (by decide) (by decide)), if_neg (h.ne 291 (by decide) (by decide)), if_neg (h.ne 292 (by decide) (by decide))]
theorem dm_L34 {p i td} (h : PD p i td) (fb : S_Parser → S_Tokens → S_Tree → Int32 → Option (S_Parser × S_Tree)) (w : Int32) (tk : S_Tokens) (t : S_Tree) (v : Int32) (f : Nat) : f_Parser_caseStatement_L34 fb w tk (f + 1) v p t = some (p, t) := by
  unfold f_Parser_caseStatement_L34
  rw [dm_startsConstant h, ob_some, if_pos rfl]
  split <;> rfl
theorem dm_L39 {p i td} (h : PD p i td) (fb : S_Parser → S_Tokens → S_Tree → Int32 → Option (S_Parser × S_Tree)) (w : Int32) (tk : S_Tokens) (t : S_Tree) (v : Int32) (f : Nat) : f_Parser_ifStatement_L39 fb w tk (f + 1) v p t = some (p, t) := by
  unfold f_Parser_ifStatement_L39
  rw [if_neg (h.ne 274 (by decide) (by decide))]
  split <;> rfl
theorem dm_L37z {p : S_Parser} (w : Int32) (tk : S_Tokens) (t : S_Tree) (v : Int32) (f : Nat) : f_Parser_invocation_L37 w tk (f + 1) v 0 p t = some (p, t) := by
  unfold f_Parser_invocation_L37
  rw [if_pos rfl]
theorem dm_L37 {p i td} (h : PD p i td) (w : Int32) (tk : S_Tokens) (t : S_Tree) (v : Int32) (f : Nat) : ∃ b, f_Parser_invocation_L37 w tk (f + 1 + 1) v 1 p t = some b ∧ PD b.1 i td := by
  unfold f_Parser_invocation_L37
  rw [if_neg (by decide)]
  split
  · exact ⟨_, rfl, h⟩
  · refine dmb (dm_takeName h tk) fun b hb => dma fun r => dmb (dm_take hb tk 14909 (by decide)) fun c hc => dmb (dm_outermost hc tk _ _) fun d hd => ?_
    rw [dm_takeComma hd, ob_some, nm_eq]
    dsimp only
    rw [dm_L37z]
    exact ⟨_, rfl, hd⟩
theorem dm_L144z {p : S_Parser} (fe : S_Parser → S_Tokens → S_Tree → Int32 → Int32 → Option (S_Parser × S_Tree)) (w : Int32) (tk : S_Tokens) (t : S_Tree) (v : Int32) (f : Nat) : f_Parser_operandByName_L144 fe w tk (f + 1) v 0 p t = some (p, t) := by
  unfold f_Parser_operandByName_L144
  rw [if_pos rfl]
theorem dm_L144 {p i td} (h : PD p i td) (d : Nat) (w : Int32) (tk : S_Tokens) (t : S_Tree) (v : Int32) (f : Nat) : ∃ b, f_Parser_operandByName_L144 (GE (d + 2)).1 w tk (f + 1 + 1) v 1 p t = some b ∧ PD b.1 i td := by
  unfold f_Parser_operandByName_L144
  rw [if_neg (by decide)]
  split
  · exact ⟨_, rfl, h⟩
  · refine dmb (dm_expression h tk t w 0 (by decide) d) fun b hb => ?_
    rw [dm_takeComma hb, ob_some, nm_eq]
    dsimp only
    rw [dm_L144z]
    exact ⟨_, rfl, hb⟩
theorem dm_L4z {p : S_Parser} (w : Int32) (tk : S_Tokens) (t : S_Tree) (v : Int32) (f : Nat) : f_Parser_ranges_L4 w tk (f + 1) v 0 p t = some (p, t) := by
  unfold f_Parser_ranges_L4
  rw [if_pos rfl]
theorem dm_cell {p i td} (h : PD p i td) (tk : S_Tokens) (t : S_Tree) (a : Int32) : ∃ b, f_Parser_cell p tk t a = some b ∧ PD b.1 i td := by
  unfold f_Parser_cell
  rw [if_neg (h.ne 1 (by decide) (by decide)), if_neg (h.ne 40 (by decide) (by decide)), if_neg (h.ne 42 (by decide) (by decide)), if_neg (h.ne 45 (by decide) (by decide)), if_neg (h.ne 47 (by decide) (by decide)), if_neg (h.ne 60 (by decide) (by decide)), if_neg (h.ne 62 (by decide) (by decide))]
  exact ⟨_, rfl, h.stop⟩
theorem dm_startsCell {p i td} (h : PD p i td) : f_Parser_startsCell p = some 0 := by
  unfold f_Parser_startsCell
  rw [if_neg (h.ne 1 (by decide) (by decide)), if_neg (h.ne 40 (by decide) (by decide)), if_neg (h.ne 42 (by decide) (by decide)), if_neg (h.ne 45 (by decide) (by decide)), if_neg (h.ne 47 (by decide) (by decide)), if_neg (h.ne 60 (by decide) (by decide)), if_neg (h.ne 62 (by decide) (by decide))]
theorem dm_L23 {p i td} (h : PD p i td) (w : Int32) (tk : S_Tokens) (t : S_Tree) (v : Int32) (f : Nat) : f_Parser_row_L23 w tk (f + 1) v p t = some (p, t) := by
  unfold f_Parser_row_L23
  rw [if_neg (h.ne 124 (by decide) (by decide)), dm_startsCell h, ob_some, if_pos rfl]
  split <;> rfl
theorem dm_row {p i td} (h : PD p i td) (tk : S_Tokens) (t : S_Tree) (a : Int32) : ∃ b, f_Parser_row p tk t a = some b ∧ PD b.1 i td := by
  unfold f_Parser_row
  refine dma fun r => dmb (dm_cell h tk _ _) fun b hb => ?_
  rw [FU1, dm_L23 hb, ob_some]
  exact dmb (dm_take hb tk 59 (by decide)) fun c hc => ⟨_, rfl, hc⟩
theorem dm_L75 {p i td} (h : PD p i td) (w : Int32) (tk : S_Tokens) (t : S_Tree) (v : Int32) (f : Nat) : f_Parser_ladder_L75 w tk (f + 1) v p t = some (p, t) := by
  unfold f_Parser_ladder_L75
  rw [dm_startsCell h, ob_some, if_pos rfl]
  split <;> rfl
theorem dm_L25 {p i td} (h : PD p i td) (w : Int32) (tk : S_Tokens) (t : S_Tree) (v : Int32) (f : Nat) : f_Parser_ladder_L25 w tk (f + 1) v p t = some (p, t) := by
  unfold f_Parser_ladder_L25
  rw [if_neg (h.ne 295 (by decide) (by decide))]
  split <;> rfl
theorem dm_L49 {p i td} (h : PD p i td) (w : Int32) (tk : S_Tokens) (t : S_Tree) (v : Int32) (f : Nat) : f_Parser_sections_L49 w tk (f + 1) v p t = some (p, t) := by
  unfold f_Parser_sections_L49
  rw [if_neg (h.ne 1 (by decide) (by decide))]
  split <;> rfl
theorem dm_startsSection {p i td} (h : PD p i td) : f_Parser_startsSection p = some 0 := by
  unfold f_Parser_startsSection
  rw [if_neg (h.ne 262 (by decide) (by decide)), if_neg (h.ne 263 (by decide) (by decide)), if_neg (h.ne 264 (by decide) (by decide))]
theorem dm_L2 {p i td} (h : PD p i td) (w : Int32) (tk : S_Tokens) (t : S_Tree) (v : Int32) (f : Nat) : f_Parser_sections_L2 w tk (f + 1) v p t = some (p, t) := by
  unfold f_Parser_sections_L2
  rw [dm_startsSection h, ob_some, if_pos rfl]
  split <;> rfl
theorem dm_sections {p i td} (h : PD p i td) (tk : S_Tokens) (t : S_Tree) (a : Int32) : f_Parser_sections p tk t a = some (p, t) := by
  unfold f_Parser_sections
  rw [FU1, dm_L2 h, ob_some]
theorem dm_startsBlock {p i td} (h : PD p i td) : f_Parser_startsBlock p = some 0 := by
  unfold f_Parser_startsBlock
  rw [if_neg (h.ne 256 (by decide) (by decide)), if_neg (h.ne 258 (by decide) (by decide)), if_neg (h.ne 260 (by decide) (by decide))]
theorem dm_L51 {p i td} (h : PD p i td) (w : Int32) (tk : S_Tokens) (t : S_Tree) (v : Int32) (f : Nat) : f_Parser_parse_L51 w tk (f + 1) v p t = some (p, t) := by
  unfold f_Parser_parse_L51
  rw [dm_startsBlock h, ob_some, if_pos rfl]
  split <;> rfl
end
section
/-! Both trees grow alike. A base: the class's list and the parent's index, the reference's arrays, children, number of nodes, current node, and how many nodes the reference is ahead. -/
abbrev BASE : Type := List E4 × Nat × S_MT × (Nat → List Nat) × Nat × Nat × Nat
def TA (B : BASE) (t : S_Tree) (T : S_MT) (len : Nat) : Prop :=
  ∃ ch new D seg, CT t (bump B.1 B.2.1 new.length ++ seg) ∧ B.2.1 < B.1.length ∧ GT T (B.2.2.2.2.1 + seg.length) ch ∧ T.2.1 = Jn B.2.2.2.2.2.1 ∧ B.2.2.2.2.2.1 < B.2.2.2.2.1 ∧
    (∀ y, y < B.2.2.2.2.1 → ch y = (if y = B.2.2.2.2.2.1 then B.2.2.2.1 y ++ new else B.2.2.2.1 y) ∧ dat T y = dat B.2.2.1 y ∧ par T y = par B.2.2.1 y) ∧
    PreI ch new D ∧ (∀ y, y ∈ D → B.2.2.2.2.1 ≤ y ∧ y < B.2.2.2.2.1 + seg.length) ∧ D.map (ent T ch) = seg ∧ len = B.1.length + seg.length ∧ B.2.2.2.2.1 ≤ B.1.length + B.2.2.2.2.2.2 ∧ B.2.2.2.2.2.2 ≤ 1
def setV (T : S_MT) (x : Nat) (p v : Int32) : S_MT := (T.1, T.2.1, T.2.2.1, upd T.2.2.2.1 x p, upd T.2.2.2.2.1 x v, T.2.2.2.2.2)
theorem map_congr' {α β : Type} {f g : α → β} : ∀ {l : List α}, (∀ x, x ∈ l → f x = g x) → l.map f = l.map g
  | [], _ => rfl
  | x :: l, h => by
    rw [List.map_cons, List.map_cons, h x List.mem_cons_self, map_congr' (fun y hy => h y (List.mem_cons_of_mem _ hy))]
theorem TA_init {L : List E4} {idx : Nat} {T : S_MT} {ch : Nat → List Nat} {N1 z e : Nat} {t : S_Tree} (h1 : CT t L) (h2 : idx < L.length) (h3 : GT T N1 ch) (h4 : T.2.1 = Jn z) (h5 : z < N1) (h6 : N1 ≤ L.length + e) (h7 : e ≤ 1) : TA (L, idx, T, ch, N1, z, e) t T L.length := by
  refine ⟨ch, [], [], [], ?_, h2, h3, h4, h5, ?_, PreI.nil, ?_, rfl, rfl, h6, h7⟩
  · dsimp only
    rw [List.append_nil, List.length_nil, bump_zero]; exact h1
  · intro y hy
    dsimp only
    refine ⟨?_, rfl, rfl⟩
    by_cases c : y = z
    · rw [if_pos c, List.append_nil]
    · rw [if_neg c]
  · intro y hy; cases hy
/-- a node below the current one, whose place and value are set later; then the current one is the new node -/
theorem TA.downX {B t T len} (h : TA B t T len) (hl : len < 16384) (k p0 v0 : Int32) : ∃ T' z A chd, f_Model_down T k p0 v0 = some T' ∧ T'.2.1 = Jn z ∧ z < 20000 ∧ z ≤ len + B.2.2.2.2.2.2 ∧ dat T' z = (k, p0, v0) ∧ par T' z = Jn B.2.2.2.2.2.1 ∧ List.length A = len ∧ GT T' (z + 1) chd ∧ chd z = [] ∧ (∀ k' p v, ∃ t', f_Tree_add t (Jn B.2.1) k' p v = some (Jn len, t') ∧ CT t' (A ++ [(k', p, v, 0)])) ∧
    ∀ p v t2 T2 len2, TA (A ++ [(k, p, v, 0)], len, setV T' z p v, chd, z + 1, z, B.2.2.2.2.2.2) t2 T2 len2 → ∃ T3, f_Model_up T2 = some T3 ∧ TA B t2 T3 len2 := by
  obtain ⟨ch, new, D, seg, h1, h2, h3, h4, h5, h6, h7, h8, h9, h10, h11, h12⟩ := h
  obtain ⟨l1, idx, T1, ch1, N1, z, e⟩ := B
  dsimp only at *
  subst h10
  have hNN : N1 + seg.length < 20000 := by omega
  obtain ⟨Ta, a1, a2, a3, a4, a5, a6⟩ := make_ok h3 hNN k p0 v0
  obtain ⟨Tb, b1, b2, b3, b4, b5, b6⟩ := hang_ok a2 (y := N1 + seg.length) (x := z) (by omega) (by omega) a4
  refine ⟨(Tb.1, Jn (N1 + seg.length), Tb.2.2), N1 + seg.length, bump l1 idx (new.length + 1) ++ seg, updN (updN ch (N1 + seg.length) []) z (updN ch (N1 + seg.length) [] z ++ [N1 + seg.length]), ?_, rfl, hNN, by omega, by show dat Tb _ = _; rw [b6, a5], b4, by rw [List.length_append, bump_len], ?_, ?_, ?_, ?_⟩
  · unfold f_Model_down
    rw [a1, ob_some]
    dsimp only
    rw [a3, h4, b1, ob_some]
  · obtain ⟨rk, g1, g2, g3, g4, g5⟩ := b2
    exact ⟨rk, g1, g2, g3, g4, g5⟩
  · rw [updN_ne _ _ (show N1 + seg.length ≠ z by omega), updN_self]
  · intro k' p v
    obtain ⟨t', c1, c2⟩ := add_ok h1 (p := idx) (by rw [List.length_append, bump_len]; omega) (by rw [List.length_append, bump_len]; omega) k' p v
    rw [List.length_append, bump_len] at c1
    rw [bump_app _ _ _ _ (by rw [bump_len]; exact h2), bump_bump] at c2
    exact ⟨t', c1, c2⟩
  · intro p v t2 T2 len2 hi
    obtain ⟨ch3, new3, D3, seg3, i1, i2, i3, i4, i5, i6, i7, i8, i9, i10, i11, i12⟩ := hi
    dsimp only at *
    have chz : z ≠ N1 + seg.length := by omega
    have chN : updN (updN ch (N1 + seg.length) []) z (updN ch (N1 + seg.length) [] z ++ [N1 + seg.length]) (N1 + seg.length) = [] := by
      rw [updN_ne _ _ (Ne.symm chz), updN_self]
    have chy : ∀ y, y ≠ z → y ≠ N1 + seg.length → updN (updN ch (N1 + seg.length) []) z (updN ch (N1 + seg.length) [] z ++ [N1 + seg.length]) y = ch y := by
      intro y c1 c2
      rw [updN_ne _ _ c1, updN_ne _ _ c2]
    have chzz : updN (updN ch (N1 + seg.length) []) z (updN ch (N1 + seg.length) [] z ++ [N1 + seg.length]) z = ch z ++ [N1 + seg.length] := by
      rw [updN_self, updN_ne _ _ chz]
    have datS : ∀ y, y ≠ N1 + seg.length → dat (setV (Tb.1, Jn (N1 + seg.length), Tb.2.2) (N1 + seg.length) p v) y = dat T y := by
      intro y c
      have : dat (setV (Tb.1, Jn (N1 + seg.length), Tb.2.2) (N1 + seg.length) p v) y = dat Tb y := by
        unfold dat setV
        dsimp only
        rw [upd_ne _ _ c, upd_ne _ _ c]
      rw [this, b6, (a6 y c).2]
    have parS : ∀ y, y ≠ N1 + seg.length → par (setV (Tb.1, Jn (N1 + seg.length), Tb.2.2) (N1 + seg.length) p v) y = par T y := by
      intro y c
      have : par (setV (Tb.1, Jn (N1 + seg.length), Tb.2.2) (N1 + seg.length) p v) y = par Tb y := rfl
      rw [this, b5 y c, (a6 y c).1]
    have parN : par (setV (Tb.1, Jn (N1 + seg.length), Tb.2.2) (N1 + seg.length) p v) (N1 + seg.length) = Jn z := b4
    have datN : dat (setV (Tb.1, Jn (N1 + seg.length), Tb.2.2) (N1 + seg.length) p v) (N1 + seg.length) = (k, p, v) := by
      have hk : (dat Tb (N1 + seg.length)).1 = k := by rw [b6, a5]
      unfold dat setV
      dsimp only
      rw [upd_self, upd_self]
      unfold dat at hk
      dsimp only at hk
      rw [hk]
    have nN := i6 (N1 + seg.length) (by omega)
    rw [if_pos rfl, chN, List.nil_append, parN, datN] at nN
    refine ⟨(T2.1, Jn z, T2.2.2), ?_, ?_⟩
    · unfold f_Model_up
      rw [i4, gd_Jn hNN (by omega), Jn_cl (by omega)]
      have : T2.2.2.2.2.2.1 (N1 + seg.length) = Jn z := nN.2.2
      rw [this]; rfl
    · refine ⟨ch3, new ++ [N1 + seg.length], D ++ (N1 + seg.length) :: D3, seg ++ (k, p, v, new3.length) :: seg3, ?_, h2, ?_, rfl, h5, ?_, ?_, ?_, ?_, ?_, ?_, h12⟩
      · dsimp only
        have el : bump l1 idx (new.length + 1) ++ seg ++ [(k, p, v, 0)] = (bump l1 idx (new.length + 1) ++ seg) ++ (k, p, v, 0) :: [] := rfl
        rw [el, show l1.length + seg.length = (bump l1 idx (new.length + 1) ++ seg).length by rw [List.length_append, bump_len], bump_mid] at i1
        rw [List.length_append, List.length_singleton]
        have : inc (k, p, v, 0) new3.length = (k, p, v, new3.length) := by unfold inc; dsimp only; rw [Nat.zero_add]
        rw [this, List.append_assoc, List.append_assoc] at i1
        exact i1
      · obtain ⟨rk, g1, g2, g3, g4, g5⟩ := i3
        refine ⟨rk, ?_, ?_, ?_, ?_, ?_⟩
        · rw [List.length_append, List.length_cons, show N1 + (seg.length + (seg3.length + 1)) = N1 + seg.length + 1 + seg3.length by omega]; exact g1
        · rw [List.length_append, List.length_cons]; dsimp only; omega
        · rw [List.length_append, List.length_cons, show N1 + (seg.length + (seg3.length + 1)) = N1 + seg.length + 1 + seg3.length by omega]; exact g3
        · rw [List.length_append, List.length_cons, show N1 + (seg.length + (seg3.length + 1)) = N1 + seg.length + 1 + seg3.length by omega]; exact g4
        · rw [List.length_append, List.length_cons, show N1 + (seg.length + (seg3.length + 1)) = N1 + seg.length + 1 + seg3.length by omega]; exact g5
      · intro y hy
        dsimp only at hy ⊢
        obtain ⟨j1, j2, j3⟩ := i6 y (by omega)
        obtain ⟨k1, k2, k3⟩ := h6 y hy
        refine ⟨?_, ?_, ?_⟩
        · rw [j1, if_neg (by omega)]
          by_cases c : y = z
          · subst c
            rw [if_pos rfl] at k1 ⊢
            rw [chzz, k1, List.append_assoc]
          · rw [if_neg c] at k1 ⊢
            rw [chy y c (by omega), k1]
        · show dat T2 y = _
          rw [j2, datS y (by omega), k2]
        · show par T2 y = _
          rw [j3, parS y (by omega), k3]
      · refine PreI.app (PreI.congr ?_ h7) (PreI.one ?_)
        · intro y hy
          have := h8 y hy
          rw [(i6 y (by omega)).1, if_neg (by omega), chy y (by omega) (by omega)]
        · rw [nN.1]; exact i7
      · intro y hy
        rw [List.length_append, List.length_cons]
        rcases List.mem_append.mp hy with hy | hy
        · have := h8 y hy
          dsimp only
          omega
        · rcases List.mem_cons.mp hy with hy | hy
          · subst hy
            dsimp only
            omega
          · have := i8 y hy
            dsimp only
            omega
      · rw [List.map_append, List.map_cons]
        congr 1
        · rw [← h9]
          apply map_congr'
          intro y hy
          have := h8 y hy
          have q1 := (i6 y (by omega)).1
          rw [if_neg (by omega), chy y (by omega) (by omega)] at q1
          unfold ent
          rw [show dat (T2.1, Jn z, T2.2.2) y = dat T2 y from rfl, (i6 y (by omega)).2.1, datS y (by omega), q1]
        · congr 1
          · unfold ent
            rw [show dat (T2.1, Jn z, T2.2.2) (N1 + seg.length) = dat T2 (N1 + seg.length) from rfl, nN.2.1, nN.1]
      · dsimp only
        rw [i10]
        simp only [List.length_append, List.length_cons, List.length_nil, bump_len]
        omega
      · dsimp only
        exact h11
theorem TA.downM {B t T len} (h : TA B t T len) (hl : len < 16384) (k p0 v0 : Int32) : ∃ T' z, f_Model_down T k p0 v0 = some T' ∧ T'.2.1 = Jn z ∧ z < 20000 ∧ dat T' z = (k, p0, v0) ∧ ∀ p v, ∃ t' B', f_Tree_add t (Jn B.2.1) k p v = some (Jn len, t') ∧ B'.2.1 = len ∧ B'.2.2.2.2.2.2 = B.2.2.2.2.2.2 ∧ TA B' t' (setV T' z p v) (len + 1) ∧
    ∀ t2 T2 len2, TA B' t2 T2 len2 → ∃ T3, f_Model_up T2 = some T3 ∧ TA B t2 T3 len2 := by
  have h12 : B.2.2.2.2.2.2 ≤ 1 := by
    obtain ⟨ch, new, D, seg, h1, h2, h3, h4, h5, h6, h7, h8, h9, h10, h11, h12⟩ := h
    exact h12
  obtain ⟨T', z, A, chd, x1, x2, x3, x3', x4, x5, x6, x7, x8, x9, x10⟩ := h.downX hl k p0 v0
  refine ⟨T', z, x1, x2, x3, x4, ?_⟩
  intro p v
  obtain ⟨t', y1, y2⟩ := x9 k p v
  have eL : (A ++ [(k, p, v, 0)]).length = len + 1 := by rw [List.length_append, List.length_singleton, x6]
  have hG : GT (setV T' z p v) (z + 1) chd := by
    obtain ⟨rk, g1, g2, g3, g4, g5⟩ := x7
    exact ⟨rk, g1, g2, g3, g4, g5⟩
  have init := TA_init (idx := len) (e := B.2.2.2.2.2.2) y2 (by rw [eL]; omega) hG (show (setV T' z p v).2.1 = Jn z from x2) (Nat.lt_succ_self z) (by rw [eL]; omega) h12
  rw [eL] at init
  exact ⟨t', (A ++ [(k, p, v, 0)], len, setV T' z p v, chd, z + 1, z, B.2.2.2.2.2.2), y1, rfl, rfl, init, x10 p v⟩
end
