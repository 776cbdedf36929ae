/-! Words for what a method computes: an Option, none where the machine would leave the road (an index out of its row, a division by 0, no fuel). -/
def FU : Nat := 1000000
def nm {α β : Type} (a : α) (f : α → Option β) : Option β := f a
def gd {β : Type} (i : Int32) (n : Nat) (k : Option β) : Option β := if ¬ (i < 0 ∨ n ≤ i.toNatClampNeg) then k else none
def dz {β : Type} (y : Int32) (k : Option β) : Option β := if y = 0 then none else k
def ac {β : Type} (sp dp n : Int32) (n0 n1 : Nat) (k : Option β) : Option β := if ¬ sp < 0 ∧ ¬ dp < 0 ∧ ¬ n < 0 ∧ sp.toNatClampNeg + n.toNatClampNeg ≤ n0 ∧ dp.toNatClampNeg + n.toNatClampNeg ≤ n1 then k else none
theorem nm_use {α β : Type} {a x : α} {f : α → Option β} {r : β} (e : x = a) (h : nm a f = some r) : f x = some r := by subst e; exact h
theorem gd_use {β : Type} {i : Int32} {n : Nat} {k : Option β} {r : β} (h : gd i n k = some r) : vp_in i n ∧ k = some r := by
  unfold gd at h
  by_cases c : ¬ (i < 0 ∨ n ≤ i.toNatClampNeg)
  · rw [if_pos c] at h; exact ⟨c, h⟩
  · rw [if_neg c] at h; cases h
theorem dz_use {β : Type} {y : Int32} {k : Option β} {r : β} (h : dz y k = some r) : ¬ y = 0 ∧ k = some r := by
  unfold dz at h
  by_cases c : y = 0
  · rw [if_pos c] at h; cases h
  · rw [if_neg c] at h; exact ⟨c, h⟩
theorem ac_use {β : Type} {sp dp n : Int32} {n0 n1 : Nat} {k : Option β} {r : β} (h : ac sp dp n n0 n1 k = some r) : ¬ sp < 0 ∧ ¬ dp < 0 ∧ ¬ n < 0 ∧ sp.toNatClampNeg + n.toNatClampNeg ≤ n0 ∧ dp.toNatClampNeg + n.toNatClampNeg ≤ n1 ∧ k = some r := by
  unfold ac at h
  by_cases c : ¬ sp < 0 ∧ ¬ dp < 0 ∧ ¬ n < 0 ∧ sp.toNatClampNeg + n.toNatClampNeg ≤ n0 ∧ dp.toNatClampNeg + n.toNatClampNeg ≤ n1
  · rw [if_pos c] at h; exact ⟨c.1, c.2.1, c.2.2.1, c.2.2.2.1, c.2.2.2.2, h⟩
  · rw [if_neg c] at h; cases h
theorem ob_use {α β : Type} {x : Option α} {f : α → Option β} {t : β} (h : x.bind f = some t) : ∃ r, x = some r ∧ f r = some t := by
  cases x with
  | none => cases h
  | some r => exact ⟨r, rfl, h⟩
theorem if_t {β : Type} {c : Prop} {dc : Decidable c} {a b x : β} (hc : c) (h : (if c then a else b) = x) : a = x := by rw [if_pos hc] at h; exact h
theorem if_f {β : Type} {c : Prop} {dc : Decidable c} {a b x : β} (hc : ¬ c) (h : (if c then a else b) = x) : b = x := by rw [if_neg hc] at h; exact h
theorem sw_hit {x k : Int32} {a o d : Int} {r : List (Int × Int)} (h : x = k) (hk : k.toInt = a) : Op.lookupswitch.offset ((a, o) :: r) d x.toInt = o := by
  rw [Op.lookupswitch.offset_cons, if_pos]
  rw [h, hk]
/-- some cells of a world by others, place for place -/
def va_rep : va_W → List Nat → va_W → va_W
  | w, i :: is, x :: xs => va_rep (w.set i x) is xs
  | w, _, _ => w
theorem va_rep_get : ∀ (is : List Nat) (xs w : va_W) (k : Nat) (q : Nat × va_E), (va_rep w is xs)[k]? = some q → (∃ j : Nat, xs[j]? = some q) ∨ (w[k]? = some q ∧ k ∉ is.take xs.length)
  | [], xs, w, k, q, h => Or.inr ⟨by simpa [va_rep] using h, by simp⟩
  | _ :: _, [], w, k, q, h => Or.inr ⟨by simpa [va_rep] using h, by simp⟩
  | i :: is, x :: xs, w, k, q, h => by
    rcases va_rep_get is xs (w.set i x) k q h with ⟨j, hj⟩ | ⟨h1, h2⟩
    · exact Or.inl ⟨j + 1, by simpa using hj⟩
    · by_cases e : k = i
      · subst e
        rw [List.getElem?_set] at h1
        by_cases hl : k < w.length
        · simp [hl] at h1
          exact Or.inl ⟨0, by simp [h1]⟩
        · simp [hl] at h1
      · rw [List.getElem?_set_ne (Ne.symm e)] at h1
        refine Or.inr ⟨h1, ?_⟩
        simp only [List.length_cons, List.take_succ_cons, List.mem_cons, not_or]
        exact ⟨e, h2⟩
theorem va_D.fst {A : Nat → Prop} {w w' : va_W} (hD : va_D A w) (h : w'.map Prod.fst = w.map Prod.fst) : va_D A w' := by
  have key : ∀ (k : Nat) (q : Nat × va_E), w'[k]? = some q → ∃ q', w[k]? = some q' ∧ q'.1 = q.1 := by
    intro k q hq
    have h1 : (w'.map Prod.fst)[k]? = some q.1 := by rw [List.getElem?_map, hq]; rfl
    rw [h, List.getElem?_map] at h1
    cases hw : w[k]? with
    | none => rw [hw] at h1; cases h1
    | some q' => rw [hw] at h1; exact ⟨q', rfl, Option.some.inj h1⟩
  refine ⟨fun i j p q hi hj e => ?_, fun k q hk => ?_⟩
  · obtain ⟨p', a1, a2⟩ := key i p hi
    obtain ⟨q', b1, b2⟩ := key j q hj
    exact hD.1 i j p' q' a1 b1 (by rw [a2, b2, e])
  · obtain ⟨q', a1, a2⟩ := key k q hk
    have := hD.2 k q' a1
    rw [a2] at this
    exact this
theorem va_rep_P {A : Nat → Prop} {D : va_G} {cl : List vw_C} {w wc w1 : va_W} {H H1 : Heap} (hP : va_P D cl w H) (hD : va_D A w) (isC : List Nat) (hC : isC.map (fun i => w[i]?) = wc.map some) (hlen : w1.length = wc.length)
    (hk : ∀ q : Nat, q < H.size → ¬ va_A wc H.size q → H1[q]? = H[q]?) (hP1 : va_P D cl w1 H1) : va_P D cl (va_rep w isC w1) H1 := by
  intro k q hq
  rcases va_rep_get isC w1 w k q hq with ⟨j, hj⟩ | ⟨h1, h2⟩
  · exact hP1 j q hj
  · have hlt := (hP k q h1).lt
    refine (hP k q h1).kept (hk q.1 hlt ?_)
    rintro (⟨k2, e, h⟩ | h)
    · have h3 : (isC.map (fun i => w[i]?))[k2]? = some (some (q.1, e)) := by rw [hC, List.getElem?_map, h]; rfl
      rw [List.getElem?_map] at h3
      cases hi : isC[k2]? with
      | none => rw [hi] at h3; cases h3
      | some i =>
        rw [hi] at h3
        have h4 : w[i]? = some (q.1, e) := Option.some.inj h3
        have h5 := hD.1 k i q (q.1, e) h1 h4 rfl
        subst h5
        apply h2
        have hl2 : isC.length = wc.length := by have := congrArg List.length hC; simpa using this
        rw [hlen, ← hl2, List.take_length]
        exact List.mem_of_getElem? hi
    · omega
theorem mxF {fr fa fN a N : Nat} (h1 : fa + 1 ≤ a) (h2 : fN + 1 ≤ N) : max (fr + fa) fN + 1 ≤ max (fr + a) N := by omega
theorem mxL {lo la lN a N c : Nat} (h1 : c + la ≤ a) (h2 : c + lN ≤ N) : c + max (lo + la) lN ≤ max (lo + a) N := by omega
theorem mxF0 {fr a N : Nat} (h : 1 ≤ a) : fr + 1 ≤ max (fr + a) N := by omega
theorem mxL0 {lo a N c : Nat} (h : c ≤ a) : c + lo ≤ max (lo + a) N := by omega
theorem mxN {x k a N : Nat} (h : k ≤ N) : k ≤ max (x + a) N := by omega
