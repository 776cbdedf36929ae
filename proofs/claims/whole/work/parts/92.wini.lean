/-! The words that a new object knows. -/
def sW0 : List Int32 := [70, 85, 78, 67, 84, 73, 79, 78, 32, 69, 78, 68, 95, 70, 85, 78, 67, 84, 73, 79, 78, 32, 70, 85, 78, 67, 84, 73, 79, 78, 95, 66, 76, 79, 67, 75, 32, 69, 78, 68, 95, 70, 85, 78, 67, 84, 73, 79, 78, 95, 66, 76, 79, 67, 75, 32, 80, 82, 79, 71, 82, 65, 77, 32, 69, 78, 68, 95, 80, 82, 79, 71, 82, 65, 77]
def sW1 : List Int32 := [86, 65, 82, 32, 86, 65, 82, 95, 73, 78, 80, 85, 84, 32, 86, 65, 82, 95, 79, 85, 84, 80, 85, 84, 32, 69, 78, 68, 95, 86, 65, 82, 32, 65, 84, 32, 66, 79, 79, 76, 32, 73, 78, 84, 32, 68, 73, 78, 84, 32, 65, 82, 82, 65, 89, 32, 79, 70]
def sW2 : List Int32 := [73, 70, 32, 84, 72, 69, 78, 32, 69, 76, 83, 73, 70, 32, 69, 76, 83, 69, 32, 69, 78, 68, 95, 73, 70, 32, 67, 65, 83, 69, 32, 69, 78, 68, 95, 67, 65, 83, 69]
def sW3 : List Int32 := [70, 79, 82, 32, 84, 79, 32, 66, 89, 32, 68, 79, 32, 69, 78, 68, 95, 70, 79, 82, 32, 69, 88, 73, 84, 32, 82, 69, 84, 85, 82, 78]
def sW4 : List Int32 := [79, 82, 32, 88, 79, 82, 32, 65, 78, 68, 32, 77, 79, 68, 32, 78, 79, 84, 32, 84, 82, 85, 69, 32, 70, 65, 76, 83, 69]
def sW5 : List Int32 := [76, 65, 68, 68, 69, 82, 32, 69, 78, 68, 95, 76, 65, 68, 68, 69, 82, 32, 82, 85, 78, 71, 32, 69, 78, 68, 95, 82, 85, 78, 71]
def awS : List Int32 → List (List Int32) → List Int32 → Option (List (List Int32) × List Int32)
  | [], L, pd => if L.flatten.length + pd.length < 8000 ∧ L.length < 4000 ∧ pd ∉ L then some (L, pd) else none
  | x :: xs, L, pd => if L.flatten.length + pd.length < 8000 ∧ L.length < 4000 then (if x = 32 then (if pd ∈ L then none else awS xs (L ++ [pd]) []) else awS xs L (pd ++ [zGr x])) else none
theorem ni_get {L : List (List Int32)} {pd : List Int32} (h : pd ∉ L) : ∀ i, i < L.length → L.getD i [] ≠ pd := by
  intro i hi e
  apply h
  rw [← e, List.getD_eq_getElem?_getD, List.getElem?_eq_getElem hi]
  exact List.getElem_mem hi
theorem num_new {o : S_Names} {L : List (List Int32)} {pd : List Int32} (h : CN o L pd) (hn : pd ∉ L) (hl : L.length < 4000) (hb : L.flatten.length + pd.length < 8000) : ∃ o' r, f_Names_number o = some (r, o') ∧ CN o' (L ++ [pd]) [] := by
  rcases h.number with ⟨i, h1, h2, _⟩ | ⟨_, h2⟩
  · exact absurd h2 (ni_get hn i h1)
  · obtain ⟨o', a1, a2⟩ := h2 (by omega)
    exact ⟨o', _, a1, a2⟩
theorem aw_ok : ∀ (xs : List Int32) (o : S_Names) (L : List (List Int32)) (pd : List Int32) (L' : List (List Int32)) (pd' : List Int32), CN o L pd → awS xs L pd = some (L', pd') → ∃ o', f_Names_awL xs o = some o' ∧ CN o' L' pd' ∧ pd' ∉ L' ∧ L'.flatten.length + pd'.length < 8000 ∧ L'.length < 4000
  | [], o, L, pd, L', pd', h, e => by
    rw [awS] at e
    by_cases c : L.flatten.length + pd.length < 8000 ∧ L.length < 4000 ∧ pd ∉ L
    · rw [if_pos c] at e
      injection e with e
      injection e with e1 e2
      subst e1
      subst e2
      exact ⟨o, rfl, h, c.2.2, c.1, c.2.1⟩
    · rw [if_neg c] at e
      cases e
  | x :: xs, o, L, pd, L', pd', h, e => by
    rw [awS] at e
    by_cases c : L.flatten.length + pd.length < 8000 ∧ L.length < 4000
    · rw [if_pos c] at e
      rw [f_Names_awL]
      by_cases c2 : x = 32
      · rw [if_pos c2] at e ⊢
        by_cases c3 : pd ∈ L
        · rw [if_pos c3] at e
          cases e
        · rw [if_neg c3] at e
          obtain ⟨o1, r, a1, a2⟩ := num_new h c3 c.2 c.1
          rw [a1, ob_some]
          exact aw_ok xs o1 _ _ L' pd' a2 e
      · rw [if_neg c2] at e ⊢
        obtain ⟨o1, a1, a2⟩ := h.addLetter x (by omega)
        rw [a1, ob_some]
        exact aw_ok xs o1 _ _ L' pd' a2 e
    · rw [if_neg c] at e
      cases e
theorem addWords_ok {bs : List Int32} {o : S_Names} {L L' : List (List Int32)} {pd' : List Int32} (h : CN o L []) (e : awS bs L [] = some (L', pd')) : ∃ o', f_Names_addWords bs o = some o' ∧ CN o' (L' ++ [pd']) [] := by
  obtain ⟨o1, a1, a2, a3, a4, a5⟩ := aw_ok bs o L [] L' pd' h e
  obtain ⟨o2, r, b1, b2⟩ := num_new a2 a3 a5 a4
  unfold f_Names_addWords
  rw [a1, ob_some, b1, ob_some]
  exact ⟨o2, rfl, b2⟩
theorem cnt0 : ∀ n, cntN n (fun _ => 0) = 0
  | 0 => rfl
  | n + 1 => by rw [cntN, cnt0 n, if_pos rfl]
def zN : S_Names := (0, 0, fun _ => 0, fun _ => 0, fun _ => 0, fun _ => 0)
theorem CN0 : CN zN [] [] := by
  refine ⟨rfl, by decide, by decide, rfl, fun k hk => absurd hk (by simp), fun i hi => (by have e : i = 0 := Nat.le_zero.mp hi; subst e; rfl), cnt0 8192, fun s _ => Or.inl rfl, fun i hi => absurd hi (by simp)⟩
def f_Names_init : Option S_Names := (f_Names_addWords sW0 zN).bind fun o1 => (f_Names_addWords sW1 o1).bind fun o2 => (f_Names_addWords sW2 o2).bind fun o3 => (f_Names_addWords sW3 o3).bind fun o4 => (f_Names_addWords sW4 o4).bind fun o5 => f_Names_addWords sW5 o5
theorem awE0 : awS sW0 (WS.take 0) [] = some (WS.take 5, WS.getD 5 []) := by decide +kernel
theorem awT0 : WS.take 5 ++ [WS.getD 5 []] = WS.take 6 := by decide +kernel
theorem awE1 : awS sW1 (WS.take 6) [] = some (WS.take 15, WS.getD 15 []) := by decide +kernel
theorem awT1 : WS.take 15 ++ [WS.getD 15 []] = WS.take 16 := by decide +kernel
theorem awE2 : awS sW2 (WS.take 16) [] = some (WS.take 22, WS.getD 22 []) := by decide +kernel
theorem awT2 : WS.take 22 ++ [WS.getD 22 []] = WS.take 23 := by decide +kernel
theorem awE3 : awS sW3 (WS.take 23) [] = some (WS.take 29, WS.getD 29 []) := by decide +kernel
theorem awT3 : WS.take 29 ++ [WS.getD 29 []] = WS.take 30 := by decide +kernel
theorem awE4 : awS sW4 (WS.take 30) [] = some (WS.take 36, WS.getD 36 []) := by decide +kernel
theorem awT4 : WS.take 36 ++ [WS.getD 36 []] = WS.take 37 := by decide +kernel
theorem awE5 : awS sW5 (WS.take 37) [] = some (WS.take 40, WS.getD 40 []) := by decide +kernel
theorem awT5 : WS.take 40 ++ [WS.getD 40 []] = WS.take 41 := by decide +kernel
theorem names_init : ∃ o, f_Names_init = some o ∧ CN o WS [] := by
  obtain ⟨o1, a1, b1⟩ := addWords_ok (L := WS.take 0) CN0 awE0
  rw [awT0] at b1
  obtain ⟨o2, a2, b2⟩ := addWords_ok b1 awE1
  rw [awT1] at b2
  obtain ⟨o3, a3, b3⟩ := addWords_ok b2 awE2
  rw [awT2] at b3
  obtain ⟨o4, a4, b4⟩ := addWords_ok b3 awE3
  rw [awT3] at b4
  obtain ⟨o5, a5, b5⟩ := addWords_ok b4 awE4
  rw [awT4] at b5
  obtain ⟨o6, a6, b6⟩ := addWords_ok b5 awE5
  rw [awT5] at b6
  rw [show WS.take 41 = WS from rfl] at b6
  refine ⟨o6, ?_, b6⟩
  unfold f_Names_init
  rw [a1, ob_some, a2, ob_some, a3, ob_some, a4, ob_some, a5, ob_some, a6]
theorem asc_all {l : List Int32} (h : l.all (fun x => decide (x.toNatClampNeg < 128) && decide (x = Int32.ofNat x.toNatClampNeg)) = true) : ∀ x, x ∈ l → ∃ k : Nat, k < 128 ∧ x = Int32.ofNat k := by
  intro x hx
  have := List.all_eq_true.mp h x hx
  simp only [Bool.and_eq_true, decide_eq_true_eq] at this
  exact ⟨_, this.1, this.2⟩
theorem ascW0 : ∀ x, x ∈ sW0 → ∃ k : Nat, k < 128 ∧ x = Int32.ofNat k := asc_all (by decide +kernel)
theorem ascW1 : ∀ x, x ∈ sW1 → ∃ k : Nat, k < 128 ∧ x = Int32.ofNat k := asc_all (by decide +kernel)
theorem ascW2 : ∀ x, x ∈ sW2 → ∃ k : Nat, k < 128 ∧ x = Int32.ofNat k := asc_all (by decide +kernel)
theorem ascW3 : ∀ x, x ∈ sW3 → ∃ k : Nat, k < 128 ∧ x = Int32.ofNat k := asc_all (by decide +kernel)
theorem ascW4 : ∀ x, x ∈ sW4 → ∃ k : Nat, k < 128 ∧ x = Int32.ofNat k := asc_all (by decide +kernel)
theorem ascW5 : ∀ x, x ∈ sW5 → ∃ k : Nat, k < 128 ∧ x = Int32.ofNat k := asc_all (by decide +kernel)
