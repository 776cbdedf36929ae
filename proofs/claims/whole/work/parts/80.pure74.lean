section
/-! The class's writer: what its tables say of each kind. -/
theorem ob_id {α : Type} (x : Option α) : (x.bind fun r => some r) = x := by cases x <;> rfl
def b01 (b : Bool) : Int32 := if b then 1 else 0
def KT (nn : Nat) (k v : Int32) : Prop :=
  (f_Writer_firstToken k v = some (fstc k v)) ∧
  (f_Writer_nextToken k v = some (nxtc k v)) ∧
  (f_Writer_lastToken k = some (lstc k)) ∧
  (f_Writer_bearsName k = some (b01 (bears k))) ∧
  (f_Writer_endsBySemicolon k = some (b01 (semi k))) ∧
  (tkOK (fstc k v)) ∧
  (tkOK (nxtc k v)) ∧
  (tkOK (lstc k)) ∧
  (bears k = true → nmd nn v) ∧
  (k = 30 → numV v) ∧
  (k = 7 → ∃ a : Nat, v = Jn a ∧ a < 1536) ∧
  (k = 35 → ∃ j : Nat, v = Jn j ∧ j < 14) ∧
  (k = 35 → fstc k v = -1)
theorem KT.first {nn : Nat} {k v : Int32} (h : KT nn k v) : f_Writer_firstToken k v = some (fstc k v) := h.1
theorem KT.next {nn : Nat} {k v : Int32} (h : KT nn k v) : f_Writer_nextToken k v = some (nxtc k v) := h.2.1
theorem KT.last {nn : Nat} {k v : Int32} (h : KT nn k v) : f_Writer_lastToken k = some (lstc k) := h.2.2.1
theorem KT.nam {nn : Nat} {k v : Int32} (h : KT nn k v) : f_Writer_bearsName k = some (b01 (bears k)) := h.2.2.2.1
theorem KT.sem {nn : Nat} {k v : Int32} (h : KT nn k v) : f_Writer_endsBySemicolon k = some (b01 (semi k)) := h.2.2.2.2.1
theorem KT.of {nn : Nat} {k v : Int32} (h : KT nn k v) : tkOK (fstc k v) := h.2.2.2.2.2.1
theorem KT.on {nn : Nat} {k v : Int32} (h : KT nn k v) : tkOK (nxtc k v) := h.2.2.2.2.2.2.1
theorem KT.ol {nn : Nat} {k v : Int32} (h : KT nn k v) : tkOK (lstc k) := h.2.2.2.2.2.2.2.1
theorem KT.vn {nn : Nat} {k v : Int32} (h : KT nn k v) : bears k = true → nmd nn v := h.2.2.2.2.2.2.2.2.1
theorem KT.v30 {nn : Nat} {k v : Int32} (h : KT nn k v) : k = 30 → numV v := h.2.2.2.2.2.2.2.2.2.1
theorem KT.v7 {nn : Nat} {k v : Int32} (h : KT nn k v) : k = 7 → ∃ a : Nat, v = Jn a ∧ a < 1536 := h.2.2.2.2.2.2.2.2.2.2.1
theorem KT.v35 {nn : Nat} {k v : Int32} (h : KT nn k v) : k = 35 → ∃ j : Nat, v = Jn j ∧ j < 14 := h.2.2.2.2.2.2.2.2.2.2.2.1
theorem KT.v9 {nn : Nat} {k v : Int32} (h : KT nn k v) : k = 35 → fstc k v = -1 := h.2.2.2.2.2.2.2.2.2.2.2.2
theorem tkNone : tkOK (-1) := Or.inl rfl
theorem tkSgn {K : Int32} (h1 : (4 : Int32) ≤ K) (h2 : K ≤ 255) : tkOK K := Or.inr (Or.inl ⟨h1, h2⟩)
theorem tkWrd (i : Nat) (h : i < 41) : tkOK (Jn (256 + i)) := Or.inr (Or.inr (Or.inl ⟨i, h, rfl⟩))
theorem tkTwo {K : Int32} (h : (297 : Int32) ≤ K) : tkOK K := Or.inr (Or.inr (Or.inr h))
theorem tk_dec {K : Int32} (h : K = -1 ∨ (4 ≤ K ∧ K ≤ 255) ∨ (256 ≤ K ∧ K < 297) ∨ 297 ≤ K) : tkOK K := by
  rcases h with h | h | ⟨h1, h2⟩ | h
  · exact Or.inl h
  · exact Or.inr (Or.inl h)
  · obtain ⟨a, ha, rfl⟩ := Jn_of (x := K) (Int32.le_trans (by decide) h1)
    have h1' : 256 ≤ a := by have : Jn 256 ≤ Jn a := h1; rw [Jn_le (by omega) ha] at this; exact this
    have h2' : a < 297 := by have : Jn a < Jn 297 := h2; rw [Jn_lt ha (by omega)] at this; exact this
    exact Or.inr (Or.inr (Or.inl ⟨a - 256, by omega, by rw [show 256 + (a - 256) = a by omega]⟩))
  · exact Or.inr (Or.inr (Or.inr h))
theorem kindT {nn : Nat} {k v : Int32} {ks : List Int32} (h : LOC nn k v ks) : KT nn k v := by
  apply LOC.elim (motive := fun k v _ => KT nn k v) (h := h)
  · intros
    exact ⟨rfl, rfl, rfl, rfl, rfl, tk_dec (by decide), tk_dec (by decide), tk_dec (by decide), (fun h => absurd h (by decide)), (fun h => absurd h (by decide)), (fun h => absurd h (by decide)), (fun h => absurd h (by decide)), (fun h => absurd h (by decide))⟩
  · intros
    exact ⟨rfl, rfl, rfl, rfl, rfl, tkWrd 0 (by decide), tk_dec (K := 58) (by decide), tkWrd 1 (by decide), fun _ => ‹_›, (fun h => absurd h (by decide)), (fun h => absurd h (by decide)), (fun h => absurd h (by decide)), (fun h => absurd h (by decide))⟩
  · intros
    exact ⟨rfl, rfl, rfl, rfl, rfl, tkWrd 2 (by decide), tkNone, tkWrd 3 (by decide), fun _ => ‹_›, (fun h => absurd h (by decide)), (fun h => absurd h (by decide)), (fun h => absurd h (by decide)), (fun h => absurd h (by decide))⟩
  · intros
    exact ⟨rfl, rfl, rfl, rfl, rfl, tkWrd 4 (by decide), tkNone, tkWrd 5 (by decide), fun _ => ‹_›, (fun h => absurd h (by decide)), (fun h => absurd h (by decide)), (fun h => absurd h (by decide)), (fun h => absurd h (by decide))⟩
  · intros
    rename_i h
    rcases h with rfl | rfl | rfl
    · exact ⟨rfl, rfl, rfl, rfl, rfl, tkWrd 6 (by decide), tkNone, tkWrd 9 (by decide), (fun h => absurd h (by decide)), (fun h => absurd h (by decide)), (fun h => absurd h (by decide)), (fun h => absurd h (by decide)), (fun h => absurd h (by decide))⟩
    · exact ⟨rfl, rfl, rfl, rfl, rfl, tkWrd 7 (by decide), tkNone, tkWrd 9 (by decide), (fun h => absurd h (by decide)), (fun h => absurd h (by decide)), (fun h => absurd h (by decide)), (fun h => absurd h (by decide)), (fun h => absurd h (by decide))⟩
    · exact ⟨rfl, rfl, rfl, rfl, rfl, tkWrd 8 (by decide), tkNone, tkWrd 9 (by decide), (fun h => absurd h (by decide)), (fun h => absurd h (by decide)), (fun h => absurd h (by decide)), (fun h => absurd h (by decide)), (fun h => absurd h (by decide))⟩
  · intros
    exact ⟨rfl, rfl, rfl, rfl, rfl, tkNone, tkNone, tkNone, (fun h => absurd h (by decide)), (fun h => absurd h (by decide)), (fun h => absurd h (by decide)), (fun h => absurd h (by decide)), (fun h => absurd h (by decide))⟩
  · intros
    exact ⟨rfl, rfl, rfl, rfl, rfl, tkNone, tkNone, tkNone, fun _ => ‹_›, (fun h => absurd h (by decide)), (fun h => absurd h (by decide)), (fun h => absurd h (by decide)), (fun h => absurd h (by decide))⟩
  · intros
    exact ⟨rfl, rfl, rfl, rfl, rfl, tkNone, tkNone, tkNone, (fun h => absurd h (by decide)), (fun h => absurd h (by decide)), fun _ => ‹_›, (fun h => absurd h (by decide)), (fun h => absurd h (by decide))⟩
  · intros
    rename_i h
    rcases h with rfl | rfl | rfl
    · exact ⟨rfl, rfl, rfl, rfl, rfl, tkWrd 11 (by decide), tkNone, tkNone, (fun h => absurd h (by decide)), (fun h => absurd h (by decide)), (fun h => absurd h (by decide)), (fun h => absurd h (by decide)), (fun h => absurd h (by decide))⟩
    · exact ⟨rfl, rfl, rfl, rfl, rfl, tkWrd 12 (by decide), tkNone, tkNone, (fun h => absurd h (by decide)), (fun h => absurd h (by decide)), (fun h => absurd h (by decide)), (fun h => absurd h (by decide)), (fun h => absurd h (by decide))⟩
    · exact ⟨rfl, rfl, rfl, rfl, rfl, tkWrd 13 (by decide), tkNone, tkNone, (fun h => absurd h (by decide)), (fun h => absurd h (by decide)), (fun h => absurd h (by decide)), (fun h => absurd h (by decide)), (fun h => absurd h (by decide))⟩
  · intros
    exact ⟨rfl, rfl, rfl, rfl, rfl, tkWrd 14 (by decide), tk_dec (K := 91) (by decide), tkNone, (fun h => absurd h (by decide)), (fun h => absurd h (by decide)), (fun h => absurd h (by decide)), (fun h => absurd h (by decide)), (fun h => absurd h (by decide))⟩
  · intros
    exact ⟨rfl, rfl, rfl, rfl, rfl, tkNone, tkNone, tkNone, fun _ => ‹_›, (fun h => absurd h (by decide)), (fun h => absurd h (by decide)), (fun h => absurd h (by decide)), (fun h => absurd h (by decide))⟩
  · intros
    exact ⟨rfl, rfl, rfl, rfl, rfl, tkNone, tkNone, tkNone, (fun h => absurd h (by decide)), (fun h => absurd h (by decide)), (fun h => absurd h (by decide)), (fun h => absurd h (by decide)), (fun h => absurd h (by decide))⟩
  · intros
    exact ⟨rfl, rfl, rfl, rfl, rfl, tkNone, tkNone, tkNone, (fun h => absurd h (by decide)), (fun h => absurd h (by decide)), (fun h => absurd h (by decide)), (fun h => absurd h (by decide)), (fun h => absurd h (by decide))⟩
  · intros
    exact ⟨rfl, rfl, rfl, rfl, rfl, tkNone, tk_dec (K := 40) (by decide), tk_dec (K := 41) (by decide), fun _ => ‹_›, (fun h => absurd h (by decide)), (fun h => absurd h (by decide)), (fun h => absurd h (by decide)), (fun h => absurd h (by decide))⟩
  · intros
    exact ⟨rfl, rfl, rfl, rfl, rfl, tkNone, tk_dec (K := 14909) (by decide), tkNone, fun _ => ‹_›, (fun h => absurd h (by decide)), (fun h => absurd h (by decide)), (fun h => absurd h (by decide)), (fun h => absurd h (by decide))⟩
  · intros
    exact ⟨rfl, rfl, rfl, rfl, rfl, tkWrd 16 (by decide), tkNone, tkWrd 20 (by decide), (fun h => absurd h (by decide)), (fun h => absurd h (by decide)), (fun h => absurd h (by decide)), (fun h => absurd h (by decide)), (fun h => absurd h (by decide))⟩
  · intros
    exact ⟨rfl, rfl, rfl, rfl, rfl, tkWrd 21 (by decide), tkNone, tkWrd 22 (by decide), (fun h => absurd h (by decide)), (fun h => absurd h (by decide)), (fun h => absurd h (by decide)), (fun h => absurd h (by decide)), (fun h => absurd h (by decide))⟩
  · intros
    exact ⟨rfl, rfl, rfl, rfl, rfl, tkNone, tkNone, tkNone, (fun h => absurd h (by decide)), (fun h => absurd h (by decide)), (fun h => absurd h (by decide)), (fun h => absurd h (by decide)), (fun h => absurd h (by decide))⟩
  · intros
    exact ⟨rfl, rfl, rfl, rfl, rfl, tkNone, tkNone, tkNone, (fun h => absurd h (by decide)), (fun h => absurd h (by decide)), (fun h => absurd h (by decide)), (fun h => absurd h (by decide)), (fun h => absurd h (by decide))⟩
  · intros
    exact ⟨rfl, rfl, rfl, rfl, rfl, tkNone, tkNone, tkNone, (fun h => absurd h (by decide)), (fun h => absurd h (by decide)), (fun h => absurd h (by decide)), (fun h => absurd h (by decide)), (fun h => absurd h (by decide))⟩
  · intros
    exact ⟨rfl, rfl, rfl, rfl, rfl, tkWrd 23 (by decide), tk_dec (K := 14909) (by decide), tkWrd 27 (by decide), fun _ => ‹_›, (fun h => absurd h (by decide)), (fun h => absurd h (by decide)), (fun h => absurd h (by decide)), (fun h => absurd h (by decide))⟩
  · intros
    exact ⟨rfl, rfl, rfl, rfl, rfl, tkWrd 23 (by decide), tk_dec (K := 14909) (by decide), tkWrd 27 (by decide), fun _ => ‹_›, (fun h => absurd h (by decide)), (fun h => absurd h (by decide)), (fun h => absurd h (by decide)), (fun h => absurd h (by decide))⟩
  · intros
    exact ⟨rfl, rfl, rfl, rfl, rfl, tkWrd 28 (by decide), tkNone, tkNone, (fun h => absurd h (by decide)), (fun h => absurd h (by decide)), (fun h => absurd h (by decide)), (fun h => absurd h (by decide)), (fun h => absurd h (by decide))⟩
  · intros
    exact ⟨rfl, rfl, rfl, rfl, rfl, tkWrd 29 (by decide), tkNone, tkNone, (fun h => absurd h (by decide)), (fun h => absurd h (by decide)), (fun h => absurd h (by decide)), (fun h => absurd h (by decide)), (fun h => absurd h (by decide))⟩
  · intros
    exact ⟨rfl, rfl, rfl, rfl, rfl, tkWrd 37 (by decide), tkNone, tkWrd 38 (by decide), (fun h => absurd h (by decide)), (fun h => absurd h (by decide)), (fun h => absurd h (by decide)), (fun h => absurd h (by decide)), (fun h => absurd h (by decide))⟩
  · intros
    exact ⟨rfl, rfl, rfl, rfl, rfl, tkWrd 39 (by decide), tkNone, tkWrd 40 (by decide), (fun h => absurd h (by decide)), (fun h => absurd h (by decide)), (fun h => absurd h (by decide)), (fun h => absurd h (by decide)), (fun h => absurd h (by decide))⟩
  · intros
    exact ⟨rfl, rfl, rfl, rfl, rfl, tkNone, tkNone, tkNone, (fun h => absurd h (by decide)), (fun h => absurd h (by decide)), (fun h => absurd h (by decide)), (fun h => absurd h (by decide)), (fun h => absurd h (by decide))⟩
  · intros
    rename_i h
    rcases h with rfl | rfl | rfl | rfl
    · exact ⟨rfl, rfl, rfl, rfl, rfl, tkNone, tkNone, tkNone, (fun h => absurd h (by decide)), (fun h => absurd h (by decide)), (fun h => absurd h (by decide)), (fun h => absurd h (by decide)), (fun h => absurd h (by decide))⟩
    · exact ⟨rfl, rfl, rfl, rfl, rfl, tk_dec (K := 47) (by decide), tkNone, tkNone, (fun h => absurd h (by decide)), (fun h => absurd h (by decide)), (fun h => absurd h (by decide)), (fun h => absurd h (by decide)), (fun h => absurd h (by decide))⟩
    · exact ⟨rfl, rfl, rfl, rfl, rfl, tk_dec (K := 62) (by decide), tkNone, tkNone, (fun h => absurd h (by decide)), (fun h => absurd h (by decide)), (fun h => absurd h (by decide)), (fun h => absurd h (by decide)), (fun h => absurd h (by decide))⟩
    · exact ⟨rfl, rfl, rfl, rfl, rfl, tk_dec (K := 60) (by decide), tkNone, tkNone, (fun h => absurd h (by decide)), (fun h => absurd h (by decide)), (fun h => absurd h (by decide)), (fun h => absurd h (by decide)), (fun h => absurd h (by decide))⟩
  · intros
    exact ⟨rfl, rfl, rfl, rfl, rfl, tk_dec (K := 45) (by decide), tkNone, tkNone, (fun h => absurd h (by decide)), (fun h => absurd h (by decide)), (fun h => absurd h (by decide)), (fun h => absurd h (by decide)), (fun h => absurd h (by decide))⟩
  · intros
    exact ⟨rfl, rfl, rfl, rfl, rfl, tk_dec (K := 42) (by decide), tkNone, tkNone, (fun h => absurd h (by decide)), (fun h => absurd h (by decide)), (fun h => absurd h (by decide)), (fun h => absurd h (by decide)), (fun h => absurd h (by decide))⟩
  · intros
    rename_i h
    rcases h with rfl | rfl | rfl | rfl
    · exact ⟨rfl, rfl, rfl, rfl, rfl, tk_dec (K := 40) (by decide), tkNone, tk_dec (K := 41) (by decide), (fun h => absurd h (by decide)), (fun h => absurd h (by decide)), (fun h => absurd h (by decide)), (fun h => absurd h (by decide)), (fun h => absurd h (by decide))⟩
    · exact ⟨rfl, rfl, rfl, rfl, rfl, tk_dec (K := 40) (by decide), tk_dec (K := 47) (by decide), tk_dec (K := 41) (by decide), (fun h => absurd h (by decide)), (fun h => absurd h (by decide)), (fun h => absurd h (by decide)), (fun h => absurd h (by decide)), (fun h => absurd h (by decide))⟩
    · exact ⟨rfl, rfl, rfl, rfl, rfl, tk_dec (K := 40) (by decide), tk_dec (K := 43) (by decide), tk_dec (K := 41) (by decide), (fun h => absurd h (by decide)), (fun h => absurd h (by decide)), (fun h => absurd h (by decide)), (fun h => absurd h (by decide)), (fun h => absurd h (by decide))⟩
    · exact ⟨rfl, rfl, rfl, rfl, rfl, tk_dec (K := 40) (by decide), tk_dec (K := 45) (by decide), tk_dec (K := 41) (by decide), (fun h => absurd h (by decide)), (fun h => absurd h (by decide)), (fun h => absurd h (by decide)), (fun h => absurd h (by decide)), (fun h => absurd h (by decide))⟩
  · intros
    exact ⟨rfl, rfl, rfl, rfl, rfl, tk_dec (K := 124) (by decide), tkNone, tkNone, (fun h => absurd h (by decide)), (fun h => absurd h (by decide)), (fun h => absurd h (by decide)), (fun h => absurd h (by decide)), (fun h => absurd h (by decide))⟩
  · intros
    exact ⟨rfl, rfl, rfl, rfl, rfl, tkNone, tkNone, tkNone, (fun h => absurd h (by decide)), fun _ => ‹_›, (fun h => absurd h (by decide)), (fun h => absurd h (by decide)), (fun h => absurd h (by decide))⟩
  · intros
    rename_i h
    rcases h with rfl | rfl
    · exact ⟨rfl, rfl, rfl, rfl, rfl, tkWrd 36 (by decide), tkNone, tkNone, (fun h => absurd h (by decide)), (fun h => absurd h (by decide)), (fun h => absurd h (by decide)), (fun h => absurd h (by decide)), (fun h => absurd h (by decide))⟩
    · exact ⟨rfl, rfl, rfl, rfl, rfl, tkWrd 35 (by decide), tkNone, tkNone, (fun h => absurd h (by decide)), (fun h => absurd h (by decide)), (fun h => absurd h (by decide)), (fun h => absurd h (by decide)), (fun h => absurd h (by decide))⟩
  · intros
    exact ⟨rfl, rfl, rfl, rfl, rfl, tkNone, tk_dec (K := 91) (by decide), tk_dec (K := 93) (by decide), fun _ => ‹_›, (fun h => absurd h (by decide)), (fun h => absurd h (by decide)), (fun h => absurd h (by decide)), (fun h => absurd h (by decide))⟩
  · intros
    exact ⟨rfl, rfl, rfl, rfl, rfl, tkNone, tk_dec (K := 46) (by decide), tkNone, fun _ => ‹_›, (fun h => absurd h (by decide)), (fun h => absurd h (by decide)), (fun h => absurd h (by decide)), (fun h => absurd h (by decide))⟩
  · intros
    exact ⟨rfl, rfl, rfl, rfl, rfl, tkNone, tk_dec (K := 40) (by decide), tk_dec (K := 41) (by decide), fun _ => ‹_›, (fun h => absurd h (by decide)), (fun h => absurd h (by decide)), (fun h => absurd h (by decide)), (fun h => absurd h (by decide))⟩
  · intros
    exact ⟨rfl, rfl, rfl, rfl, rfl, tkNone, tkNone, tkNone, (fun h => absurd h (by decide)), (fun h => absurd h (by decide)), (fun h => absurd h (by decide)), fun _ => ‹_›, fun _ => rfl⟩
  · intros
    rename_i h
    rcases h with rfl | rfl
    · exact ⟨rfl, rfl, rfl, rfl, rfl, tk_dec (K := 45) (by decide), tkNone, tkNone, (fun h => absurd h (by decide)), (fun h => absurd h (by decide)), (fun h => absurd h (by decide)), (fun h => absurd h (by decide)), (fun h => absurd h (by decide))⟩
    · exact ⟨rfl, rfl, rfl, rfl, rfl, tkWrd 34 (by decide), tkNone, tkNone, (fun h => absurd h (by decide)), (fun h => absurd h (by decide)), (fun h => absurd h (by decide)), (fun h => absurd h (by decide)), (fun h => absurd h (by decide))⟩
/-- separators -/
def SPT (K k : Int32) (i : Nat) : Prop :=
  (f_Writer_separator K k (Jn i) = some (sepc K k i)) ∧
  (tkOK (sepc K k i))
theorem SPT.sep {K k : Int32} {i : Nat} (h : SPT K k i) : f_Writer_separator K k (Jn i) = some (sepc K k i) := h.1
theorem SPT.ok {K k : Int32} {i : Nat} (h : SPT K k i) : tkOK (sepc K k i) := h.2
theorem bhd {i : Nat} (hi : i < 16384) (x : Int32) : f_Writer_behindFirst (Jn i) x = some (if i = 0 then -1 else x) := by
  unfold f_Writer_behindFirst
  by_cases c : i = 0
  · rw [if_pos (leR 0 (by omega)), if_pos c]
  · rw [if_neg (nleR 0 (by omega)), if_neg c]
theorem SPT.none {K k : Int32} {i : Nat} (h1 : f_Writer_separator K k (Jn i) = some (-1)) (h2 : sepc K k i = -1) : SPT K k i := ⟨by rw [h2]; exact h1, by rw [h2]; exact tkNone⟩
theorem st_bhd {K k x : Int32} {i : Nat} (hi : i < 16384) (hx : tkOK x) (h1 : f_Writer_separator K k (Jn i) = (f_Writer_behindFirst (Jn i) x).bind fun r => some r) (h2 : sepc K k i = if i = 0 then -1 else x) : SPT K k i := by
  refine ⟨by rw [h1, ob_id, bhd hi, h2], ?_⟩
  rw [h2]
  split
  · exact tkNone
  · exact hx
theorem odd_i {i : Nat} (hi : i < 16384) : (Jn i - Jn i / 2 * 2 = 1) = (i % 2 = 1) := by
  rw [show (2 : Int32) = Jn 2 from rfl, Jn_div (by omega) (by omega), Jn_mul, Jn_sub (by omega), show i - i / 2 * 2 = i % 2 by omega]
  exact Jn_eq (b := 1) (by omega) (by omega)
theorem kindS {nn : Nat} {K V : Int32} {ks : List Int32} (h : LOC nn K V ks) (k : Int32) {i : Nat} (hi : i < 16384) : SPT K k i := by
  apply LOC.elim (motive := fun K _ _ => SPT K k i) (h := h)
  · intros
    exact SPT.none rfl rfl
  · intros
    exact SPT.none rfl rfl
  · intros
    exact SPT.none rfl rfl
  · intros
    exact SPT.none rfl rfl
  · intros
    exact SPT.none rfl rfl
  · intros
    have e1 : f_Writer_separator 5 k (Jn i) = f_Writer_separatorInDeclaration k (Jn i) := by
      show (f_Writer_separatorInDeclaration k (Jn i)).bind (fun r => some r) = _
      rw [ob_id]
    have e2 : sepc 5 k i = (if k = 6 then (if i = 0 then -1 else 44) else if k = 7 then 266 else if k = 30 then 14909 else if k = 31 then 14909 else 58) := rfl
    rw [← show Jn 266 = (266 : Int32) from rfl] at e2
    unfold f_Writer_separatorInDeclaration at e1
    rw [bhd hi] at e1
    by_cases c6 : k = 6
    · rw [if_pos c6] at e1 e2
      refine ⟨by rw [e1, e2]; rfl, ?_⟩
      rw [e2]
      split
      · exact tkNone
      · exact tk_dec (by decide)
    · rw [if_neg c6] at e1 e2
      by_cases c7 : k = 7
      · rw [if_pos c7] at e1 e2
        exact ⟨by rw [e1, e2]; rfl, by rw [e2]; exact tkWrd 10 (by decide)⟩
      · rw [if_neg c7] at e1 e2
        by_cases c30 : k = 30
        · rw [if_pos c30] at e1 e2
          exact ⟨by rw [e1, e2], by rw [e2]; exact tk_dec (by decide)⟩
        · rw [if_neg c30] at e1 e2
          by_cases c31 : k = 31
          · rw [if_pos c31] at e1 e2
            exact ⟨by rw [e1, e2], by rw [e2]; exact tk_dec (by decide)⟩
          · rw [if_neg c31] at e1 e2
            exact ⟨by rw [e1, e2], by rw [e2]; exact tk_dec (by decide)⟩
  · intros
    exact SPT.none rfl rfl
  · intros
    exact SPT.none rfl rfl
  · intros
    exact SPT.none rfl rfl
  · intros
    have e1 : f_Writer_separator 9 k (Jn i) = (if Jn i = 0 then some (-1) else if Jn i = 1 then some 11822 else some 271) := rfl
    have e2 : sepc 9 k i = (if i = 0 then -1 else if i = 1 then 11822 else Jn 271) := rfl
    by_cases c0 : i = 0
    · rw [if_pos (eqR 0 c0)] at e1
      rw [if_pos c0] at e2
      exact SPT.none e1 e2
    · rw [if_neg (neR 0 c0)] at e1
      rw [if_neg c0] at e2
      by_cases c1 : i = 1
      · rw [if_pos (eqR 1 c1)] at e1
        rw [if_pos c1] at e2
        exact ⟨by rw [e1, e2], by rw [e2]; exact tk_dec (by decide)⟩
      · rw [if_neg (neR 1 c1)] at e1
        rw [if_neg c1] at e2
        exact ⟨by rw [e1, e2]; rfl, by rw [e2]; exact tkWrd 15 (by decide)⟩
  · intros
    exact SPT.none rfl rfl
  · intros
    exact SPT.none rfl rfl
  · intros
    exact st_bhd hi (x := 14909) (tk_dec (by decide)) rfl rfl
  · intros
    exact st_bhd hi (x := 44) (tk_dec (by decide)) rfl rfl
  · intros
    exact SPT.none rfl rfl
  · intros
    have e1 : f_Writer_separator 15 k (Jn i) = f_Writer_separatorInIf k (Jn i) := by
      show (f_Writer_separatorInIf k (Jn i)).bind (fun r => some r) = _
      rw [ob_id]
    have e2 : sepc 15 k i = (if i % 2 = 1 then Jn 273 else if i = 0 then -1 else if k = 11 then Jn 275 else Jn 274) := rfl
    unfold f_Writer_separatorInIf at e1
    rw [bhd hi, bhd hi] at e1
    by_cases co : i % 2 = 1
    · rw [if_pos (by rw [odd_i hi]; exact co)] at e1
      rw [if_pos co] at e2
      exact ⟨by rw [e1, e2]; rfl, by rw [e2]; exact tkWrd 17 (by decide)⟩
    · rw [if_neg (by rw [odd_i hi]; exact co)] at e1
      rw [if_neg co] at e2
      by_cases c0 : i = 0
      · rw [if_pos c0, if_pos c0] at e1
        rw [if_pos c0] at e2
        refine SPT.none ?_ e2
        rw [e1]
        split <;> rfl
      · rw [if_neg c0, if_neg c0] at e1
        rw [if_neg c0] at e2
        by_cases ck : k = 11
        · rw [if_pos ck] at e1 e2
          exact ⟨by rw [e1, e2]; rfl, by rw [e2]; exact tkWrd 19 (by decide)⟩
        · rw [if_neg ck] at e1 e2
          exact ⟨by rw [e1, e2]; rfl, by rw [e2]; exact tkWrd 18 (by decide)⟩
  · intros
    have e1 : f_Writer_separator 16 k (Jn i) = (if k = 11 then some 275 else some (-1)) := rfl
    have e2 : sepc 16 k i = (if k = 11 then Jn 275 else -1) := rfl
    by_cases ck : k = 11
    · rw [if_pos ck] at e1 e2
      exact ⟨by rw [e1, e2]; rfl, by rw [e2]; exact tkWrd 19 (by decide)⟩
    · rw [if_neg ck] at e1 e2
      exact SPT.none e1 e2
  · intros
    have e1 : f_Writer_separator 17 k (Jn i) = (if k = 11 then some 58 else (f_Writer_behindFirst (Jn i) 44).bind fun r => some r) := rfl
    have e2 : sepc 17 k i = (if k = 11 then 58 else if i = 0 then -1 else 44) := rfl
    by_cases ck : k = 11
    · rw [if_pos ck] at e1 e2
      exact ⟨by rw [e1, e2], by rw [e2]; exact tk_dec (by decide)⟩
    · rw [if_neg ck] at e1 e2
      exact st_bhd hi (x := 44) (tk_dec (by decide)) e1 e2
  · intros
    exact st_bhd hi (x := 11822) (tk_dec (by decide)) rfl rfl
  · intros
    exact st_bhd hi (x := 11822) (tk_dec (by decide)) rfl rfl
  · intros
    have e1 : f_Writer_separator 19 k (Jn i) = (f_Writer_separatorInFor k (Jn i)).bind fun r => some r := rfl
    have e2 : sepc 19 k i = (if k = 11 then Jn 282 else if i = 0 then -1 else if i = 1 then Jn 280 else Jn 281) := rfl
    rw [ob_id] at e1
    unfold f_Writer_separatorInFor at e1
    rw [bhd hi, bhd hi] at e1
    by_cases ck : k = 11
    · rw [if_pos ck] at e1 e2
      exact ⟨by rw [e1, e2]; rfl, by rw [e2]; exact tkWrd 26 (by decide)⟩
    · rw [if_neg ck] at e1 e2
      by_cases c0 : i = 0
      · rw [if_neg (neR 1 (by omega)), if_pos c0] at e1
        rw [if_pos c0] at e2
        exact SPT.none e1 e2
      · rw [if_neg c0, if_neg c0] at e1
        rw [if_neg c0] at e2
        by_cases c1 : i = 1
        · rw [if_pos (eqR 1 c1)] at e1
          rw [if_pos c1] at e2
          exact ⟨by rw [e1, e2]; rfl, by rw [e2]; exact tkWrd 24 (by decide)⟩
        · rw [if_neg (neR 1 c1)] at e1
          rw [if_neg c1] at e2
          exact ⟨by rw [e1, e2]; rfl, by rw [e2]; exact tkWrd 25 (by decide)⟩
  · intros
    have e1 : f_Writer_separator 19 k (Jn i) = (f_Writer_separatorInFor k (Jn i)).bind fun r => some r := rfl
    have e2 : sepc 19 k i = (if k = 11 then Jn 282 else if i = 0 then -1 else if i = 1 then Jn 280 else Jn 281) := rfl
    rw [ob_id] at e1
    unfold f_Writer_separatorInFor at e1
    rw [bhd hi, bhd hi] at e1
    by_cases ck : k = 11
    · rw [if_pos ck] at e1 e2
      exact ⟨by rw [e1, e2]; rfl, by rw [e2]; exact tkWrd 26 (by decide)⟩
    · rw [if_neg ck] at e1 e2
      by_cases c0 : i = 0
      · rw [if_neg (neR 1 (by omega)), if_pos c0] at e1
        rw [if_pos c0] at e2
        exact SPT.none e1 e2
      · rw [if_neg c0, if_neg c0] at e1
        rw [if_neg c0] at e2
        by_cases c1 : i = 1
        · rw [if_pos (eqR 1 c1)] at e1
          rw [if_pos c1] at e2
          exact ⟨by rw [e1, e2]; rfl, by rw [e2]; exact tkWrd 24 (by decide)⟩
        · rw [if_neg (neR 1 c1)] at e1
          rw [if_neg c1] at e2
          exact ⟨by rw [e1, e2]; rfl, by rw [e2]; exact tkWrd 25 (by decide)⟩
  · intros
    exact SPT.none rfl rfl
  · intros
    exact SPT.none rfl rfl
  · intros
    exact SPT.none rfl rfl
  · intros
    exact SPT.none rfl rfl
  · intros
    exact SPT.none rfl rfl
  · intros
    exact SPT.none rfl rfl
  · intros
    exact SPT.none rfl rfl
  · intros
    exact SPT.none rfl rfl
  · intros
    exact SPT.none rfl rfl
  · intros
    exact SPT.none rfl rfl
  · intros
    exact SPT.none rfl rfl
  · intros
    exact SPT.none rfl rfl
  · intros
    exact SPT.none rfl rfl
  · intros
    exact SPT.none rfl rfl
  · intros
    exact st_bhd hi (x := 44) (tk_dec (by decide)) rfl rfl
  · intros
    exact SPT.none rfl rfl
  · intros
    exact SPT.none rfl rfl
theorem kindS0 (k : Int32) (i : Nat) : SPT (-1) k i := SPT.none rfl rfl
end
section
/-! The class's writer: before a node, at its beginning, at its end. -/
/-- what the class's tree says of node n -/
def ND (t : S_Tree) (n : Nat) (k v : Int32) (m : Nat) (P : Int32) (i : Nat) : Prop :=
  (f_Tree_kind t (Jn n) = some k) ∧
  (f_Tree_value t (Jn n) = some v) ∧
  (f_Tree_children t (Jn n) = some (Jn m)) ∧
  (f_Tree_parent t (Jn n) = some P) ∧
  (f_Tree_rank t (Jn n) = some (Jn i)) ∧
  (m ≤ 16384) ∧
  (i < 16384)
theorem ND.kind {t : S_Tree} {n : Nat} {k v : Int32} {m : Nat} {P : Int32} {i : Nat} (h : ND t n k v m P i) : f_Tree_kind t (Jn n) = some k := h.1
theorem ND.val {t : S_Tree} {n : Nat} {k v : Int32} {m : Nat} {P : Int32} {i : Nat} (h : ND t n k v m P i) : f_Tree_value t (Jn n) = some v := h.2.1
theorem ND.cnt {t : S_Tree} {n : Nat} {k v : Int32} {m : Nat} {P : Int32} {i : Nat} (h : ND t n k v m P i) : f_Tree_children t (Jn n) = some (Jn m) := h.2.2.1
theorem ND.par {t : S_Tree} {n : Nat} {k v : Int32} {m : Nat} {P : Int32} {i : Nat} (h : ND t n k v m P i) : f_Tree_parent t (Jn n) = some P := h.2.2.2.1
theorem ND.rnk {t : S_Tree} {n : Nat} {k v : Int32} {m : Nat} {P : Int32} {i : Nat} (h : ND t n k v m P i) : f_Tree_rank t (Jn n) = some (Jn i) := h.2.2.2.2.1
theorem ND.hm {t : S_Tree} {n : Nat} {k v : Int32} {m : Nat} {P : Int32} {i : Nat} (h : ND t n k v m P i) : m ≤ 16384 := h.2.2.2.2.2.1
theorem ND.hi {t : S_Tree} {n : Nat} {k v : Int32} {m : Nat} {P : Int32} {i : Nat} (h : ND t n k v m P i) : i < 16384 := h.2.2.2.2.2.2
/-- and of what is above it -/
def NU (nn : Nat) (t : S_Tree) (P K V : Int32) : Prop :=
  (f_Tree_kind t P = some K) ∧
  (f_Tree_value t P = some V) ∧
  ((K = -1) ∨ ∃ ks, LOC nn K V ks)
theorem NU.kind {nn : Nat} {t : S_Tree} {P K V : Int32} (h : NU nn t P K V) : f_Tree_kind t P = some K := h.1
theorem NU.val {nn : Nat} {t : S_Tree} {P K V : Int32} (h : NU nn t P K V) : f_Tree_value t P = some V := h.2.1
theorem NU.loc {nn : Nat} {t : S_Tree} {P K V : Int32} (h : NU nn t P K V) : (K = -1) ∨ ∃ ks, LOC nn K V ks := h.2.2
theorem NU.sep {nn : Nat} {t : S_Tree} {P K V : Int32} (h : NU nn t P K V) (k : Int32) {i : Nat} (hi : i < 16384) : SPT K k i := by
  rcases h.loc with c | ⟨ks, c⟩
  · subst c; exact kindS0 k i
  · exact kindS c k hi
theorem bind14 {v : Int32} (h : ∃ j : Nat, v = Jn j ∧ j < 14) : f_Sign_binding v = some (bindN v) ∧ f_Sign_between v = some (betw v) ∧ tkOK (betw v) := by
  obtain ⟨j, rfl, hj⟩ := h
  have key : ∀ j : Fin 14, f_Sign_binding (Jn j.1) = some (bindN (Jn j.1)) ∧ f_Sign_between (Jn j.1) = some (betw (Jn j.1)) ∧ (betw (Jn j.1) = -1 ∨ (4 ≤ betw (Jn j.1) ∧ betw (Jn j.1) ≤ 255) ∨ (256 ≤ betw (Jn j.1) ∧ betw (Jn j.1) < 297) ∨ 297 ≤ betw (Jn j.1)) := by decide +kernel
  obtain ⟨a, b, c⟩ := key ⟨j, hj⟩
  exact ⟨a, b, tk_dec c⟩
theorem isB {nn n m i : Nat} {t : S_Tree} {v P K V : Int32} (h : ND t n 35 v m P i) (hu : NU nn t P K V) (hv : ∃ j : Nat, v = Jn j ∧ j < 14) : f_Writer_isBracketed t (Jn n) = some (if brk K V i 35 v then 1 else 0) := by
  unfold f_Writer_isBracketed
  rw [h.par, ob_some, hu.kind, ob_some]
  by_cases c35 : K = 35
  · have hV : ∃ j : Nat, V = Jn j ∧ j < 14 := by
      rcases hu.loc with c | ⟨ks, c⟩
      · rw [c] at c35; exact absurd c35 (by decide)
      · exact (kindT c).v35 c35
    rw [if_pos c35, h.val, ob_some, (bind14 hv).1, ob_some, hu.val, ob_some, (bind14 hV).1, ob_some]
    have n36 : ¬ K = 36 := by rw [c35]; decide
    by_cases c1 : bindN v < bindN V
    · rw [if_pos c1, if_pos ⟨rfl, Or.inr ⟨c35, Or.inl c1⟩⟩]
    · rw [if_neg c1]
      by_cases c2 : bindN V = bindN v
      · rw [if_pos c2, h.rnk, ob_some]
        by_cases c3 : i = 1
        · rw [if_pos (eqR 1 c3), if_pos ⟨rfl, Or.inr ⟨c35, Or.inr ⟨c2.symm, c3⟩⟩⟩]
        · rw [if_neg (neR 1 c3 (by have := h.hi; omega)), if_neg]
          rintro ⟨_, x | ⟨_, x | ⟨_, x⟩⟩⟩
          · exact n36 x
          · exact c1 x
          · exact c3 x
      · rw [if_neg c2, if_neg]
        rintro ⟨_, x | ⟨_, x | ⟨x, _⟩⟩⟩
        · exact n36 x
        · exact c1 x
        · exact c2 x.symm
  · rw [if_neg c35, ob_some]
    by_cases c36 : K = 36
    · rw [if_pos c36, if_pos ⟨rfl, Or.inl c36⟩]
    · rw [if_neg c36, if_neg]
      rintro ⟨_, x | ⟨x, _⟩⟩
      · exact c36 x
      · exact c35 x
/-- tokens in a row -/
theorem sgOne {K : Int32} (h : K ≠ -1) : sgT K = [(K, 0)] := if_neg h
section
variable {nn n m i : Nat} {t : S_Tree} {k v P K V : Int32} {cn : S_Names} {ns : List (List Int32)}
theorem sep_c (hw : CNW cn ns) (h : ND t n k v m P i) (hu : NU nn t P K V) : EMc ns (fun o => f_Writer_separate t cn o (Jn n)) (sepT K V i k) := by
  obtain ⟨hs, ho⟩ := hu.sep k h.hi
  have T := token_c hw ho
  unfold sepT
  have hi := h.hi
  by_cases c9 : K = 9
  · have n16 : ¬ K = 16 := by rw [c9]; decide
    have n35 : ¬ K = 35 := by rw [c9]; decide
    rw [if_neg (show ¬ (K = 16 ∧ i = 1) from fun x => n16 x.1), if_neg (show ¬ (K = 35 ∧ i = 1) from fun x => n35 x.1), List.nil_append, List.nil_append]
    by_cases c2 : i = 2
    · rw [if_pos ⟨c9, c2⟩]
      refine EMc.cong ((token_c hw (K := 93) (tk_dec (by decide))).seq T) fun o => ?_
      unfold f_Writer_separate
      rw [h.rnk, ob_some, h.par, ob_some, hu.kind, ob_some, if_pos c9, if_pos (eqR 2 c2)]
      simp only [if_neg n16, if_neg n35, h.kind, ob_some, hs, ob_id]
    · rw [if_neg (fun x => c2 x.2), List.nil_append]
      refine EMc.cong T fun o => ?_
      unfold f_Writer_separate
      rw [h.rnk, ob_some, h.par, ob_some, hu.kind, ob_some, if_pos c9, if_neg (neR 2 c2)]
      simp only [if_neg n16, if_neg n35, h.kind, ob_some, hs, ob_id]
  · rw [if_neg (fun x => c9 x.1), List.nil_append]
    by_cases c16 : K = 16
    · have n35 : ¬ K = 35 := by rw [c16]; decide
      rw [if_neg (show ¬ (K = 35 ∧ i = 1) from fun x => n35 x.1), List.nil_append]
      by_cases c1 : i = 1
      · rw [if_pos ⟨c16, c1⟩]
        refine EMc.cong ((token_c hw (K := 271) (tkWrd 15 (by decide))).seq T) fun o => ?_
        unfold f_Writer_separate
        rw [h.rnk, ob_some, h.par, ob_some, hu.kind, ob_some, if_neg c9, if_pos c16, if_pos (eqR 1 c1)]
        simp only [if_neg n35, h.kind, ob_some, hs, ob_id]
      · rw [if_neg (fun x => c1 x.2), List.nil_append]
        refine EMc.cong T fun o => ?_
        unfold f_Writer_separate
        rw [h.rnk, ob_some, h.par, ob_some, hu.kind, ob_some, if_neg c9, if_pos c16, if_neg (neR 1 c1)]
        simp only [if_neg n35, h.kind, ob_some, hs, ob_id]
    · rw [if_neg (fun x => c16 x.1), List.nil_append]
      by_cases c35 : K = 35
      · have hV : ∃ j : Nat, V = Jn j ∧ j < 14 := by
          rcases hu.loc with c | ⟨ks, c⟩
          · rw [c] at c35; exact absurd c35 (by decide)
          · exact (kindT c).v35 c35
        obtain ⟨b1, b2, b3⟩ := bind14 hV
        by_cases c1 : i = 1
        · rw [if_pos ⟨c35, c1⟩]
          have nb : betw V ≠ -1 := by
            obtain ⟨j, rfl, hj⟩ := hV
            have key : ∀ j : Fin 14, betw (Jn j.1) ≠ -1 := by decide +kernel
            exact key ⟨j, hj⟩
          rw [← sgOne nb]
          refine EMc.cong ((token_c hw b3).seq T) fun o => ?_
          unfold f_Writer_separate
          rw [h.rnk, ob_some, h.par, ob_some, hu.kind, ob_some, if_neg c9, if_neg c16, if_pos c35, if_pos (eqR 1 c1)]
          simp only [hu.val, b2, h.kind, ob_some, hs, ob_id]
        · rw [if_neg (fun x => c1 x.2), List.nil_append]
          refine EMc.cong T fun o => ?_
          unfold f_Writer_separate
          rw [h.rnk, ob_some, h.par, ob_some, hu.kind, ob_some, if_neg c9, if_neg c16, if_pos c35, if_neg (neR 1 c1)]
          simp only [h.kind, ob_some, hs, ob_id]
      · rw [if_neg (fun x => c35 x.1), List.nil_append]
        refine EMc.cong T fun o => ?_
        unfold f_Writer_separate
        rw [h.rnk, ob_some, h.par, ob_some, hu.kind, ob_some, if_neg c9, if_neg c16, if_neg c35]
        simp only [h.kind, ob_some, hs, ob_id]
theorem beg_c {ks : List Int32} (hw : CNW cn ns) (hl : LOC ns.length k v ks) (h : ND t n k v m P i) (hu : NU nn t P K V) : EMc ns (fun o => f_Writer_begin t cn o (Jn n)) ((if brk K V i k v then [(40, 0)] else []) ++ begT k v) := by
  have kt := kindT hl
  have Tf := token_c hw kt.of
  have Tn := token_c hw kt.on
  by_cases c35 : k = 35
  · subst c35
    have eb : begT 35 v = [] := by
      unfold begT fstc nxtc sgT
      simp (decide := true) [bears]
    rw [eb, List.append_nil]
    have ib := isB h hu (kt.v35 rfl)
    have e1 : fstc 35 v = -1 := rfl
    have e2 : nxtc 35 v = -1 := rfl
    have tn : ∀ o, f_Writer_token cn o (-1) = some o := by
      intro o
      unfold f_Writer_token
      rw [if_pos (by decide), if_pos (by decide), if_pos (by decide)]
    have eB : ∀ o, f_Writer_begin t cn o (Jn n) = (if brk K V i 35 v then f_Writer_token cn o 40 else some o) := by
      intro o
      unfold f_Writer_begin
      rw [h.kind, ob_some, h.val, ob_some, kt.first, ob_some, e1, tn, ob_some, if_pos rfl, ib, ob_some]
      by_cases cb : brk K V i 35 v
      · rw [if_pos cb, if_neg (show ¬ (1 : Int32) = 0 by decide), if_pos cb]
        simp only [kt.nam, ob_some, kt.next, e2, tn, if_neg (show ¬ (35 : Int32) = 30 by decide), if_neg (show ¬ (35 : Int32) = 7 by decide), if_pos (show b01 (bears 35) = 0 from rfl), ob_id]
      · rw [if_neg cb, if_pos rfl, if_neg cb]
        simp only [kt.nam, ob_some, kt.next, e2, tn, if_neg (show ¬ (35 : Int32) = 30 by decide), if_neg (show ¬ (35 : Int32) = 7 by decide), if_pos (show b01 (bears 35) = 0 from rfl)]
    by_cases cb : brk K V i 35 v
    · rw [if_pos cb]
      refine EMc.cong (token_c hw (K := 40) (tk_dec (by decide))) fun o => ?_
      rw [eB, if_pos cb]
    · rw [if_neg cb]
      refine EMc.cong EMc.nil fun o => ?_
      rw [eB, if_neg cb]
  · rw [if_neg (fun x => c35 x.1), List.nil_append]
    unfold begT
    by_cases cn' : bears k = true
    · have n30 : ¬ k = 30 := by rintro rfl; exact absurd cn' (by decide)
      have n7 : ¬ k = 7 := by rintro rfl; exact absurd cn' (by decide)
      obtain ⟨a, ha, hb⟩ := kt.vn cn'
      rw [if_pos cn', if_neg n30, if_neg n7, List.nil_append, List.nil_append]
      refine EMc.cong (Tf.seq ((ha ▸ name_c hw hb : EMc ns (fun o => f_Writer_word cn o (41 + v)) [(1, v)]).seq Tn)) fun o => ?_
      unfold f_Writer_begin
      rw [h.kind, ob_some, h.val, ob_some, kt.first, ob_some]
      simp only [if_neg c35, kt.nam, ob_some, kt.next, if_neg n30, if_neg n7, show b01 (bears k) = 1 from by rw [cn']; rfl, if_neg (show ¬ (1 : Int32) = 0 by decide), ob_id]
    · have b0 : b01 (bears k) = 0 := by
        rw [Bool.not_eq_true] at cn'
        rw [cn']; rfl
      rw [if_neg cn', List.nil_append]
      by_cases c30 : k = 30
      · have n7 : ¬ k = 7 := by rw [c30]; decide
        rw [if_pos c30, if_neg n7, List.nil_append]
        refine EMc.cong (Tf.seq ((number_c hw (kt.v30 c30)).seq Tn)) fun o => ?_
        unfold f_Writer_begin
        rw [h.kind, ob_some, h.val, ob_some, kt.first, ob_some]
        simp only [if_neg c35, kt.nam, ob_some, kt.next, if_pos c30, if_neg n7, b0, if_true, ob_id]
      · rw [if_neg c30, List.nil_append]
        by_cases c7 : k = 7
        · rw [if_pos c7]
          obtain ⟨a, ha, hb⟩ := kt.v7 c7
          refine EMc.cong (Tf.seq ((ha ▸ place_c hw hb : EMc ns (fun o => f_Writer_place cn o v) [(3, v)]).seq Tn)) fun o => ?_
          unfold f_Writer_begin
          rw [h.kind, ob_some, h.val, ob_some, kt.first, ob_some]
          simp only [if_neg c35, kt.nam, ob_some, kt.next, if_neg c30, if_pos c7, b0, if_true, ob_id]
        · rw [if_neg c7, List.nil_append]
          refine EMc.cong (Tf.seq Tn) fun o => ?_
          unfold f_Writer_begin
          rw [h.kind, ob_some, h.val, ob_some, kt.first, ob_some]
          simp only [if_neg c35, kt.nam, ob_some, kt.next, if_neg c30, if_neg c7, b0, if_true, ob_id]
theorem fin_c {ks : List Int32} (hw : CNW cn ns) (hl : LOC ns.length k v ks) (h : ND t n k v m P i) (hu : NU nn t P K V) : EMc ns (fun o => f_Writer_finish t cn o (Jn n)) ((if brk K V i k v then [(41, 0)] else []) ++ finT k m) := by
  have kt := kindT hl
  have Tl := token_c hw kt.ol
  have hm := h.hm
  -- last token and semicolon
  have E : EMc ns (fun o => (f_Writer_token cn o (lstc k)).bind fun r => (f_Writer_endsBySemicolon k).bind fun s => if s = 0 then some r else f_Writer_token cn r 59) (sgT (lstc k) ++ (if semi k = true then [(59, 0)] else [])) := by
    by_cases cs : semi k = true
    · rw [if_pos cs]
      refine EMc.cong (Tl.seq (token_c hw (K := 59) (tk_dec (by decide)))) fun o => ?_
      simp only [kt.sem, ob_some, cs, show b01 true = 1 from rfl, if_neg (show ¬ (1 : Int32) = 0 by decide)]
    · rw [if_neg cs]
      have : semi k = false := by rw [Bool.not_eq_true] at cs; exact cs
      refine EMc.cong (Tl.seq EMc.nil) fun o => ?_
      simp only [kt.sem, ob_some, this, show b01 false = 0 from rfl, if_true]
  unfold finT
  by_cases c16 : k = 16
  · have n35 : ¬ k = 35 := by rw [c16]; decide
    rw [if_neg (fun x => n35 x.1), List.nil_append]
    by_cases c1 : m = 1
    · rw [if_pos ⟨c16, c1⟩]
      refine EMc.cong ((token_c hw (K := 271) (tkWrd 15 (by decide))).seq E) fun o => ?_
      unfold f_Writer_finish
      rw [h.kind, ob_some, if_pos c16, h.cnt, ob_some, if_pos (eqR 1 c1)]
      simp only [if_neg n35, kt.last, ob_some, ob_id]
    · rw [if_neg (fun x => c1 x.2), List.nil_append]
      refine EMc.cong E fun o => ?_
      unfold f_Writer_finish
      rw [h.kind, ob_some, if_pos c16, h.cnt, ob_some, if_neg (neR 1 c1)]
      simp only [if_neg n35, kt.last, ob_some, ob_id]
  · rw [if_neg (show ¬ (k = 16 ∧ m = 1) from fun x => c16 x.1), List.nil_append]
    by_cases c35 : k = 35
    · subst c35
      have ib := isB h hu (kt.v35 rfl)
      by_cases cb : brk K V i 35 v
      · rw [if_pos cb]
        rw [if_pos cb] at ib
        refine EMc.cong ((token_c hw (K := 41) (tk_dec (by decide))).seq E) fun o => ?_
        unfold f_Writer_finish
        rw [h.kind, ob_some, if_neg c16, if_pos rfl, ib, ob_some]
        simp only [if_neg (show ¬ (1 : Int32) = 0 by decide), kt.last, ob_some, ob_id]
      · rw [if_neg cb, List.nil_append]
        rw [if_neg cb] at ib
        refine EMc.cong E fun o => ?_
        unfold f_Writer_finish
        rw [h.kind, ob_some, if_neg c16, if_pos rfl, ib, ob_some]
        simp only [if_true, kt.last, ob_some, ob_id]
    · rw [if_neg (fun x => c35 x.1), List.nil_append]
      refine EMc.cong E fun o => ?_
      unfold f_Writer_finish
      rw [h.kind, ob_some, if_neg c16, if_neg c35]
      simp only [kt.last, ob_some, ob_id]
end
end
section
/-! The class's writer: the whole tree. -/
theorem obE {α β : Type} {x : Option α} {f : α → Option β} {r : β} (h : x.bind f = some r) : ∃ a, x = some a ∧ f a = some r := by
  cases x with
  | none => exact absurd h (by intro h; cases h)
  | some a => exact ⟨a, rfl, h⟩
section
variable {ns : List (List Int32)} {t : S_Tree} {cn : S_Names}
/-- nodes to be ended, up to P -/
def UPS (ns : List (List Int32)) (t : S_Tree) (cn : S_Names) (P : Int32) (a : Int32) : Nat → List Tok → Prop
  | 0, Z => a = P ∧ Z = []
  | d + 1, Z => ∃ (n : Nat) (q : Int32) (X Y : List Tok), a = Jn n ∧ Z = X ++ Y ∧ n < 16384 ∧ (d : Int) + P.toInt + 1 ≤ (n : Int) ∧ EMc ns (fun o => f_Writer_finish t cn o (Jn n)) X ∧ f_Tree_parent t (Jn n) = some q ∧ UPS ns t cn P q d Y
theorem UPS.done {P : Int32} : UPS ns t cn P P 0 [] := ⟨rfl, rfl⟩
theorem UPS.step {P : Int32} (n : Nat) (q : Int32) (d : Nat) (X Y : List Tok) (h1 : n < 16384) (h2 : (d : Int) + P.toInt + 1 ≤ (n : Int)) (h3 : EMc ns (fun o => f_Writer_finish t cn o (Jn n)) X) (h4 : f_Tree_parent t (Jn n) = some q) (h5 : UPS ns t cn P q d Y) : UPS ns t cn P (Jn n) (d + 1) (X ++ Y) := ⟨n, q, X, Y, rfl, rfl, h1, h2, h3, h4, h5⟩
theorem UPS.snoc {n : Nat} {P a : Int32} {d : Nat} {X Z : List Tok} (hn : n < 16384) (hP : P.toInt < (n : Int)) (hf : EMc ns (fun o => f_Writer_finish t cn o (Jn n)) Z) (hp : f_Tree_parent t (Jn n) = some P) (h : UPS ns t cn (Jn n) a d X) : UPS ns t cn P a (d + 1) (X ++ Z) := by
  induction d generalizing a X with
  | zero =>
    obtain ⟨rfl, rfl⟩ := h
    have := UPS.step (P := P) n P 0 Z [] hn (by omega) hf hp UPS.done
    rw [List.append_nil] at this
    exact this
  | succ d ih =>
    obtain ⟨m, q, X1, Y, rfl, rfl, h1, h2, h3, h4, h5⟩ := h
    rw [Jn_int (by omega)] at h2
    rw [List.append_assoc]
    exact UPS.step m q (d + 1) X1 (Y ++ Z) h1 (by omega) h3 h4 (ih h5)
theorem UPS.bound {P a : Int32} {d : Nat} {X : List Tok} (hP : -1 ≤ P.toInt) (h : UPS ns t cn P a d X) : d ≤ 16384 := by
  cases d with
  | zero => omega
  | succ d =>
    obtain ⟨n, q, X1, Y, _, _, h1, h2, _⟩ := h
    omega
theorem ups_L {P : Int32} (hP : -1 ≤ P.toInt) : ∀ (d : Nat) (a : Int32) (X : List Tok), UPS ns t cn P a d X → ∀ (f e : Nat), d < f → e + d ≤ 16384 → EMc ns (fun o => f_Writer_finishUpTo_L5 P t cn f (Jn e) a o) X := by
  intro d
  induction d with
  | zero =>
    intro a X h f e hf he
    obtain ⟨rfl, rfl⟩ := h
    obtain ⟨f, rfl⟩ : ∃ g, f = g + 1 := ⟨f - 1, by omega⟩
    refine EMc.cong EMc.nil fun o => ?_
    unfold f_Writer_finishUpTo_L5
    rw [if_pos rfl]
    split <;> rfl
  | succ d ih =>
    intro a X h f e hf he
    obtain ⟨n, q, X, Y, rfl, rfl, h1, h2, h3, h4, h5⟩ := h
    · obtain ⟨f, rfl⟩ : ∃ g, f = g + 1 := ⟨f - 1, by omega⟩
      have := ih q Y h5 f (e + 1) (by omega) (by omega)
      refine EMc.cong (h3.seq this) fun o => ?_
      have nP : ¬ Jn n = P := by
        rintro rfl
        rw [Jn_int (by omega)] at h2
        omega
      rw [f_Writer_finishUpTo_L5, if_neg (nleL 16384 (by omega)), if_neg nP, if_neg (J_nm1 (by omega))]
      cases f_Writer_finish t cn o (Jn n) with
      | none => rfl
      | some r => rw [ob_some, ob_some, h4, ob_some, nm_eq, addL e 1]
theorem ups_c {P a : Int32} {d : Nat} {X : List Tok} (hP : -1 ≤ P.toInt) (h : UPS ns t cn P a d X) : EMc ns (fun o => f_Writer_finishUpTo t cn o a P) X := by
  have hb := h.bound hP
  refine EMc.cong (ups_L hP d a X h FU 0 (Nat.lt_of_le_of_lt hb (by decide)) (by omega)) fun o => ?_
  unfold f_Writer_finishUpTo
  rw [ob_id]
  rfl
/-- the forest lies in the class's tree, from node n on -/
def ATF (t : S_Tree) (P : Int32) : Nat → Nat → FO → Prop
  | _, _, .leaf => True
  | i, n, .inner _ k v c r => ND t n k v (FO.len c) P i ∧ ATF t (Jn n) 0 (n + 1) c ∧ ATF t P (i + 1) (n + 1 + (FO.flat c).length) r
/-- one turn of the writer's loop -/
theorem wL_step {f n : Nat} {last : Int32} {N : Nat} (hN : t.1 = Jn N) (hN2 : N ≤ 16384) (hn : n < N) {P : Int32} {o : S_Bytes} (hp : f_Tree_parent t (Jn n) = some P) {o1 o2 o3 : S_Bytes} (e1 : f_Writer_finishUpTo t cn o last P = some o1) (e2 : f_Writer_separate t cn o1 (Jn n) = some o2) (e3 : f_Writer_begin t cn o2 (Jn n) = some o3) : f_Writer_writeTree_L12 t cn (f + 1) (Jn n) last o = f_Writer_writeTree_L12 t cn f (Jn (n + 1)) (Jn n) o3 := by
  rw [f_Writer_writeTree_L12, hN, if_neg (J_nle hn (by omega)), hp, ob_some, e1, ob_some, e2, ob_some, e3, ob_some, nm_eq, addL n 1]
theorem wF {N : Nat} (hw : CNW cn ns) (hN : t.1 = Jn N) (hN2 : N ≤ 16384) : ∀ (fo : FO) (P K V : Int32) (i n d f : Nat) (last : Int32) (F : List Tok) (o : S_Bytes) (acc : List Int32), goodF ns.length fo → ATF t P i n fo → NU ns.length t P K V → -1 ≤ P.toInt → P.toInt < (n : Int) → n + (FO.flat fo).length ≤ N → UPS ns t cn P last d F → WRc o acc → (ren ns acc (F ++ tkF K V i fo)).length ≤ 16384 →
    ∃ X F' last' d' o', X ++ F' = F ++ tkF K V i fo ∧ f_Writer_writeTree_L12 t cn (f + (FO.flat fo).length) (Jn n) last o = f_Writer_writeTree_L12 t cn f (Jn (n + (FO.flat fo).length)) last' o' ∧ WRc o' (ren ns acc X) ∧ UPS ns t cn P last' d' F'
  | .leaf, P, K, V, i, n, d, f, last, F, o, acc, hg, ha, hu, hP, hPn, hl, hU, hW, hL => ⟨[], F, last, d, o, by rw [tkF, List.append_nil, List.nil_append], rfl, hW, hU⟩
  | .inner p k v c r, P, K, V, i, n, d, f, last, F, o, acc, hg, ha, hu, hP, hPn, hl, hU, hW, hL => by
    obtain ⟨hg1, hg2, hg3⟩ := hg
    obtain ⟨hnd, hac, har⟩ := ha
    have hsz : (FO.cons k p v c r).flat.length = 1 + (FO.flat c).length + (FO.flat r).length := by
      rw [FO.flat, List.length_cons, List.length_append]; omega
    rw [hsz] at hl ⊢
    have htk : F ++ tkF K V i (FO.cons k p v c r) = (F ++ (sepT K V i k ++ ((if brk K V i k v then [(40, 0)] else []) ++ begT k v))) ++ (tkF k v 0 c ++ (((if brk K V i k v then [(41, 0)] else []) ++ finT k (FO.len c)) ++ tkF K V (i + 1) r)) := by
      rw [tkF]
      simp only [List.append_assoc]
    rw [htk] at hL ⊢
    have hL0 := hL
    rw [ren_app] at hL0
    have e1 := (ups_c hP hU).seq ((sep_c hw hnd hu).seq (beg_c hw hg1 hnd hu))
    obtain ⟨o3, x1, x2⟩ := e1 o acc hW (Nat.le_trans (ren_le ns _ _) hL0)
    obtain ⟨o1, y1, x1⟩ := obE x1
    obtain ⟨o2, y2, y3⟩ := obE x1
    have hnu : NU ns.length t (Jn n) k v := ⟨hnd.kind, hnd.val, Or.inr ⟨_, hg1⟩⟩
    have hLc : (ren ns (ren ns acc (F ++ (sepT K V i k ++ ((if brk K V i k v then [(40, 0)] else []) ++ begT k v)))) ([] ++ tkF k v 0 c)).length ≤ 16384 := by
      rw [List.nil_append]
      rw [ren_app] at hL0
      exact Nat.le_trans (ren_le ns _ _) hL0
    obtain ⟨X1, F1, l1, d1, o4, z1, z2, z3, z4⟩ := wF hw hN hN2 c (Jn n) k v 0 (n + 1) 0 (f + (FO.flat r).length) (Jn n) [] o3 _ hg2 hac hnu (by rw [Jn_int (by omega)]; omega) (by rw [Jn_int (by omega)]; omega) (by omega) UPS.done x2 hLc
    rw [List.nil_append] at z1
    have hU2 := UPS.snoc (by omega) hPn (fin_c hw hg1 hnd hu) hnd.par z4
    have hLr : (ren ns (ren ns (ren ns acc (F ++ (sepT K V i k ++ ((if brk K V i k v then [(40, 0)] else []) ++ begT k v)))) X1) ((F1 ++ ((if brk K V i k v then [(41, 0)] else []) ++ finT k (FO.len c))) ++ tkF K V (i + 1) r)).length ≤ 16384 := by
      rw [← ren_app, ← ren_app]
      rw [← z1] at hL
      simp only [List.append_assoc] at hL ⊢
      exact hL
    obtain ⟨X2, F2, l2, d2, o5, w1, w2, w3, w4⟩ := wF hw hN hN2 r P K V (i + 1) (n + 1 + (FO.flat c).length) (d1 + 1) f l1 _ o4 _ hg3 har hu hP (by omega) (by omega) hU2 z3 hLr
    refine ⟨(F ++ (sepT K V i k ++ ((if brk K V i k v then [(40, 0)] else []) ++ begT k v))) ++ (X1 ++ X2), F2, l2, d2, o5, ?_, ?_, ?_, w4⟩
    · rw [List.append_assoc _ (X1 ++ X2) F2, List.append_assoc X1 X2 F2, w1, ← z1]
      simp only [List.append_assoc]
    · rw [show f + (1 + (FO.flat c).length + (FO.flat r).length) = (f + (FO.flat r).length + (FO.flat c).length) + 1 by omega, wL_step hN hN2 (by omega) hnd.par y1 y2 y3, z2, w2, show n + 1 + (FO.flat c).length + (FO.flat r).length = n + (1 + (FO.flat c).length + (FO.flat r).length) by omega]
    · rw [ren_app, ren_app]
      exact w3
/-- a text is written -/
theorem write_c {fo : FO} (hw : CNW cn ns) (hN : t.1 = Jn (one 0 0 0 fo).flat.length) (hN2 : (one 0 0 0 fo).flat.length ≤ 16384) (hg : goodF ns.length (one 0 0 0 fo)) (ha : ATF t (-1) 0 0 (one 0 0 0 fo)) (hL : (ren ns [] (tkF 0 0 0 fo)).length ≤ 16384) {o : S_Bytes} {a0 : List Int32} (ho : WRc o a0) : ∃ o', f_Writer_writeTree t cn o = some o' ∧ WRc o' (ren ns [] (tkF 0 0 0 fo)) := by
  obtain ⟨o1, c1, c2⟩ : ∃ o1, f_Bytes_cut 16384 o 0 = some o1 ∧ WRc o1 [] := by
    unfold f_Bytes_cut
    rw [if_neg (by decide), ho.1]
    by_cases c : a0.length = 0
    · rw [if_pos (leR 0 (by omega))]
      exact ⟨o, rfl, by rw [ho.1, c]; rfl, by decide, fun k hk => absurd hk (by simp)⟩
    · have := ho.2.1
      rw [if_neg (nleR 0 (by omega))]
      exact ⟨_, rfl, rfl, by decide, fun k hk => absurd hk (by simp)⟩
  have hz : f_Tree_has t (-1) = some 0 := by
    unfold f_Tree_has
    rw [if_pos (by decide)]
  have hu : NU ns.length t (-1) (-1) (-1) := ⟨by unfold f_Tree_kind; rw [hz]; rfl, by unfold f_Tree_value; rw [hz]; rfl, Or.inl rfl⟩
  have etk : tkF (-1) (-1) 0 (one 0 0 0 fo) = tkF 0 0 0 fo := by
    rw [tkF_one (by rintro ⟨x, _⟩; exact absurd x (by decide))]
    have e1 : sepT (-1) (-1) 0 0 = [] := by decide
    have e2 : begT 0 0 = [] := by decide
    have e3 : finT 0 (FO.len fo) = [] := by
      unfold finT
      rw [if_neg (by rintro ⟨x, _⟩; exact absurd x (by decide))]
      decide
    unfold innT
    rw [e1, e2, e3, List.append_nil]
    rfl
  obtain ⟨f, hf⟩ : ∃ f, FU = f + 1 + (one 0 0 0 fo).flat.length := ⟨FU - 1 - (one 0 0 0 fo).flat.length, by unfold FU; omega⟩
  obtain ⟨X, F', l', d', o2, x1, x2, x3, x4⟩ := wF hw hN hN2 (one 0 0 0 fo) (-1) (-1) (-1) 0 0 0 (f + 1) (-1) [] o1 [] hg ha hu (by decide) (by decide) (by omega) UPS.done c2 (by rw [etk, List.nil_append]; exact hL)
  rw [etk, List.nil_append] at x1
  rw [← x1, ren_app] at hL ⊢
  obtain ⟨o3, y1, y2⟩ := ups_c (by decide) x4 o2 _ x3 hL
  refine ⟨o3, ?_, y2⟩
  unfold f_Writer_writeTree
  have x2' : f_Writer_writeTree_L12 t cn FU 0 (-1) o1 = some (l', o2) := by
    rw [hf]
    refine x2.trans ?_
    rw [f_Writer_writeTree_L12, hN, Nat.zero_add, if_pos (Int32.le_refl _)]
  rw [c1, ob_some, x2', ob_some, ob_id]
  exact y1
end
end
section
/-! Both trees as one forest. -/
def repF (T : S_MT) (ch : Nat → List Nat) : List Nat → FO → Prop
  | [], .leaf => True
  | [], .inner _ _ _ _ _ => False
  | _ :: _, .leaf => False
  | x :: xs, .inner p k v c r => dat T x = (k, Jn p, v) ∧ repF T ch (ch x) c ∧ repF T ch xs r
theorem rep_split {T : S_MT} {ch : Nat → List Nat} : ∀ (c r : FO) (a b : List Nat), a.length = (FO.len c) → repF T ch (a ++ b) (FO.app c r) → repF T ch a c ∧ repF T ch b r
  | .leaf, r, a, b, h1, h2 => by
    have : a = [] := List.length_eq_zero_iff.mp h1
    subst this
    rw [repF]
    exact ⟨trivial, h2⟩
  | .inner p k v c r', r, [], b, h1, h2 => by rw [FO.len] at h1; exact absurd h1 (by simp)
  | .inner p k v c r', r, x :: a, b, h1, h2 => by
    rw [FO.len, List.length_cons] at h1
    rw [FO.app, List.cons_append, repF] at h2
    obtain ⟨a1, a2⟩ := rep_split r' r a b (by omega) h2.2.2
    rw [repF]
    exact ⟨⟨h2.1, h2.2.1, a1⟩, a2⟩
theorem rep_of {T : S_MT} {ch : Nat → List Nat} : ∀ (I st : List Nat) (fo : FO), PreI ch st I → I.map (ent T ch) = (FO.flat fo) → st.length = (FO.len fo) → repF T ch st fo
  | [], st, fo, h1, h2, h3 => by
    have hs : st = [] := by
      cases st with
      | nil => rfl
      | cons x st => exact absurd h1 (by intro h; cases h)
    subst hs
    cases fo with
    | leaf => rw [repF]; trivial
    | inner p k v c r => rw [FO.len] at h3; exact absurd h3 (by simp)
  | y :: I, [], fo, h1, h2, h3 => h1.elim
  | y :: I, x :: st, fo, h1, h2, h3 => by
    obtain ⟨rfl, h1⟩ := h1
    cases fo with
    | leaf => rw [FO.len] at h3; exact absurd h3 (by simp)
    | inner p k v c r =>
      rw [FO.flat, List.map_cons] at h2
      injection h2 with e1 e2
      rw [FO.len, List.length_cons] at h3
      unfold ent at e1
      injection e1 with q1 e1
      injection e1 with q2 e1
      injection e1 with q3 q4
      have := rep_of I (ch x ++ st) (FO.app c r) h1 (by rw [e2, FO.flat_app]) (by rw [List.length_append, FO.len_app]; omega)
      obtain ⟨b1, b2⟩ := rep_split c r (ch x) st q4 this
      rw [repF]
      refine ⟨?_, b1, b2⟩
      rw [← q1, ← q2, ← q3]
theorem repF.len {T : S_MT} {ch : Nat → List Nat} : ∀ {fo : FO} {xs : List Nat}, repF T ch xs fo → xs.length = (FO.len fo)
  | .leaf, [], _ => rfl
  | .leaf, _ :: _, h => by rw [repF] at h; exact h.elim
  | .inner _ _ _ _ _, [], h => by rw [repF] at h; exact h.elim
  | .inner p k v c r, x :: xs, h => by
    rw [repF] at h
    rw [FO.len, List.length_cons, repF.len h.2.2]
theorem nd_of {t : S_Tree} {N n : Nat} (h1 : t.1 = Jn N) (h2 : N ≤ 16384) (h3 : n < N) {k v P : Int32} {m i : Nat} (a1 : t.2.1 n = k) (a2 : t.2.2.2.1 n = v) (a3 : t.2.2.2.2.1 n = Jn m) (a4 : t.2.2.2.2.2.1 n = P) (a5 : t.2.2.2.2.2.2.1 n = Jn i) (hm : m ≤ 16384) (hi : i < 16384) : ND t n k v m P i := by
  have hh := has_in h1 h3 h2
  have n10 : ¬ (1 : Int32) = 0 := by decide
  refine ⟨?_, ?_, ?_, ?_, ?_, hm, hi⟩
  · unfold f_Tree_kind
    rw [hh, ob_some, if_neg n10, gd_Jn (by omega) (by omega), Jn_cl (by omega), a1]
  · unfold f_Tree_value
    rw [hh, ob_some, if_neg n10, gd_Jn (by omega) (by omega), Jn_cl (by omega), a2]
  · unfold f_Tree_children
    rw [hh, ob_some, if_neg n10, gd_Jn (by omega) (by omega), Jn_cl (by omega), a3]
  · unfold f_Tree_parent
    rw [hh, ob_some, if_neg n10, gd_Jn (by omega) (by omega), Jn_cl (by omega), a4]
  · unfold f_Tree_rank
    rw [hh, ob_some, if_neg n10, gd_Jn (by omega) (by omega), Jn_cl (by omega), a5]
theorem gd_inj {l : List Nat} (hn : l.Nodup) {a b : Nat} (ha : a < l.length) (hb : b < l.length) (h : l.getD a 0 = l.getD b 0) : a = b := by
  rw [List.getD_eq_getElem?_getD, List.getD_eq_getElem?_getD, List.getElem?_eq_getElem ha, List.getElem?_eq_getElem hb] at h
  exact (List.getElem_inj (h₀ := ha) (h₁ := hb) hn).mp h
theorem gd_map {T : S_MT} {ch : Nat → List Nat} {l : List Nat} {k : Nat} (h : k < l.length) : (l.map (ent T ch)).getD k e0 = ent T ch (l.getD k 0) := by
  rw [List.getD_eq_getElem?_getD, List.getD_eq_getElem?_getD, List.getElem?_map, List.getElem?_eq_getElem h]
  rfl
theorem atf {T : S_MT} {N : Nat} {ch : Nat → List Nat} {rk : Nat → Nat} (h : GTr T N ch rk) {t : S_Tree} {V : List Nat} (hV : V.Nodup) (hVN : ∀ y, y ∈ V → y < N) (hT : CT t (V.map (ent T ch))) (hK : LKR t ch V) :
    ∀ (fo : FO) (xs st I A : List Nat) (i xp jp : Nat), V = A ++ I → PreI ch (xs ++ st) I → repF T ch xs fo → jp < A.length → V.getD jp 0 = xp → xs = (ch xp).drop i → ATF t (Jn jp) i A.length fo ∧ ∃ I1 I2, I = I1 ++ I2 ∧ I1.length = (FO.flat fo).length ∧ PreI ch st I2
  | .leaf, xs, st, I, A, i, xp, jp, hA, hp, hr, hj, hx, hxs => by
    have := hr.len
    have e : xs = [] := List.length_eq_zero_iff.mp this
    subst e
    exact ⟨trivial, [], I, rfl, rfl, hp⟩
  | .inner p k v c r, [], st, I, A, i, xp, jp, hA, hp, hr, hj, hx, hxs => by rw [repF] at hr; exact hr.elim
  | .inner p k v c r, x :: xs, st, [], A, i, xp, jp, hA, hp, hr, hj, hx, hxs => by cases hp
  | .inner p k v c r, x :: xs, st, y :: I, A, i, xp, jp, hA, hp, hr, hj, hx, hxs => by
    rw [repF] at hr
    rw [List.cons_append] at hp
    obtain ⟨rfl, hp⟩ := hp
    obtain ⟨hd, hrc, hrr⟩ := hr
    have hlen : V.length = A.length + (I.length + 1) := by rw [hA, List.length_append, List.length_cons]
    have hVn : V.getD A.length 0 = x := by
      rw [hA, List.getD_eq_getElem?_getD, List.getElem?_append_right (Nat.le_refl _), Nat.sub_self]
      rfl
    obtain ⟨t1, t2, t3⟩ := hT
    rw [List.length_map] at t1 t2 t3
    obtain ⟨u1, u2, u3, u4, u5⟩ := t3 A.length (by omega)
    rw [gd_map (by omega), hVn] at u1 u2 u3 u4 u5
    have hxp : xp < N := by rw [← hx]; exact hVN _ (gdN (by omega))
    have hin : i < (ch xp).length := by
      apply Classical.byContradiction
      intro hc
      rw [List.drop_eq_nil_of_le (by omega)] at hxs
      cases hxs
    have hxi : (ch xp).getD i 0 = x := by
      rw [List.drop_eq_getElem_cons hin] at hxs
      injection hxs with e1 e2
      rw [List.getD_eq_getElem?_getD, List.getElem?_eq_getElem hin, e1]
      rfl
    have hxs' : xs = (ch xp).drop (i + 1) := by
      rw [List.drop_eq_getElem_cons hin] at hxs
      injection hxs with e1 e2
    obtain ⟨g1, g2, g3, g4⟩ := h.2.2.2.1 xp i hxp hin
    rw [hxi] at g1 g2 g3
    obtain ⟨j', i', k1, k2, k3, k4, k5⟩ := (hK A.length (by omega)).2 (by omega)
    rw [hVn] at k5
    have hj'N : V.getD j' 0 < N := hVN _ (gdN (by omega))
    obtain ⟨g5, g6, g7, g8⟩ := h.2.2.2.1 (V.getD j' 0) i' hj'N k4
    rw [k5] at g6 g7
    have hN := h.2.1
    have ej : V.getD j' 0 = xp := by
      rw [g6] at g2
      exact (Jn_eq (by omega) (by omega)).mp g2
    have ejj : j' = jp := gd_inj hV (by omega) (by omega) (by rw [ej, hx])
    have eii : i' = i := by rw [← g7, g3]
    subst ejj
    subst eii
    have hcl : (ch x).length = (FO.len c) := hrc.len
    unfold ent at u1 u3 u4 u5
    dsimp only at u1 u3 u4 u5
    rw [hd] at u1 u3
    rw [hcl] at u4 u5
    have him : i' < 16384 := by
      have hpp := t3 j' (by omega)
      rw [gd_map (by omega), ej] at hpp
      unfold ent at hpp
      have := hpp.2.2.2.2
      dsimp only at this
      omega
    have hnd : ND t A.length k v (FO.len c) (Jn j') i' := nd_of t1 t2 (by omega) u1 u3 u4 k2 k3 (by omega) him
    obtain ⟨b1, I1, I2, b2, b3, b4⟩ := atf h hV hVN ⟨by rw [List.length_map]; exact t1, by rw [List.length_map]; exact t2, by rw [List.length_map]; exact t3⟩ hK c (ch x) (xs ++ st) I (A ++ [x]) 0 x A.length (by rw [hA, List.append_assoc]; rfl) hp hrc (by rw [List.length_append, List.length_singleton]; omega) hVn (by rw [List.drop_zero])
    rw [List.length_append, List.length_singleton] at b1
    obtain ⟨d1, J1, J2, d2, d3, d4⟩ := atf h hV hVN ⟨by rw [List.length_map]; exact t1, by rw [List.length_map]; exact t2, by rw [List.length_map]; exact t3⟩ hK r xs st I2 (A ++ [x] ++ I1) (i' + 1) xp j' (by rw [hA, b2]; simp) b4 hrr (by rw [List.length_append, List.length_append, List.length_singleton]; omega) hx hxs'
    rw [List.length_append, List.length_append, List.length_singleton, b3] at d1
    refine ⟨⟨hnd, b1, d1⟩, x :: (I1 ++ J1), J2, ?_, ?_, d4⟩
    · rw [b2, d2, List.cons_append, List.append_assoc]
    · rw [FO.flat, List.length_cons, List.length_cons, List.length_append, List.length_append, b3, d3]
/-- the whole tree -/
theorem atf0 {T : S_MT} {N : Nat} {ch : Nat → List Nat} {rk : Nat → Nat} (h : GTr T N ch rk) {t : S_Tree} {D : List Nat} {fo : FO} (hV : (0 :: D).Nodup) (hVN : ∀ y, y ∈ 0 :: D → y < N) (hT : CT t ((0 :: D).map (ent T ch))) (hK : LKR t ch (0 :: D)) (hp : PreI ch (ch 0) D) (hT2 : CT t (one 0 0 0 fo).flat) (hE : (0 :: D).map (ent T ch) = (one 0 0 0 fo).flat) : repF T ch [0] (one 0 0 0 fo) ∧ ATF t (-1) 0 0 (one 0 0 0 fo) := by
  have hr : repF T ch [0] (one 0 0 0 fo) := rep_of (0 :: D) [0] (one 0 0 0 fo) ⟨rfl, by rw [List.append_nil]; exact hp⟩ hE rfl
  refine ⟨hr, ?_⟩
  rw [repF] at hr
  obtain ⟨hd, hrc, _⟩ := hr
  obtain ⟨a1, _⟩ := atf h hV hVN hT hK fo (ch 0) [] D [0] 0 0 0 rfl (by rw [List.append_nil]; exact hp) hrc (by decide) rfl (by rw [List.drop_zero])
  obtain ⟨t1, t2, t3⟩ := hT2
  obtain ⟨k1, k2⟩ := (hK 0 (by simp)).1 rfl
  have hl0 : 0 < (one 0 0 0 fo).flat.length := by rw [flat_one, List.length_cons]; omega
  obtain ⟨u1, u2, u3, u4, u5⟩ := t3 0 hl0
  rw [flat_one, List.getD_cons_zero] at u1 u3 u4 u5
  exact ⟨nd_of t1 t2 hl0 u1 u3 u4 k1 k2 (by rw [flat_one] at t2; dsimp only at u5; omega) (by decide), a1, trivial⟩
end
