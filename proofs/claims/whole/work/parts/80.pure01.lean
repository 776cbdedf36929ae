section
/-! Numbers: an Int32 that is a natural number below 2^31. -/
def Jn (n : Nat) : Int32 := Int32.ofNat n
theorem Jn_lit (n : Nat) : (@OfNat.ofNat Int32 n _) = Jn n := rfl
theorem Jn_int {a : Nat} (h : a < 2147483648) : (Jn a).toInt = (a : Int) := by
  unfold Jn
  rw [Int32.toInt_ofNat']
  have : Int32.size = 4294967296 := rfl
  rw [Int.bmod_eq_of_le] <;> omega
theorem Jn_lt {a b : Nat} (ha : a < 2147483648) (hb : b < 2147483648) : (Jn a < Jn b) = (a < b) := by
  rw [Int32.lt_iff_toInt_lt, Jn_int ha, Jn_int hb]; apply propext; omega
theorem Jn_le {a b : Nat} (ha : a < 2147483648) (hb : b < 2147483648) : (Jn a ≤ Jn b) = (a ≤ b) := by
  rw [Int32.le_iff_toInt_le, Jn_int ha, Jn_int hb]; apply propext; omega
theorem Jn_eq {a b : Nat} (ha : a < 2147483648) (hb : b < 2147483648) : (Jn a = Jn b) = (a = b) := by
  apply propext
  constructor
  · intro h
    have := congrArg Int32.toInt h
    rw [Jn_int ha, Jn_int hb] at this
    omega
  · intro h; rw [h]
theorem Jn_add (a b : Nat) : Jn a + Jn b = Jn (a + b) := by
  unfold Jn; rw [Int32.ofNat_add]
theorem Jn_mul (a b : Nat) : Jn a * Jn b = Jn (a * b) := by
  unfold Jn; rw [Int32.ofNat_mul]
theorem Jn_sub {a b : Nat} (h : b ≤ a) : Jn a - Jn b = Jn (a - b) := by
  have e : Jn a = Jn (a - b) + Jn b := by rw [Jn_add]; congr 1; omega
  rw [e]
  exact Int32.add_sub_cancel _ _
theorem Jn_cl {a : Nat} (h : a < 2147483648) : (Jn a).toNatClampNeg = a := by
  have : (Jn a).toNatClampNeg = (Jn a).toInt.toNat := rfl
  rw [this, Jn_int h]; rfl
theorem Jn_m1 {a : Nat} (h : a < 2147483648) : (Jn a = -1) = False := by
  apply propext
  constructor
  · intro e
    have := congrArg Int32.toInt e
    rw [Jn_int h] at this
    have h1 : (-1 : Int32).toInt = -1 := by decide
    omega
  · exact False.elim
theorem Jn_m1' {a : Nat} (h : a < 2147483648) : (-1 = Jn a) = False := by
  rw [show ((-1 : Int32) = Jn a) = (Jn a = -1) from propext ⟨Eq.symm, Eq.symm⟩]; exact Jn_m1 h
theorem Jn_mlt {a : Nat} (h : a < 2147483648) : (Jn a < -1) = False := by
  apply propext
  rw [Int32.lt_iff_toInt_lt, Jn_int h]
  have h1 : (-1 : Int32).toInt = -1 := by decide
  constructor
  · intro _; omega
  · exact False.elim
theorem Jn_m1lt {a : Nat} (h : a < 2147483648) : ((-1 : Int32) < Jn a) = True := by
  apply propext
  rw [Int32.lt_iff_toInt_lt, Jn_int h]
  have h1 : (-1 : Int32).toInt = -1 := by decide
  constructor
  · intro _; trivial
  · intro _; omega
theorem Jn_m1le {a : Nat} (h : a < 2147483648) : ((-1 : Int32) ≤ Jn a) = True := by
  apply propext
  rw [Int32.le_iff_toInt_le, Jn_int h]
  have h1 : (-1 : Int32).toInt = -1 := by decide
  constructor
  · intro _; trivial
  · intro _; omega
theorem Jn_lem1 {a : Nat} (h : a < 2147483648) : (Jn a ≤ (-1 : Int32)) = False := by
  apply propext
  rw [Int32.le_iff_toInt_le, Jn_int h]
  have h1 : (-1 : Int32).toInt = -1 := by decide
  constructor
  · intro _; omega
  · exact False.elim
theorem Jn_m1add (a : Nat) (h : 0 < a) : (-1 : Int32) + Jn a = Jn (a - 1) := by
  have e : (Jn a) = Jn (a - 1) + Jn 1 := by rw [Jn_add]; congr 1; omega
  rw [e, Int32.add_comm (-1), Int32.add_assoc]
  have : Jn 1 + (-1) = (0 : Int32) := by decide
  rw [this, Int32.add_zero]
theorem gd_Jn {β : Type} {a n : Nat} (h : a < n) (hn : n < 2147483648) (k : Option β) : gd (Jn a) n k = k := by
  unfold gd
  rw [if_pos]
  rw [Jn_cl (by omega)]
  have : ¬ Jn a < 0 := by
    rw [show (0 : Int32) = Jn 0 from rfl, Jn_lt (by omega) (by omega)]; omega
  intro c
  rcases c with c | c
  · exact this c
  · omega
/-- what an Int32 is, if it lies between -1 and some natural number -/
theorem Jn_of {x : Int32} (h : 0 ≤ x) : ∃ a, a < 2147483648 ∧ x = Jn a := by
  have h0 : (0 : Int32).toInt = 0 := by decide
  rw [Int32.le_iff_toInt_le, h0] at h
  have hl := Int32.toInt_lt x
  refine ⟨x.toInt.toNat, by omega, ?_⟩
  apply Int32.toInt_inj.mp
  rw [Jn_int (by omega)]
  omega
theorem lt0_or {x : Int32} : x < 0 ∨ 0 ≤ x := by
  rw [Int32.lt_iff_toInt_lt, Int32.le_iff_toInt_le]; omega
theorem ob_some {α β : Type} (x : α) (f : α → Option β) : (some x).bind f = f x := rfl
theorem nm_eq {α β : Type} (a : α) (f : α → Option β) : nm a f = f a := rfl
theorem upd_self (f : Nat → Int32) (k : Nat) (x : Int32) : upd f k x k = x := by simp [upd]
theorem upd_ne (f : Nat → Int32) {k j : Nat} (x : Int32) (h : j ≠ k) : upd f k x j = f j := by simp [upd, h]
theorem J_lt {a b : Nat} (h : a < b) (hb : b < 2147483648 := by omega) : Jn a < Jn b := by rw [Jn_lt (by omega) hb]; exact h
theorem J_nlt {a b : Nat} (h : b ≤ a) (ha : a < 2147483648 := by omega) : ¬ Jn a < Jn b := by rw [Jn_lt ha (by omega)]; omega
theorem J_le {a b : Nat} (h : a ≤ b) (hb : b < 2147483648 := by omega) : Jn a ≤ Jn b := by rw [Jn_le (by omega) hb]; exact h
theorem J_nle {a b : Nat} (h : b < a) (ha : a < 2147483648 := by omega) : ¬ Jn a ≤ Jn b := by rw [Jn_le ha (by omega)]; omega
theorem J_ne {a b : Nat} (h : a ≠ b) (ha : a < 2147483648 := by omega) (hb : b < 2147483648 := by omega) : ¬ Jn a = Jn b := by rw [Jn_eq ha hb]; exact h
theorem J_nm1 {a : Nat} (ha : a < 2147483648 := by omega) : ¬ Jn a = -1 := by rw [Jn_m1 ha]; exact id
theorem J_nneg {a : Nat} (ha : a < 2147483648 := by omega) : ¬ Jn a < 0 := J_nlt (Nat.zero_le a) ha
theorem J_add {a b : Nat} : Jn a + Jn b = Jn (a + b) := Jn_add a b
/-! the same, beside a literal: k is given -/
theorem ltL (k : Nat) {a : Nat} (h : k < a) (ha : a < 2147483648 := by omega) : (@OfNat.ofNat Int32 k _) < Jn a := J_lt h ha
theorem nltL (k : Nat) {a : Nat} (h : a ≤ k) (hk : k < 2147483648 := by omega) : ¬ (@OfNat.ofNat Int32 k _) < Jn a := J_nlt h hk
theorem leL (k : Nat) {a : Nat} (h : k ≤ a) (ha : a < 2147483648 := by omega) : (@OfNat.ofNat Int32 k _) ≤ Jn a := J_le h ha
theorem nleL (k : Nat) {a : Nat} (h : a < k) (hk : k < 2147483648 := by omega) : ¬ (@OfNat.ofNat Int32 k _) ≤ Jn a := J_nle h hk
theorem ltR (k : Nat) {a : Nat} (h : a < k) (hk : k < 2147483648 := by omega) : Jn a < (@OfNat.ofNat Int32 k _) := J_lt h hk
theorem nltR (k : Nat) {a : Nat} (h : k ≤ a) (ha : a < 2147483648 := by omega) : ¬ Jn a < (@OfNat.ofNat Int32 k _) := J_nlt h ha
theorem leR (k : Nat) {a : Nat} (h : a ≤ k) (hk : k < 2147483648 := by omega) : Jn a ≤ (@OfNat.ofNat Int32 k _) := J_le h hk
theorem nleR (k : Nat) {a : Nat} (h : k < a) (ha : a < 2147483648 := by omega) : ¬ Jn a ≤ (@OfNat.ofNat Int32 k _) := J_nle h ha
theorem neR (k : Nat) {a : Nat} (h : a ≠ k) (ha : a < 2147483648 := by omega) (hk : k < 2147483648 := by omega) : ¬ Jn a = (@OfNat.ofNat Int32 k _) := J_ne h ha hk
theorem eqR (k : Nat) {a : Nat} (h : a = k) : Jn a = (@OfNat.ofNat Int32 k _) := by rw [h]; rfl
theorem addL (a k : Nat) : Jn a + (@OfNat.ofNat Int32 k _) = Jn (a + k) := Jn_add a k
theorem subL {a : Nat} (k : Nat) (h : k ≤ a) : Jn a - (@OfNat.ofNat Int32 k _) = Jn (a - k) := Jn_sub h
end
section
/-! Bytes: the questions that both sides ask of one. -/
abbrev zDg (x : Int32) : Prop := 48 ≤ x.toInt ∧ x.toInt ≤ 57
abbrev zLt (x : Int32) : Prop := (65 ≤ x.toInt ∧ x.toInt ≤ 90) ∨ (97 ≤ x.toInt ∧ x.toInt ≤ 122) ∨ x.toInt = 95
theorem zToInt (x : Int32) (k : Nat) (h : k < 2147483648) : (x = Jn k) = (x.toInt = k) := by
  apply propext
  constructor
  · intro e; rw [e, Jn_int h]
  · intro e; apply Int32.toInt_inj.mp; rw [e, Jn_int h]
theorem zlt_l (x : Int32) (k : Nat) (h : k < 2147483648) : (x < Jn k) = (x.toInt < k) := by
  rw [Int32.lt_iff_toInt_lt, Jn_int h]
theorem zlt_r (x : Int32) (k : Nat) (h : k < 2147483648) : (Jn k < x) = ((k : Int) < x.toInt) := by
  rw [Int32.lt_iff_toInt_lt, Jn_int h]
theorem zle_l (x : Int32) (k : Nat) (h : k < 2147483648) : (x ≤ Jn k) = (x.toInt ≤ k) := by
  rw [Int32.le_iff_toInt_le, Jn_int h]
theorem zle_r (x : Int32) (k : Nat) (h : k < 2147483648) : (Jn k ≤ x) = ((k : Int) ≤ x.toInt) := by
  rw [Int32.le_iff_toInt_le, Jn_int h]
theorem isDg_C (x : Int32) : (zDg x → f_Top_isDigit x = some 1) ∧ (¬ zDg x → f_Top_isDigit x = some 0) := by
  unfold zDg f_Top_isDigit
  simp (disch := omega) only [Jn_lit, zlt_l, zlt_r]
  constructor
  · intro h; rw [if_neg (by omega), if_neg (by omega)]
  · intro h
    split
    · rfl
    · rw [if_pos (by omega)]
theorem isDg_M (x : Int32) : f_Model_isDigit x = f_Top_isDigit x := rfl
theorem isNm_C (x : Int32) : (zLt x ∨ zDg x → f_Top_isNameByte x = some 1) ∧ (¬ (zLt x ∨ zDg x) → f_Top_isNameByte x = some 0) := by
  unfold zLt zDg f_Top_isNameByte
  simp (disch := omega) only [Jn_lit, zlt_l, zlt_r, zle_l, zle_r, zToInt]
  constructor
  · intro h
    repeat' split
    all_goals first | rfl | omega
  · intro h
    repeat' split
    all_goals first | rfl | omega
theorem isLt_M (x : Int32) : (zLt x → f_Model_isLetter x = some 1) ∧ (¬ zLt x → f_Model_isLetter x = some 0) := by
  unfold zLt f_Model_isLetter
  simp (disch := omega) only [Jn_lit, zlt_l, zlt_r, zle_l, zle_r, zToInt]
  constructor
  · intro h
    repeat' split
    all_goals first | rfl | omega
  · intro h
    repeat' split
    all_goals first | rfl | omega
def zGr (x : Int32) : Int32 := if 97 ≤ x.toInt ∧ x.toInt ≤ 122 then x - 32 else x
theorem great_M (x : Int32) : f_Model_great x = some (zGr x) := by
  unfold f_Model_great zGr
  simp (disch := omega) only [Jn_lit, zlt_l, zlt_r]
  repeat' split
  all_goals first | rfl | omega
theorem great_C (x : Int32) : f_Top_great x = some (zGr x) := by
  unfold f_Top_great zGr
  have e : x - 97 + 65 = x - 32 := by
    rw [Int32.sub_eq_add_neg, Int32.sub_eq_add_neg, Int32.add_assoc]
    congr 1
  rw [e]
  simp (disch := omega) only [Jn_lit, zlt_l, zlt_r]
  repeat' split
  all_goals first | rfl | omega
/-- one text under both sides' hands -/
def TX (cT : S_Bytes) (mX : S_MX) (n : Nat) (b : Nat → Int32) : Prop :=
  n ≤ 8192 ∧ cT.1 = Jn n ∧ mX.1 = Jn n ∧ (∀ k, k < n → cT.2 k = b k ∧ mX.2 k = b k ∧ 0 ≤ (b k).toInt ∧ (b k).toInt ≤ 255) ∧ ∀ k, n ≤ k → b k = -1
theorem TX.get {cT mX n b} (h : TX cT mX n b) {k : Nat} (hk : k < 2147483648) : f_Bytes_get 8192 cT (Jn k) = some (b k) := by
  obtain ⟨h1, h2, h3, h4, h5⟩ := h
  unfold f_Bytes_get
  rw [h2, show (Int32.ofNat 8192) = Jn 8192 from rfl]
  simp (disch := omega) only [Jn_lit, Jn_lt, Jn_le]
  rw [if_neg (by omega)]
  by_cases c : n ≤ k
  · rw [if_pos c, h5 k c]; rfl
  · rw [if_neg c, if_neg (by omega), gd_Jn (by omega) (by omega), Jn_cl hk, (h4 k (by omega)).1]
theorem TX.at' {cT mX n b} (h : TX cT mX n b) {k : Nat} (hk : k < 2147483648) : f_Model_at mX (Jn k) = some (b k) := by
  obtain ⟨h1, h2, h3, h4, h5⟩ := h
  unfold f_Model_at
  rw [h3]
  simp (disch := omega) only [Jn_lit, Jn_lt, Jn_le]
  by_cases c : n ≤ k
  · rw [if_pos c, h5 k c]; rfl
  · rw [if_neg c, gd_Jn (by omega) (by omega), Jn_cl hk, (h4 k (by omega)).2.1]
theorem TX.lt {cT mX n b} (h : TX cT mX n b) {k : Nat} {x : Int32} (hb : b k = x) (hx : x ≠ -1) : k < n := by
  apply Classical.byContradiction
  intro c
  exact hx (hb.symm.trans (h.2.2.2.2 k (by omega)))
theorem TX.nn {cT mX n b} (h : TX cT mX n b) {k : Nat} (hk : k < n) : b k ≠ -1 := by
  intro e
  have := (h.2.2.2.1 k hk).2.2.1
  rw [e] at this
  revert this
  decide
theorem TX.goesOn {cT mX n b} (h : TX cT mX n b) {k : Nat} (hk : k < 2147483648) : f_Model_goesOn mX (Jn k) = f_Top_isNameByte (b k) := by
  unfold f_Model_goesOn
  rw [h.at' hk]
  simp only [ob_some, isDg_M]
  by_cases c : zLt (b k)
  · rw [(isLt_M _).1 c, (isNm_C _).1 (Or.inl c)]; rfl
  · rw [(isLt_M _).2 c, ob_some, if_pos rfl]
    by_cases d : zDg (b k)
    · rw [(isDg_C _).1 d, (isNm_C _).1 (Or.inr d)]; rfl
    · rw [(isDg_C _).2 d, (isNm_C _).2 (by intro x; rcases x with x | x <;> contradiction)]; rfl
end
section
/-! Blanks and comments: both sides come to the same byte. -/
theorem eocJ {cT mX n b} (h : TX cT mX n b) : ∀ (d k fC fM : Nat), n - k < d → d ≤ fC → d ≤ fM → k ≤ n + 2 →
    (f_Tokens_endOfComment_L2 cT fC (Jn k) = some (-1) ∧ ∃ e, n ≤ e ∧ e ≤ n + 2 ∧ f_Model_skip_L80 mX fM (Jn k) = some (Jn e)) ∨
    (∃ e, k ≤ e ∧ e + 2 ≤ n ∧ f_Tokens_endOfComment_L2 cT fC (Jn k) = some (Jn (e + 2)) ∧ f_Model_skip_L80 mX fM (Jn k) = some (Jn e)) := by
  have hn : n ≤ 8192 := h.1
  intro d
  induction d with
  | zero => intro k fC fM h1; omega
  | succ d ih =>
    intro k fC fM h1 h2 h3 hk
    obtain ⟨fC, rfl⟩ : ∃ f, fC = f + 1 := ⟨fC - 1, by omega⟩
    obtain ⟨fM, rfl⟩ : ∃ f, fM = f + 1 := ⟨fM - 1, by omega⟩
    unfold f_Tokens_endOfComment_L2 f_Model_skip_L80
    rw [h.2.1, h.2.2.1]
    simp only [Jn_le (show n < 2147483648 by omega) (show k < 2147483648 by omega)]
    by_cases c : n ≤ k
    · left
      rw [if_pos c, if_pos c]
      exact ⟨rfl, k, c, hk, rfl⟩
    · rw [if_neg c, if_neg c, gd_Jn (by omega) (by omega), Jn_cl (by omega), (h.2.2.2.1 k (by omega)).2.1, h.get (by omega), ob_some]
      have e1 : Jn k + 1 = Jn (k + 1) := Jn_add k 1
      have e2 : Jn k + 2 = Jn (k + 2) := Jn_add k 2
      rw [e1, e2, h.get (by omega), h.at' (by omega)]
      simp only [ob_some, nm_eq]
      have hr := ih (k + 1) fC fM (by omega) (by omega) (by omega) (by omega)
      by_cases c1 : b k = 42
      · rw [if_pos c1, if_pos c1]
        by_cases c2 : b (k + 1) = 41
        · rw [if_pos c2, if_pos c2]
          right
          have := h.lt c2 (by decide)
          exact ⟨k, by omega, by omega, rfl, rfl⟩
        · rw [if_neg c2, if_neg c2]
          rcases hr with ⟨r1, r2⟩ | ⟨e, r0, r1, r2⟩
          · exact Or.inl ⟨r1, r2⟩
          · exact Or.inr ⟨e, by omega, r1, r2⟩
      · rw [if_neg c1, if_neg c1]
        rcases hr with ⟨r1, r2⟩ | ⟨e, r0, r1, r2⟩
        · exact Or.inl ⟨r1, r2⟩
        · exact Or.inr ⟨e, by omega, r1, r2⟩
theorem skipJ {cT mX n b} (h : TX cT mX n b) (sz : Int32) (ar : (Nat → Int32) × (Nat → Int32) × (Nat → Int32)) (bg tk wo lp fp : Int32) : ∀ (d p t fC fM : Nat), n - p < d → d ≤ fC → d + 1 ≤ fM → p ≤ n → t ≤ p →
    ∃ q, p ≤ q ∧ q ≤ n ∧ (
      (f_Tokens_skipBlanks_L2 cT fC (Jn t) (sz, Jn p, ar) = some (1, (sz, Jn q, ar)) ∧ f_Model_skip_L2 mX fM 1 (bg, tk, wo, Jn p, lp, 0, fp) = some (bg, tk, wo, Jn q, lp, 0, fp)) ∨
      (f_Tokens_skipBlanks_L2 cT fC (Jn t) (sz, Jn p, ar) = some (0, (sz, Jn q, ar)) ∧ ∃ e, n ≤ e ∧ e < 10000 ∧ f_Model_skip_L2 mX fM 1 (bg, tk, wo, Jn p, lp, 0, fp) = some (bg, tk, wo, Jn e, lp, 2, Jn q))) := by
  have hn : n ≤ 8192 := h.1
  have hFU : FU = 1000000 := rfl
  intro d
  induction d with
  | zero => intro k t fC fM h1; omega
  | succ d ih =>
    intro p t fC fM h1 h2 h3 hp ht
    obtain ⟨fC, rfl⟩ : ∃ f, fC = f + 1 := ⟨fC - 1, by omega⟩
    obtain ⟨fM, rfl⟩ : ∃ f, fM = f + 1 := ⟨fM - 1, by omega⟩
    obtain ⟨gM, rfl⟩ : ∃ f, fM = f + 1 := ⟨fM - 1, by omega⟩
    have e1 : Jn p + 1 = Jn (p + 1) := Jn_add p 1
    have e2 : Jn p + 2 = Jn (p + 2) := Jn_add p 2
    have e3 : Jn t + 1 = Jn (t + 1) := Jn_add t 1
    have stop : f_Model_skip_L2 mX (gM + 1) 0 (bg, tk, wo, Jn p, lp, 0, fp) = some (bg, tk, wo, Jn p, lp, 0, fp) := by
      unfold f_Model_skip_L2; rw [if_pos rfl]
    have go : p < n → ∃ q, p ≤ q ∧ q ≤ n ∧ (
      (f_Tokens_skipBlanks_L2 cT fC (Jn (t + 1)) (sz, Jn (p + 1), ar) = some (1, (sz, Jn q, ar)) ∧ f_Model_skip_L2 mX (gM + 1) 1 (bg, tk, wo, Jn (p + 1), lp, 0, fp) = some (bg, tk, wo, Jn q, lp, 0, fp)) ∨
      (f_Tokens_skipBlanks_L2 cT fC (Jn (t + 1)) (sz, Jn (p + 1), ar) = some (0, (sz, Jn q, ar)) ∧ ∃ e, n ≤ e ∧ e < 10000 ∧ f_Model_skip_L2 mX (gM + 1) 1 (bg, tk, wo, Jn (p + 1), lp, 0, fp) = some (bg, tk, wo, Jn e, lp, 2, Jn q))) := by
      intro c
      obtain ⟨q, a1, a2, a3⟩ := ih (p + 1) (t + 1) fC (gM + 1) (by omega) (by omega) (by omega) (by omega) (by omega)
      exact ⟨q, by omega, a2, a3⟩
    unfold f_Tokens_skipBlanks_L2 f_Model_skip_L2
    rw [if_neg (show ¬ (8192 : Int32) < Jn t by rw [show (8192 : Int32) = Jn 8192 from rfl, Jn_lt (by omega) (by omega)]; omega), if_neg (show ¬ (1 : Int32) = 0 by decide)]
    simp only [e1, e2, e3, h.get (show p < 2147483648 by omega), h.get (show p + 1 < 2147483648 by omega), h.at' (show p < 2147483648 by omega), h.at' (show p + 1 < 2147483648 by omega), ob_some, nm_eq]
    by_cases c40 : b p = 40
    · have hlt := h.lt c40 (by decide)
      have q9 : ((40 : Int32) = 9) = False := eq_false (by decide)
      have q10 : ((40 : Int32) = 10) = False := eq_false (by decide)
      have q13 : ((40 : Int32) = 13) = False := eq_false (by decide)
      have q32 : ((40 : Int32) = 32) = False := eq_false (by decide)
      simp only [c40, q9, q10, q13, q32, if_true, if_false]
      by_cases c42 : b (p + 1) = 42
      · rw [if_pos c42, if_pos c42]
        unfold f_Tokens_endOfComment
        rcases eocJ h 9000 (p + 2) FU FU (by omega) (by omega) (by omega) (by omega) with ⟨r1, e, r2, r2b, r3⟩ | ⟨e, r0, r1, r2, r3⟩
        · rw [r1, r3]
          simp only [ob_some]
          refine ⟨p, by omega, by omega, Or.inr ?_⟩
          refine ⟨by simp, e + 2, by omega, by omega, ?_⟩
          rw [h.2.2.1, if_neg (J_nlt (by omega))]
          unfold f_Model_fail
          rw [if_pos rfl, ob_some]
          unfold f_Model_skip_L2
          rw [if_pos rfl, show Jn e + 2 = Jn (e + 2) from Jn_add e 2]
        · rw [r2, r3]
          simp only [ob_some]
          rw [if_neg J_nm1, h.2.2.1, if_pos (J_lt (by omega)), show Jn e + 2 = Jn (e + 2) from Jn_add e 2]
          obtain ⟨q, a1, a2, a3⟩ := ih (e + 2) (t + 1) fC (gM + 1) (by omega) (by omega) (by omega) (by omega) (by omega)
          exact ⟨q, by omega, a2, a3⟩
      · rw [if_neg c42, if_neg c42, stop]
        exact ⟨p, by omega, by omega, Or.inl ⟨rfl, rfl⟩⟩
    · rw [if_neg c40, if_neg c40]
      by_cases c9 : b p = 9
      · rw [if_pos c9, if_pos c9]; exact go (h.lt c9 (by decide))
      · rw [if_neg c9, if_neg c9]
        by_cases c10 : b p = 10
        · rw [if_pos c10, if_pos c10]; exact go (h.lt c10 (by decide))
        · rw [if_neg c10, if_neg c10]
          by_cases c13 : b p = 13
          · rw [if_pos c13, if_pos c13]; exact go (h.lt c13 (by decide))
          · rw [if_neg c13, if_neg c13]
            by_cases c32 : b p = 32
            · rw [if_pos c32, if_pos c32]; exact go (h.lt c32 (by decide))
            · rw [if_neg c32, if_neg c32, stop]
              exact ⟨p, by omega, by omega, Or.inl ⟨rfl, rfl⟩⟩
end
section
/-! Lists in rows of numbers. -/
def Arr (f : Nat → Int32) (l : List Int32) : Prop := ∀ k, k < l.length → f k = l.getD k 0
theorem gdA {l m : List Int32} {k : Nat} (h : k < l.length) : (l ++ m).getD k 0 = l.getD k 0 := by
  rw [List.getD_eq_getElem?_getD, List.getD_eq_getElem?_getD, List.getElem?_append_left h]
theorem gdB {l m : List Int32} {k : Nat} (h : l.length ≤ k) : (l ++ m).getD k 0 = m.getD (k - l.length) 0 := by
  rw [List.getD_eq_getElem?_getD, List.getD_eq_getElem?_getD, List.getElem?_append_right h]
theorem Arr.snoc {f l} (h : Arr f l) (x : Int32) : Arr (upd f l.length x) (l ++ [x]) := by
  intro k hk
  rw [List.length_append, List.length_singleton] at hk
  by_cases c : k = l.length
  · subst c
    rw [upd_self, gdB (Nat.le_refl _), Nat.sub_self]; rfl
  · rw [upd_ne _ _ c, h k (by omega), gdA (by omega)]
theorem Arr.pre {f l m} (h : Arr f (l ++ m)) : Arr f l := by
  intro k hk
  rw [h k (by rw [List.length_append]; omega), gdA hk]
theorem Arr.suf {f l m} (h : Arr f (l ++ m)) (k : Nat) (hk : k < m.length) : f (l.length + k) = m.getD k 0 := by
  rw [h _ (by rw [List.length_append]; omega), gdB (by omega)]
  congr 1; omega
theorem getD_ext {l m : List Int32} (h1 : l.length = m.length) (h2 : ∀ k, k < l.length → l.getD k 0 = m.getD k 0) : l = m := by
  apply List.ext_getElem h1
  intro k h3 h4
  have := h2 k h3
  rw [List.getD_eq_getElem?_getD, List.getD_eq_getElem?_getD, List.getElem?_eq_getElem h3, List.getElem?_eq_getElem h4] at this
  exact this
def offs (L : List (List Int32)) (i : Nat) : Nat := (L.take i).flatten.length
theorem offs_succ (L : List (List Int32)) (i : Nat) (h : i < L.length) : offs L (i + 1) = offs L i + (L.getD i []).length := by
  unfold offs
  rw [List.take_succ, List.getElem?_eq_getElem h, List.flatten_append, List.length_append]
  have : L.getD i [] = L[i] := by rw [List.getD_eq_getElem?_getD, List.getElem?_eq_getElem h]; rfl
  rw [this]
  simp
theorem offs_all (L : List (List Int32)) (i : Nat) (h : L.length ≤ i) : offs L i = L.flatten.length := by
  unfold offs; rw [List.take_of_length_le h]
theorem offs_le (L : List (List Int32)) (i : Nat) : offs L i ≤ L.flatten.length := by
  unfold offs
  have h : L.flatten = (L.take i).flatten ++ (L.drop i).flatten := by rw [← List.flatten_append, List.take_append_drop]
  rw [h, List.length_append]; omega
theorem offs_app (L M : List (List Int32)) (i : Nat) (h : i ≤ L.length) : offs (L ++ M) i = offs L i := by
  unfold offs; rw [List.take_append_of_le_length h]
theorem flat_split (L : List (List Int32)) (i : Nat) (h : i < L.length) : L.flatten = (L.take i).flatten ++ (L.getD i [] ++ (L.drop (i + 1)).flatten) := by
  have e : L.getD i [] = L[i] := by rw [List.getD_eq_getElem?_getD, List.getElem?_eq_getElem h]; rfl
  have h1 : L = L.take i ++ (L.drop i) := (List.take_append_drop i L).symm
  have h2 : L.drop i = L[i] :: L.drop (i + 1) := List.drop_eq_getElem_cons h
  conv => lhs; rw [h1, h2, List.flatten_append, List.flatten_cons]
  rw [e]
theorem offs_lt (L : List (List Int32)) (i : Nat) (h : i < L.length) : offs L i + (L.getD i []).length ≤ L.flatten.length := by
  rw [← offs_succ L i h]; exact offs_le L (i + 1)
theorem Arr.name {f L m} (h : Arr f (L.flatten ++ m)) {i k : Nat} (hi : i < L.length) (hk : k < (L.getD i []).length) : f (offs L i + k) = (L.getD i []).getD k 0 := by
  have h1 := h.pre
  rw [flat_split L i hi] at h1
  have h2 : Arr f (((L.take i).flatten ++ L.getD i []) ++ (L.drop (i + 1)).flatten) := by rw [List.append_assoc]; exact h1
  exact h2.pre.suf k hk
/-- how many of the first n are not 0 -/
def cntN : Nat → (Nat → Int32) → Nat
  | 0, _ => 0
  | n + 1, f => cntN n f + if f n = 0 then 0 else 1
theorem cntN_upd_out (f : Nat → Int32) (k : Nat) (x : Int32) : ∀ n, n ≤ k → cntN n (upd f k x) = cntN n f
  | 0, _ => rfl
  | n + 1, h => by
    unfold cntN
    rw [cntN_upd_out f k x n (by omega), upd_ne _ _ (by omega)]
theorem cntN_put (f : Nat → Int32) (k : Nat) (x : Int32) (h0 : f k = 0) (hx : x ≠ 0) : ∀ n, k < n → cntN n (upd f k x) = cntN n f + 1
  | 0, h => by omega
  | n + 1, h => by
    unfold cntN
    by_cases c : k = n
    · subst c
      rw [cntN_upd_out _ _ _ _ (Nat.le_refl _), upd_self, if_neg hx, h0, if_pos rfl]
    · rw [cntN_put f k x h0 hx n (by omega), upd_ne _ _ (by omega)]; omega
theorem cntN_take (f : Nat → Int32) (k : Nat) (h0 : f k ≠ 0) : ∀ n, k < n → cntN n (upd f k 0) + 1 = cntN n f
  | 0, h => by omega
  | n + 1, h => by
    unfold cntN
    by_cases c : k = n
    · subst c
      rw [cntN_upd_out _ _ _ _ (Nat.le_refl _), upd_self, if_neg h0, if_pos rfl]
    · have := cntN_take f k h0 n (by omega)
      rw [upd_ne _ _ (by omega)]; omega
theorem cntN_full (f : Nat → Int32) : ∀ n, (∀ s, s < n → f s ≠ 0) → cntN n f = n
  | 0, _ => rfl
  | n + 1, h => by
    unfold cntN
    rw [cntN_full f n (fun s hs => h s (by omega)), if_neg (h n (by omega))]
end
section
/-! The class's names: a table by digest stands for a list. -/
theorem and8191 (x : Int32) : x &&& 8191 = Jn (x.toBitVec.toNat % 8192) := by
  apply Int32.toBitVec_inj.mp
  rw [Int32.toBitVec_and]
  unfold Jn
  rw [Int32.toBitVec_ofNat']
  apply BitVec.eq_of_toNat_eq
  rw [BitVec.toNat_and, BitVec.toNat_ofNat]
  have e : (Int32.toBitVec 8191).toNat = 2 ^ 13 - 1 := by decide
  rw [e, Nat.and_two_pow_sub_one_eq_mod]
  omega
theorem andJ {a : Nat} (h : a < 2147483648) : Jn a &&& 8191 = Jn (a % 8192) := by
  rw [and8191]
  have : (Jn a).toBitVec.toNat = a := by
    unfold Jn
    rw [Int32.toBitVec_ofNat', BitVec.toNat_ofNat]; omega
  rw [this]
def hsh (w : List Int32) : Int32 := w.foldl (fun a x => 31 * a + x) 0
def hs (w : List Int32) : Nat := (hsh w).toBitVec.toNat % 8192
theorem hs_lt (w : List Int32) : hs w < 8192 := by unfold hs; omega
def HT (so sl : Nat → Int32) (L : List (List Int32)) : Prop :=
  cntN 8192 sl = L.length ∧
  (∀ s, s < 8192 → sl s = 0 ∨ ∃ i, i < L.length ∧ sl s = Jn (i + 1) ∧ so i = Jn s) ∧
  (∀ i, i < L.length → ∃ k, k < 8192 ∧ so i = Jn ((hs (L.getD i []) + k) % 8192) ∧ sl ((hs (L.getD i []) + k) % 8192) = Jn (i + 1) ∧
    ∀ j, j < k → ∃ i', i' < i ∧ sl ((hs (L.getD i []) + j) % 8192) = Jn (i' + 1))
def CN (o : S_Names) (L : List (List Int32)) (pd : List Int32) : Prop :=
  o.1 = Jn L.length ∧ L.length ≤ 4137 ∧ L.flatten.length + pd.length ≤ 8704 ∧ o.2.1 = Jn (L.flatten.length + pd.length) ∧
  Arr o.2.2.1 (L.flatten ++ pd) ∧ (∀ i, i ≤ L.length → o.2.2.2.1 i = Jn (offs L i)) ∧ HT o.2.2.2.2.1 o.2.2.2.2.2 L
def UQ (L : List (List Int32)) : Prop := ∀ i j, i < L.length → j < L.length → L.getD i [] = L.getD j [] → i = j
theorem CN.startOf {o L pd} (h : CN o L pd) {i : Nat} (hi : i ≤ L.length) : f_Names_startOf o (Jn i) = some (Jn (offs L i)) := by
  obtain ⟨h1, h2, h3, h4, h5, h6, h7⟩ := h
  unfold f_Names_startOf
  rw [if_neg J_nneg, if_neg (nltL 4137 (by omega)), gd_Jn (by omega) (by omega), Jn_cl (by omega), h6 i hi]
theorem CN.addLetter {o L pd} (h : CN o L pd) (x : Int32) (hr : L.flatten.length + pd.length < 8704) : ∃ o', f_Names_addLetter o x = some o' ∧ CN o' L (pd ++ [zGr x]) := by
  obtain ⟨h1, h2, h3, h4, h5, h6, h7⟩ := h
  unfold f_Names_addLetter
  rw [h4, if_neg J_nneg, if_neg (nleL 8704 hr), great_C, ob_some, gd_Jn hr (by omega), Jn_cl (by omega)]
  refine ⟨_, rfl, h1, h2, ?_, ?_, ?_, h6, h7⟩
  · rw [List.length_append, List.length_singleton]; omega
  · rw [List.length_append, List.length_singleton]; exact Jn_add _ 1
  · have := h5.snoc (zGr x)
    rw [List.length_append] at this
    rw [← List.append_assoc]; exact this
theorem CN.firstL {o L pd} (h : CN o L pd) : ∀ (d k f : Nat), pd.length - k < d → d ≤ f → k ≤ pd.length →
    f_Names_firstSlot_L11 o f (Jn (L.flatten.length + k)) ((pd.take k).foldl (fun a x => 31 * a + x) 0) = some (hsh pd) := by
  obtain ⟨h1, h2, h3, h4, h5, h6, h7⟩ := h
  intro d
  induction d with
  | zero => intro k f h; omega
  | succ d ih =>
    intro k f hd hf hk
    obtain ⟨f, rfl⟩ : ∃ g, f = g + 1 := ⟨f - 1, by omega⟩
    unfold f_Names_firstSlot_L11
    rw [h4]
    by_cases c : k = pd.length
    · subst c
      rw [if_pos (J_le (Nat.le_refl _)), List.take_length]; rfl
    · rw [if_neg (J_nle (by omega)), if_neg (nleL 8704 (by omega)), gd_Jn (by omega) (by omega), Jn_cl (by omega)]
      simp only [nm_eq]
      have e := h5.suf k (by omega)
      rw [e, show Jn (L.flatten.length + k) + 1 = Jn (L.flatten.length + (k + 1)) from Jn_add _ 1]
      have e2 : pd.take (k + 1) = pd.take k ++ [pd.getD k 0] := by
        rw [List.take_succ, List.getElem?_eq_getElem (show k < pd.length by omega), List.getD_eq_getElem?_getD, List.getElem?_eq_getElem (show k < pd.length by omega)]; rfl
      have := ih (k + 1) f (by omega) (by omega) (by omega)
      rw [e2, List.foldl_append] at this
      exact this
theorem CN.firstSlot {o L pd} (h : CN o L pd) : f_Names_firstSlot o = some (Jn (hs pd)) := by
  unfold f_Names_firstSlot
  rw [h.1, h.startOf (Nat.le_refl _), ob_some, offs_all L _ (Nat.le_refl _)]
  have hl := h.2.2.1
  have := h.firstL 10000 0 FU (by omega) (by decide) (by omega)
  rw [Nat.add_zero, List.take_zero] at this
  rw [show ([] : List Int32).foldl (fun a x => 31 * a + x) 0 = 0 from rfl] at this
  rw [this, ob_some, and8191]; rfl
theorem CN.cmpL {o : S_Names} {a c n : Nat} (u v : List Int32) (hu : u.length = n) (hv : v.length = n) (h1 : a + n ≤ 8704) (h2 : c + n ≤ 8704)
    (e1 : ∀ k, k < n → o.2.2.1 (a + k) = u.getD k 0) (e2 : ∀ k, k < n → o.2.2.1 (c + k) = v.getD k 0) : ∀ (d k f : Nat), n - k < d → d ≤ f → k ≤ n → (∀ j, j < k → u.getD j 0 = v.getD j 0) →
    (u = v ∧ f_Names_isAddedLast_L66 o (Jn n) (Jn c) (Jn a) f (Jn k) = some 1) ∨ (u ≠ v ∧ f_Names_isAddedLast_L66 o (Jn n) (Jn c) (Jn a) f (Jn k) = some 0) := by
  intro d
  induction d with
  | zero => intro k f h; omega
  | succ d ih =>
    intro k f hd hf hk hp
    obtain ⟨f, rfl⟩ : ∃ g, f = g + 1 := ⟨f - 1, by omega⟩
    unfold f_Names_isAddedLast_L66
    by_cases q : k = n
    · subst q
      rw [if_pos (J_le (Nat.le_refl _))]
      exact Or.inl ⟨getD_ext (hu.trans hv.symm) (by rw [hu]; exact hp), rfl⟩
    · rw [if_neg (J_nle (by omega)), J_add, J_add, gd_Jn (by omega) (by omega), gd_Jn (by omega) (by omega), Jn_cl (by omega), Jn_cl (by omega), e1 k (by omega), e2 k (by omega)]
      by_cases w : u.getD k 0 = v.getD k 0
      · rw [if_pos w, nm_eq, show Jn k + 1 = Jn (k + 1) from Jn_add k 1]
        refine ih (k + 1) f (by omega) (by omega) (by omega) ?_
        intro j hj
        by_cases z : j = k
        · rw [z]; exact w
        · exact hp j (by omega)
      · rw [if_neg w]
        refine Or.inr ⟨?_, rfl⟩
        intro e; exact w (by rw [e])
theorem CN.isAdded {o L pd} (h : CN o L pd) {i : Nat} (hi : i < L.length) :
    (L.getD i [] = pd ∧ f_Names_isAddedLast o (Jn i) = some 1) ∨ (L.getD i [] ≠ pd ∧ f_Names_isAddedLast o (Jn i) = some 0) := by
  have hh := h
  obtain ⟨h1, h2, h3, h4, h5, h6, h7⟩ := hh
  have hs1 := offs_succ L i hi
  have hs2 := offs_lt L i hi
  unfold f_Names_isAddedLast
  rw [h.startOf (by omega), ob_some, h1, h.startOf (Nat.le_refl _), ob_some, show Jn i + 1 = Jn (i + 1) from Jn_add i 1, h.startOf (by omega), ob_some, h4, offs_all L _ (Nat.le_refl _), Jn_sub (by omega), Jn_sub (by omega), hs1]
  rw [show offs L i + (L.getD i []).length - offs L i = (L.getD i []).length by omega, show L.flatten.length + pd.length - L.flatten.length = pd.length by omega]
  by_cases c : (L.getD i []).length = pd.length
  · rw [c, if_pos rfl, J_add, if_neg (nltL 8704 (by omega)), if_pos (leR 8704 h3)]
    exact CN.cmpL (L.getD i []) pd c rfl (by omega) h3 (fun k hk => h5.name hi (by omega)) (fun k hk => h5.suf k hk) 10000 0 FU (by omega) (by decide) (by omega) (fun j hj => by omega)
  · rw [if_neg (J_ne c)]
    refine Or.inr ⟨?_, rfl⟩
    intro e; exact c (by rw [e])
end
section
/-! number() of the class's names: the list's own index. -/
theorem CN.keep {o L pd} (h : CN o L pd) {j : Nat} (hj : j < 8192) (hl : L.length < 4137) (hz : o.2.2.2.2.2 ((hs pd + j) % 8192) = 0)
    (hc : ∀ j', j' < j → ∃ i', i' < L.length ∧ o.2.2.2.2.2 ((hs pd + j') % 8192) = Jn (i' + 1)) :
    ∃ o', f_Names_keep o (Jn ((hs pd + j) % 8192)) = some (Jn L.length, o') ∧ CN o' (L ++ [pd]) [] := by
  obtain ⟨h1, h2, h3, h4, h5, h6, h7, h8, h9⟩ := h
  generalize hS : (hs pd + j) % 8192 = S at hz
  have hS8 : S < 8192 := by omega
  unfold f_Names_keep
  rw [h1, if_neg J_nneg, if_neg (nleL 4137 hl), if_neg J_nneg, if_pos (ltR 8192 hS8), gd_Jn hS8 (by omega), gd_Jn hl (by omega), addL _ 1, gd_Jn (by omega) (by omega), Jn_cl (by omega), Jn_cl (by omega), Jn_cl (by omega)]
  have gl : ∀ i, i < L.length → (L ++ [pd]).getD i [] = L.getD i [] := by
    intro i hi
    rw [List.getD_eq_getElem?_getD, List.getD_eq_getElem?_getD, List.getElem?_append_left hi]
  have gr : (L ++ [pd]).getD L.length [] = pd := by
    rw [List.getD_eq_getElem?_getD, List.getElem?_append_right (Nat.le_refl _), Nat.sub_self]; rfl
  have hne : ∀ i, i < L.length → ∀ s, o.2.2.2.2.2 s = Jn (i + 1) → s ≠ S := by
    intro i hi s e es
    rw [es, hz] at e
    exact J_ne (a := 0) (b := i + 1) (by omega) (by omega) (by omega) e
  have hflat : (L ++ [pd]).flatten = L.flatten ++ pd := by simp
  refine ⟨_, rfl, ?_, ?_, ?_, ?_, ?_, ?_, ?_, ?_, ?_⟩
  · rw [List.length_append, List.length_singleton]
  · rw [List.length_append, List.length_singleton]; omega
  · rw [hflat, List.length_append, List.length_nil]; omega
  · rw [hflat, List.length_append, List.length_nil]; exact h4
  · rw [hflat, List.append_nil]; exact h5
  · intro i hi
    rw [List.length_append, List.length_singleton] at hi
    by_cases c : i = L.length + 1
    · subst c
      show upd _ _ _ _ = _
      rw [upd_self, offs_all _ _ (by rw [List.length_append, List.length_singleton]; exact Nat.le_refl _), hflat, List.length_append, h4]
    · show upd _ _ _ _ = _
      rw [upd_ne _ _ c, h6 i (by omega), offs_app _ _ _ (by omega)]
  · show cntN 8192 (upd _ _ _) = _
    rw [cntN_put _ _ _ hz (fun e => J_ne (a := L.length + 1) (b := 0) (by omega) (by omega) (by omega) e) 8192 hS8, h7, List.length_append, List.length_singleton]
  · intro s hs
    show upd _ _ _ s = 0 ∨ ∃ i, i < (L ++ [pd]).length ∧ upd _ _ _ s = _ ∧ upd _ _ _ i = _
    rw [List.length_append, List.length_singleton]
    by_cases c : s = S
    · subst c
      right
      exact ⟨L.length, by omega, by rw [upd_self], by rw [upd_self]⟩
    · rw [upd_ne _ _ c]
      rcases h8 s hs with e | ⟨i, hi, e1, e2⟩
      · exact Or.inl e
      · right
        exact ⟨i, by omega, e1, by rw [upd_ne _ _ (by omega)]; exact e2⟩
  · intro i hi
    rw [List.length_append, List.length_singleton] at hi
    show ∃ k, k < 8192 ∧ upd _ _ _ i = _ ∧ upd _ _ _ _ = _ ∧ ∀ j, j < k → ∃ i', i' < i ∧ upd _ _ _ _ = _
    by_cases c : i = L.length
    · subst c
      rw [gr]
      refine ⟨j, hj, by rw [upd_self, hS], by rw [hS, upd_self], ?_⟩
      intro j' hj'
      obtain ⟨i', a1, a2⟩ := hc j' hj'
      exact ⟨i', a1, by rw [upd_ne _ _ (hne i' a1 _ a2)]; exact a2⟩
    · rw [gl i (by omega)]
      obtain ⟨k, b1, b2, b3, b4⟩ := h9 i (by omega)
      refine ⟨k, b1, by rw [upd_ne _ _ (by omega)]; exact b2, by rw [upd_ne _ _ (hne i (by omega) _ b3)]; exact b3, ?_⟩
      intro j' hj'
      obtain ⟨i', a1, a2⟩ := b4 j' hj'
      exact ⟨i', a1, by rw [upd_ne _ _ (hne i' (by omega) _ a2)]; exact a2⟩
theorem CN.numL {o L pd} (h : CN o L pd) : ∀ (d j f : Nat), 8192 - j < d → d ≤ f → j ≤ 8192 →
    (∀ j', j' < j → ∃ i', i' < L.length ∧ o.2.2.2.2.2 ((hs pd + j') % 8192) = Jn (i' + 1) ∧ L.getD i' [] ≠ pd) →
    (∃ i, i < L.length ∧ L.getD i [] = pd ∧ f_Names_number_L7 o f (Jn j) (Jn ((hs pd + j) % 8192)) = some (Jn i, (o.1, Jn L.flatten.length, o.2.2))) ∨
    ((∀ i, i < L.length → L.getD i [] ≠ pd) ∧ (L.length < 4137 → ∃ o', f_Names_number_L7 o f (Jn j) (Jn ((hs pd + j) % 8192)) = some (Jn L.length, o') ∧ CN o' (L ++ [pd]) [])) := by
  intro d
  induction d with
  | zero => intro j f h; omega
  | succ d ih =>
    intro j f hd hf hj hp
    obtain ⟨f, rfl⟩ : ∃ g, f = g + 1 := ⟨f - 1, by omega⟩
    have hh := h
    obtain ⟨h1, h2, h3, h4, h5, h6, h7, h8, h9⟩ := hh
    by_cases c : j = 8192
    · exfalso
      have : cntN 8192 o.2.2.2.2.2 = 8192 := by
        apply cntN_full
        intro s hs' e0
        have hl := hs_lt pd
        obtain ⟨i', a1, a2, a3⟩ := hp ((s + 8192 - hs pd) % 8192) (by omega)
        rw [show (hs pd + (s + 8192 - hs pd) % 8192) % 8192 = s by omega, e0] at a2
        exact J_ne (a := 0) (b := i' + 1) (by omega) (by omega) (by omega) a2
      omega
    · have hlt : (hs pd + j) % 8192 < 8192 := by omega
      unfold f_Names_number_L7
      rw [if_neg (nleL 8192 (by omega)), if_neg J_nneg, if_neg (nleL 8192 hlt), gd_Jn hlt (by omega), Jn_cl (by omega), nm_eq]
      rcases h8 _ hlt with e | ⟨i, hi, e1, e2⟩
      · right
        have nf : ∀ i, i < L.length → L.getD i [] ≠ pd := by
          intro i hi ei
          obtain ⟨k, b1, b2, b3, b4⟩ := h9 i hi
          rw [ei] at b2 b3 b4
          by_cases k1 : k < j
          · obtain ⟨i', a1, a2, a3⟩ := hp k k1
            rw [b3, Jn_eq (by omega) (by omega)] at a2
            have : i = i' := by omega
            subst this
            exact a3 ei
          · by_cases k2 : k = j
            · subst k2
              rw [e] at b3
              exact J_ne (a := 0) (b := i + 1) (by omega) (by omega) (by omega) b3
            · obtain ⟨i', a1, a2⟩ := b4 j (by omega)
              rw [e] at a2
              exact J_ne (a := 0) (b := i' + 1) (by omega) (by omega) (by omega) a2
        refine ⟨nf, fun hl => ?_⟩
        rw [e, if_neg (show ¬ (0 : Int32) ≤ 0 - 1 by decide)]
        obtain ⟨o', k1, k2⟩ := h.keep (j := j) (by omega) hl e (fun j' hj' => by
          obtain ⟨i', a1, a2, a3⟩ := hp j' hj'
          exact ⟨i', a1, a2⟩)
        exact ⟨o', by rw [k1]; rfl, k2⟩
      · rw [e1, subL 1 (by omega), show i + 1 - 1 = i by omega, if_pos (leL 0 (Nat.zero_le _))]
        rcases h.isAdded hi with ⟨q1, q2⟩ | ⟨q1, q2⟩
        · left
          refine ⟨i, hi, q1, ?_⟩
          rw [q2, ob_some, if_neg (show ¬ (1 : Int32) = 0 by decide), h1, h.startOf (Nat.le_refl _), offs_all _ _ (Nat.le_refl _)]; rfl
        · rw [q2, ob_some, if_pos rfl, nm_eq, addL j 1, addL _ 1, andJ (by omega), show ((hs pd + j) % 8192 + 1) % 8192 = (hs pd + (j + 1)) % 8192 by omega]
          refine ih (j + 1) f (by omega) (by omega) (by omega) ?_
          intro j' hj'
          by_cases z : j' = j
          · subst z; exact ⟨i, hi, e1, q1⟩
          · exact hp j' (by omega)
theorem CN.number {o L pd} (h : CN o L pd) :
    (∃ i, i < L.length ∧ L.getD i [] = pd ∧ ∃ o', f_Names_number o = some (Jn i, o') ∧ CN o' L []) ∨
    ((∀ i, i < L.length → L.getD i [] ≠ pd) ∧ (L.length < 4137 → ∃ o', f_Names_number o = some (Jn L.length, o') ∧ CN o' (L ++ [pd]) [])) := by
  have hl := hs_lt pd
  have := h.numL 10000 0 FU (by omega) (by decide) (by omega) (fun j' hj' => by omega)
  rw [Nat.add_zero, Nat.mod_eq_of_lt hl] at this
  unfold f_Names_number
  rw [h.firstSlot, ob_some]
  rcases this with ⟨i, a1, a2, a3⟩ | a
  · left
    refine ⟨i, a1, a2, _, a3, h.1, h.2.1, ?_, rfl, ?_, h.2.2.2.2.2.1, h.2.2.2.2.2.2⟩
    · have := h.2.2.1
      rw [List.length_nil]; omega
    · rw [List.append_nil]; exact h.2.2.2.2.1.pre
  · exact Or.inr a
end
section
/-! forget(): the first 41 stay. -/
theorem UQ.app {L : List (List Int32)} {w : List Int32} (h : UQ L) (hn : ∀ i, i < L.length → L.getD i [] ≠ w) : UQ (L ++ [w]) := by
  have gl : ∀ i, i < L.length → (L ++ [w]).getD i [] = L.getD i [] := by
    intro i hi
    rw [List.getD_eq_getElem?_getD, List.getD_eq_getElem?_getD, List.getElem?_append_left hi]
  have gr : (L ++ [w]).getD L.length [] = w := by
    rw [List.getD_eq_getElem?_getD, List.getElem?_append_right (Nat.le_refl _), Nat.sub_self]; rfl
  intro i j hi hj e
  rw [List.length_append, List.length_singleton] at hi hj
  by_cases c1 : i = L.length
  · by_cases c2 : j = L.length
    · omega
    · rw [c1, gr, gl j (by omega)] at e
      exact absurd e.symm (hn j (by omega))
  · by_cases c2 : j = L.length
    · rw [c2, gr, gl i (by omega)] at e
      exact absurd e (hn i (by omega))
    · rw [gl i (by omega), gl j (by omega)] at e
      exact h i j (by omega) (by omega) e
/-- what is left of the table when the names m and on are to be forgotten still -/
def HF (so sl sl0 : Nat → Int32) (L : List (List Int32)) (m : Nat) : Prop :=
  cntN 8192 sl + m = 41 + L.length ∧ ∀ s, s < 8192 → (sl s = sl0 s ∧ (sl s = 0 ∨ ∃ i, i < L.length ∧ sl s = Jn (i + 1) ∧ so i = Jn s ∧ (i < 41 ∨ m ≤ i))) ∨ (sl s = 0 ∧ ∃ i, 41 ≤ i ∧ i < m ∧ sl0 s = Jn (i + 1))
theorem CN.forgetL {o L} (h : CN o L []) (h41 : 41 ≤ L.length) : ∀ (d m f : Nat) (sl : Nat → Int32), L.length - m < d → d ≤ f → 41 ≤ m → m ≤ L.length → HF o.2.2.2.2.1 sl o.2.2.2.2.2 L m →
    ∃ sl', f_Names_forget_L3 f (Jn m) (o.1, o.2.1, o.2.2.1, o.2.2.2.1, o.2.2.2.2.1, sl) = some (o.1, o.2.1, o.2.2.1, o.2.2.2.1, o.2.2.2.2.1, sl') ∧ HF o.2.2.2.2.1 sl' o.2.2.2.2.2 L L.length := by
  have hh := h
  obtain ⟨h1, h2, h3, h4, h5, h6, h7, h8, h9⟩ := hh
  intro d
  induction d with
  | zero => intro m f sl h; omega
  | succ d ih =>
    intro m f sl hd hf hm1 hm2 hF
    obtain ⟨f, rfl⟩ : ∃ g, f = g + 1 := ⟨f - 1, by omega⟩
    unfold f_Names_forget_L3
    by_cases c : m = L.length
    · subst c
      refine ⟨sl, ?_, hF⟩
      rw [if_pos (by rw [h1]; exact J_le (Nat.le_refl _))]
    · rw [if_neg (by rw [h1]; exact J_nle (by omega)), if_neg (nleL 4137 (by omega)), gd_Jn (by omega) (by omega), Jn_cl (by omega), nm_eq]
      obtain ⟨k, b1, b2, b3, b4⟩ := h9 m (by omega)
      generalize hS : (hs (L.getD m []) + k) % 8192 = S at b2 b3
      have hS8 : S < 8192 := by omega
      simp only []
      rw [b2, if_neg J_nneg, if_neg (nleL 8192 hS8), gd_Jn hS8 (by omega), nm_eq, Jn_cl (by omega), addL m 1]
      have hsl : sl S = Jn (m + 1) := by
        rcases hF.2 S hS8 with ⟨a1, a2⟩ | ⟨a1, i, a2, a3, a4⟩
        · rw [a1, b3]
        · rw [b3, Jn_eq (by omega) (by omega)] at a4; omega
      refine ih (m + 1) f (upd sl S 0) (by omega) (by omega) (by omega) (by omega) ⟨?_, ?_⟩
      · have := cntN_take sl S (by rw [hsl]; exact J_ne (a := m + 1) (b := 0) (by omega) (by omega) (by omega)) 8192 hS8
        have := hF.1
        omega
      · intro s hs
        by_cases cs : s = S
        · subst cs
          right
          exact ⟨upd_self _ _ _, m, by omega, by omega, b3⟩
        · rw [upd_ne _ _ cs]
          rcases hF.2 s hs with ⟨a1, a2⟩ | ⟨a1, i, a2, a3, a4⟩
          · left
            refine ⟨a1, ?_⟩
            rcases a2 with a2 | ⟨i, i1, i2, i3, i4⟩
            · exact Or.inl a2
            · right
              refine ⟨i, i1, i2, i3, ?_⟩
              rcases i4 with i4 | i4
              · exact Or.inl i4
              · right
                by_cases ci : i = m
                · subst ci
                  rw [b2, Jn_eq (by omega) (by omega)] at i3
                  omega
                · omega
          · right
            exact ⟨a1, i, a2, by omega, a4⟩
theorem CN.forget {o L} (h : CN o L []) (h41 : 41 ≤ L.length) : ∃ o', f_Names_forget o = some o' ∧ CN o' (L.take 41) [] := by
  have hh := h
  obtain ⟨h1, h2, h3, h4, h5, h6, h7, h8, h9⟩ := hh
  obtain ⟨sl', a1, a2, a3⟩ := h.forgetL h41 10000 41 FU o.2.2.2.2.2 (by omega) (by decide) (by omega) h41 ⟨by omega, fun s hs => Or.inl ⟨rfl, by
    rcases h8 s hs with e | ⟨i, i1, i2, i3⟩
    · exact Or.inl e
    · exact Or.inr ⟨i, i1, i2, i3, by omega⟩⟩⟩
  have ht : (L.take 41).length = 41 := by rw [List.length_take]; omega
  have gt : ∀ i, i < 41 → (L.take 41).getD i [] = L.getD i [] := by
    intro i hi
    rw [List.getD_eq_getElem?_getD, List.getD_eq_getElem?_getD, List.getElem?_take_of_lt hi]
  have of : ∀ i, i ≤ 41 → offs (L.take 41) i = offs L i := by
    intro i hi
    unfold offs
    rw [List.take_take, Nat.min_eq_left hi]
  unfold f_Names_forget
  rw [show f_Names_forget_L3 FU 41 o = some (o.1, o.2.1, o.2.2.1, o.2.2.2.1, o.2.2.2.2.1, sl') from a1, ob_some, show (41 : Int32) = Jn 41 from rfl, gd_Jn (by omega) (by omega), nm_eq, Jn_cl (by omega)]
  have ho := offs_le L 41
  rw [List.length_nil] at h3
  have e41 : offs L 41 = (L.take 41).flatten.length := rfl
  refine ⟨_, rfl, ?_, ?_, ?_, ?_, ?_, ?_, ?_, ?_, ?_⟩
  · rw [ht]
  · omega
  · rw [List.length_nil]; omega
  · rw [List.length_nil, Nat.add_zero, ← e41]; exact h6 41 (by omega)
  · rw [List.append_nil]
    rw [List.append_nil] at h5
    have e : L.flatten = (L.take 41).flatten ++ (L.drop 41).flatten := by rw [← List.flatten_append, List.take_append_drop]
    rw [e] at h5
    exact h5.pre
  · intro i hi
    rw [of i (by omega)]
    exact h6 i (by omega)
  · show cntN 8192 sl' = _
    omega
  · intro s hs
    show sl' s = 0 ∨ _
    rcases a3 s hs with ⟨b1, b2⟩ | ⟨b1, b2⟩
    · rcases b2 with b2 | ⟨i, i1, i2, i3, i4⟩
      · exact Or.inl b2
      · exact Or.inr ⟨i, by omega, i2, i3⟩
    · exact Or.inl b1
  · intro i hi
    rw [ht] at hi
    rw [gt i hi]
    have stay : ∀ s i', s < 8192 → i' < 41 → o.2.2.2.2.2 s = Jn (i' + 1) → sl' s = Jn (i' + 1) := by
      intro s i' hs hi' e
      rcases a3 s hs with ⟨b1, b2⟩ | ⟨b1, k, b2, b3, b4⟩
      · rw [b1]; exact e
      · rw [e, Jn_eq (by omega) (by omega)] at b4; omega
    obtain ⟨k, b1, b2, b3, b4⟩ := h9 i (by omega)
    refine ⟨k, b1, b2, stay _ _ (by omega) hi b3, ?_⟩
    intro j hj
    obtain ⟨i', c1, c2⟩ := b4 j hj
    exact ⟨i', c1, stay _ _ (by omega) (by omega) c2⟩
end
section
/-! The words and signs. -/
def WS : List (List Int32) := [[70, 85, 78, 67, 84, 73, 79, 78], [69, 78, 68, 95, 70, 85, 78, 67, 84, 73, 79, 78], [70, 85, 78, 67, 84, 73, 79, 78, 95, 66, 76, 79, 67, 75], [69, 78, 68, 95, 70, 85, 78, 67, 84, 73, 79, 78, 95, 66, 76, 79, 67, 75], [80, 82, 79, 71, 82, 65, 77], [69, 78, 68, 95, 80, 82, 79, 71, 82, 65, 77], [86, 65, 82], [86, 65, 82, 95, 73, 78, 80, 85, 84], [86, 65, 82, 95, 79, 85, 84, 80, 85, 84], [69, 78, 68, 95, 86, 65, 82], [65, 84], [66, 79, 79, 76], [73, 78, 84], [68, 73, 78, 84], [65, 82, 82, 65, 89], [79, 70], [73, 70], [84, 72, 69, 78], [69, 76, 83, 73, 70], [69, 76, 83, 69], [69, 78, 68, 95, 73, 70], [67, 65, 83, 69], [69, 78, 68, 95, 67, 65, 83, 69], [70, 79, 82], [84, 79], [66, 89], [68, 79], [69, 78, 68, 95, 70, 79, 82], [69, 88, 73, 84], [82, 69, 84, 85, 82, 78], [79, 82], [88, 79, 82], [65, 78, 68], [77, 79, 68], [78, 79, 84], [84, 82, 85, 69], [70, 65, 76, 83, 69], [76, 65, 68, 68, 69, 82], [69, 78, 68, 95, 76, 65, 68, 68, 69, 82], [82, 85, 78, 71], [69, 78, 68, 95, 82, 85, 78, 71]]
def SG : List Int32 := [58, 61, 46, 46, 60, 61, 62, 61, 60, 62, 40, 0, 41, 0, 91, 0, 93, 0, 44, 0, 59, 0, 58, 0, 46, 0, 43, 0, 45, 0, 42, 0, 47, 0, 61, 0, 60, 0, 62, 0, 38, 0, 124, 0]
def PL : List Int32 := [73, 88, 81, 88, 77, 88, 73, 87, 81, 87, 77, 87]
theorem WS_len : WS.length = 41 := rfl
theorem WS_flat : WS.flatten.length = 229 := by decide +kernel
theorem WS_uq : UQ WS := by
  have key : ∀ i, i < 41 → ∀ j, j < 41 → WS.getD i [] = WS.getD j [] → i = j := by decide +kernel
  intro i j hi hj
  exact key i hi j hj
theorem WS_len32 : ∀ i, i < 41 → 0 < (WS.getD i []).length ∧ (WS.getD i []).length ≤ 18 := by decide +kernel
theorem WS_nz : ∀ i, i < 41 → ∀ k, k < (WS.getD i []).length → (WS.getD i []).getD k 0 ≠ 0 := by decide +kernel
def MC (C : S_MC) : Prop :=
  (∀ w, w ≤ 41 → C.2.1 w = Jn (offs WS w + w)) ∧ (∀ w, w < 41 → ∀ k, k < (WS.getD w []).length → C.1 (offs WS w + w + k) = (WS.getD w []).getD k 0) ∧
  (∀ w, w < 41 → C.1 (offs WS w + w + (WS.getD w []).length) = 0) ∧ Arr C.2.2.1 SG ∧ Arr C.2.2.2 PL
def MN (o : S_MN) (L : List (List Int32)) : Prop :=
  o.1 = Jn L.length ∧ L.length ≤ 8192 ∧ L.flatten.length ≤ 8192 ∧ (∀ i, i ≤ L.length → o.2.1 i = Jn (offs L i)) ∧ Arr o.2.2 L.flatten
/-- n bytes from s on, in great letters -/
def seg (b : Nat → Int32) (s n : Nat) : List Int32 := (List.range n).map (fun k => zGr (b (s + k)))
theorem seg_len (b : Nat → Int32) (s n : Nat) : (seg b s n).length = n := by simp [seg]
theorem seg_get (b : Nat → Int32) (s n k : Nat) (h : k < n) : (seg b s n).getD k 0 = zGr (b (s + k)) := by
  unfold seg
  rw [List.getD_eq_getElem?_getD, List.getElem?_map, List.getElem?_range h]; rfl
theorem nmCmp {cT mX n b} (h : TX cT mX n b) {o : S_MN} {a s m w : Nat} (u : List Int32) (hu : u.length = m) (hs : s + m ≤ n) (hw : w < 8193) (ha : a + m ≤ 8192) (hat : o.2.1 w = Jn a) (hb : ∀ k, k < m → o.2.2 (a + k) = u.getD k 0) :
    ∀ (d k f : Nat), m - k < d → d ≤ f → k ≤ m → (∀ j, j < k → u.getD j 0 = (seg b s m).getD j 0) →
    (u = seg b s m ∧ f_Model_nameOf_L39 (Jn w) (Jn s) (Jn m) mX o f (Jn k) 1 = some 1) ∨ (u ≠ seg b s m ∧ f_Model_nameOf_L39 (Jn w) (Jn s) (Jn m) mX o f (Jn k) 1 = some 0) := by
  have hn := h.1
  intro d
  induction d with
  | zero => intro k f h; omega
  | succ d ih =>
    intro k f hd hf hk hp
    obtain ⟨f, rfl⟩ : ∃ g, f = g + 1 := ⟨f - 1, by omega⟩
    unfold f_Model_nameOf_L39
    by_cases q : k = m
    · subst q
      rw [if_pos (J_le (Nat.le_refl _))]
      exact Or.inl ⟨getD_ext (by rw [hu, seg_len]) (by rw [hu]; exact hp), rfl⟩
    · rw [if_neg (J_nle (by omega)), if_neg (show ¬ (1 : Int32) = 0 by decide), gd_Jn hw (by omega), Jn_cl (by omega), hat, J_add, gd_Jn (by omega) (by omega), J_add, gd_Jn (by omega) (by omega), Jn_cl (by omega), Jn_cl (by omega), hb k (by omega), (h.2.2.2.1 (s + k) (by omega)).2.1, great_M, ob_some, ← seg_get b s m k (by omega)]
      by_cases w' : u.getD k 0 = (seg b s m).getD k 0
      · rw [if_pos w', nm_eq, addL k 1]
        refine ih (k + 1) f (by omega) (by omega) (by omega) ?_
        intro j hj
        by_cases z : j = k
        · rw [z]; exact w'
        · exact hp j (by omega)
      · rw [if_neg w', nm_eq, addL k 1]
        refine Or.inr ⟨?_, ?_⟩
        · intro e; exact w' (by rw [e])
        · obtain ⟨f, rfl⟩ : ∃ g, f = g + 1 := ⟨f - 1, by omega⟩
          unfold f_Model_nameOf_L39
          rw [if_pos rfl]
          split <;> rfl
theorem nmCmp0 {mX : S_MX} {o : S_MN} (w s m : Int32) (f : Nat) : f_Model_nameOf_L39 w s m mX o (f + 1) 0 0 = some 0 := by
  unfold f_Model_nameOf_L39
  rw [if_pos rfl]
  split <;> rfl
theorem nmPut {cT mX n b} (h : TX cT mX n b) {L : List (List Int32)} {s m : Nat} (hs : s + m ≤ n) {nA : Nat → Int32} (hL : L.length ≤ 8192) (hA : nA L.length = Jn L.flatten.length) (hr : L.flatten.length + m ≤ 8192) :
    ∀ (d k f : Nat) (nB : Nat → Int32), m - k < d → d ≤ f → k ≤ m → Arr nB (L.flatten ++ seg b s k) → ∃ nB', f_Model_nameOf_L107 (Jn s) (Jn m) mX f (Jn k) (Jn L.length, nA, nB) = some (Jn L.length, nA, nB') ∧ Arr nB' (L.flatten ++ seg b s m) := by
  have hn := h.1
  intro d
  induction d with
  | zero => intro k f nB h; omega
  | succ d ih =>
    intro k f nB hd hf hk hA'
    obtain ⟨f, rfl⟩ : ∃ g, f = g + 1 := ⟨f - 1, by omega⟩
    unfold f_Model_nameOf_L107
    dsimp only
    by_cases q : k = m
    · subst q
      rw [if_pos (J_le (Nat.le_refl _))]
      exact ⟨nB, rfl, hA'⟩
    · rw [if_neg (J_nle (by omega)), gd_Jn (by omega) (by omega), J_add, gd_Jn (by omega) (by omega), Jn_cl (by omega), Jn_cl (by omega), (h.2.2.2.1 (s + k) (by omega)).2.1, great_M, ob_some, hA, J_add, gd_Jn (by omega) (by omega), nm_eq, addL k 1, Jn_cl (by omega)]
      refine ih (k + 1) f _ (by omega) (by omega) (by omega) ?_
      have e : seg b s (k + 1) = seg b s k ++ [zGr (b (s + k))] := by
        unfold seg; rw [List.range_succ, List.map_append]; rfl
      rw [e, ← List.append_assoc]
      have := hA'.snoc (zGr (b (s + k)))
      rw [List.length_append, seg_len] at this
      exact this
theorem nmL {cT mX n b} (h : TX cT mX n b) {o L} (hN : MN o L) {s m : Nat} (hs : s + m ≤ n) : ∀ (d i f : Nat), L.length - i < d → d ≤ f → i ≤ L.length → (∀ j, j < i → L.getD j [] ≠ seg b s m) →
    (∃ j, j < L.length ∧ L.getD j [] = seg b s m ∧ f_Model_nameOf_L2 mX o (Jn s) (Jn m) f (Jn i) = some (Jn j, o)) ∨
    ((∀ j, j < L.length → L.getD j [] ≠ seg b s m) ∧ (L.length < 8192 → L.flatten.length + m ≤ 8192 → ∃ o', f_Model_nameOf_L2 mX o (Jn s) (Jn m) f (Jn i) = some (Jn L.length, o') ∧ MN o' (L ++ [seg b s m]))) := by
  have hn := h.1
  obtain ⟨n1, n2, n3, n4, n5⟩ := hN
  intro d
  induction d with
  | zero => intro i f h; omega
  | succ d ih =>
    intro i f hd hf hi hp
    obtain ⟨f, rfl⟩ : ∃ g, f = g + 1 := ⟨f - 1, by omega⟩
    unfold f_Model_nameOf_L2
    by_cases c : i = L.length
    · subst c
      refine Or.inr ⟨hp, fun hl hr => ?_⟩
      rw [n1, if_pos (J_le (Nat.le_refl _))]
      obtain ⟨oA, oB⟩ := o
      obtain ⟨oB, oC⟩ := oB
      dsimp only at n1 n4 n5 ⊢
      subst n1
      have hA : oB L.length = Jn L.flatten.length := by rw [n4 _ (Nat.le_refl _), offs_all _ _ (Nat.le_refl _)]
      obtain ⟨nB', p1, p2⟩ := nmPut h (L := L) hs (nA := oB) (by omega) hA hr 10000 0 FU oC (by omega) (by decide) (by omega) (by
        rw [show seg b s 0 = [] from rfl, List.append_nil]; exact n5)
      rw [show f_Model_nameOf_L107 (Jn s) (Jn m) mX FU 0 (Jn L.length, oB, oC) = _ from p1, ob_some]
      dsimp only
      rw [gd_Jn (by omega) (by omega), nm_eq, Jn_cl (by omega), hA, J_add, addL _ 1, gd_Jn (by omega) (by omega), Jn_cl (by omega), subL 1 (by omega)]
      have hflat : (L ++ [seg b s m]).flatten = L.flatten ++ seg b s m := by simp
      refine ⟨_, rfl, ?_, ?_, ?_, ?_, ?_⟩
      · rw [List.length_append, List.length_singleton]
      · rw [List.length_append, List.length_singleton]; omega
      · rw [hflat, List.length_append, seg_len]; exact hr
      · intro i hi
        rw [List.length_append, List.length_singleton] at hi
        by_cases c : i = L.length + 1
        · subst c
          show upd _ _ _ _ = _
          rw [upd_self, offs_all _ _ (by rw [List.length_append, List.length_singleton]; exact Nat.le_refl _), hflat, List.length_append, seg_len]
        · show upd _ _ _ _ = _
          rw [upd_ne _ _ c, n4 i (by omega), offs_app _ _ _ (by omega)]
      · rw [hflat]; exact p2
    · have s1 := offs_succ L i (by omega)
      have s2 := offs_lt L i (by omega)
      rw [n1, if_neg (J_nle (by omega)), addL i 1, gd_Jn (by omega) (by omega), gd_Jn (by omega) (by omega), Jn_cl (by omega), Jn_cl (by omega), n4 i (by omega), n4 (i + 1) (by omega), Jn_sub (by omega), s1, show offs L i + (L.getD i []).length - offs L i = (L.getD i []).length by omega]
      have nxt : ∀ (r : L.getD i [] ≠ seg b s m), ∀ j, j < i + 1 → L.getD j [] ≠ seg b s m := by
        intro r j hj
        by_cases z : j = i
        · rw [z]; exact r
        · exact hp j (by omega)
      by_cases q : (L.getD i []).length = m
      · rw [if_pos (by rw [q])]
        rcases nmCmp h (o := o) (a := offs L i) (s := s) (m := m) (w := i) (L.getD i []) q hs (by omega) (by omega) (n4 i (by omega)) (fun k hk => (show Arr o.2.2 (L.flatten ++ []) by rw [List.append_nil]; exact n5).name (by omega) (by omega)) 10000 0 FU (by omega) (by decide) (by omega) (fun j hj => by omega) with ⟨e1, e2⟩ | ⟨e1, e2⟩
        · rw [show f_Model_nameOf_L39 (Jn i) (Jn s) (Jn m) mX o FU 0 1 = some 1 from e2, ob_some, if_neg (by decide)]
          exact Or.inl ⟨i, by omega, e1, rfl⟩
        · rw [show f_Model_nameOf_L39 (Jn i) (Jn s) (Jn m) mX o FU 0 1 = some 0 from e2, ob_some, if_pos rfl, nm_eq]
          exact ih (i + 1) f (by omega) (by omega) (by omega) (nxt e1)
      · rw [if_neg (J_ne q (by omega)), show FU = 999999 + 1 from rfl, nmCmp0, ob_some, if_pos rfl, nm_eq]
        refine ih (i + 1) f (by omega) (by omega) (by omega) (nxt ?_)
        intro e
        apply q
        rw [e, seg_len]
theorem nameOfM {cT mX n b} (h : TX cT mX n b) {o L} (hN : MN o L) {s m : Nat} (hs : s + m ≤ n) :
    (∃ j, j < L.length ∧ L.getD j [] = seg b s m ∧ f_Model_nameOf mX o (Jn s) (Jn m) = some (Jn j, o)) ∨
    ((∀ j, j < L.length → L.getD j [] ≠ seg b s m) ∧ (L.length < 8192 → L.flatten.length + m ≤ 8192 → ∃ o', f_Model_nameOf mX o (Jn s) (Jn m) = some (Jn L.length, o') ∧ MN o' (L ++ [seg b s m]))) :=
  nmL h hN hs 10000 0 FU (by have := hN.2.1; omega) (by decide) (by omega) (fun j hj => by omega)
theorem wdCmp {cT mX n b} (h : TX cT mX n b) {C : S_MC} {a s m w : Nat} (u : List Int32) (hu : u.length = m) (hs : s + m ≤ n) (hw : w < 42) (ha : a + m ≤ 270) (hat : C.2.1 w = Jn a) (hb : ∀ k, k < m → C.1 (a + k) = u.getD k 0) :
    ∀ (d k f : Nat), m - k < d → d ≤ f → k ≤ m → (∀ j, j < k → u.getD j 0 = (seg b s m).getD j 0) →
    (u = seg b s m ∧ f_Model_wordOf_L39 (Jn w) (Jn s) (Jn m) C mX f (Jn k) 1 = some 1) ∨ (u ≠ seg b s m ∧ f_Model_wordOf_L39 (Jn w) (Jn s) (Jn m) C mX f (Jn k) 1 = some 0) := by
  have hn := h.1
  intro d
  induction d with
  | zero => intro k f h; omega
  | succ d ih =>
    intro k f hd hf hk hp
    obtain ⟨f, rfl⟩ : ∃ g, f = g + 1 := ⟨f - 1, by omega⟩
    unfold f_Model_wordOf_L39
    by_cases q : k = m
    · subst q
      rw [if_pos (J_le (Nat.le_refl _))]
      exact Or.inl ⟨getD_ext (by rw [hu, seg_len]) (by rw [hu]; exact hp), rfl⟩
    · rw [if_neg (J_nle (by omega)), if_neg (show ¬ (1 : Int32) = 0 by decide), gd_Jn hw (by omega), Jn_cl (by omega), hat, J_add, gd_Jn (by omega) (by omega), J_add, gd_Jn (by omega) (by omega), Jn_cl (by omega), Jn_cl (by omega), hb k (by omega), (h.2.2.2.1 (s + k) (by omega)).2.1, great_M, ob_some, ← seg_get b s m k (by omega)]
      by_cases w' : u.getD k 0 = (seg b s m).getD k 0
      · rw [if_pos w', nm_eq, addL k 1]
        refine ih (k + 1) f (by omega) (by omega) (by omega) ?_
        intro j hj
        by_cases z : j = k
        · rw [z]; exact w'
        · exact hp j (by omega)
      · rw [if_neg w', nm_eq, addL k 1]
        refine Or.inr ⟨?_, ?_⟩
        · intro e; exact w' (by rw [e])
        · obtain ⟨f, rfl⟩ : ∃ g, f = g + 1 := ⟨f - 1, by omega⟩
          unfold f_Model_wordOf_L39
          rw [if_pos rfl]
          split <;> rfl
theorem wdCmp0 {mX : S_MX} {C : S_MC} (w s m : Int32) (f : Nat) : f_Model_wordOf_L39 w s m C mX (f + 1) 0 0 = some 0 := by
  unfold f_Model_wordOf_L39
  rw [if_pos rfl]
  split <;> rfl
theorem wdL {cT mX n b} (h : TX cT mX n b) {C} (hC : MC C) {s m : Nat} (hs : s + m ≤ n) : ∀ (d i f : Nat), 41 - i < d → d ≤ f → i ≤ 41 → (∀ j, j < i → WS.getD j [] ≠ seg b s m) →
    (∃ j, j < 41 ∧ WS.getD j [] = seg b s m ∧ f_Model_wordOf_L2 C mX (Jn s) (Jn m) f (Jn i) = some (Jn j)) ∨
    ((∀ j, j < 41 → WS.getD j [] ≠ seg b s m) ∧ f_Model_wordOf_L2 C mX (Jn s) (Jn m) f (Jn i) = some (-1)) := by
  have hn := h.1
  obtain ⟨n1, n2, n3, n4, n5⟩ := hC
  intro d
  induction d with
  | zero => intro i f h; omega
  | succ d ih =>
    intro i f hd hf hi hp
    obtain ⟨f, rfl⟩ : ∃ g, f = g + 1 := ⟨f - 1, by omega⟩
    unfold f_Model_wordOf_L2
    by_cases c : i = 41
    · subst c
      rw [if_pos (leL 41 (Nat.le_refl _))]
      exact Or.inr ⟨hp, rfl⟩
    · have s1 := offs_succ WS i (by rw [WS_len]; omega)
      have s2 := offs_lt WS i (by rw [WS_len]; omega)
      rw [WS_flat] at s2
      rw [if_neg (nleL 41 (by omega)), addL i 1, gd_Jn (by omega) (by omega), gd_Jn (by omega) (by omega), Jn_cl (by omega), Jn_cl (by omega), n1 i (by omega), n1 (i + 1) (by omega), Jn_sub (by omega), subL 1 (by omega), show offs WS (i + 1) + (i + 1) - (offs WS i + i) - 1 = (WS.getD i []).length by omega]
      have nxt : ∀ (r : WS.getD i [] ≠ seg b s m), ∀ j, j < i + 1 → WS.getD j [] ≠ seg b s m := by
        intro r j hj
        by_cases z : j = i
        · rw [z]; exact r
        · exact hp j (by omega)
      by_cases q : (WS.getD i []).length = m
      · rw [if_pos (by rw [q])]
        rcases wdCmp h (C := C) (a := offs WS i + i) (s := s) (m := m) (w := i) (WS.getD i []) q hs (by omega) (by omega) (n1 i (by omega)) (fun k hk => n2 i (by omega) k (by omega)) 10000 0 FU (by omega) (by decide) (by omega) (fun j hj => by omega) with ⟨e1, e2⟩ | ⟨e1, e2⟩
        · rw [show f_Model_wordOf_L39 (Jn i) (Jn s) (Jn m) C mX FU 0 1 = some 1 from e2, ob_some, if_neg (by decide)]
          exact Or.inl ⟨i, by omega, e1, rfl⟩
        · rw [show f_Model_wordOf_L39 (Jn i) (Jn s) (Jn m) C mX FU 0 1 = some 0 from e2, ob_some, if_pos rfl, nm_eq]
          exact ih (i + 1) f (by omega) (by omega) (by omega) (nxt e1)
      · rw [if_neg (J_ne q (by omega)), show FU = 999999 + 1 from rfl, wdCmp0, ob_some, if_pos rfl, nm_eq]
        refine ih (i + 1) f (by omega) (by omega) (by omega) (nxt ?_)
        intro e
        apply q
        rw [e, seg_len]
theorem wordOfM {cT mX n b} (h : TX cT mX n b) {C} (hC : MC C) {s m : Nat} (hs : s + m ≤ n) :
    (∃ j, j < 41 ∧ WS.getD j [] = seg b s m ∧ f_Model_wordOf C mX (Jn s) (Jn m) = some (Jn j)) ∨
    ((∀ j, j < 41 → WS.getD j [] ≠ seg b s m) ∧ f_Model_wordOf C mX (Jn s) (Jn m) = some (-1)) :=
  wdL h hC hs 10000 0 FU (by omega) (by decide) (by omega) (fun j hj => by omega)
end
