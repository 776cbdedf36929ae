def dzl {β : Type} (y : Int64) (k : Option β) : Option β := if y = 0 then none else k
theorem dzl_use {β : Type} {y : Int64} {k : Option β} {r : β} (h : dzl y k = some r) : ¬ y = 0 ∧ k = some r := by
  unfold dzl at h
  by_cases c : y = 0
  · rw [if_pos c] at h; cases h
  · rw [if_neg c] at h; exact ⟨c, h⟩
abbrev S_MC : Type := (Nat → Int32) × (Nat → Int32) × (Nat → Int32) × (Nat → Int32)
abbrev S_MX : Type := Int32 × (Nat → Int32)
abbrev S_ML : Type := Int32 × Int32 × Int32 × Int32 × Int32 × Int32 × Int32
abbrev S_MN : Type := Int32 × (Nat → Int32) × (Nat → Int32)
abbrev S_MT : Type := Int32 × Int32 × (Nat → Int32) × (Nat → Int32) × (Nat → Int32) × (Nat → Int32) × (Nat → Int32) × (Nat → Int32) × (Nat → Int32)
abbrev S_MU : Type := Int32 × (Nat → Int32)
abbrev S_MO : Type := Int32 × Int32 × Int32 × Int32 × Int32 × Int32
abbrev S_ME : Type := Int32 × Int32 × Int32 × (Nat → Int32) × (Nat → Int32) × (Nat → Int32) × (Nat → Int32)
abbrev S_MQ : Type := Int32 × (Nat → Int32) × (Nat → Int32)
abbrev S_MV : Type := Int32 × (Nat → Int32)
abbrev S_MI : Type := Int32 × (Nat → Int32) × (Nat → Int32)
abbrev wM0 (ad : Nat → Nat) (xX : S_MX) (xL : S_ML) (xN : S_MN) (xT : S_MT) (xU : S_MU) (xO : S_MO) (xE : S_ME) (xQ : S_MQ) (xV : S_MV) (xI : S_MI) : va_W := [(ad 100, .inr (8, [.ref (ad 101), .ref (ad 102), .ref (ad 103), .ref (ad 104), .int xX.1, .ref (ad 105), .int xL.1, .int xL.2.1, .int xL.2.2.1, .int xL.2.2.2.1, .int xL.2.2.2.2.1, .int xL.2.2.2.2.2.1, .int xL.2.2.2.2.2.2, .int xN.1, .ref (ad 106), .ref (ad 107), .int xT.1, .ref (ad 108), .ref (ad 109), .ref (ad 110), .ref (ad 111), .ref (ad 112), .ref (ad 113), .ref (ad 114), .int xT.2.1, .int xU.1, .ref (ad 115), .int xO.1, .int xO.2.1, .int xO.2.2.1, .int xO.2.2.2.1, .int xO.2.2.2.2.1, .int xO.2.2.2.2.2, .int xE.1, .ref (ad 116), .int xE.2.1, .ref (ad 117), .ref (ad 118), .int xE.2.2.1, .ref (ad 119), .int xQ.1, .ref (ad 120), .ref (ad 121), .int xV.1, .ref (ad 122), .int xI.1, .ref (ad 123), .ref (ad 124)]))]
abbrev wMC (cI : ClassId) (ad : Nat → Nat) (xC : S_MC) : va_W := [(ad 101, .inl (cI, 270, .inl xC.1)), (ad 102, .inl (cI, 42, .inl xC.2.1)), (ad 103, .inl (cI, 44, .inl xC.2.2.1)), (ad 104, .inl (cI, 12, .inl xC.2.2.2))]
abbrev wMX (cI : ClassId) (ad : Nat → Nat) (xX : S_MX) : va_W := [(ad 105, .inl (cI, 8192, .inl xX.2))]
abbrev wMN (cI : ClassId) (ad : Nat → Nat) (xN : S_MN) : va_W := [(ad 106, .inl (cI, 8193, .inl xN.2.1)), (ad 107, .inl (cI, 8192, .inl xN.2.2))]
abbrev wMT (cI : ClassId) (ad : Nat → Nat) (xT : S_MT) : va_W := [(ad 108, .inl (cI, 20000, .inl xT.2.2.1)), (ad 109, .inl (cI, 20000, .inl xT.2.2.2.1)), (ad 110, .inl (cI, 20000, .inl xT.2.2.2.2.1)), (ad 111, .inl (cI, 20000, .inl xT.2.2.2.2.2.1)), (ad 112, .inl (cI, 20000, .inl xT.2.2.2.2.2.2.1)), (ad 113, .inl (cI, 20000, .inl xT.2.2.2.2.2.2.2.1)), (ad 114, .inl (cI, 20000, .inl xT.2.2.2.2.2.2.2.2))]
abbrev wMU (cI : ClassId) (ad : Nat → Nat) (xU : S_MU) : va_W := [(ad 115, .inl (cI, 4000, .inl xU.2))]
abbrev wME (cI : ClassId) (ad : Nat → Nat) (xE : S_ME) : va_W := [(ad 116, .inl (cI, 400, .inl xE.2.2.2.1)), (ad 117, .inl (cI, 400, .inl xE.2.2.2.2.1)), (ad 118, .inl (cI, 400, .inl xE.2.2.2.2.2.1)), (ad 119, .inl (cI, 400, .inl xE.2.2.2.2.2.2))]
abbrev wMQ (cI : ClassId) (ad : Nat → Nat) (xQ : S_MQ) : va_W := [(ad 120, .inl (cI, 20000, .inl xQ.2.1)), (ad 121, .inl (cI, 20000, .inl xQ.2.2))]
abbrev wMV (cI : ClassId) (ad : Nat → Nat) (xV : S_MV) : va_W := [(ad 122, .inl (cI, 24000, .inl xV.2))]
abbrev wMI (cI : ClassId) (ad : Nat → Nat) (xI : S_MI) : va_W := [(ad 123, .inl (cI, 4000, .inl xI.2.1)), (ad 124, .inl (cI, 4000, .inl xI.2.2))]
