def f_Bytes_cut (n : Nat) (o_this : S_Bytes) (a1 : Int32) : Option (S_Bytes) :=
  if a1 < 0 then
    some o_this
  else
    if o_this.1 ≤ a1 then
      some o_this
    else
      some (a1, o_this.2)

def f_Bytes_put (n : Nat) (o_this : S_Bytes) (a1 : Int32) : Option (S_Bytes) :=
  if o_this.1 < 0 then
    some o_this
  else
    if (Int32.ofNat n) ≤ o_this.1 then
      some o_this
    else
      gd o_this.1 n <|
      some (o_this.1 + 1, upd o_this.2 o_this.1.toNatClampNeg a1)

def f_Bytes_get (n : Nat) (o_this : S_Bytes) (a1 : Int32) : Option (Int32) :=
  if a1 < 0 then
    some (-1)
  else
    if o_this.1 ≤ a1 then
      some (-1)
    else
      if (Int32.ofNat n) ≤ a1 then
        some (-1)
      else
        gd a1 n <|
        some (o_this.2 a1.toNatClampNeg)

def f_Bytes_swap (n : Nat) (o_this : S_Bytes) (a1 : Int32) (a2 : Int32) : Option (Int32 × S_Bytes) :=
  (f_Bytes_get n o_this a1).bind fun r1 =>
  if r1 = (-1) then
    some (r1, o_this)
  else
    if a1 < 0 then
      some (r1, o_this)
    else
      if (Int32.ofNat n) ≤ a1 then
        some (r1, o_this)
      else
        gd a1 n <|
        some (r1, (o_this.1, upd o_this.2 a1.toNatClampNeg a2))
