def f_Tree_add (o_this : S_Tree) (a1 : Int32) (a2 : Int32) (a3 : Int32) (a4 : Int32) : Option (Int32 × S_Tree) :=
  if o_this.1 < 0 then
    some ((-1), o_this)
  else
    if o_this.1 < 16384 then
      if a1 < 0 then
        gd o_this.1 16384 <|
        gd o_this.1 16384 <|
        gd o_this.1 16384 <|
        gd o_this.1 16384 <|
        some (o_this.1, (o_this.1 + 1, upd o_this.2.1 o_this.1.toNatClampNeg a2, upd o_this.2.2.1 o_this.1.toNatClampNeg a3, upd o_this.2.2.2.1 o_this.1.toNatClampNeg a4, upd o_this.2.2.2.2.1 o_this.1.toNatClampNeg 0, o_this.2.2.2.2.2))
      else
        if o_this.1 ≤ a1 then
          gd o_this.1 16384 <|
          gd o_this.1 16384 <|
          gd o_this.1 16384 <|
          gd o_this.1 16384 <|
          some (o_this.1, (o_this.1 + 1, upd o_this.2.1 o_this.1.toNatClampNeg a2, upd o_this.2.2.1 o_this.1.toNatClampNeg a3, upd o_this.2.2.2.1 o_this.1.toNatClampNeg a4, upd o_this.2.2.2.2.1 o_this.1.toNatClampNeg 0, o_this.2.2.2.2.2))
        else
          gd a1 16384 <|
          nm ((o_this.2.2.2.2.1 a1.toNatClampNeg) + 1) fun x15 =>
          gd a1 16384 <|
          gd o_this.1 16384 <|
          gd o_this.1 16384 <|
          gd o_this.1 16384 <|
          gd o_this.1 16384 <|
          some (o_this.1, (o_this.1 + 1, upd o_this.2.1 o_this.1.toNatClampNeg a2, upd o_this.2.2.1 o_this.1.toNatClampNeg a3, upd o_this.2.2.2.1 o_this.1.toNatClampNeg a4, upd (upd o_this.2.2.2.2.1 a1.toNatClampNeg x15) o_this.1.toNatClampNeg 0, o_this.2.2.2.2.2))
    else
      some ((-1), o_this)

def f_Tree_has (o_this : S_Tree) (a1 : Int32) : Option (Int32) :=
  if a1 < 0 then
    some 0
  else
    if o_this.1 ≤ a1 then
      some 0
    else
      if 16384 ≤ a1 then
        some 0
      else
        some 1

def f_Tree_wrap (o_this : S_Tree) (a1 : Int32) (a2 : Int32) (a3 : Int32) (a4 : Int32) : Option (S_Tree) :=
  (f_Tree_has o_this a1).bind fun r1 =>
  if r1 = 0 then
    some o_this
  else
    if o_this.1 < 16384 then
      ac a1 (a1 + 1) (o_this.1 - a1) 16384 16384 <|
      ac a1 (a1 + 1) (o_this.1 - a1) 16384 16384 <|
      ac a1 (a1 + 1) (o_this.1 - a1) 16384 16384 <|
      ac a1 (a1 + 1) (o_this.1 - a1) 16384 16384 <|
      gd a1 16384 <|
      gd a1 16384 <|
      gd a1 16384 <|
      gd a1 16384 <|
      some (o_this.1 + 1, upd (va_cpy o_this.2.1 o_this.2.1 a1.toNatClampNeg (a1 + 1).toNatClampNeg (o_this.1 - a1).toNatClampNeg) a1.toNatClampNeg a2, upd (va_cpy o_this.2.2.1 o_this.2.2.1 a1.toNatClampNeg (a1 + 1).toNatClampNeg (o_this.1 - a1).toNatClampNeg) a1.toNatClampNeg a3, upd (va_cpy o_this.2.2.2.1 o_this.2.2.2.1 a1.toNatClampNeg (a1 + 1).toNatClampNeg (o_this.1 - a1).toNatClampNeg) a1.toNatClampNeg a4, upd (va_cpy o_this.2.2.2.2.1 o_this.2.2.2.2.1 a1.toNatClampNeg (a1 + 1).toNatClampNeg (o_this.1 - a1).toNatClampNeg) a1.toNatClampNeg 1, o_this.2.2.2.2.2)
    else
      some o_this

def f_Tree_forget (o_this : S_Tree) : Option (S_Tree) :=
  some (0, o_this.2)

def f_Tree_firstUnfilled_L4 (o_this_L4 : S_Tree) : Nat → Int32 → Int32 → Option (Int32)
  | 0, _, _ => none
  | n + 1, v3_L4, v2_L4 =>
    if o_this_L4.1 ≤ v3_L4 then
      some v2_L4
    else
      (f_Tree_has o_this_L4 v2_L4).bind fun r1142 =>
      if r1142 = 0 then
        some v2_L4
      else
        gd v2_L4 16384 <|
        gd v2_L4 16384 <|
        if (o_this_L4.2.2.2.2.2.2.2 v2_L4.toNatClampNeg) < (o_this_L4.2.2.2.2.1 v2_L4.toNatClampNeg) then
          some v2_L4
        else
          gd v2_L4 16384 <|
          nm (o_this_L4.2.2.2.2.2.1 v2_L4.toNatClampNeg) fun x1148 =>
          nm (v3_L4 + 1) fun x1149 =>
          f_Tree_firstUnfilled_L4 o_this_L4 n x1149 x1148
def f_Tree_firstUnfilled (o_this : S_Tree) (a1 : Int32) : Option (Int32) :=
  (f_Tree_firstUnfilled_L4 o_this FU 0 a1).bind fun r1 =>
  some r1

def f_Tree_link_L4 : Nat → Int32 → Int32 → S_Tree → Option (S_Tree)
  | 0, _, _, _ => none
  | n + 1, v2_L4, v1_L4, o_this_L4 =>
    if o_this_L4.1 ≤ v2_L4 then
      some o_this_L4
    else
      if 16384 ≤ v2_L4 then
        some o_this_L4
      else
        (f_Tree_firstUnfilled o_this_L4 v1_L4).bind fun r1143 =>
        gd v2_L4 16384 <|
        (f_Tree_has (o_this_L4.1, o_this_L4.2.1, o_this_L4.2.2.1, o_this_L4.2.2.2.1, o_this_L4.2.2.2.2.1, upd o_this_L4.2.2.2.2.2.1 v2_L4.toNatClampNeg r1143, o_this_L4.2.2.2.2.2.2) r1143).bind fun r1145 =>
        if r1145 = 0 then
          gd v2_L4 16384 <|
          gd v2_L4 16384 <|
          nm (v2_L4 + 1) fun x1149 =>
          f_Tree_link_L4 n x1149 v2_L4 (o_this_L4.1, o_this_L4.2.1, o_this_L4.2.2.1, o_this_L4.2.2.2.1, o_this_L4.2.2.2.2.1, upd o_this_L4.2.2.2.2.2.1 v2_L4.toNatClampNeg r1143, upd o_this_L4.2.2.2.2.2.2.1 v2_L4.toNatClampNeg 0, upd o_this_L4.2.2.2.2.2.2.2 v2_L4.toNatClampNeg 0)
        else
          gd r1143 16384 <|
          nm ((o_this_L4.2.2.2.2.2.2.2 r1143.toNatClampNeg) + 1) fun x1152 =>
          gd r1143 16384 <|
          nm (o_this_L4.2.2.2.2.2.2.2 r1143.toNatClampNeg) fun x1154 =>
          gd v2_L4 16384 <|
          gd v2_L4 16384 <|
          nm (v2_L4 + 1) fun x1156 =>
          f_Tree_link_L4 n x1156 v2_L4 (o_this_L4.1, o_this_L4.2.1, o_this_L4.2.2.1, o_this_L4.2.2.2.1, o_this_L4.2.2.2.2.1, upd o_this_L4.2.2.2.2.2.1 v2_L4.toNatClampNeg r1143, upd o_this_L4.2.2.2.2.2.2.1 v2_L4.toNatClampNeg x1154, upd (upd o_this_L4.2.2.2.2.2.2.2 r1143.toNatClampNeg x1152) v2_L4.toNatClampNeg 0)
def f_Tree_link (o_this : S_Tree) : Option (S_Tree) :=
  (f_Tree_link_L4 FU 0 (-1) o_this).bind fun r1 =>
  some r1

def f_Tree_children (o_this : S_Tree) (a1 : Int32) : Option (Int32) :=
  (f_Tree_has o_this a1).bind fun r1 =>
  if r1 = 0 then
    some (-1)
  else
    gd a1 16384 <|
    some (o_this.2.2.2.2.1 a1.toNatClampNeg)

def f_Tree_kind (o_this : S_Tree) (a1 : Int32) : Option (Int32) :=
  (f_Tree_has o_this a1).bind fun r1 =>
  if r1 = 0 then
    some (-1)
  else
    gd a1 16384 <|
    some (o_this.2.1 a1.toNatClampNeg)

def f_Tree_parent (o_this : S_Tree) (a1 : Int32) : Option (Int32) :=
  (f_Tree_has o_this a1).bind fun r1 =>
  if r1 = 0 then
    some (-1)
  else
    gd a1 16384 <|
    some (o_this.2.2.2.2.2.1 a1.toNatClampNeg)

def f_Tree_place (o_this : S_Tree) (a1 : Int32) : Option (Int32) :=
  (f_Tree_has o_this a1).bind fun r1 =>
  if r1 = 0 then
    some (-1)
  else
    gd a1 16384 <|
    some (o_this.2.2.1 a1.toNatClampNeg)

def f_Tree_value (o_this : S_Tree) (a1 : Int32) : Option (Int32) :=
  (f_Tree_has o_this a1).bind fun r1 =>
  if r1 = 0 then
    some (-1)
  else
    gd a1 16384 <|
    some (o_this.2.2.2.1 a1.toNatClampNeg)

def f_Tree_rank (o_this : S_Tree) (a1 : Int32) : Option (Int32) :=
  (f_Tree_has o_this a1).bind fun r1 =>
  if r1 = 0 then
    some (-1)
  else
    gd a1 16384 <|
    some (o_this.2.2.2.2.2.2.1 a1.toNatClampNeg)
