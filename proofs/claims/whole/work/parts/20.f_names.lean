def f_Names_forget_L3 : Nat → Int32 → S_Names → Option (S_Names)
  | 0, _, _ => none
  | n + 1, v1_L3, o_this_L3 =>
    if o_this_L3.1 ≤ v1_L3 then
      some o_this_L3
    else
      if 4137 ≤ v1_L3 then
        some o_this_L3
      else
        gd v1_L3 4137 <|
        nm (o_this_L3.2.2.2.2.1 v1_L3.toNatClampNeg) fun x1134 =>
        if x1134 < 0 then
          nm (v1_L3 + 1) fun x1136 =>
          f_Names_forget_L3 n x1136 o_this_L3
        else
          if 8192 ≤ x1134 then
            nm (v1_L3 + 1) fun x1138 =>
            f_Names_forget_L3 n x1138 o_this_L3
          else
            gd x1134 8192 <|
            nm (v1_L3 + 1) fun x1140 =>
            f_Names_forget_L3 n x1140 (o_this_L3.1, o_this_L3.2.1, o_this_L3.2.2.1, o_this_L3.2.2.2.1, o_this_L3.2.2.2.2.1, upd o_this_L3.2.2.2.2.2 x1134.toNatClampNeg 0)
def f_Names_forget (o_this : S_Names) : Option (S_Names) :=
  (f_Names_forget_L3 FU 41 o_this).bind fun r1 =>
  gd 41 4138 <|
  nm (r1.2.2.2.1 (41 : Int32).toNatClampNeg) fun x3 =>
  some (41, x3, r1.2.2)

def f_Names_addLetter (o_this : S_Names) (a1 : Int32) : Option (S_Names) :=
  if o_this.2.1 < 0 then
    some o_this
  else
    if 8704 ≤ o_this.2.1 then
      some o_this
    else
      (f_Top_great a1).bind fun r3 =>
      gd o_this.2.1 8704 <|
      some (o_this.1, o_this.2.1 + 1, upd o_this.2.2.1 o_this.2.1.toNatClampNeg r3, o_this.2.2.2)

def f_Names_startOf (o_this : S_Names) (a1 : Int32) : Option (Int32) :=
  if a1 < 0 then
    some 0
  else
    if 4137 < a1 then
      some 0
    else
      gd a1 4138 <|
      some (o_this.2.2.2.1 a1.toNatClampNeg)

def f_Names_firstSlot_L11 (o_this_L11 : S_Names) : Nat → Int32 → Int32 → Option (Int32)
  | 0, _, _ => none
  | n + 1, v2_L11, v1_L11 =>
    if o_this_L11.2.1 ≤ v2_L11 then
      some v1_L11
    else
      if 8704 ≤ v2_L11 then
        some v1_L11
      else
        gd v2_L11 8704 <|
        nm ((31 * v1_L11) + (o_this_L11.2.2.1 v2_L11.toNatClampNeg)) fun x1214 =>
        nm (v2_L11 + 1) fun x1215 =>
        f_Names_firstSlot_L11 o_this_L11 n x1215 x1214
def f_Names_firstSlot (o_this : S_Names) : Option (Int32) :=
  (f_Names_startOf o_this o_this.1).bind fun r1 =>
  (f_Names_firstSlot_L11 o_this FU r1 0).bind fun r2 =>
  some (r2 &&& 8191)

def f_Names_isAddedLast_L66 (o_this : S_Names) (w4_L66 : Int32) (w3_L66 : Int32) (w2_L66 : Int32) : Nat → Int32 → Option (Int32)
  | 0, _ => none
  | n + 1, v5_L66 =>
    if w4_L66 ≤ v5_L66 then
      some 1
    else
      gd (w2_L66 + v5_L66) 8704 <|
      gd (w3_L66 + v5_L66) 8704 <|
      if (o_this.2.2.1 (w2_L66 + v5_L66).toNatClampNeg) = (o_this.2.2.1 (w3_L66 + v5_L66).toNatClampNeg) then
        nm (v5_L66 + 1) fun x1765 =>
        f_Names_isAddedLast_L66 o_this w4_L66 w3_L66 w2_L66 n x1765
      else
        some 0
def f_Names_isAddedLast (o_this : S_Names) (a1 : Int32) : Option (Int32) :=
  (f_Names_startOf o_this a1).bind fun r1 =>
  (f_Names_startOf o_this o_this.1).bind fun r2 =>
  (f_Names_startOf o_this (a1 + 1)).bind fun r3 =>
  if (r3 - r1) = (o_this.2.1 - r2) then
    if 8704 < (r1 + (o_this.2.1 - r2)) then
      some 0
    else
      if o_this.2.1 ≤ 8704 then
        f_Names_isAddedLast_L66 o_this (o_this.2.1 - r2) r2 r1 FU 0
      else
        some 0
  else
    some 0

def f_Names_keep (o_this : S_Names) (a1 : Int32) : Option (Int32 × S_Names) :=
  if o_this.1 < 0 then
    some ((-1), o_this)
  else
    if 4137 ≤ o_this.1 then
      some ((-1), o_this)
    else
      if a1 < 0 then
        some ((-1), o_this)
      else
        if a1 < 8192 then
          gd a1 8192 <|
          gd o_this.1 4137 <|
          gd (o_this.1 + 1) 4138 <|
          some (o_this.1, (o_this.1 + 1, o_this.2.1, o_this.2.2.1, upd o_this.2.2.2.1 (o_this.1 + 1).toNatClampNeg o_this.2.1, upd o_this.2.2.2.2.1 o_this.1.toNatClampNeg a1, upd o_this.2.2.2.2.2 a1.toNatClampNeg (o_this.1 + 1)))
        else
          some ((-1), o_this)

def f_Names_number_L7 (o_this : S_Names) : Nat → Int32 → Int32 → Option (Int32 × S_Names)
  | 0, _, _ => none
  | n + 1, v2_L7, v1_L7 =>
    if 8192 ≤ v2_L7 then
      some ((-1), o_this)
    else
      if v1_L7 < 0 then
        some ((-1), o_this)
      else
        if 8192 ≤ v1_L7 then
          some ((-1), o_this)
        else
          gd v1_L7 8192 <|
          nm ((o_this.2.2.2.2.2 v1_L7.toNatClampNeg) - 1) fun x1175 =>
          if 0 ≤ x1175 then
            (f_Names_isAddedLast o_this x1175).bind fun r1177 =>
            if r1177 = 0 then
              nm (v2_L7 + 1) fun x1179 =>
              f_Names_number_L7 o_this n x1179 ((v1_L7 + 1) &&& 8191)
            else
              (f_Names_startOf o_this o_this.1).bind fun r1180 =>
              some (x1175, (o_this.1, r1180, o_this.2.2))
          else
            (f_Names_keep o_this v1_L7).bind fun r1181 =>
            some (r1181.1, r1181.2)
def f_Names_number (o_this : S_Names) : Option (Int32 × S_Names) :=
  (f_Names_firstSlot o_this).bind fun r1 =>
  f_Names_number_L7 o_this FU 0 r1

def f_Names_letterOf (o_this : S_Names) (a1 : Int32) (a2 : Int32) : Option (Int32) :=
  if a1 < 0 then
    some (-1)
  else
    if o_this.1 ≤ a1 then
      some (-1)
    else
      if 4137 ≤ a1 then
        some (-1)
      else
        if a2 < 0 then
          some (-1)
        else
          gd (a1 + 1) 4138 <|
          gd a1 4138 <|
          if a2 < ((o_this.2.2.2.1 (a1 + 1).toNatClampNeg) - (o_this.2.2.2.1 a1.toNatClampNeg)) then
            gd a1 4138 <|
            nm ((o_this.2.2.2.1 a1.toNatClampNeg) + a2) fun x9 =>
            if x9 < 0 then
              some (-1)
            else
              if 8704 ≤ x9 then
                some (-1)
              else
                gd x9 8704 <|
                some (o_this.2.2.1 x9.toNatClampNeg)
          else
            some (-1)
