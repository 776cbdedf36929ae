def f_Model_isLetter (a1 : Int32) : Option (Int32) :=
  if a1 < 65 then
    if a1 < 97 then
      if a1 = 95 then
        some 1
      else
        some 0
    else
      if a1 ≤ 122 then
        some 1
      else
        if a1 = 95 then
          some 1
        else
          some 0
  else
    if a1 ≤ 90 then
      some 1
    else
      if a1 < 97 then
        if a1 = 95 then
          some 1
        else
          some 0
      else
        if a1 ≤ 122 then
          some 1
        else
          if a1 = 95 then
            some 1
          else
            some 0

def f_Model_isDigit (a1 : Int32) : Option (Int32) :=
  if a1 < 48 then
    some 0
  else
    if 57 < a1 then
      some 0
    else
      some 1

def f_Model_great (a1 : Int32) : Option (Int32) :=
  if a1 < 97 then
    some a1
  else
    if 122 < a1 then
      some a1
    else
      some (a1 - 32)

def f_Model_at (o_X : S_MX) (a1 : Int32) : Option (Int32) :=
  if o_X.1 ≤ a1 then
    some (-1)
  else
    gd a1 8192 <|
    some (o_X.2 a1.toNatClampNeg)

def f_Model_goesOn (o_X : S_MX) (a1 : Int32) : Option (Int32) :=
  (f_Model_at o_X a1).bind fun r1 =>
  (f_Model_isLetter r1).bind fun r2 =>
  if r2 = 0 then
    (f_Model_at o_X a1).bind fun r4 =>
    (f_Model_isDigit r4).bind fun r5 =>
    if r5 = 0 then
      some 0
    else
      some 1
  else
    some 1

def f_Model_clear (o_X : S_MX) : Option (Int32 × S_MX) :=
  some (o_X.1, (0, o_X.2))

def f_Model_feed_L18 (w1_L18 : Int32) (w2_L18 : Int32) (w3_L18 : Int32) (w4_L18 : Int32) (w5_L18 : Int32) : Nat → Int32 → S_MX → Option (S_MX)
  | 0, _, _ => none
  | n + 1, v6_L18, o_X_L18 =>
    if 20 ≤ v6_L18 then
      some o_X_L18
    else
      if 4 ≤ v6_L18 then
        if 8 ≤ v6_L18 then
          if 12 ≤ v6_L18 then
            if 16 ≤ v6_L18 then
              nm ((w5_L18 >>> (24 - (8 * (v6_L18 - v6_L18 / 4 * 4)) &&& 31)) &&& 255) fun x1287 =>
              gd (o_X_L18.1 + v6_L18) 8192 <|
              nm (v6_L18 + 1) fun x1288 =>
              f_Model_feed_L18 w1_L18 w2_L18 w3_L18 w4_L18 w5_L18 n x1288 (o_X_L18.1, upd o_X_L18.2 (o_X_L18.1 + v6_L18).toNatClampNeg x1287)
            else
              nm ((w4_L18 >>> (24 - (8 * (v6_L18 - v6_L18 / 4 * 4)) &&& 31)) &&& 255) fun x1290 =>
              gd (o_X_L18.1 + v6_L18) 8192 <|
              nm (v6_L18 + 1) fun x1291 =>
              f_Model_feed_L18 w1_L18 w2_L18 w3_L18 w4_L18 w5_L18 n x1291 (o_X_L18.1, upd o_X_L18.2 (o_X_L18.1 + v6_L18).toNatClampNeg x1290)
          else
            nm ((w3_L18 >>> (24 - (8 * (v6_L18 - v6_L18 / 4 * 4)) &&& 31)) &&& 255) fun x1293 =>
            gd (o_X_L18.1 + v6_L18) 8192 <|
            nm (v6_L18 + 1) fun x1294 =>
            f_Model_feed_L18 w1_L18 w2_L18 w3_L18 w4_L18 w5_L18 n x1294 (o_X_L18.1, upd o_X_L18.2 (o_X_L18.1 + v6_L18).toNatClampNeg x1293)
        else
          nm ((w2_L18 >>> (24 - (8 * (v6_L18 - v6_L18 / 4 * 4)) &&& 31)) &&& 255) fun x1296 =>
          gd (o_X_L18.1 + v6_L18) 8192 <|
          nm (v6_L18 + 1) fun x1297 =>
          f_Model_feed_L18 w1_L18 w2_L18 w3_L18 w4_L18 w5_L18 n x1297 (o_X_L18.1, upd o_X_L18.2 (o_X_L18.1 + v6_L18).toNatClampNeg x1296)
      else
        nm ((w1_L18 >>> (24 - (8 * (v6_L18 - v6_L18 / 4 * 4)) &&& 31)) &&& 255) fun x1299 =>
        gd (o_X_L18.1 + v6_L18) 8192 <|
        nm (v6_L18 + 1) fun x1300 =>
        f_Model_feed_L18 w1_L18 w2_L18 w3_L18 w4_L18 w5_L18 n x1300 (o_X_L18.1, upd o_X_L18.2 (o_X_L18.1 + v6_L18).toNatClampNeg x1299)
def f_Model_feed (o_X : S_MX) (a1 : Int32) (a2 : Int32) (a3 : Int32) (a4 : Int32) (a5 : Int32) : Option (Int32 × S_MX) :=
  if (o_X.1 + 20) ≤ 8192 then
    (f_Model_feed_L18 a1 a2 a3 a4 a5 FU 0 o_X).bind fun r2 =>
    some (r2.1 + 20, (r2.1 + 20, r2.2))
  else
    some ((-1), o_X)

def f_Model_end (o_X : S_MX) (a1 : Int32) : Option (Int32 × S_MX) :=
  if a1 < 0 then
    some ((-1), o_X)
  else
    if 20 < a1 then
      some ((-1), o_X)
    else
      if 20 ≤ o_X.1 then
        some ((o_X.1 - 20) + a1, ((o_X.1 - 20) + a1, o_X.2))
      else
        some ((-1), o_X)

def f_Model_change (o_X : S_MX) (a1 : Int32) (a2 : Int32) : Option (Int32 × S_MX) :=
  if a1 < 0 then
    some ((-1), o_X)
  else
    if o_X.1 ≤ a1 then
      some ((-1), o_X)
    else
      if a2 < 0 then
        some ((-1), o_X)
      else
        if a2 ≤ 255 then
          gd a1 8192 <|
          gd a1 8192 <|
          some (o_X.2 a1.toNatClampNeg, (o_X.1, upd o_X.2 a1.toNatClampNeg a2))
        else
          some ((-1), o_X)

def f_Model_fail (o_L : S_ML) (a1 : Int32) (a2 : Int32) : Option (S_ML) :=
  if o_L.2.2.2.2.2.1 = 0 then
    some (o_L.1, o_L.2.1, o_L.2.2.1, o_L.2.2.2.1, o_L.2.2.2.2.1, a1, a2)
  else
    some o_L

def f_Model_skip_L80 (o_X_L80 : S_MX) : Nat → Int32 → Option (Int32)
  | 0, _ => none
  | n + 1, v3_L80 =>
    if o_X_L80.1 ≤ v3_L80 then
      some v3_L80
    else
      gd v3_L80 8192 <|
      if (o_X_L80.2 v3_L80.toNatClampNeg) = 42 then
        (f_Model_at o_X_L80 (v3_L80 + 1)).bind fun r2005 =>
        if r2005 = 41 then
          some v3_L80
        else
          nm (v3_L80 + 1) fun x2007 =>
          f_Model_skip_L80 o_X_L80 n x2007
      else
        nm (v3_L80 + 1) fun x2004 =>
        f_Model_skip_L80 o_X_L80 n x2004
def f_Model_skip_L2 (o_X_L2 : S_MX) : Nat → Int32 → S_ML → Option (S_ML)
  | 0, _, _ => none
  | n + 1, v1_L2, o_L_L2 =>
    if v1_L2 = 0 then
      some o_L_L2
    else
      (f_Model_at o_X_L2 o_L_L2.2.2.2.1).bind fun r1122 =>
      if r1122 = 9 then
        f_Model_skip_L2 o_X_L2 n v1_L2 (o_L_L2.1, o_L_L2.2.1, o_L_L2.2.2.1, o_L_L2.2.2.2.1 + 1, o_L_L2.2.2.2.2)
      else
        if r1122 = 10 then
          f_Model_skip_L2 o_X_L2 n v1_L2 (o_L_L2.1, o_L_L2.2.1, o_L_L2.2.2.1, o_L_L2.2.2.2.1 + 1, o_L_L2.2.2.2.2)
        else
          if r1122 = 13 then
            f_Model_skip_L2 o_X_L2 n v1_L2 (o_L_L2.1, o_L_L2.2.1, o_L_L2.2.2.1, o_L_L2.2.2.2.1 + 1, o_L_L2.2.2.2.2)
          else
            if r1122 = 32 then
              f_Model_skip_L2 o_X_L2 n v1_L2 (o_L_L2.1, o_L_L2.2.1, o_L_L2.2.2.1, o_L_L2.2.2.2.1 + 1, o_L_L2.2.2.2.2)
            else
              if r1122 = 40 then
                (f_Model_at o_X_L2 (o_L_L2.2.2.2.1 + 1)).bind fun r1128 =>
                if r1128 = 42 then
                  (f_Model_skip_L80 o_X_L2 FU (o_L_L2.2.2.2.1 + 2)).bind fun r1130 =>
                  if r1130 < o_X_L2.1 then
                    f_Model_skip_L2 o_X_L2 n v1_L2 (o_L_L2.1, o_L_L2.2.1, o_L_L2.2.2.1, r1130 + 2, o_L_L2.2.2.2.2)
                  else
                    (f_Model_fail o_L_L2 2 o_L_L2.2.2.2.1).bind fun r1132 =>
                    f_Model_skip_L2 o_X_L2 n 0 (r1132.1, r1132.2.1, r1132.2.2.1, r1130 + 2, r1132.2.2.2.2)
                else
                  f_Model_skip_L2 o_X_L2 n 0 o_L_L2
              else
                f_Model_skip_L2 o_X_L2 n 0 o_L_L2
def f_Model_skip (o_X : S_MX) (o_L : S_ML) : Option (S_ML) :=
  (f_Model_skip_L2 o_X FU 1 o_L).bind fun r1 =>
  some r1

def f_Model_wordOf_L39 (w3_L39 : Int32) (w1_L39 : Int32) (w2_L39 : Int32) (o_C_L39 : S_MC) (o_X_L39 : S_MX) : Nat → Int32 → Int32 → Option (Int32)
  | 0, _, _ => none
  | n + 1, v5_L39, v4_L39 =>
    if w2_L39 ≤ v5_L39 then
      some v4_L39
    else
      if v4_L39 = 0 then
        some v4_L39
      else
        gd w3_L39 42 <|
        gd ((o_C_L39.2.1 w3_L39.toNatClampNeg) + v5_L39) 270 <|
        gd (w1_L39 + v5_L39) 8192 <|
        (f_Model_great (o_X_L39.2 (w1_L39 + v5_L39).toNatClampNeg)).bind fun r1596 =>
        if (o_C_L39.1 ((o_C_L39.2.1 w3_L39.toNatClampNeg) + v5_L39).toNatClampNeg) = r1596 then
          nm (v5_L39 + 1) fun x1599 =>
          f_Model_wordOf_L39 w3_L39 w1_L39 w2_L39 o_C_L39 o_X_L39 n x1599 1
        else
          nm (v5_L39 + 1) fun x1598 =>
          f_Model_wordOf_L39 w3_L39 w1_L39 w2_L39 o_C_L39 o_X_L39 n x1598 0
def f_Model_wordOf_L2 (o_C : S_MC) (o_X : S_MX) (w1_L2 : Int32) (w2_L2 : Int32) : Nat → Int32 → Option (Int32)
  | 0, _ => none
  | n + 1, v3_L2 =>
    if 41 ≤ v3_L2 then
      some (-1)
    else
      gd (v3_L2 + 1) 42 <|
      gd v3_L2 42 <|
      if (((o_C.2.1 (v3_L2 + 1).toNatClampNeg) - (o_C.2.1 v3_L2.toNatClampNeg)) - 1) = w2_L2 then
        (f_Model_wordOf_L39 v3_L2 w1_L2 w2_L2 o_C o_X FU 0 1).bind fun r1128 =>
        if r1128 = 0 then
          nm (v3_L2 + 1) fun x1130 =>
          f_Model_wordOf_L2 o_C o_X w1_L2 w2_L2 n x1130
        else
          some v3_L2
      else
        (f_Model_wordOf_L39 v3_L2 w1_L2 w2_L2 o_C o_X FU 0 0).bind fun r1125 =>
        if r1125 = 0 then
          nm (v3_L2 + 1) fun x1127 =>
          f_Model_wordOf_L2 o_C o_X w1_L2 w2_L2 n x1127
        else
          some v3_L2
def f_Model_wordOf (o_C : S_MC) (o_X : S_MX) (a1 : Int32) (a2 : Int32) : Option (Int32) :=
  f_Model_wordOf_L2 o_C o_X a1 a2 FU 0

def f_Model_nameOf_L107 (w1_L107 : Int32) (w2_L107 : Int32) (o_X_L107 : S_MX) : Nat → Int32 → S_MN → Option (S_MN)
  | 0, _, _ => none
  | n + 1, v3_L107, o_N_L107 =>
    if w2_L107 ≤ v3_L107 then
      some o_N_L107
    else
      gd o_N_L107.1 8193 <|
      gd (w1_L107 + v3_L107) 8192 <|
      (f_Model_great (o_X_L107.2 (w1_L107 + v3_L107).toNatClampNeg)).bind fun r2274 =>
      gd ((o_N_L107.2.1 o_N_L107.1.toNatClampNeg) + v3_L107) 8192 <|
      nm (v3_L107 + 1) fun x2276 =>
      f_Model_nameOf_L107 w1_L107 w2_L107 o_X_L107 n x2276 (o_N_L107.1, o_N_L107.2.1, upd o_N_L107.2.2 ((o_N_L107.2.1 o_N_L107.1.toNatClampNeg) + v3_L107).toNatClampNeg r2274)
def f_Model_nameOf_L39 (w3_L39 : Int32) (w1_L39 : Int32) (w2_L39 : Int32) (o_X_L39 : S_MX) (o_N_L39 : S_MN) : Nat → Int32 → Int32 → Option (Int32)
  | 0, _, _ => none
  | n + 1, v5_L39, v4_L39 =>
    if w2_L39 ≤ v5_L39 then
      some v4_L39
    else
      if v4_L39 = 0 then
        some v4_L39
      else
        gd w3_L39 8193 <|
        gd ((o_N_L39.2.1 w3_L39.toNatClampNeg) + v5_L39) 8192 <|
        gd (w1_L39 + v5_L39) 8192 <|
        (f_Model_great (o_X_L39.2 (w1_L39 + v5_L39).toNatClampNeg)).bind fun r1596 =>
        if (o_N_L39.2.2 ((o_N_L39.2.1 w3_L39.toNatClampNeg) + v5_L39).toNatClampNeg) = r1596 then
          nm (v5_L39 + 1) fun x1599 =>
          f_Model_nameOf_L39 w3_L39 w1_L39 w2_L39 o_X_L39 o_N_L39 n x1599 1
        else
          nm (v5_L39 + 1) fun x1598 =>
          f_Model_nameOf_L39 w3_L39 w1_L39 w2_L39 o_X_L39 o_N_L39 n x1598 0
def f_Model_nameOf_L2 (o_X : S_MX) (o_N : S_MN) (w1_L2 : Int32) (w2_L2 : Int32) : Nat → Int32 → Option (Int32 × S_MN)
  | 0, _ => none
  | n + 1, v3_L2 =>
    if o_N.1 ≤ v3_L2 then
      (f_Model_nameOf_L107 w1_L2 w2_L2 o_X FU 0 o_N).bind fun r1122 =>
      gd r1122.1 8193 <|
      nm ((r1122.2.1 r1122.1.toNatClampNeg) + w2_L2) fun x1125 =>
      gd (r1122.1 + 1) 8193 <|
      some ((r1122.1 + 1) - 1, (r1122.1 + 1, upd r1122.2.1 (r1122.1 + 1).toNatClampNeg x1125, r1122.2.2))
    else
      gd (v3_L2 + 1) 8193 <|
      gd v3_L2 8193 <|
      if ((o_N.2.1 (v3_L2 + 1).toNatClampNeg) - (o_N.2.1 v3_L2.toNatClampNeg)) = w2_L2 then
        (f_Model_nameOf_L39 v3_L2 w1_L2 w2_L2 o_X o_N FU 0 1).bind fun r1132 =>
        if r1132 = 0 then
          nm (v3_L2 + 1) fun x1134 =>
          f_Model_nameOf_L2 o_X o_N w1_L2 w2_L2 n x1134
        else
          some (v3_L2, o_N)
      else
        (f_Model_nameOf_L39 v3_L2 w1_L2 w2_L2 o_X o_N FU 0 0).bind fun r1129 =>
        if r1129 = 0 then
          nm (v3_L2 + 1) fun x1131 =>
          f_Model_nameOf_L2 o_X o_N w1_L2 w2_L2 n x1131
        else
          some (v3_L2, o_N)
def f_Model_nameOf (o_X : S_MX) (o_N : S_MN) (a1 : Int32) (a2 : Int32) : Option (Int32 × S_MN) :=
  f_Model_nameOf_L2 o_X o_N a1 a2 FU 0

def f_Model_readName_L0 (o_X_L0 : S_MX) : Nat → S_ML → Option (S_ML)
  | 0, _ => none
  | n + 1, o_L_L0 =>
    (f_Model_goesOn o_X_L0 o_L_L0.2.2.2.1).bind fun r1101 =>
    if r1101 = 0 then
      some o_L_L0
    else
      f_Model_readName_L0 o_X_L0 n (o_L_L0.1, o_L_L0.2.1, o_L_L0.2.2.1, o_L_L0.2.2.2.1 + 1, o_L_L0.2.2.2.2)
def f_Model_readName (o_C : S_MC) (o_X : S_MX) (o_L : S_ML) (o_N : S_MN) : Option (S_ML × S_MN) :=
  (f_Model_readName_L0 o_X FU o_L).bind fun r1 =>
  if (r1.2.2.2.1 - r1.1) ≤ 32 then
    (f_Model_wordOf o_C o_X r1.1 (r1.2.2.2.1 - r1.1)).bind fun r3 =>
    if r3 < 0 then
      if r3 < 0 then
        (f_Model_nameOf o_X o_N r1.1 (r1.2.2.2.1 - r1.1)).bind fun r6 =>
        some ((r1.1, 80, r6.1, r1.2.2.2), r6.2)
      else
        some ((r1.1, 80, 0, r1.2.2.2), o_N)
    else
      if r3 < 0 then
        (f_Model_nameOf o_X o_N r1.1 (r1.2.2.2.1 - r1.1)).bind fun r8 =>
        some ((r1.1, r3, r8.1, r1.2.2.2), r8.2)
      else
        some ((r1.1, r3, 0, r1.2.2.2), o_N)
  else
    (f_Model_fail r1 3 r1.1).bind fun r9 =>
    some (r9, o_N)

def f_Model_digitOf (a1 : Int32) : Option (Int32) :=
  (f_Model_great a1).bind fun r1 =>
  (f_Model_isDigit a1).bind fun r2 =>
  if r2 = 0 then
    if r1 < 65 then
      some 99
    else
      if 70 < r1 then
        some 99
      else
        some ((r1 - 65) + 10)
  else
    some (a1 - 48)

def f_Model_digits_L8 (w1_L8 : Int32) (o_X_L8 : S_MX) : Nat → Int64 → S_ML → Option (Int64 × S_ML)
  | 0, _, _ => none
  | n + 1, v2_L8, o_L_L8 =>
    if o_X_L8.1 ≤ o_L_L8.2.2.2.1 then
      some (v2_L8, o_L_L8)
    else
      gd o_L_L8.2.2.2.1 8192 <|
      (f_Model_digitOf (o_X_L8.2 o_L_L8.2.2.2.1.toNatClampNeg)).bind fun r1183 =>
      if w1_L8 ≤ r1183 then
        some (v2_L8, o_L_L8)
      else
        gd o_L_L8.2.2.2.1 8192 <|
        (f_Model_digitOf (o_X_L8.2 o_L_L8.2.2.2.1.toNatClampNeg)).bind fun r1186 =>
        nm ((v2_L8 * w1_L8.toInt64) + r1186.toInt64) fun x1187 =>
        if (lg_cmp x1187 1000000000000) ≤ 0 then
          f_Model_digits_L8 w1_L8 o_X_L8 n x1187 (o_L_L8.1, o_L_L8.2.1, o_L_L8.2.2.1, o_L_L8.2.2.2.1 + 1, o_L_L8.2.2.2.2)
        else
          f_Model_digits_L8 w1_L8 o_X_L8 n 1000000000000 (o_L_L8.1, o_L_L8.2.1, o_L_L8.2.2.1, o_L_L8.2.2.2.1 + 1, o_L_L8.2.2.2.2)
def f_Model_digits (o_X : S_MX) (o_L : S_ML) (a1 : Int32) : Option (Int64 × S_ML) :=
  (f_Model_digits_L8 a1 o_X FU 0 o_L).bind fun r1 =>
  if r1.2.2.2.2.1 = o_L.2.2.2.1 then
    some ((-1), r1.2)
  else
    some (r1.1, r1.2)
