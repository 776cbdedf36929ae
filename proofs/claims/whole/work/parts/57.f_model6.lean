def f_Model_count (o_X : S_MX) (o_L : S_ML) (o_N : S_MN) (o_Q : S_MQ) (o_V : S_MV) (a1 : Int32) : Option (Int32) :=
  if a1 = 0 then
    some o_L.2.2.2.2.2.1
  else
  if a1 = 1 then
    some o_L.2.2.2.2.2.2
  else
  if a1 = 2 then
    some o_Q.1
  else
  if a1 = 3 then
    some o_N.1
  else
  if a1 = 4 then
    some o_X.1
  else
  if a1 = 5 then
    some o_V.1
  else
  some (-1)

def f_Model_children_L9 (o_T_L9 : S_MT) : Nat → Int32 → Int32 → Option (Int32)
  | 0, _, _ => none
  | n + 1, v3_L9, v2_L9 =>
    if v3_L9 = (-1) then
      some v2_L9
    else
      nm (v2_L9 + 1) fun x1192 =>
      gd v3_L9 20000 <|
      nm (o_T_L9.2.2.2.2.2.2.2.2 v3_L9.toNatClampNeg) fun x1194 =>
      f_Model_children_L9 o_T_L9 n x1194 x1192
def f_Model_children (o_T : S_MT) (a1 : Int32) : Option (Int32) :=
  gd a1 20000 <|
  nm (o_T.2.2.2.2.2.2.1 a1.toNatClampNeg) fun x2 =>
  (f_Model_children_L9 o_T FU x2 0).bind fun r3 =>
  some r3

def f_Model_node (o_T : S_MT) (o_Q : S_MQ) (a1 : Int32) (a2 : Int32) : Option (Int32) :=
  if a1 < 0 then
    some (-1)
  else
    if o_Q.1 ≤ a1 then
      some (-1)
    else
      if a2 < 0 then
        some (-1)
      else
        if a2 ≤ 4 then
          gd a1 20000 <|
          if a2 = 0 then
            gd (o_Q.2.1 a1.toNatClampNeg) 20000 <|
            some (o_T.2.2.1 (o_Q.2.1 a1.toNatClampNeg).toNatClampNeg)
          else
            if a2 = 1 then
              gd (o_Q.2.1 a1.toNatClampNeg) 20000 <|
              some (o_T.2.2.2.1 (o_Q.2.1 a1.toNatClampNeg).toNatClampNeg)
            else
              if a2 = 2 then
                gd (o_Q.2.1 a1.toNatClampNeg) 20000 <|
                some (o_T.2.2.2.2.1 (o_Q.2.1 a1.toNatClampNeg).toNatClampNeg)
              else
                if a2 = 3 then
                  if a1 = 0 then
                    some (-1)
                  else
                    gd (o_Q.2.1 a1.toNatClampNeg) 20000 <|
                    gd (o_T.2.2.2.2.2.1 (o_Q.2.1 a1.toNatClampNeg).toNatClampNeg) 20000 <|
                    some (o_Q.2.2 (o_T.2.2.2.2.2.1 (o_Q.2.1 a1.toNatClampNeg).toNatClampNeg).toNatClampNeg)
                else
                  (f_Model_children o_T (o_Q.2.1 a1.toNatClampNeg)).bind fun r10 =>
                  some r10
        else
          some (-1)

def f_Model_nameByte (o_N : S_MN) (a1 : Int32) (a2 : Int32) : Option (Int32) :=
  if a1 < 0 then
    some (-1)
  else
    if o_N.1 ≤ a1 then
      some (-1)
    else
      if a2 < 0 then
        some (-1)
      else
        gd (a1 + 1) 8193 <|
        gd a1 8193 <|
        if a2 < ((o_N.2.1 (a1 + 1).toNatClampNeg) - (o_N.2.1 a1.toNatClampNeg)) then
          gd a1 8193 <|
          gd ((o_N.2.1 a1.toNatClampNeg) + a2) 8192 <|
          some (o_N.2.2 ((o_N.2.1 a1.toNatClampNeg) + a2).toNatClampNeg)
        else
          some (-1)

def f_Model_item (o_I : S_MI) (a1 : Int32) (a2 : Int32) : Option (S_MI) :=
  gd o_I.1 4000 <|
  gd o_I.1 4000 <|
  some (o_I.1 + 1, upd o_I.2.1 o_I.1.toNatClampNeg a1, upd o_I.2.2 o_I.1.toNatClampNeg a2)

def f_Model_put (o_V : S_MV) (a1 : Int32) : Option (S_MV) :=
  gd o_V.1 24000 <|
  some (o_V.1 + 1, upd o_V.2 o_V.1.toNatClampNeg a1)

def f_Model_isOfName (a1 : Int32) : Option (Int32) :=
  (f_Model_isLetter a1).bind fun r1 =>
  if r1 = 0 then
    (f_Model_isDigit a1).bind fun r3 =>
    if r3 = 0 then
      some 0
    else
      some 1
  else
    some 1

def f_Model_part (o_V : S_MV) (a1 : Int32) : Option (S_MV) :=
  if o_V.1 ≤ 0 then
    some o_V
  else
    (f_Model_isOfName a1).bind fun r2 =>
    if r2 = 0 then
      some o_V
    else
      gd (o_V.1 - 1) 24000 <|
      (f_Model_isOfName (o_V.2 (o_V.1 - 1).toNatClampNeg)).bind fun r5 =>
      if r5 = 0 then
        some o_V
      else
        (f_Model_put o_V 32).bind fun r7 =>
        some r7

def f_Model_putToken_L19 (o_C_L19 : S_MC) : Nat → Int32 → S_MV → Option (S_MV)
  | 0, _, _ => none
  | n + 1, v2_L19, o_V_L19 =>
    gd v2_L19 270 <|
    if (o_C_L19.1 v2_L19.toNatClampNeg) = 0 then
      some o_V_L19
    else
      gd v2_L19 270 <|
      (f_Model_put o_V_L19 (o_C_L19.1 v2_L19.toNatClampNeg)).bind fun r1294 =>
      nm (v2_L19 + 1) fun x1295 =>
      f_Model_putToken_L19 o_C_L19 n x1295 r1294
def f_Model_putToken (o_C : S_MC) (o_V : S_MV) (a1 : Int32) : Option (S_MV) :=
  if 41 ≤ a1 then
    gd (2 * (a1 - 50)) 44 <|
    (f_Model_put o_V (o_C.2.2.1 (2 * (a1 - 50)).toNatClampNeg)).bind fun r3 =>
    gd ((2 * (a1 - 50)) + 1) 44 <|
    if (o_C.2.2.1 ((2 * (a1 - 50)) + 1).toNatClampNeg) = 0 then
      some r3
    else
      gd ((2 * (a1 - 50)) + 1) 44 <|
      (f_Model_put r3 (o_C.2.2.1 ((2 * (a1 - 50)) + 1).toNatClampNeg)).bind fun r7 =>
      some r7
  else
    (f_Model_part o_V 65).bind fun r8 =>
    gd a1 42 <|
    (f_Model_putToken_L19 o_C FU (o_C.2.1 a1.toNatClampNeg) r8).bind fun r10 =>
    some r10

def f_Model_putName_L13 (w1_L13 : Int32) (o_N_L13 : S_MN) : Nat → Int32 → S_MV → Option (S_MV)
  | 0, _, _ => none
  | n + 1, v2_L13, o_V_L13 =>
    gd (w1_L13 + 1) 8193 <|
    if (o_N_L13.2.1 (w1_L13 + 1).toNatClampNeg) ≤ v2_L13 then
      some o_V_L13
    else
      gd v2_L13 8192 <|
      (f_Model_put o_V_L13 (o_N_L13.2.2 v2_L13.toNatClampNeg)).bind fun r1234 =>
      nm (v2_L13 + 1) fun x1235 =>
      f_Model_putName_L13 w1_L13 o_N_L13 n x1235 r1234
def f_Model_putName (o_N : S_MN) (o_V : S_MV) (a1 : Int32) : Option (S_MV) :=
  (f_Model_part o_V 65).bind fun r1 =>
  gd a1 8193 <|
  (f_Model_putName_L13 a1 o_N FU (o_N.2.1 a1.toNatClampNeg) r1).bind fun r3 =>
  some r3

def f_Model_putNumber_L25 (w2_L25 : Int64) : Nat → Int64 → Option (Int64)
  | 0, _ => none
  | n + 1, v4_L25 =>
    dzl v4_L25 <|
    if (lg_cmp (w2_L25 / v4_L25) 9) ≤ 0 then
      some v4_L25
    else
      f_Model_putNumber_L25 w2_L25 n (v4_L25 * 10)
def f_Model_putNumber_L47 (w2_L47 : Int64) : Nat → Int64 → S_MV → Option (S_MV)
  | 0, _, _ => none
  | n + 1, v4_L47, o_V_L47 =>
    if (lg_cmp v4_L47 0) ≤ 0 then
      some o_V_L47
    else
      dzl v4_L47 <|
      (f_Model_put o_V_L47 (48 + (((w2_L47 / v4_L47) - (w2_L47 / v4_L47) / 10 * 10).toInt32))).bind fun r1573 =>
      f_Model_putNumber_L47 w2_L47 n (v4_L47 / 10) r1573
def f_Model_putNumber (o_V : S_MV) (a1 : Int32) : Option (S_MV) :=
  if 0 ≤ a1 then
    (f_Model_part o_V 48).bind fun r2 =>
    (f_Model_putNumber_L25 a1.toInt64 FU 1).bind fun r3 =>
    (f_Model_putNumber_L47 a1.toInt64 FU r3 r2).bind fun r4 =>
    some r4
  else
    (f_Model_put o_V 45).bind fun r5 =>
    (f_Model_part r5 48).bind fun r6 =>
    (f_Model_putNumber_L25 (-a1.toInt64) FU 1).bind fun r7 =>
    (f_Model_putNumber_L47 (-a1.toInt64) FU r7 r6).bind fun r8 =>
    some r8

def f_Model_putPlace (o_C : S_MC) (o_V : S_MV) (a1 : Int32) : Option (S_MV) :=
  (f_Model_put o_V 37).bind fun r1 =>
  gd ((a1 / 256) * 2) 12 <|
  (f_Model_put r1 (o_C.2.2.2 ((a1 / 256) * 2).toNatClampNeg)).bind fun r3 =>
  gd (((a1 / 256) * 2) + 1) 12 <|
  (f_Model_put r3 (o_C.2.2.2 (((a1 / 256) * 2) + 1).toNatClampNeg)).bind fun r5 =>
  if (a1 - a1 / 256 * 256) ≤ 99 then
    if (a1 - a1 / 256 * 256) ≤ 9 then
      (f_Model_put r5 (48 + ((a1 - a1 / 256 * 256) - (a1 - a1 / 256 * 256) / 10 * 10))).bind fun r8 =>
      some r8
    else
      (f_Model_put r5 (48 + (((a1 - a1 / 256 * 256) / 10) - ((a1 - a1 / 256 * 256) / 10) / 10 * 10))).bind fun r9 =>
      (f_Model_put r9 (48 + ((a1 - a1 / 256 * 256) - (a1 - a1 / 256 * 256) / 10 * 10))).bind fun r10 =>
      some r10
  else
    (f_Model_put r5 (48 + ((a1 - a1 / 256 * 256) / 100))).bind fun r11 =>
    if (a1 - a1 / 256 * 256) ≤ 9 then
      (f_Model_put r11 (48 + ((a1 - a1 / 256 * 256) - (a1 - a1 / 256 * 256) / 10 * 10))).bind fun r13 =>
      some r13
    else
      (f_Model_put r11 (48 + (((a1 - a1 / 256 * 256) / 10) - ((a1 - a1 / 256 * 256) / 10) / 10 * 10))).bind fun r14 =>
      (f_Model_put r14 (48 + ((a1 - a1 / 256 * 256) - (a1 - a1 / 256 * 256) / 10 * 10))).bind fun r15 =>
      some r15

def f_Model_second (o_T : S_MT) (a1 : Int32) : Option (Int32) :=
  gd a1 20000 <|
  gd (o_T.2.2.2.2.2.2.1 a1.toNatClampNeg) 20000 <|
  some (o_T.2.2.2.2.2.2.2.2 (o_T.2.2.2.2.2.2.1 a1.toNatClampNeg).toNatClampNeg)

def f_Model_itemOperand (o_T : S_MT) (o_I : S_MI) (a1 : Int32) (a2 : Int32) (a3 : Int32) : Option (S_MI) :=
  gd a1 20000 <|
  if (o_T.2.2.1 a1.toNatClampNeg) = 35 then
    gd a1 20000 <|
    (f_Model_closeness (o_T.2.2.2.2.1 a1.toNatClampNeg)).bind fun r18 =>
    gd a2 20000 <|
    if (o_T.2.2.1 a2.toNatClampNeg) = 36 then
      if r18 < (8 : Int32) then
        (f_Model_item o_I 0 56).bind fun r46 =>
        (f_Model_item r46 1 a1).bind fun r47 =>
        (f_Model_item r47 0 55).bind fun r49 =>
        some r49
      else
        if a3 = 0 then
          (f_Model_item o_I 1 a1).bind fun r52 =>
          some r52
        else
          if (8 : Int32) = r18 then
            (f_Model_item o_I 0 56).bind fun r59 =>
            (f_Model_item r59 1 a1).bind fun r60 =>
            (f_Model_item r60 0 55).bind fun r62 =>
            some r62
          else
            (f_Model_item o_I 1 a1).bind fun r56 =>
            some r56
    else
      gd a2 20000 <|
      (f_Model_closeness (o_T.2.2.2.2.1 a2.toNatClampNeg)).bind fun r22 =>
      if r18 < r22 then
        (f_Model_item o_I 0 56).bind fun r26 =>
        (f_Model_item r26 1 a1).bind fun r27 =>
        (f_Model_item r27 0 55).bind fun r29 =>
        some r29
      else
        if a3 = 0 then
          (f_Model_item o_I 1 a1).bind fun r32 =>
          some r32
        else
          if r22 = r18 then
            (f_Model_item o_I 0 56).bind fun r39 =>
            (f_Model_item r39 1 a1).bind fun r40 =>
            (f_Model_item r40 0 55).bind fun r42 =>
            some r42
          else
            (f_Model_item o_I 1 a1).bind fun r36 =>
            some r36
  else
    gd a2 20000 <|
    if (o_T.2.2.1 a2.toNatClampNeg) = 36 then
      (f_Model_item o_I 1 a1).bind fun r14 =>
      some r14
    else
      gd a2 20000 <|
      (f_Model_closeness (o_T.2.2.2.2.1 a2.toNatClampNeg)).bind fun r7 =>
      (f_Model_item o_I 1 a1).bind fun r10 =>
      some r10

def f_Model_tokenOf (a1 : Int32) : Option (Int32) :=
  if a1 = 0 then
    some 30
  else
  if a1 = 1 then
    some 31
  else
  if a1 = 2 then
    some 70
  else
  if a1 = 3 then
    some 67
  else
  if a1 = 4 then
    some 54
  else
  if a1 = 5 then
    some 68
  else
  if a1 = 6 then
    some 69
  else
  if a1 = 7 then
    some 52
  else
  if a1 = 8 then
    some 53
  else
  if a1 = 9 then
    some 63
  else
  if a1 = 10 then
    some 64
  else
  if a1 = 11 then
    some 65
  else
  if a1 = 12 then
    some 66
  else
  some 33

def f_Model_itemBlock (o_T : S_MT) (o_I : S_MI) (a1 : Int32) (a2 : Int32) (a3 : Int32) : Option (S_MI) :=
  (f_Model_item o_I 0 a3).bind fun r1 =>
  gd a1 20000 <|
  if (o_T.2.2.1 a1.toNatClampNeg) = 1 then
    (f_Model_second o_T a1).bind fun r9 =>
    (f_Model_item r1 2 r9).bind fun r10 =>
    gd a1 20000 <|
    (f_Model_item r10 1 (o_T.2.2.2.2.2.2.1 a1.toNatClampNeg)).bind fun r12 =>
    (f_Model_item r12 0 61).bind fun r13 =>
    gd a1 20000 <|
    (f_Model_item r13 8 (o_T.2.2.2.2.1 a1.toNatClampNeg)).bind fun r15 =>
    (f_Model_item r15 0 a2).bind fun r16 =>
    some r16
  else
    gd a1 20000 <|
    (f_Model_item r1 2 (o_T.2.2.2.2.2.2.1 a1.toNatClampNeg)).bind fun r5 =>
    gd a1 20000 <|
    (f_Model_item r5 8 (o_T.2.2.2.2.1 a1.toNatClampNeg)).bind fun r7 =>
    (f_Model_item r7 0 a2).bind fun r8 =>
    some r8

def f_Model_itemFor (o_T : S_MT) (o_I : S_MI) (a1 : Int32) : Option (S_MI) :=
  gd a1 20000 <|
  nm (o_T.2.2.2.2.2.2.1 a1.toNatClampNeg) fun x2 =>
  gd x2 20000 <|
  nm (o_T.2.2.2.2.2.2.2.2 x2.toNatClampNeg) fun x4 =>
  gd x4 20000 <|
  nm (o_T.2.2.2.2.2.2.2.2 x4.toNatClampNeg) fun x6 =>
  (f_Model_item o_I 0 60).bind fun r7 =>
  (f_Model_item r7 0 27).bind fun r8 =>
  gd x6 20000 <|
  if (o_T.2.2.1 x6.toNatClampNeg) = 11 then
    (f_Model_item r8 1 x6).bind fun r32 =>
    (f_Model_item r32 0 26).bind fun r33 =>
    gd x6 20000 <|
    if (o_T.2.2.1 x6.toNatClampNeg) = 11 then
      (f_Model_item r33 1 x4).bind fun r36 =>
      (f_Model_item r36 0 24).bind fun r37 =>
      (f_Model_item r37 1 x2).bind fun r38 =>
      (f_Model_item r38 0 50).bind fun r39 =>
      gd a1 20000 <|
      (f_Model_item r39 8 (o_T.2.2.2.2.1 a1.toNatClampNeg)).bind fun r41 =>
      (f_Model_item r41 0 23).bind fun r42 =>
      some r42
    else
      (f_Model_item r33 1 x6).bind fun r43 =>
      (f_Model_item r43 0 25).bind fun r44 =>
      (f_Model_item r44 1 x4).bind fun r45 =>
      (f_Model_item r45 0 24).bind fun r46 =>
      (f_Model_item r46 1 x2).bind fun r47 =>
      (f_Model_item r47 0 50).bind fun r48 =>
      gd a1 20000 <|
      (f_Model_item r48 8 (o_T.2.2.2.2.1 a1.toNatClampNeg)).bind fun r50 =>
      (f_Model_item r50 0 23).bind fun r51 =>
      some r51
  else
    gd x6 20000 <|
    (f_Model_item r8 1 (o_T.2.2.2.2.2.2.2.2 x6.toNatClampNeg)).bind fun r12 =>
    (f_Model_item r12 0 26).bind fun r13 =>
    gd x6 20000 <|
    if (o_T.2.2.1 x6.toNatClampNeg) = 11 then
      (f_Model_item r13 1 x4).bind fun r16 =>
      (f_Model_item r16 0 24).bind fun r17 =>
      (f_Model_item r17 1 x2).bind fun r18 =>
      (f_Model_item r18 0 50).bind fun r19 =>
      gd a1 20000 <|
      (f_Model_item r19 8 (o_T.2.2.2.2.1 a1.toNatClampNeg)).bind fun r21 =>
      (f_Model_item r21 0 23).bind fun r22 =>
      some r22
    else
      (f_Model_item r13 1 x6).bind fun r23 =>
      (f_Model_item r23 0 25).bind fun r24 =>
      (f_Model_item r24 1 x4).bind fun r25 =>
      (f_Model_item r25 0 24).bind fun r26 =>
      (f_Model_item r26 1 x2).bind fun r27 =>
      (f_Model_item r27 0 50).bind fun r28 =>
      gd a1 20000 <|
      (f_Model_item r28 8 (o_T.2.2.2.2.1 a1.toNatClampNeg)).bind fun r30 =>
      (f_Model_item r30 0 23).bind fun r31 =>
      some r31

def f_Model_itemArray (o_T : S_MT) (o_I : S_MI) (a1 : Int32) : Option (S_MI) :=
  (f_Model_second o_T a1).bind fun r1 =>
  gd r1 20000 <|
  (f_Model_item o_I 1 (o_T.2.2.2.2.2.2.2.2 r1.toNatClampNeg)).bind fun r3 =>
  (f_Model_item r3 0 15).bind fun r4 =>
  (f_Model_item r4 0 58).bind fun r5 =>
  (f_Model_second o_T a1).bind fun r6 =>
  (f_Model_item r5 1 r6).bind fun r7 =>
  (f_Model_item r7 0 51).bind fun r8 =>
  gd a1 20000 <|
  (f_Model_item r8 1 (o_T.2.2.2.2.2.2.1 a1.toNatClampNeg)).bind fun r10 =>
  (f_Model_item r10 0 57).bind fun r11 =>
  (f_Model_item r11 0 14).bind fun r12 =>
  some r12

def f_Model_itemAll (o_T : S_MT) (o_I : S_MI) (a1 : Int32) (a2 : Int32) (a3 : Int32) (a4 : Int32) : Option (S_MI) :=
  if a1 = (-1) then
    gd a3 20000 <|
    (f_Model_item o_I a2 (o_T.2.2.2.2.2.2.1 a3.toNatClampNeg)).bind fun r3 =>
    if a4 = (-1) then
      some r3
    else
      (f_Model_item r3 0 a4).bind fun r5 =>
      some r5
  else
    (f_Model_item o_I 0 a1).bind fun r6 =>
    gd a3 20000 <|
    (f_Model_item r6 a2 (o_T.2.2.2.2.2.2.1 a3.toNatClampNeg)).bind fun r8 =>
    if a4 = (-1) then
      some r8
    else
      (f_Model_item r8 0 a4).bind fun r10 =>
      some r10
