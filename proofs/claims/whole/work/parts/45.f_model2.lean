def f_Model_unit (o_X : S_MX) (o_L : S_ML) : Option (Int64 × S_ML) :=
  (f_Model_at o_X o_L.2.2.2.1).bind fun r1 =>
  (f_Model_great r1).bind fun r2 =>
  (f_Model_at o_X (o_L.2.2.2.1 + 1)).bind fun r3 =>
  (f_Model_great r3).bind fun r4 =>
  if r2 = 77 then
    if r4 = 83 then
      if r2 = 77 then
        if r4 = 83 then
          some (1, (o_L.1, o_L.2.1, o_L.2.2.1, o_L.2.2.2.1 + 2, o_L.2.2.2.2))
        else
          if r2 = 83 then
            some (1000, (o_L.1, o_L.2.1, o_L.2.2.1, o_L.2.2.2.1 + 2, o_L.2.2.2.2))
          else
            if r2 = 77 then
              some (60000, (o_L.1, o_L.2.1, o_L.2.2.1, o_L.2.2.2.1 + 2, o_L.2.2.2.2))
            else
              if r2 = 72 then
                some (3600000, (o_L.1, o_L.2.1, o_L.2.2.1, o_L.2.2.2.1 + 2, o_L.2.2.2.2))
              else
                some (0, (o_L.1, o_L.2.1, o_L.2.2.1, o_L.2.2.2.1 + 2, o_L.2.2.2.2))
      else
        if r2 = 83 then
          some (1000, (o_L.1, o_L.2.1, o_L.2.2.1, o_L.2.2.2.1 + 2, o_L.2.2.2.2))
        else
          if r2 = 77 then
            some (60000, (o_L.1, o_L.2.1, o_L.2.2.1, o_L.2.2.2.1 + 2, o_L.2.2.2.2))
          else
            if r2 = 72 then
              some (3600000, (o_L.1, o_L.2.1, o_L.2.2.1, o_L.2.2.2.1 + 2, o_L.2.2.2.2))
            else
              some (0, (o_L.1, o_L.2.1, o_L.2.2.1, o_L.2.2.2.1 + 2, o_L.2.2.2.2))
    else
      if r2 = 77 then
        if r4 = 83 then
          some (1, (o_L.1, o_L.2.1, o_L.2.2.1, o_L.2.2.2.1 + 1, o_L.2.2.2.2))
        else
          if r2 = 83 then
            some (1000, (o_L.1, o_L.2.1, o_L.2.2.1, o_L.2.2.2.1 + 1, o_L.2.2.2.2))
          else
            if r2 = 77 then
              some (60000, (o_L.1, o_L.2.1, o_L.2.2.1, o_L.2.2.2.1 + 1, o_L.2.2.2.2))
            else
              if r2 = 72 then
                some (3600000, (o_L.1, o_L.2.1, o_L.2.2.1, o_L.2.2.2.1 + 1, o_L.2.2.2.2))
              else
                some (0, (o_L.1, o_L.2.1, o_L.2.2.1, o_L.2.2.2.1 + 1, o_L.2.2.2.2))
      else
        if r2 = 83 then
          some (1000, (o_L.1, o_L.2.1, o_L.2.2.1, o_L.2.2.2.1 + 1, o_L.2.2.2.2))
        else
          if r2 = 77 then
            some (60000, (o_L.1, o_L.2.1, o_L.2.2.1, o_L.2.2.2.1 + 1, o_L.2.2.2.2))
          else
            if r2 = 72 then
              some (3600000, (o_L.1, o_L.2.1, o_L.2.2.1, o_L.2.2.2.1 + 1, o_L.2.2.2.2))
            else
              some (0, (o_L.1, o_L.2.1, o_L.2.2.1, o_L.2.2.2.1 + 1, o_L.2.2.2.2))
  else
    if r2 = 77 then
      if r4 = 83 then
        some (1, (o_L.1, o_L.2.1, o_L.2.2.1, o_L.2.2.2.1 + 1, o_L.2.2.2.2))
      else
        if r2 = 83 then
          some (1000, (o_L.1, o_L.2.1, o_L.2.2.1, o_L.2.2.2.1 + 1, o_L.2.2.2.2))
        else
          if r2 = 77 then
            some (60000, (o_L.1, o_L.2.1, o_L.2.2.1, o_L.2.2.2.1 + 1, o_L.2.2.2.2))
          else
            if r2 = 72 then
              some (3600000, (o_L.1, o_L.2.1, o_L.2.2.1, o_L.2.2.2.1 + 1, o_L.2.2.2.2))
            else
              some (0, (o_L.1, o_L.2.1, o_L.2.2.1, o_L.2.2.2.1 + 1, o_L.2.2.2.2))
    else
      if r2 = 83 then
        some (1000, (o_L.1, o_L.2.1, o_L.2.2.1, o_L.2.2.2.1 + 1, o_L.2.2.2.2))
      else
        if r2 = 77 then
          some (60000, (o_L.1, o_L.2.1, o_L.2.2.1, o_L.2.2.2.1 + 1, o_L.2.2.2.2))
        else
          if r2 = 72 then
            some (3600000, (o_L.1, o_L.2.1, o_L.2.2.1, o_L.2.2.2.1 + 1, o_L.2.2.2.2))
          else
            some (0, (o_L.1, o_L.2.1, o_L.2.2.1, o_L.2.2.2.1 + 1, o_L.2.2.2.2))

def f_Model_readNumber (o_X : S_MX) (o_L : S_ML) (a1 : Int32) : Option (S_ML) :=
  if a1 = 0 then
    (f_Model_digits o_X (o_L.1, o_L.2.1, o_L.2.2.1, o_L.1, o_L.2.2.2.2) 10).bind fun r2 =>
    if (lg_cmp r2.1 0) < 0 then
      if a1 = 0 then
        (f_Model_fail r2.2 4 r2.2.1).bind fun r7 =>
        some r7
      else
        (f_Model_fail r2.2 4 r2.2.1).bind fun r11 =>
        some r11
    else
      if a1 = 0 then
        (f_Model_at o_X r2.2.2.2.2.1).bind fun r14 =>
        if r14 = 35 then
          if (lg_cmp r2.1 16) = 0 then
            (f_Model_digits o_X (r2.2.1, r2.2.2.1, r2.2.2.2.1, r2.2.2.2.2.1 + 1, r2.2.2.2.2.2) r2.1.toInt32).bind fun r24 =>
            if (lg_cmp r24.1 0) < 0 then
              (f_Model_fail r24.2 4 r24.2.1).bind fun r28 =>
              some r28
            else
              (f_Model_goesOn o_X r24.2.2.2.2.1).bind fun r30 =>
              if r30 = 0 then
                if (lg_cmp r24.1 2147483647) ≤ 0 then
                  some (r24.2.1, 81, r24.1.toInt32, r24.2.2.2.2)
                else
                  (f_Model_fail r24.2 4 r24.2.1).bind fun r34 =>
                  some r34
              else
                (f_Model_fail r24.2 4 r24.2.1).bind fun r32 =>
                some r32
          else
            if (lg_cmp r2.1 2) = 0 then
              (f_Model_digits o_X (r2.2.1, r2.2.2.1, r2.2.2.2.1, r2.2.2.2.2.1 + 1, r2.2.2.2.2.2) r2.1.toInt32).bind fun r41 =>
              if (lg_cmp r41.1 0) < 0 then
                (f_Model_fail r41.2 4 r41.2.1).bind fun r45 =>
                some r45
              else
                (f_Model_goesOn o_X r41.2.2.2.2.1).bind fun r47 =>
                if r47 = 0 then
                  if (lg_cmp r41.1 2147483647) ≤ 0 then
                    some (r41.2.1, 81, r41.1.toInt32, r41.2.2.2.2)
                  else
                    (f_Model_fail r41.2 4 r41.2.1).bind fun r51 =>
                    some r51
                else
                  (f_Model_fail r41.2 4 r41.2.1).bind fun r49 =>
                  some r49
            else
              (f_Model_fail (r2.2.1, r2.2.2.1, r2.2.2.2.1, r2.2.2.2.2.1 + 1, r2.2.2.2.2.2) 4 r2.2.1).bind fun r39 =>
              some r39
        else
          (f_Model_goesOn o_X r2.2.2.2.2.1).bind fun r17 =>
          if r17 = 0 then
            if (lg_cmp r2.1 2147483647) ≤ 0 then
              some (r2.2.1, 81, r2.1.toInt32, r2.2.2.2.2)
            else
              (f_Model_fail r2.2 4 r2.2.1).bind fun r21 =>
              some r21
          else
            (f_Model_fail r2.2 4 r2.2.1).bind fun r19 =>
            some r19
      else
        (f_Model_unit o_X r2.2).bind fun r53 =>
        if (lg_cmp r53.1 0) ≤ 0 then
          (f_Model_fail r53.2 4 r53.2.1).bind fun r56 =>
          some r56
        else
          (f_Model_goesOn o_X r53.2.2.2.2.1).bind fun r58 =>
          if r58 = 0 then
            if (lg_cmp (r2.1 * r53.1) 2147483647) ≤ 0 then
              some (r53.2.1, 81, (r2.1 * r53.1).toInt32, r53.2.2.2.2)
            else
              (f_Model_fail r53.2 4 r53.2.1).bind fun r62 =>
              some r62
          else
            (f_Model_fail r53.2 4 r53.2.1).bind fun r60 =>
            some r60
  else
    (f_Model_digits o_X (o_L.1, o_L.2.1, o_L.2.2.1, o_L.1 + 2, o_L.2.2.2.2) 10).bind fun r63 =>
    if (lg_cmp r63.1 0) < 0 then
      if a1 = 0 then
        (f_Model_fail r63.2 4 r63.2.1).bind fun r68 =>
        some r68
      else
        (f_Model_fail r63.2 4 r63.2.1).bind fun r72 =>
        some r72
    else
      if a1 = 0 then
        (f_Model_at o_X r63.2.2.2.2.1).bind fun r75 =>
        if r75 = 35 then
          if (lg_cmp r63.1 16) = 0 then
            (f_Model_digits o_X (r63.2.1, r63.2.2.1, r63.2.2.2.1, r63.2.2.2.2.1 + 1, r63.2.2.2.2.2) r63.1.toInt32).bind fun r85 =>
            if (lg_cmp r85.1 0) < 0 then
              (f_Model_fail r85.2 4 r85.2.1).bind fun r89 =>
              some r89
            else
              (f_Model_goesOn o_X r85.2.2.2.2.1).bind fun r91 =>
              if r91 = 0 then
                if (lg_cmp r85.1 2147483647) ≤ 0 then
                  some (r85.2.1, 81, r85.1.toInt32, r85.2.2.2.2)
                else
                  (f_Model_fail r85.2 4 r85.2.1).bind fun r95 =>
                  some r95
              else
                (f_Model_fail r85.2 4 r85.2.1).bind fun r93 =>
                some r93
          else
            if (lg_cmp r63.1 2) = 0 then
              (f_Model_digits o_X (r63.2.1, r63.2.2.1, r63.2.2.2.1, r63.2.2.2.2.1 + 1, r63.2.2.2.2.2) r63.1.toInt32).bind fun r102 =>
              if (lg_cmp r102.1 0) < 0 then
                (f_Model_fail r102.2 4 r102.2.1).bind fun r106 =>
                some r106
              else
                (f_Model_goesOn o_X r102.2.2.2.2.1).bind fun r108 =>
                if r108 = 0 then
                  if (lg_cmp r102.1 2147483647) ≤ 0 then
                    some (r102.2.1, 81, r102.1.toInt32, r102.2.2.2.2)
                  else
                    (f_Model_fail r102.2 4 r102.2.1).bind fun r112 =>
                    some r112
                else
                  (f_Model_fail r102.2 4 r102.2.1).bind fun r110 =>
                  some r110
            else
              (f_Model_fail (r63.2.1, r63.2.2.1, r63.2.2.2.1, r63.2.2.2.2.1 + 1, r63.2.2.2.2.2) 4 r63.2.1).bind fun r100 =>
              some r100
        else
          (f_Model_goesOn o_X r63.2.2.2.2.1).bind fun r78 =>
          if r78 = 0 then
            if (lg_cmp r63.1 2147483647) ≤ 0 then
              some (r63.2.1, 81, r63.1.toInt32, r63.2.2.2.2)
            else
              (f_Model_fail r63.2 4 r63.2.1).bind fun r82 =>
              some r82
          else
            (f_Model_fail r63.2 4 r63.2.1).bind fun r80 =>
            some r80
      else
        (f_Model_unit o_X r63.2).bind fun r114 =>
        if (lg_cmp r114.1 0) ≤ 0 then
          (f_Model_fail r114.2 4 r114.2.1).bind fun r117 =>
          some r117
        else
          (f_Model_goesOn o_X r114.2.2.2.2.1).bind fun r119 =>
          if r119 = 0 then
            if (lg_cmp (r63.1 * r114.1) 2147483647) ≤ 0 then
              some (r114.2.1, 81, (r63.1 * r114.1).toInt32, r114.2.2.2.2)
            else
              (f_Model_fail r114.2 4 r114.2.1).bind fun r123 =>
              some r123
          else
            (f_Model_fail r114.2 4 r114.2.1).bind fun r121 =>
            some r121

def f_Model_readPlace_L4 (o_C_L4 : S_MC) (o_X_L4 : S_MX) (o_L_L4 : S_ML) : Nat → Int32 → Int32 → Option (Int32)
  | 0, _, _ => none
  | n + 1, v2_L4, v1_L4 =>
    if 6 ≤ v2_L4 then
      some v1_L4
    else
      (f_Model_at o_X_L4 (o_L_L4.1 + 1)).bind fun r1142 =>
      (f_Model_great r1142).bind fun r1143 =>
      gd (2 * v2_L4) 12 <|
      if r1143 = (o_C_L4.2.2.2 (2 * v2_L4).toNatClampNeg) then
        (f_Model_at o_X_L4 (o_L_L4.1 + 2)).bind fun r1147 =>
        (f_Model_great r1147).bind fun r1148 =>
        gd ((2 * v2_L4) + 1) 12 <|
        if r1148 = (o_C_L4.2.2.2 ((2 * v2_L4) + 1).toNatClampNeg) then
          nm (v2_L4 + 1) fun x1152 =>
          f_Model_readPlace_L4 o_C_L4 o_X_L4 o_L_L4 n x1152 v2_L4
        else
          nm (v2_L4 + 1) fun x1151 =>
          f_Model_readPlace_L4 o_C_L4 o_X_L4 o_L_L4 n x1151 v1_L4
      else
        nm (v2_L4 + 1) fun x1146 =>
        f_Model_readPlace_L4 o_C_L4 o_X_L4 o_L_L4 n x1146 v1_L4
def f_Model_readPlace (o_C : S_MC) (o_X : S_MX) (o_L : S_ML) : Option (S_ML) :=
  (f_Model_readPlace_L4 o_C o_X o_L FU 0 (-1)).bind fun r1 =>
  if r1 < 0 then
    if (lg_cmp (-1) 0) < 0 then
      (f_Model_fail (o_L.1, o_L.2.1, o_L.2.2.1, o_L.1 + 3, o_L.2.2.2.2) 5 o_L.1).bind fun r4 =>
      some r4
    else
      if 3 ≤ r1 then
        if 0 < (lg_cmp (-1) 63) then
          (f_Model_fail (o_L.1, o_L.2.1, o_L.2.2.1, o_L.1 + 3, o_L.2.2.2.2) 5 o_L.1).bind fun r7 =>
          some r7
        else
          (f_Model_goesOn o_X (o_L.1 + 3)).bind fun r8 =>
          if r8 = 0 then
            nm ((256 * r1) + ((-1).toInt32)) fun x10 =>
            some (o_L.1, 82, x10, o_L.1 + 3, o_L.2.2.2.2)
          else
            (f_Model_fail (o_L.1, o_L.2.1, o_L.2.2.1, o_L.1 + 3, o_L.2.2.2.2) 5 o_L.1).bind fun r11 =>
            some r11
      else
        if 0 < (lg_cmp (-1) 255) then
          (f_Model_fail (o_L.1, o_L.2.1, o_L.2.2.1, o_L.1 + 3, o_L.2.2.2.2) 5 o_L.1).bind fun r13 =>
          some r13
        else
          (f_Model_goesOn o_X (o_L.1 + 3)).bind fun r14 =>
          if r14 = 0 then
            nm ((256 * r1) + ((-1).toInt32)) fun x16 =>
            some (o_L.1, 82, x16, o_L.1 + 3, o_L.2.2.2.2)
          else
            (f_Model_fail (o_L.1, o_L.2.1, o_L.2.2.1, o_L.1 + 3, o_L.2.2.2.2) 5 o_L.1).bind fun r17 =>
            some r17
  else
    (f_Model_digits o_X (o_L.1, o_L.2.1, o_L.2.2.1, o_L.1 + 3, o_L.2.2.2.2) 10).bind fun r18 =>
    if (lg_cmp r18.1 0) < 0 then
      (f_Model_fail r18.2 5 r18.2.1).bind fun r20 =>
      some r20
    else
      if 3 ≤ r1 then
        if 0 < (lg_cmp r18.1 63) then
          (f_Model_fail r18.2 5 r18.2.1).bind fun r23 =>
          some r23
        else
          (f_Model_goesOn o_X r18.2.2.2.2.1).bind fun r24 =>
          if r24 = 0 then
            nm ((256 * r1) + r18.1.toInt32) fun x26 =>
            some (r18.2.1, 82, x26, r18.2.2.2.2)
          else
            (f_Model_fail r18.2 5 r18.2.1).bind fun r27 =>
            some r27
      else
        if 0 < (lg_cmp r18.1 255) then
          (f_Model_fail r18.2 5 r18.2.1).bind fun r29 =>
          some r29
        else
          (f_Model_goesOn o_X r18.2.2.2.2.1).bind fun r30 =>
          if r30 = 0 then
            nm ((256 * r1) + r18.1.toInt32) fun x32 =>
            some (r18.2.1, 82, x32, r18.2.2.2.2)
          else
            (f_Model_fail r18.2 5 r18.2.1).bind fun r33 =>
            some r33

def f_Model_readSign_L14 (w1_L14 : Int32) (o_C_L14 : S_MC) (o_X_L14 : S_MX) (o_L_L14 : S_ML) : Nat → Int32 → Int32 → Option (Int32)
  | 0, _, _ => none
  | n + 1, v3_L14, v2_L14 =>
    if v3_L14 < 0 then
      some v2_L14
    else
      gd ((2 * v3_L14) + 1) 44 <|
      if (o_C_L14.2.2.1 ((2 * v3_L14) + 1).toNatClampNeg) = 0 then
        gd (2 * v3_L14) 44 <|
        if (o_C_L14.2.2.1 (2 * v3_L14).toNatClampNeg) = w1_L14 then
          nm (v3_L14 + (-1)) fun x1248 =>
          f_Model_readSign_L14 w1_L14 o_C_L14 o_X_L14 o_L_L14 n x1248 v3_L14
        else
          nm (v3_L14 + (-1)) fun x1246 =>
          f_Model_readSign_L14 w1_L14 o_C_L14 o_X_L14 o_L_L14 n x1246 v2_L14
      else
        gd (2 * v3_L14) 44 <|
        if (o_C_L14.2.2.1 (2 * v3_L14).toNatClampNeg) = w1_L14 then
          gd ((2 * v3_L14) + 1) 44 <|
          (f_Model_at o_X_L14 (o_L_L14.1 + 1)).bind fun r1254 =>
          if (o_C_L14.2.2.1 ((2 * v3_L14) + 1).toNatClampNeg) = r1254 then
            nm (v3_L14 + (-1)) fun x1257 =>
            f_Model_readSign_L14 w1_L14 o_C_L14 o_X_L14 o_L_L14 n x1257 v3_L14
          else
            nm (v3_L14 + (-1)) fun x1256 =>
            f_Model_readSign_L14 w1_L14 o_C_L14 o_X_L14 o_L_L14 n x1256 v2_L14
        else
          nm (v3_L14 + (-1)) fun x1251 =>
          f_Model_readSign_L14 w1_L14 o_C_L14 o_X_L14 o_L_L14 n x1251 v2_L14
def f_Model_readSign (o_C : S_MC) (o_X : S_MX) (o_L : S_ML) : Option (S_ML) :=
  (f_Model_at o_X o_L.1).bind fun r1 =>
  (f_Model_readSign_L14 r1 o_C o_X o_L FU 21 (-1)).bind fun r2 =>
  if 0 ≤ r2 then
    gd ((2 * r2) + 1) 44 <|
    if (o_C.2.2.1 ((2 * r2) + 1).toNatClampNeg) = 0 then
      some (o_L.1, 50 + r2, o_L.2.2.1, o_L.1 + 1, o_L.2.2.2.2)
    else
      some (o_L.1, 50 + r2, o_L.2.2.1, o_L.1 + 2, o_L.2.2.2.2)
  else
    (f_Model_fail o_L 1 o_L.1).bind fun r6 =>
    some r6
