def f_Tokens_kind (o_this : S_Tokens) (a1 : Int32) : Option (Int32) :=
  if a1 < 0 then
    some 6
  else
    if o_this.1 ≤ a1 then
      some 6
    else
      if 8193 ≤ a1 then
        some 6
      else
        gd a1 8193 <|
        some (o_this.2.2.1 a1.toNatClampNeg)

def f_Tokens_place (o_this : S_Tokens) (a1 : Int32) : Option (Int32) :=
  if a1 < 0 then
    some (-1)
  else
    if o_this.1 ≤ a1 then
      some (-1)
    else
      if 8193 ≤ a1 then
        some (-1)
      else
        gd a1 8193 <|
        some (o_this.2.2.2.1 a1.toNatClampNeg)

def f_Tokens_value (o_this : S_Tokens) (a1 : Int32) : Option (Int32) :=
  if a1 < 0 then
    some 0
  else
    if o_this.1 ≤ a1 then
      some 0
    else
      if 8193 ≤ a1 then
        some 0
      else
        gd a1 8193 <|
        some (o_this.2.2.2.2 a1.toNatClampNeg)

def f_Tokens_add (o_this : S_Tokens) (a1 : Int32) (a2 : Int32) (a3 : Int32) : Option (S_Tokens) :=
  if o_this.1 < 0 then
    some o_this
  else
    if 8193 ≤ o_this.1 then
      some o_this
    else
      gd o_this.1 8193 <|
      gd o_this.1 8193 <|
      gd o_this.1 8193 <|
      some (o_this.1 + 1, o_this.2.1, upd o_this.2.2.1 o_this.1.toNatClampNeg a1, upd o_this.2.2.2.1 o_this.1.toNatClampNeg a2, upd o_this.2.2.2.2 o_this.1.toNatClampNeg a3)

def f_Tokens_scanName_L7 (o_text_L7 : S_Bytes) : Nat → Int32 → S_Tokens → Option (S_Tokens)
  | 0, _, _ => none
  | n + 1, v2_L7, o_this_L7 =>
    if 8192 ≤ v2_L7 then
      some o_this_L7
    else
      (f_Bytes_get 8192 o_text_L7 o_this_L7.2.1).bind fun r1172 =>
      (f_Top_isNameByte r1172).bind fun r1173 =>
      if r1173 = 0 then
        some o_this_L7
      else
        nm (v2_L7 + 1) fun x1175 =>
        f_Tokens_scanName_L7 o_text_L7 n x1175 (o_this_L7.1, o_this_L7.2.1 + 1, o_this_L7.2.2)
def f_Tokens_scanName_L68 (o_this_L68 : S_Tokens) (o_text_L68 : S_Bytes) : Nat → Int32 → S_Names → Option (S_Names)
  | 0, _, _ => none
  | n + 1, v2_L68, o_names_L68 =>
    if o_this_L68.2.1 ≤ v2_L68 then
      some o_names_L68
    else
      (f_Bytes_get 8192 o_text_L68 v2_L68).bind fun r1782 =>
      (f_Names_addLetter o_names_L68 r1782).bind fun r1783 =>
      nm (v2_L68 + 1) fun x1784 =>
      f_Tokens_scanName_L68 o_this_L68 o_text_L68 n x1784 r1783
def f_Tokens_scanName (o_this : S_Tokens) (o_text : S_Bytes) (o_names : S_Names) : Option (S_Tokens × S_Names) :=
  (f_Tokens_scanName_L7 o_text FU 0 o_this).bind fun r1 =>
  if (r1.2.1 - o_this.2.1) ≤ 32 then
    (f_Tokens_scanName_L68 r1 o_text FU o_this.2.1 o_names).bind fun r3 =>
    (f_Names_number r3).bind fun r4 =>
    if 41 ≤ r4.1 then
      (f_Tokens_add r1 1 o_this.2.1 (r4.1 - 41)).bind fun r6 =>
      some (r6, r4.2)
    else
      (f_Tokens_add r1 (256 + r4.1) o_this.2.1 0).bind fun r7 =>
      some (r7, r4.2)
  else
    (f_Tokens_add r1 5 o_this.2.1 3).bind fun r8 =>
    some (r8, o_names)

def f_Tokens_addNumber (o_this : S_Tokens) (o_text : S_Bytes) (a1 : Int32) (a2 : Int64) : Option (S_Tokens) :=
  if (lg_cmp a2 0) < 0 then
    (f_Tokens_add o_this 5 a1 4).bind fun r2 =>
    some r2
  else
    if 0 < (lg_cmp a2 2147483647) then
      (f_Tokens_add o_this 5 a1 4).bind fun r4 =>
      some r4
    else
      (f_Bytes_get 8192 o_text o_this.2.1).bind fun r5 =>
      (f_Top_isNameByte r5).bind fun r6 =>
      if r6 = 0 then
        (f_Tokens_add o_this 2 a1 a2.toInt32).bind fun r8 =>
        some r8
      else
        (f_Tokens_add o_this 5 a1 4).bind fun r9 =>
        some r9

def f_Tokens_digit (a1 : Int32) : Option (Int32) :=
  (f_Top_great a1).bind fun r1 =>
  if r1 < 65 then
    (f_Top_isDigit a1).bind fun r3 =>
    if r3 = 0 then
      some (-1)
    else
      some (a1 - 48)
  else
    if 70 < r1 then
      (f_Top_isDigit a1).bind fun r6 =>
      if r6 = 0 then
        some (-1)
      else
        some (a1 - 48)
    else
      some ((r1 - 65) + 10)

def f_Tokens_digits_L11 (o_text : S_Bytes) (w4_L11 : Int32) (w1_L11 : Int32) : Nat → Int32 → Int64 → S_Tokens → Option (Int64 × S_Tokens)
  | 0, _, _, _ => none
  | n + 1, v5_L11, v2_L11, o_this_L11 =>
    if 8192 ≤ v5_L11 then
      if o_this_L11.2.1 = w4_L11 then
        some ((-1), o_this_L11)
      else
        some (v2_L11, o_this_L11)
    else
      (f_Bytes_get 8192 o_text o_this_L11.2.1).bind fun r1213 =>
      (f_Tokens_digit r1213).bind fun r1214 =>
      if r1214 = (-1) then
        if o_this_L11.2.1 = w4_L11 then
          some ((-1), o_this_L11)
        else
          some (v2_L11, o_this_L11)
      else
        if r1214 < w1_L11 then
          (f_Math_min 2147483648 ((v2_L11 * w1_L11.toInt64) + r1214.toInt64)).bind fun r1218 =>
          nm (v5_L11 + 1) fun x1219 =>
          f_Tokens_digits_L11 o_text w4_L11 w1_L11 n x1219 r1218 (o_this_L11.1, o_this_L11.2.1 + 1, o_this_L11.2.2)
        else
          if o_this_L11.2.1 = w4_L11 then
            some ((-1), o_this_L11)
          else
            some (v2_L11, o_this_L11)
def f_Tokens_digits (o_this : S_Tokens) (o_text : S_Bytes) (a1 : Int32) : Option (Int64 × S_Tokens) :=
  f_Tokens_digits_L11 o_text o_this.2.1 a1 FU 0 0 o_this

def f_Tokens_scanNumber (o_this : S_Tokens) (o_text : S_Bytes) : Option (S_Tokens) :=
  (f_Tokens_digits o_this o_text 10).bind fun r1 =>
  (f_Bytes_get 8192 o_text r1.2.2.1).bind fun r2 =>
  if r2 = 35 then
    if (lg_cmp r1.1 16) = 0 then
      (f_Tokens_digits (r1.2.1, r1.2.2.1 + 1, r1.2.2.2) o_text r1.1.toInt32).bind fun r6 =>
      (f_Tokens_addNumber r6.2 o_text o_this.2.1 r6.1).bind fun r7 =>
      some r7
    else
      if (lg_cmp r1.1 2) = 0 then
        (f_Tokens_digits (r1.2.1, r1.2.2.1 + 1, r1.2.2.2) o_text r1.1.toInt32).bind fun r10 =>
        (f_Tokens_addNumber r10.2 o_text o_this.2.1 r10.1).bind fun r11 =>
        some r11
      else
        (f_Tokens_addNumber (r1.2.1, r1.2.2.1 + 1, r1.2.2.2) o_text o_this.2.1 (-1)).bind fun r9 =>
        some r9
  else
    (f_Tokens_addNumber r1.2 o_text o_this.2.1 r1.1).bind fun r4 =>
    some r4

def f_Tokens_placeRow (a1 : Int32) (a2 : Int32) : Option (Int32) :=
  if a1 = 73 then
    if a2 = 88 then
      if a2 = 88 then
        some 0
      else
        some (3 + 0)
    else
      if a2 = 87 then
        if a2 = 88 then
          some 0
        else
          some (3 + 0)
      else
        some (-1)
  else
    if a1 = 81 then
      if a2 = 88 then
        if a2 = 88 then
          some 1
        else
          some (3 + 1)
      else
        if a2 = 87 then
          if a2 = 88 then
            some 1
          else
            some (3 + 1)
        else
          some (-1)
    else
      if a1 = 77 then
        if a2 = 88 then
          if a2 = 88 then
            some 2
          else
            some (3 + 2)
        else
          if a2 = 87 then
            if a2 = 88 then
              some 2
            else
              some (3 + 2)
          else
            some (-1)
      else
        some (-1)

def f_Tokens_scanPlace (o_this : S_Tokens) (o_text : S_Bytes) : Option (S_Tokens) :=
  (f_Bytes_get 8192 o_text (o_this.2.1 + 1)).bind fun r1 =>
  (f_Top_great r1).bind fun r2 =>
  (f_Bytes_get 8192 o_text (o_this.2.1 + 2)).bind fun r3 =>
  (f_Top_great r3).bind fun r4 =>
  (f_Tokens_placeRow r2 r4).bind fun r5 =>
  (f_Tokens_digits (o_this.1, o_this.2.1 + 3, o_this.2.2) o_text 10).bind fun r6 =>
  if 3 ≤ r5 then
    if r5 = (-1) then
      (f_Tokens_add r6.2 5 o_this.2.1 5).bind fun r9 =>
      some r9
    else
      if (lg_cmp r6.1 (-1)) = 0 then
        (f_Tokens_add r6.2 5 o_this.2.1 5).bind fun r11 =>
        some r11
      else
        if 0 < (lg_cmp r6.1 ((63 : Int32).toInt64)) then
          (f_Tokens_add r6.2 5 o_this.2.1 5).bind fun r13 =>
          some r13
        else
          (f_Bytes_get 8192 o_text r6.2.2.1).bind fun r14 =>
          (f_Top_isNameByte r14).bind fun r15 =>
          if r15 = 0 then
            (f_Tokens_add r6.2 3 o_this.2.1 ((256 * r5) + r6.1.toInt32)).bind fun r17 =>
            some r17
          else
            (f_Tokens_add r6.2 5 o_this.2.1 5).bind fun r18 =>
            some r18
  else
    if r5 = (-1) then
      (f_Tokens_add r6.2 5 o_this.2.1 5).bind fun r20 =>
      some r20
    else
      if (lg_cmp r6.1 (-1)) = 0 then
        (f_Tokens_add r6.2 5 o_this.2.1 5).bind fun r22 =>
        some r22
      else
        if 0 < (lg_cmp r6.1 ((255 : Int32).toInt64)) then
          (f_Tokens_add r6.2 5 o_this.2.1 5).bind fun r24 =>
          some r24
        else
          (f_Bytes_get 8192 o_text r6.2.2.1).bind fun r25 =>
          (f_Top_isNameByte r25).bind fun r26 =>
          if r26 = 0 then
            (f_Tokens_add r6.2 3 o_this.2.1 ((256 * r5) + r6.1.toInt32)).bind fun r28 =>
            some r28
          else
            (f_Tokens_add r6.2 5 o_this.2.1 5).bind fun r29 =>
            some r29

def f_Tokens_isSignOfOne (a1 : Int32) : Option (Int32) :=
  if a1 = 38 then
    some 1
  else
  if a1 = 40 then
    some 1
  else
  if a1 = 41 then
    some 1
  else
  if a1 = 42 then
    some 1
  else
  if a1 = 43 then
    some 1
  else
  if a1 = 44 then
    some 1
  else
  if a1 = 45 then
    some 1
  else
  if a1 = 46 then
    some 1
  else
  if a1 = 47 then
    some 1
  else
  if a1 = 58 then
    some 1
  else
  if a1 = 59 then
    some 1
  else
  if a1 = 60 then
    some 1
  else
  if a1 = 61 then
    some 1
  else
  if a1 = 62 then
    some 1
  else
  if a1 = 91 then
    some 1
  else
  if a1 = 93 then
    some 1
  else
  if a1 = 124 then
    some 1
  else
  some 0

def f_Tokens_isSignOfTwo (a1 : Int32) : Option (Int32) :=
  if a1 = 14909 then
    some 1
  else
    if a1 = 11822 then
      some 1
    else
      if a1 = 15421 then
        some 1
      else
        if a1 = 15933 then
          some 1
        else
          if a1 = 15422 then
            some 1
          else
            some 0

def f_Tokens_scanSign (o_this : S_Tokens) (o_text : S_Bytes) : Option (S_Tokens) :=
  (f_Bytes_get 8192 o_text o_this.2.1).bind fun r1 =>
  (f_Bytes_get 8192 o_text (o_this.2.1 + 1)).bind fun r2 =>
  (f_Math_max 0 r2).bind fun r3 =>
  nm ((r1 <<< (8 &&& 31)) ||| r3) fun x4 =>
  (f_Tokens_isSignOfTwo x4).bind fun r5 =>
  if r5 = 0 then
    (f_Tokens_isSignOfOne r1).bind fun r7 =>
    if r7 = 0 then
      (f_Tokens_add o_this 5 o_this.2.1 1).bind fun r9 =>
      some r9
    else
      (f_Tokens_add (o_this.1, o_this.2.1 + 1, o_this.2.2) r1 o_this.2.1 0).bind fun r10 =>
      some r10
  else
    (f_Tokens_add (o_this.1, o_this.2.1 + 2, o_this.2.2) x4 o_this.2.1 0).bind fun r11 =>
    some r11

def f_Tokens_unit (o_this : S_Tokens) (o_text : S_Bytes) : Option (Int64 × S_Tokens) :=
  (f_Bytes_get 8192 o_text o_this.2.1).bind fun r1 =>
  (f_Top_great r1).bind fun r2 =>
  if r2 = 77 then
    (f_Bytes_get 8192 o_text (o_this.2.1 + 1)).bind fun r7 =>
    (f_Top_great r7).bind fun r8 =>
    if r8 = 83 then
      some (1, (o_this.1, o_this.2.1 + 2, o_this.2.2))
    else
      if r2 = 72 then
        some (3600000, (o_this.1, o_this.2.1 + 1, o_this.2.2))
      else
      if r2 = 77 then
        some (60000, (o_this.1, o_this.2.1 + 1, o_this.2.2))
      else
      if r2 = 83 then
        some (1000, (o_this.1, o_this.2.1 + 1, o_this.2.2))
      else
      some ((-1), (o_this.1, o_this.2.1 + 1, o_this.2.2))
  else
    if r2 = 72 then
      some (3600000, (o_this.1, o_this.2.1 + 1, o_this.2.2))
    else
    if r2 = 77 then
      some (60000, (o_this.1, o_this.2.1 + 1, o_this.2.2))
    else
    if r2 = 83 then
      some (1000, (o_this.1, o_this.2.1 + 1, o_this.2.2))
    else
    some ((-1), (o_this.1, o_this.2.1 + 1, o_this.2.2))

def f_Tokens_scanTime (o_this : S_Tokens) (o_text : S_Bytes) : Option (S_Tokens) :=
  (f_Tokens_digits (o_this.1, o_this.2.1 + 2, o_this.2.2) o_text 10).bind fun r1 =>
  (f_Tokens_unit r1.2 o_text).bind fun r2 =>
  if (lg_cmp r1.1 (-1)) = 0 then
    (f_Tokens_addNumber r2.2 o_text o_this.2.1 (-1)).bind fun r4 =>
    some r4
  else
    if (lg_cmp r2.1 (-1)) = 0 then
      (f_Tokens_addNumber r2.2 o_text o_this.2.1 (-1)).bind fun r7 =>
      some r7
    else
      (f_Tokens_addNumber r2.2 o_text o_this.2.1 (r1.1 * r2.1)).bind fun r6 =>
      some r6

def f_Tokens_endOfComment_L2 (o_text : S_Bytes) : Nat → Int32 → Option (Int32)
  | 0, _ => none
  | n + 1, v2_L2 =>
    if o_text.1 ≤ v2_L2 then
      some (-1)
    else
      (f_Bytes_get 8192 o_text v2_L2).bind fun r1122 =>
      if r1122 = 42 then
        (f_Bytes_get 8192 o_text (v2_L2 + 1)).bind fun r1125 =>
        if r1125 = 41 then
          some (v2_L2 + 2)
        else
          nm (v2_L2 + 1) fun x1127 =>
          f_Tokens_endOfComment_L2 o_text n x1127
      else
        nm (v2_L2 + 1) fun x1124 =>
        f_Tokens_endOfComment_L2 o_text n x1124
def f_Tokens_endOfComment (o_this : S_Tokens) (o_text : S_Bytes) (a1 : Int32) : Option (Int32) :=
  f_Tokens_endOfComment_L2 o_text FU a1

def f_Tokens_skipBlanks_L2 (o_text : S_Bytes) : Nat → Int32 → S_Tokens → Option (Int32 × S_Tokens)
  | 0, _, _ => none
  | n + 1, v1_L2, o_this_L2 =>
    if 8192 < v1_L2 then
      some (1, o_this_L2)
    else
      (f_Bytes_get 8192 o_text o_this_L2.2.1).bind fun r1122 =>
      if r1122 = 40 then
        (f_Bytes_get 8192 o_text (o_this_L2.2.1 + 1)).bind fun r1132 =>
        if r1132 = 42 then
          (f_Tokens_endOfComment o_this_L2 o_text (o_this_L2.2.1 + 2)).bind fun r1142 =>
          if r1142 = (-1) then
            some (0, o_this_L2)
          else
            nm (v1_L2 + 1) fun x1144 =>
            f_Tokens_skipBlanks_L2 o_text n x1144 (o_this_L2.1, r1142, o_this_L2.2.2)
        else
          if r1122 = 9 then
            nm (v1_L2 + 1) fun x1135 =>
            f_Tokens_skipBlanks_L2 o_text n x1135 (o_this_L2.1, o_this_L2.2.1 + 1, o_this_L2.2.2)
          else
            if r1122 = 10 then
              nm (v1_L2 + 1) fun x1137 =>
              f_Tokens_skipBlanks_L2 o_text n x1137 (o_this_L2.1, o_this_L2.2.1 + 1, o_this_L2.2.2)
            else
              if r1122 = 13 then
                nm (v1_L2 + 1) fun x1139 =>
                f_Tokens_skipBlanks_L2 o_text n x1139 (o_this_L2.1, o_this_L2.2.1 + 1, o_this_L2.2.2)
              else
                if r1122 = 32 then
                  nm (v1_L2 + 1) fun x1141 =>
                  f_Tokens_skipBlanks_L2 o_text n x1141 (o_this_L2.1, o_this_L2.2.1 + 1, o_this_L2.2.2)
                else
                  some (1, o_this_L2)
      else
        if r1122 = 9 then
          nm (v1_L2 + 1) fun x1125 =>
          f_Tokens_skipBlanks_L2 o_text n x1125 (o_this_L2.1, o_this_L2.2.1 + 1, o_this_L2.2.2)
        else
          if r1122 = 10 then
            nm (v1_L2 + 1) fun x1127 =>
            f_Tokens_skipBlanks_L2 o_text n x1127 (o_this_L2.1, o_this_L2.2.1 + 1, o_this_L2.2.2)
          else
            if r1122 = 13 then
              nm (v1_L2 + 1) fun x1129 =>
              f_Tokens_skipBlanks_L2 o_text n x1129 (o_this_L2.1, o_this_L2.2.1 + 1, o_this_L2.2.2)
            else
              if r1122 = 32 then
                nm (v1_L2 + 1) fun x1131 =>
                f_Tokens_skipBlanks_L2 o_text n x1131 (o_this_L2.1, o_this_L2.2.1 + 1, o_this_L2.2.2)
              else
                some (1, o_this_L2)
def f_Tokens_skipBlanks (o_this : S_Tokens) (o_text : S_Bytes) : Option (Int32 × S_Tokens) :=
  f_Tokens_skipBlanks_L2 o_text FU 0 o_this

def f_Tokens_scanToken (o_this : S_Tokens) (o_text : S_Bytes) (o_names : S_Names) : Option (S_Tokens × S_Names) :=
  (f_Tokens_skipBlanks o_this o_text).bind fun r1 =>
  (f_Bytes_get 8192 o_text r1.2.2.1).bind fun r2 =>
  if r1.1 = 0 then
    (f_Tokens_add r1.2 5 r1.2.2.1 2).bind fun r29 =>
    some (r29, o_names)
  else
    if r2 = (-1) then
      (f_Tokens_add r1.2 4 r1.2.2.1 0).bind fun r28 =>
      some (r28, o_names)
    else
      (f_Top_great r2).bind fun r5 =>
      if r5 = 84 then
        (f_Bytes_get 8192 o_text (r1.2.2.1 + 1)).bind fun r16 =>
        if r16 = 35 then
          (f_Tokens_scanTime r1.2 o_text).bind fun r27 =>
          some (r27, o_names)
        else
          (f_Top_isDigit r2).bind fun r18 =>
          if r18 = 0 then
            (f_Top_isNameByte r2).bind fun r20 =>
            if r20 = 0 then
              if r2 = 37 then
                (f_Tokens_scanPlace r1.2 o_text).bind fun r24 =>
                some (r24, o_names)
              else
                (f_Tokens_scanSign r1.2 o_text).bind fun r23 =>
                some (r23, o_names)
            else
              (f_Tokens_scanName r1.2 o_text o_names).bind fun r25 =>
              some (r25.1, r25.2)
          else
            (f_Tokens_scanNumber r1.2 o_text).bind fun r26 =>
            some (r26, o_names)
      else
        (f_Top_isDigit r2).bind fun r7 =>
        if r7 = 0 then
          (f_Top_isNameByte r2).bind fun r9 =>
          if r9 = 0 then
            if r2 = 37 then
              (f_Tokens_scanPlace r1.2 o_text).bind fun r13 =>
              some (r13, o_names)
            else
              (f_Tokens_scanSign r1.2 o_text).bind fun r12 =>
              some (r12, o_names)
          else
            (f_Tokens_scanName r1.2 o_text o_names).bind fun r14 =>
            some (r14.1, r14.2)
        else
          (f_Tokens_scanNumber r1.2 o_text).bind fun r15 =>
          some (r15, o_names)

def f_Tokens_scan_L21 (o_text_L21 : S_Bytes) : Nat → Int32 → Int32 → S_Tokens → S_Names → Option (S_Tokens × S_Names)
  | 0, _, _, _, _ => none
  | n + 1, v2_L21, v1_L21, o_this_L21, o_names_L21 =>
    if v1_L21 = 0 then
      some (o_this_L21, o_names_L21)
    else
      if 8193 ≤ v2_L21 then
        some (o_this_L21, o_names_L21)
      else
        (f_Tokens_scanToken o_this_L21 o_text_L21 o_names_L21).bind fun r1313 =>
        (f_Tokens_kind r1313.1 (r1313.1.1 - 1)).bind fun r1314 =>
        if r1314 = 4 then
          nm (v2_L21 + 1) fun x1316 =>
          f_Tokens_scan_L21 o_text_L21 n x1316 0 r1313.1 r1313.2
        else
          if r1314 = 5 then
            nm (v2_L21 + 1) fun x1318 =>
            f_Tokens_scan_L21 o_text_L21 n x1318 0 r1313.1 r1313.2
          else
            nm (v2_L21 + 1) fun x1319 =>
            f_Tokens_scan_L21 o_text_L21 n x1319 1 r1313.1 r1313.2
def f_Tokens_scan (o_this : S_Tokens) (o_text : S_Bytes) (o_names : S_Names) : Option (S_Tokens × S_Names) :=
  (f_Names_forget o_names).bind fun r1 =>
  (f_Tokens_scan_L21 o_text FU 0 1 (0, 0, o_this.2.2) r1).bind fun r2 =>
  some (r2.1, r2.2)
