def f_Writer_bearsName (a1 : Int32) : Option (Int32) :=
  if a1 = 1 then
    some 1
  else
  if a1 = 2 then
    some 1
  else
  if a1 = 3 then
    some 1
  else
  if a1 = 4 then
    some 0
  else
  if a1 = 5 then
    some 0
  else
  if a1 = 6 then
    some 1
  else
  if a1 = 7 then
    some 0
  else
  if a1 = 8 then
    some 0
  else
  if a1 = 9 then
    some 0
  else
  if a1 = 10 then
    some 1
  else
  if a1 = 11 then
    some 0
  else
  if a1 = 12 then
    some 0
  else
  if a1 = 13 then
    some 1
  else
  if a1 = 14 then
    some 1
  else
  if a1 = 15 then
    some 0
  else
  if a1 = 16 then
    some 0
  else
  if a1 = 17 then
    some 0
  else
  if a1 = 18 then
    some 0
  else
  if a1 = 19 then
    some 1
  else
  if a1 = 20 then
    some 0
  else
  if a1 = 21 then
    some 0
  else
  if a1 = 22 then
    some 0
  else
  if a1 = 23 then
    some 0
  else
  if a1 = 24 then
    some 0
  else
  if a1 = 25 then
    some 0
  else
  if a1 = 26 then
    some 0
  else
  if a1 = 27 then
    some 0
  else
  if a1 = 28 then
    some 0
  else
  if a1 = 29 then
    some 0
  else
  if a1 = 30 then
    some 0
  else
  if a1 = 31 then
    some 0
  else
  if a1 = 32 then
    some 1
  else
  if a1 = 33 then
    some 1
  else
  if a1 = 34 then
    some 1
  else
  some 0

def f_Writer_contactSign (a1 : Int32) : Option (Int32) :=
  if a1 = 1 then
    some 47
  else
  if a1 = 2 then
    some 62
  else
  if a1 = 3 then
    some 60
  else
  some (-1)

def f_Writer_firstToken (a1 : Int32) (a2 : Int32) : Option (Int32) :=
  if a1 = 1 then
    some 256
  else
  if a1 = 2 then
    some 258
  else
  if a1 = 3 then
    some 260
  else
  if a1 = 4 then
    some (262 + a2)
  else
  if a1 = 5 then
    some (-1)
  else
  if a1 = 6 then
    some (-1)
  else
  if a1 = 7 then
    some (-1)
  else
  if a1 = 8 then
    some (267 + a2)
  else
  if a1 = 9 then
    some 270
  else
  if a1 = 10 then
    some (-1)
  else
  if a1 = 11 then
    some (-1)
  else
  if a1 = 12 then
    some (-1)
  else
  if a1 = 13 then
    some (-1)
  else
  if a1 = 14 then
    some (-1)
  else
  if a1 = 15 then
    some 272
  else
  if a1 = 16 then
    some 277
  else
  if a1 = 17 then
    some (-1)
  else
  if a1 = 18 then
    some (-1)
  else
  if a1 = 19 then
    some 279
  else
  if a1 = 20 then
    some 284
  else
  if a1 = 21 then
    some 285
  else
  if a1 = 22 then
    some 293
  else
  if a1 = 23 then
    some 295
  else
  if a1 = 24 then
    some (-1)
  else
  if a1 = 25 then
    (f_Writer_contactSign a2).bind fun r26 =>
    some r26
  else
  if a1 = 26 then
    some 45
  else
  if a1 = 27 then
    some 42
  else
  if a1 = 28 then
    some 40
  else
  if a1 = 29 then
    some 124
  else
  if a1 = 30 then
    some (-1)
  else
  if a1 = 31 then
    if a2 = 1 then
      some 291
    else
      some 292
  else
  if a1 = 32 then
    some (-1)
  else
  if a1 = 33 then
    some (-1)
  else
  if a1 = 34 then
    some (-1)
  else
  if a1 = 35 then
    some (-1)
  else
  if a1 = 36 then
    if a2 = 1 then
      some 290
    else
      some 45
  else
  some (-1)

def f_Writer_isBracketed (o_tree : S_Tree) (a1 : Int32) : Option (Int32) :=
  (f_Tree_parent o_tree a1).bind fun r1 =>
  (f_Tree_kind o_tree r1).bind fun r2 =>
  if r2 = 35 then
    (f_Tree_value o_tree a1).bind fun r4 =>
    (f_Sign_binding r4).bind fun r5 =>
    (f_Tree_value o_tree r1).bind fun r6 =>
    (f_Sign_binding r6).bind fun r7 =>
    if r5 < r7 then
      some 1
    else
      if r7 = r5 then
        (f_Tree_rank o_tree a1).bind fun r10 =>
        if r10 = 1 then
          some 1
        else
          some 0
      else
        some 0
  else
    (f_Tree_kind o_tree r1).bind fun r12 =>
    if r12 = 36 then
      some 1
    else
      some 0

def f_Writer_coilSign (a1 : Int32) : Option (Int32) :=
  if a1 = 1 then
    some 47
  else
  if a1 = 2 then
    some 43
  else
  if a1 = 3 then
    some 45
  else
  some (-1)

def f_Writer_nextToken (a1 : Int32) (a2 : Int32) : Option (Int32) :=
  if a1 = 1 then
    some 58
  else
  if a1 = 2 then
    some (-1)
  else
  if a1 = 3 then
    some (-1)
  else
  if a1 = 4 then
    some (-1)
  else
  if a1 = 5 then
    some (-1)
  else
  if a1 = 6 then
    some (-1)
  else
  if a1 = 7 then
    some (-1)
  else
  if a1 = 8 then
    some (-1)
  else
  if a1 = 9 then
    some 91
  else
  if a1 = 10 then
    some (-1)
  else
  if a1 = 11 then
    some (-1)
  else
  if a1 = 12 then
    some (-1)
  else
  if a1 = 13 then
    some 40
  else
  if a1 = 14 then
    some 14909
  else
  if a1 = 15 then
    some (-1)
  else
  if a1 = 16 then
    some (-1)
  else
  if a1 = 17 then
    some (-1)
  else
  if a1 = 18 then
    some (-1)
  else
  if a1 = 19 then
    some 14909
  else
  if a1 = 20 then
    some (-1)
  else
  if a1 = 21 then
    some (-1)
  else
  if a1 = 22 then
    some (-1)
  else
  if a1 = 23 then
    some (-1)
  else
  if a1 = 24 then
    some (-1)
  else
  if a1 = 25 then
    some (-1)
  else
  if a1 = 26 then
    some (-1)
  else
  if a1 = 27 then
    some (-1)
  else
  if a1 = 28 then
    (f_Writer_coilSign a2).bind fun r29 =>
    some r29
  else
  if a1 = 29 then
    some (-1)
  else
  if a1 = 30 then
    some (-1)
  else
  if a1 = 31 then
    some (-1)
  else
  if a1 = 32 then
    some 91
  else
  if a1 = 33 then
    some 46
  else
  if a1 = 34 then
    some 40
  else
  some (-1)

def f_Writer_digits_L3 (w1_L3 : Int32) : Nat → Int32 → S_Bytes → Option (S_Bytes)
  | 0, _, _ => none
  | n + 1, v2_L3, o_out_L3 =>
    if v2_L3 ≤ 0 then
      some o_out_L3
    else
      if v2_L3 ≤ w1_L3 then
        dz v2_L3 <|
        (f_Bytes_put 16384 o_out_L3 (48 + ((w1_L3 / v2_L3) - (w1_L3 / v2_L3) / 10 * 10))).bind fun r1134 =>
        f_Writer_digits_L3 w1_L3 n (v2_L3 / 10) r1134
      else
        if v2_L3 = 1 then
          dz v2_L3 <|
          (f_Bytes_put 16384 o_out_L3 (48 + ((w1_L3 / v2_L3) - (w1_L3 / v2_L3) / 10 * 10))).bind fun r1137 =>
          f_Writer_digits_L3 w1_L3 n (v2_L3 / 10) r1137
        else
          f_Writer_digits_L3 w1_L3 n (v2_L3 / 10) o_out_L3
def f_Writer_digits (o_out : S_Bytes) (a1 : Int32) : Option (S_Bytes) :=
  (f_Writer_digits_L3 a1 FU 1000000000 o_out).bind fun r1 =>
  some r1

def f_Writer_part (o_out : S_Bytes) : Option (S_Bytes) :=
  (f_Bytes_get 16384 o_out (o_out.1 - 1)).bind fun r1 =>
  (f_Top_isNameByte r1).bind fun r2 =>
  if r2 = 0 then
    some o_out
  else
    (f_Bytes_put 16384 o_out 32).bind fun r4 =>
    some r4

def f_Writer_word_L6 (o_names : S_Names) (w1_L6 : Int32) : Nat → Int32 → S_Bytes → Option (S_Bytes)
  | 0, _, _ => none
  | n + 1, v2_L6, o_out_L6 =>
    if 32 ≤ v2_L6 then
      some o_out_L6
    else
      (f_Names_letterOf o_names w1_L6 v2_L6).bind fun r1162 =>
      if r1162 = (-1) then
        some o_out_L6
      else
        (f_Bytes_put 16384 o_out_L6 r1162).bind fun r1164 =>
        nm (v2_L6 + 1) fun x1165 =>
        f_Writer_word_L6 o_names w1_L6 n x1165 r1164
def f_Writer_word (o_names : S_Names) (o_out : S_Bytes) (a1 : Int32) : Option (S_Bytes) :=
  (f_Writer_part o_out).bind fun r1 =>
  f_Writer_word_L6 o_names a1 FU 0 r1

def f_Writer_token (o_names : S_Names) (o_out : S_Bytes) (a1 : Int32) : Option (S_Bytes) :=
  if a1 < 256 then
    if a1 ≤ 255 then
      if a1 < 0 then
        some o_out
      else
        (f_Bytes_put 16384 o_out a1).bind fun r4 =>
        some r4
    else
      (f_Bytes_put 16384 o_out (a1 >>> (8 &&& 31))).bind fun r5 =>
      (f_Bytes_put 16384 r5 (a1 &&& 255)).bind fun r6 =>
      some r6
  else
    if 297 ≤ a1 then
      if a1 ≤ 255 then
        if a1 < 0 then
          some o_out
        else
          (f_Bytes_put 16384 o_out a1).bind fun r10 =>
          some r10
      else
        (f_Bytes_put 16384 o_out (a1 >>> (8 &&& 31))).bind fun r11 =>
        (f_Bytes_put 16384 r11 (a1 &&& 255)).bind fun r12 =>
        some r12
    else
      (f_Writer_word o_names o_out (a1 - 256)).bind fun r13 =>
      some r13

def f_Writer_number (o_names : S_Names) (o_out : S_Bytes) (a1 : Int32) : Option (S_Bytes) :=
  if 0 ≤ a1 then
    (f_Writer_part o_out).bind fun r2 =>
    (f_Math_abs a1).bind fun r3 =>
    (f_Writer_digits r2 r3).bind fun r4 =>
    some r4
  else
    (f_Writer_token o_names o_out 45).bind fun r5 =>
    (f_Writer_part r5).bind fun r6 =>
    (f_Math_abs a1).bind fun r7 =>
    (f_Writer_digits r6 r7).bind fun r8 =>
    some r8

def f_Writer_place (o_names : S_Names) (o_out : S_Bytes) (a1 : Int32) : Option (S_Bytes) :=
  if (3 : Int32) ≤ (a1 >>> (8 &&& 31)) then
    (f_Writer_token o_names o_out 37).bind fun r2 =>
    if ((a1 >>> (8 &&& 31)) - 3) = (0 : Int32) then
      (f_Bytes_put 16384 r2 73).bind fun r17 =>
      if (3 : Int32) ≤ (a1 >>> (8 &&& 31)) then
        (f_Bytes_put 16384 r17 87).bind fun r19 =>
        (f_Writer_digits r19 (a1 &&& 255)).bind fun r20 =>
        some r20
      else
        (f_Bytes_put 16384 r17 88).bind fun r21 =>
        (f_Writer_digits r21 (a1 &&& 255)).bind fun r22 =>
        some r22
    else
      if ((a1 >>> (8 &&& 31)) - 3) = (1 : Int32) then
        (f_Bytes_put 16384 r2 81).bind fun r11 =>
        if (3 : Int32) ≤ (a1 >>> (8 &&& 31)) then
          (f_Bytes_put 16384 r11 87).bind fun r13 =>
          (f_Writer_digits r13 (a1 &&& 255)).bind fun r14 =>
          some r14
        else
          (f_Bytes_put 16384 r11 88).bind fun r15 =>
          (f_Writer_digits r15 (a1 &&& 255)).bind fun r16 =>
          some r16
      else
        (f_Bytes_put 16384 r2 77).bind fun r5 =>
        if (3 : Int32) ≤ (a1 >>> (8 &&& 31)) then
          (f_Bytes_put 16384 r5 87).bind fun r7 =>
          (f_Writer_digits r7 (a1 &&& 255)).bind fun r8 =>
          some r8
        else
          (f_Bytes_put 16384 r5 88).bind fun r9 =>
          (f_Writer_digits r9 (a1 &&& 255)).bind fun r10 =>
          some r10
  else
    (f_Writer_token o_names o_out 37).bind fun r23 =>
    if (a1 >>> (8 &&& 31)) = (0 : Int32) then
      (f_Bytes_put 16384 r23 73).bind fun r38 =>
      if (3 : Int32) ≤ (a1 >>> (8 &&& 31)) then
        (f_Bytes_put 16384 r38 87).bind fun r40 =>
        (f_Writer_digits r40 (a1 &&& 255)).bind fun r41 =>
        some r41
      else
        (f_Bytes_put 16384 r38 88).bind fun r42 =>
        (f_Writer_digits r42 (a1 &&& 255)).bind fun r43 =>
        some r43
    else
      if (a1 >>> (8 &&& 31)) = (1 : Int32) then
        (f_Bytes_put 16384 r23 81).bind fun r32 =>
        if (3 : Int32) ≤ (a1 >>> (8 &&& 31)) then
          (f_Bytes_put 16384 r32 87).bind fun r34 =>
          (f_Writer_digits r34 (a1 &&& 255)).bind fun r35 =>
          some r35
        else
          (f_Bytes_put 16384 r32 88).bind fun r36 =>
          (f_Writer_digits r36 (a1 &&& 255)).bind fun r37 =>
          some r37
      else
        (f_Bytes_put 16384 r23 77).bind fun r26 =>
        if (3 : Int32) ≤ (a1 >>> (8 &&& 31)) then
          (f_Bytes_put 16384 r26 87).bind fun r28 =>
          (f_Writer_digits r28 (a1 &&& 255)).bind fun r29 =>
          some r29
        else
          (f_Bytes_put 16384 r26 88).bind fun r30 =>
          (f_Writer_digits r30 (a1 &&& 255)).bind fun r31 =>
          some r31

def f_Writer_begin (o_tree : S_Tree) (o_names : S_Names) (o_out : S_Bytes) (a1 : Int32) : Option (S_Bytes) :=
  (f_Tree_kind o_tree a1).bind fun r1 =>
  (f_Tree_value o_tree a1).bind fun r2 =>
  (f_Writer_firstToken r1 r2).bind fun r3 =>
  (f_Writer_token o_names o_out r3).bind fun r4 =>
  if r1 = 35 then
    (f_Writer_isBracketed o_tree a1).bind fun r37 =>
    if r37 = 0 then
      (f_Writer_bearsName r1).bind fun r39 =>
      if r39 = 0 then
        if r1 = 30 then
          (f_Writer_number o_names r4 r2).bind fun r48 =>
          if r1 = 7 then
            (f_Writer_place o_names r48 r2).bind fun r52 =>
            (f_Writer_nextToken r1 r2).bind fun r53 =>
            (f_Writer_token o_names r52 r53).bind fun r54 =>
            some r54
          else
            (f_Writer_nextToken r1 r2).bind fun r50 =>
            (f_Writer_token o_names r48 r50).bind fun r51 =>
            some r51
        else
          if r1 = 7 then
            (f_Writer_place o_names r4 r2).bind fun r45 =>
            (f_Writer_nextToken r1 r2).bind fun r46 =>
            (f_Writer_token o_names r45 r46).bind fun r47 =>
            some r47
          else
            (f_Writer_nextToken r1 r2).bind fun r43 =>
            (f_Writer_token o_names r4 r43).bind fun r44 =>
            some r44
      else
        (f_Writer_word o_names r4 (41 + r2)).bind fun r55 =>
        if r1 = 30 then
          (f_Writer_number o_names r55 r2).bind fun r63 =>
          if r1 = 7 then
            (f_Writer_place o_names r63 r2).bind fun r67 =>
            (f_Writer_nextToken r1 r2).bind fun r68 =>
            (f_Writer_token o_names r67 r68).bind fun r69 =>
            some r69
          else
            (f_Writer_nextToken r1 r2).bind fun r65 =>
            (f_Writer_token o_names r63 r65).bind fun r66 =>
            some r66
        else
          if r1 = 7 then
            (f_Writer_place o_names r55 r2).bind fun r60 =>
            (f_Writer_nextToken r1 r2).bind fun r61 =>
            (f_Writer_token o_names r60 r61).bind fun r62 =>
            some r62
          else
            (f_Writer_nextToken r1 r2).bind fun r58 =>
            (f_Writer_token o_names r55 r58).bind fun r59 =>
            some r59
    else
      (f_Writer_token o_names r4 40).bind fun r70 =>
      (f_Writer_bearsName r1).bind fun r71 =>
      if r71 = 0 then
        if r1 = 30 then
          (f_Writer_number o_names r70 r2).bind fun r80 =>
          if r1 = 7 then
            (f_Writer_place o_names r80 r2).bind fun r84 =>
            (f_Writer_nextToken r1 r2).bind fun r85 =>
            (f_Writer_token o_names r84 r85).bind fun r86 =>
            some r86
          else
            (f_Writer_nextToken r1 r2).bind fun r82 =>
            (f_Writer_token o_names r80 r82).bind fun r83 =>
            some r83
        else
          if r1 = 7 then
            (f_Writer_place o_names r70 r2).bind fun r77 =>
            (f_Writer_nextToken r1 r2).bind fun r78 =>
            (f_Writer_token o_names r77 r78).bind fun r79 =>
            some r79
          else
            (f_Writer_nextToken r1 r2).bind fun r75 =>
            (f_Writer_token o_names r70 r75).bind fun r76 =>
            some r76
      else
        (f_Writer_word o_names r70 (41 + r2)).bind fun r87 =>
        if r1 = 30 then
          (f_Writer_number o_names r87 r2).bind fun r95 =>
          if r1 = 7 then
            (f_Writer_place o_names r95 r2).bind fun r99 =>
            (f_Writer_nextToken r1 r2).bind fun r100 =>
            (f_Writer_token o_names r99 r100).bind fun r101 =>
            some r101
          else
            (f_Writer_nextToken r1 r2).bind fun r97 =>
            (f_Writer_token o_names r95 r97).bind fun r98 =>
            some r98
        else
          if r1 = 7 then
            (f_Writer_place o_names r87 r2).bind fun r92 =>
            (f_Writer_nextToken r1 r2).bind fun r93 =>
            (f_Writer_token o_names r92 r93).bind fun r94 =>
            some r94
          else
            (f_Writer_nextToken r1 r2).bind fun r90 =>
            (f_Writer_token o_names r87 r90).bind fun r91 =>
            some r91
  else
    (f_Writer_bearsName r1).bind fun r6 =>
    if r6 = 0 then
      if r1 = 30 then
        (f_Writer_number o_names r4 r2).bind fun r15 =>
        if r1 = 7 then
          (f_Writer_place o_names r15 r2).bind fun r19 =>
          (f_Writer_nextToken r1 r2).bind fun r20 =>
          (f_Writer_token o_names r19 r20).bind fun r21 =>
          some r21
        else
          (f_Writer_nextToken r1 r2).bind fun r17 =>
          (f_Writer_token o_names r15 r17).bind fun r18 =>
          some r18
      else
        if r1 = 7 then
          (f_Writer_place o_names r4 r2).bind fun r12 =>
          (f_Writer_nextToken r1 r2).bind fun r13 =>
          (f_Writer_token o_names r12 r13).bind fun r14 =>
          some r14
        else
          (f_Writer_nextToken r1 r2).bind fun r10 =>
          (f_Writer_token o_names r4 r10).bind fun r11 =>
          some r11
    else
      (f_Writer_word o_names r4 (41 + r2)).bind fun r22 =>
      if r1 = 30 then
        (f_Writer_number o_names r22 r2).bind fun r30 =>
        if r1 = 7 then
          (f_Writer_place o_names r30 r2).bind fun r34 =>
          (f_Writer_nextToken r1 r2).bind fun r35 =>
          (f_Writer_token o_names r34 r35).bind fun r36 =>
          some r36
        else
          (f_Writer_nextToken r1 r2).bind fun r32 =>
          (f_Writer_token o_names r30 r32).bind fun r33 =>
          some r33
      else
        if r1 = 7 then
          (f_Writer_place o_names r22 r2).bind fun r27 =>
          (f_Writer_nextToken r1 r2).bind fun r28 =>
          (f_Writer_token o_names r27 r28).bind fun r29 =>
          some r29
        else
          (f_Writer_nextToken r1 r2).bind fun r25 =>
          (f_Writer_token o_names r22 r25).bind fun r26 =>
          some r26

def f_Writer_endsBySemicolon (a1 : Int32) : Option (Int32) :=
  if a1 = 5 then
    some 1
  else
  if a1 = 6 then
    some 0
  else
  if a1 = 7 then
    some 0
  else
  if a1 = 8 then
    some 0
  else
  if a1 = 9 then
    some 0
  else
  if a1 = 10 then
    some 0
  else
  if a1 = 11 then
    some 0
  else
  if a1 = 12 then
    some 1
  else
  if a1 = 13 then
    some 1
  else
  if a1 = 14 then
    some 0
  else
  if a1 = 15 then
    some 1
  else
  if a1 = 16 then
    some 1
  else
  if a1 = 17 then
    some 0
  else
  if a1 = 18 then
    some 0
  else
  if a1 = 19 then
    some 1
  else
  if a1 = 20 then
    some 1
  else
  if a1 = 21 then
    some 1
  else
  if a1 = 22 then
    some 0
  else
  if a1 = 23 then
    some 0
  else
  if a1 = 24 then
    some 1
  else
  some 0

def f_Writer_lastToken (a1 : Int32) : Option (Int32) :=
  if a1 = 1 then
    some 257
  else
  if a1 = 2 then
    some 259
  else
  if a1 = 3 then
    some 261
  else
  if a1 = 4 then
    some 265
  else
  if a1 = 5 then
    some (-1)
  else
  if a1 = 6 then
    some (-1)
  else
  if a1 = 7 then
    some (-1)
  else
  if a1 = 8 then
    some (-1)
  else
  if a1 = 9 then
    some (-1)
  else
  if a1 = 10 then
    some (-1)
  else
  if a1 = 11 then
    some (-1)
  else
  if a1 = 12 then
    some (-1)
  else
  if a1 = 13 then
    some 41
  else
  if a1 = 14 then
    some (-1)
  else
  if a1 = 15 then
    some 276
  else
  if a1 = 16 then
    some 278
  else
  if a1 = 17 then
    some (-1)
  else
  if a1 = 18 then
    some (-1)
  else
  if a1 = 19 then
    some 283
  else
  if a1 = 20 then
    some (-1)
  else
  if a1 = 21 then
    some (-1)
  else
  if a1 = 22 then
    some 294
  else
  if a1 = 23 then
    some 296
  else
  if a1 = 24 then
    some (-1)
  else
  if a1 = 25 then
    some (-1)
  else
  if a1 = 26 then
    some (-1)
  else
  if a1 = 27 then
    some (-1)
  else
  if a1 = 28 then
    some 41
  else
  if a1 = 29 then
    some (-1)
  else
  if a1 = 30 then
    some (-1)
  else
  if a1 = 31 then
    some (-1)
  else
  if a1 = 32 then
    some 93
  else
  if a1 = 33 then
    some (-1)
  else
  if a1 = 34 then
    some 41
  else
  some (-1)

def f_Writer_finish (o_tree : S_Tree) (o_names : S_Names) (o_out : S_Bytes) (a1 : Int32) : Option (S_Bytes) :=
  (f_Tree_kind o_tree a1).bind fun r1 =>
  if r1 = 16 then
    (f_Tree_children o_tree a1).bind fun r22 =>
    if r22 = 1 then
      (f_Writer_token o_names o_out 271).bind fun r43 =>
      if r1 = 35 then
        (f_Writer_isBracketed o_tree a1).bind fun r50 =>
        if r50 = 0 then
          (f_Writer_lastToken r1).bind fun r52 =>
          (f_Writer_token o_names r43 r52).bind fun r53 =>
          (f_Writer_endsBySemicolon r1).bind fun r54 =>
          if r54 = 0 then
            some r53
          else
            (f_Writer_token o_names r53 59).bind fun r56 =>
            some r56
        else
          (f_Writer_token o_names r43 41).bind fun r57 =>
          (f_Writer_lastToken r1).bind fun r58 =>
          (f_Writer_token o_names r57 r58).bind fun r59 =>
          (f_Writer_endsBySemicolon r1).bind fun r60 =>
          if r60 = 0 then
            some r59
          else
            (f_Writer_token o_names r59 59).bind fun r62 =>
            some r62
      else
        (f_Writer_lastToken r1).bind fun r45 =>
        (f_Writer_token o_names r43 r45).bind fun r46 =>
        (f_Writer_endsBySemicolon r1).bind fun r47 =>
        if r47 = 0 then
          some r46
        else
          (f_Writer_token o_names r46 59).bind fun r49 =>
          some r49
    else
      if r1 = 35 then
        (f_Writer_isBracketed o_tree a1).bind fun r30 =>
        if r30 = 0 then
          (f_Writer_lastToken r1).bind fun r32 =>
          (f_Writer_token o_names o_out r32).bind fun r33 =>
          (f_Writer_endsBySemicolon r1).bind fun r34 =>
          if r34 = 0 then
            some r33
          else
            (f_Writer_token o_names r33 59).bind fun r36 =>
            some r36
        else
          (f_Writer_token o_names o_out 41).bind fun r37 =>
          (f_Writer_lastToken r1).bind fun r38 =>
          (f_Writer_token o_names r37 r38).bind fun r39 =>
          (f_Writer_endsBySemicolon r1).bind fun r40 =>
          if r40 = 0 then
            some r39
          else
            (f_Writer_token o_names r39 59).bind fun r42 =>
            some r42
      else
        (f_Writer_lastToken r1).bind fun r25 =>
        (f_Writer_token o_names o_out r25).bind fun r26 =>
        (f_Writer_endsBySemicolon r1).bind fun r27 =>
        if r27 = 0 then
          some r26
        else
          (f_Writer_token o_names r26 59).bind fun r29 =>
          some r29
  else
    if r1 = 35 then
      (f_Writer_isBracketed o_tree a1).bind fun r9 =>
      if r9 = 0 then
        (f_Writer_lastToken r1).bind fun r11 =>
        (f_Writer_token o_names o_out r11).bind fun r12 =>
        (f_Writer_endsBySemicolon r1).bind fun r13 =>
        if r13 = 0 then
          some r12
        else
          (f_Writer_token o_names r12 59).bind fun r15 =>
          some r15
      else
        (f_Writer_token o_names o_out 41).bind fun r16 =>
        (f_Writer_lastToken r1).bind fun r17 =>
        (f_Writer_token o_names r16 r17).bind fun r18 =>
        (f_Writer_endsBySemicolon r1).bind fun r19 =>
        if r19 = 0 then
          some r18
        else
          (f_Writer_token o_names r18 59).bind fun r21 =>
          some r21
    else
      (f_Writer_lastToken r1).bind fun r4 =>
      (f_Writer_token o_names o_out r4).bind fun r5 =>
      (f_Writer_endsBySemicolon r1).bind fun r6 =>
      if r6 = 0 then
        some r5
      else
        (f_Writer_token o_names r5 59).bind fun r8 =>
        some r8

def f_Writer_finishUpTo_L5 (w2_L5 : Int32) (o_tree_L5 : S_Tree) (o_names_L5 : S_Names) : Nat → Int32 → Int32 → S_Bytes → Option (S_Bytes)
  | 0, _, _, _ => none
  | n + 1, v4_L5, v3_L5, o_out_L5 =>
    if 16384 ≤ v4_L5 then
      some o_out_L5
    else
      if v3_L5 = w2_L5 then
        some o_out_L5
      else
        if v3_L5 = (-1) then
          some o_out_L5
        else
          (f_Writer_finish o_tree_L5 o_names_L5 o_out_L5 v3_L5).bind fun r1154 =>
          (f_Tree_parent o_tree_L5 v3_L5).bind fun r1155 =>
          nm (v4_L5 + 1) fun x1156 =>
          f_Writer_finishUpTo_L5 w2_L5 o_tree_L5 o_names_L5 n x1156 r1155 r1154
def f_Writer_finishUpTo (o_tree : S_Tree) (o_names : S_Names) (o_out : S_Bytes) (a1 : Int32) (a2 : Int32) : Option (S_Bytes) :=
  (f_Writer_finishUpTo_L5 a2 o_tree o_names FU 0 a1 o_out).bind fun r1 =>
  some r1

def f_Writer_behindFirst (a1 : Int32) (a2 : Int32) : Option (Int32) :=
  if a1 ≤ 0 then
    some (-1)
  else
    some a2

def f_Writer_separatorInDeclaration (a1 : Int32) (a2 : Int32) : Option (Int32) :=
  if a1 = 6 then
    (f_Writer_behindFirst a2 44).bind fun r2 =>
    some r2
  else
  if a1 = 7 then
    some 266
  else
  if a1 = 30 then
    some 14909
  else
  if a1 = 31 then
    some 14909
  else
  some 58

def f_Writer_separatorInFor (a1 : Int32) (a2 : Int32) : Option (Int32) :=
  if a1 = 11 then
    some 282
  else
    if a2 = 1 then
      (f_Writer_behindFirst a2 280).bind fun r4 =>
      some r4
    else
      (f_Writer_behindFirst a2 281).bind fun r3 =>
      some r3

def f_Writer_separatorInIf (a1 : Int32) (a2 : Int32) : Option (Int32) :=
  if (a2 - a2 / 2 * 2) = 1 then
    some 273
  else
    if a1 = 11 then
      (f_Writer_behindFirst a2 275).bind fun r4 =>
      some r4
    else
      (f_Writer_behindFirst a2 274).bind fun r3 =>
      some r3

def f_Writer_separator (a1 : Int32) (a2 : Int32) (a3 : Int32) : Option (Int32) :=
  if a1 = 5 then
    (f_Writer_separatorInDeclaration a2 a3).bind fun r2 =>
    some r2
  else
  if a1 = 6 then
    some (-1)
  else
  if a1 = 7 then
    some (-1)
  else
  if a1 = 8 then
    some (-1)
  else
  if a1 = 9 then
    if a3 = 0 then
      some (-1)
    else
      if a3 = 1 then
        some 11822
      else
        some 271
  else
  if a1 = 10 then
    some (-1)
  else
  if a1 = 11 then
    some (-1)
  else
  if a1 = 12 then
    (f_Writer_behindFirst a3 14909).bind fun r12 =>
    some r12
  else
  if a1 = 13 then
    (f_Writer_behindFirst a3 44).bind fun r14 =>
    some r14
  else
  if a1 = 14 then
    some (-1)
  else
  if a1 = 15 then
    (f_Writer_separatorInIf a2 a3).bind fun r17 =>
    some r17
  else
  if a1 = 16 then
    if a2 = 11 then
      some 275
    else
      some (-1)
  else
  if a1 = 17 then
    if a2 = 11 then
      some 58
    else
      (f_Writer_behindFirst a3 44).bind fun r22 =>
      some r22
  else
  if a1 = 18 then
    (f_Writer_behindFirst a3 11822).bind fun r24 =>
    some r24
  else
  if a1 = 19 then
    (f_Writer_separatorInFor a2 a3).bind fun r26 =>
    some r26
  else
  if a1 = 20 then
    some (-1)
  else
  if a1 = 21 then
    some (-1)
  else
  if a1 = 22 then
    some (-1)
  else
  if a1 = 23 then
    some (-1)
  else
  if a1 = 24 then
    some (-1)
  else
  if a1 = 25 then
    some (-1)
  else
  if a1 = 26 then
    some (-1)
  else
  if a1 = 27 then
    some (-1)
  else
  if a1 = 28 then
    some (-1)
  else
  if a1 = 29 then
    some (-1)
  else
  if a1 = 30 then
    some (-1)
  else
  if a1 = 31 then
    some (-1)
  else
  if a1 = 32 then
    some (-1)
  else
  if a1 = 33 then
    some (-1)
  else
  if a1 = 34 then
    (f_Writer_behindFirst a3 44).bind fun r42 =>
    some r42
  else
  some (-1)

def f_Writer_separate (o_tree : S_Tree) (o_names : S_Names) (o_out : S_Bytes) (a1 : Int32) : Option (S_Bytes) :=
  (f_Tree_rank o_tree a1).bind fun r1 =>
  (f_Tree_parent o_tree a1).bind fun r2 =>
  (f_Tree_kind o_tree r2).bind fun r3 =>
  if r3 = 9 then
    if r1 = 2 then
      (f_Writer_token o_names o_out 93).bind fun r96 =>
      if r3 = 16 then
        if r1 = 1 then
          (f_Writer_token o_names r96 271).bind fun r127 =>
          if r3 = 35 then
            if r1 = 1 then
              (f_Tree_value o_tree r2).bind fun r136 =>
              (f_Sign_between r136).bind fun r137 =>
              (f_Writer_token o_names r127 r137).bind fun r138 =>
              (f_Tree_kind o_tree a1).bind fun r139 =>
              (f_Writer_separator r3 r139 r1).bind fun r140 =>
              (f_Writer_token o_names r138 r140).bind fun r141 =>
              some r141
            else
              (f_Tree_kind o_tree a1).bind fun r133 =>
              (f_Writer_separator r3 r133 r1).bind fun r134 =>
              (f_Writer_token o_names r127 r134).bind fun r135 =>
              some r135
          else
            (f_Tree_kind o_tree a1).bind fun r129 =>
            (f_Writer_separator r3 r129 r1).bind fun r130 =>
            (f_Writer_token o_names r127 r130).bind fun r131 =>
            some r131
        else
          if r3 = 35 then
            if r1 = 1 then
              (f_Tree_value o_tree r2).bind fun r121 =>
              (f_Sign_between r121).bind fun r122 =>
              (f_Writer_token o_names r96 r122).bind fun r123 =>
              (f_Tree_kind o_tree a1).bind fun r124 =>
              (f_Writer_separator r3 r124 r1).bind fun r125 =>
              (f_Writer_token o_names r123 r125).bind fun r126 =>
              some r126
            else
              (f_Tree_kind o_tree a1).bind fun r118 =>
              (f_Writer_separator r3 r118 r1).bind fun r119 =>
              (f_Writer_token o_names r96 r119).bind fun r120 =>
              some r120
          else
            (f_Tree_kind o_tree a1).bind fun r114 =>
            (f_Writer_separator r3 r114 r1).bind fun r115 =>
            (f_Writer_token o_names r96 r115).bind fun r116 =>
            some r116
      else
        if r3 = 35 then
          if r1 = 1 then
            (f_Tree_value o_tree r2).bind fun r106 =>
            (f_Sign_between r106).bind fun r107 =>
            (f_Writer_token o_names r96 r107).bind fun r108 =>
            (f_Tree_kind o_tree a1).bind fun r109 =>
            (f_Writer_separator r3 r109 r1).bind fun r110 =>
            (f_Writer_token o_names r108 r110).bind fun r111 =>
            some r111
          else
            (f_Tree_kind o_tree a1).bind fun r103 =>
            (f_Writer_separator r3 r103 r1).bind fun r104 =>
            (f_Writer_token o_names r96 r104).bind fun r105 =>
            some r105
        else
          (f_Tree_kind o_tree a1).bind fun r99 =>
          (f_Writer_separator r3 r99 r1).bind fun r100 =>
          (f_Writer_token o_names r96 r100).bind fun r101 =>
          some r101
    else
      if r3 = 16 then
        if r1 = 1 then
          (f_Writer_token o_names o_out 271).bind fun r81 =>
          if r3 = 35 then
            if r1 = 1 then
              (f_Tree_value o_tree r2).bind fun r90 =>
              (f_Sign_between r90).bind fun r91 =>
              (f_Writer_token o_names r81 r91).bind fun r92 =>
              (f_Tree_kind o_tree a1).bind fun r93 =>
              (f_Writer_separator r3 r93 r1).bind fun r94 =>
              (f_Writer_token o_names r92 r94).bind fun r95 =>
              some r95
            else
              (f_Tree_kind o_tree a1).bind fun r87 =>
              (f_Writer_separator r3 r87 r1).bind fun r88 =>
              (f_Writer_token o_names r81 r88).bind fun r89 =>
              some r89
          else
            (f_Tree_kind o_tree a1).bind fun r83 =>
            (f_Writer_separator r3 r83 r1).bind fun r84 =>
            (f_Writer_token o_names r81 r84).bind fun r85 =>
            some r85
        else
          if r3 = 35 then
            if r1 = 1 then
              (f_Tree_value o_tree r2).bind fun r75 =>
              (f_Sign_between r75).bind fun r76 =>
              (f_Writer_token o_names o_out r76).bind fun r77 =>
              (f_Tree_kind o_tree a1).bind fun r78 =>
              (f_Writer_separator r3 r78 r1).bind fun r79 =>
              (f_Writer_token o_names r77 r79).bind fun r80 =>
              some r80
            else
              (f_Tree_kind o_tree a1).bind fun r72 =>
              (f_Writer_separator r3 r72 r1).bind fun r73 =>
              (f_Writer_token o_names o_out r73).bind fun r74 =>
              some r74
          else
            (f_Tree_kind o_tree a1).bind fun r68 =>
            (f_Writer_separator r3 r68 r1).bind fun r69 =>
            (f_Writer_token o_names o_out r69).bind fun r70 =>
            some r70
      else
        if r3 = 35 then
          if r1 = 1 then
            (f_Tree_value o_tree r2).bind fun r60 =>
            (f_Sign_between r60).bind fun r61 =>
            (f_Writer_token o_names o_out r61).bind fun r62 =>
            (f_Tree_kind o_tree a1).bind fun r63 =>
            (f_Writer_separator r3 r63 r1).bind fun r64 =>
            (f_Writer_token o_names r62 r64).bind fun r65 =>
            some r65
          else
            (f_Tree_kind o_tree a1).bind fun r57 =>
            (f_Writer_separator r3 r57 r1).bind fun r58 =>
            (f_Writer_token o_names o_out r58).bind fun r59 =>
            some r59
        else
          (f_Tree_kind o_tree a1).bind fun r53 =>
          (f_Writer_separator r3 r53 r1).bind fun r54 =>
          (f_Writer_token o_names o_out r54).bind fun r55 =>
          some r55
  else
    if r3 = 16 then
      if r1 = 1 then
        (f_Writer_token o_names o_out 271).bind fun r35 =>
        if r3 = 35 then
          if r1 = 1 then
            (f_Tree_value o_tree r2).bind fun r44 =>
            (f_Sign_between r44).bind fun r45 =>
            (f_Writer_token o_names r35 r45).bind fun r46 =>
            (f_Tree_kind o_tree a1).bind fun r47 =>
            (f_Writer_separator r3 r47 r1).bind fun r48 =>
            (f_Writer_token o_names r46 r48).bind fun r49 =>
            some r49
          else
            (f_Tree_kind o_tree a1).bind fun r41 =>
            (f_Writer_separator r3 r41 r1).bind fun r42 =>
            (f_Writer_token o_names r35 r42).bind fun r43 =>
            some r43
        else
          (f_Tree_kind o_tree a1).bind fun r37 =>
          (f_Writer_separator r3 r37 r1).bind fun r38 =>
          (f_Writer_token o_names r35 r38).bind fun r39 =>
          some r39
      else
        if r3 = 35 then
          if r1 = 1 then
            (f_Tree_value o_tree r2).bind fun r29 =>
            (f_Sign_between r29).bind fun r30 =>
            (f_Writer_token o_names o_out r30).bind fun r31 =>
            (f_Tree_kind o_tree a1).bind fun r32 =>
            (f_Writer_separator r3 r32 r1).bind fun r33 =>
            (f_Writer_token o_names r31 r33).bind fun r34 =>
            some r34
          else
            (f_Tree_kind o_tree a1).bind fun r26 =>
            (f_Writer_separator r3 r26 r1).bind fun r27 =>
            (f_Writer_token o_names o_out r27).bind fun r28 =>
            some r28
        else
          (f_Tree_kind o_tree a1).bind fun r22 =>
          (f_Writer_separator r3 r22 r1).bind fun r23 =>
          (f_Writer_token o_names o_out r23).bind fun r24 =>
          some r24
    else
      if r3 = 35 then
        if r1 = 1 then
          (f_Tree_value o_tree r2).bind fun r14 =>
          (f_Sign_between r14).bind fun r15 =>
          (f_Writer_token o_names o_out r15).bind fun r16 =>
          (f_Tree_kind o_tree a1).bind fun r17 =>
          (f_Writer_separator r3 r17 r1).bind fun r18 =>
          (f_Writer_token o_names r16 r18).bind fun r19 =>
          some r19
        else
          (f_Tree_kind o_tree a1).bind fun r11 =>
          (f_Writer_separator r3 r11 r1).bind fun r12 =>
          (f_Writer_token o_names o_out r12).bind fun r13 =>
          some r13
      else
        (f_Tree_kind o_tree a1).bind fun r7 =>
        (f_Writer_separator r3 r7 r1).bind fun r8 =>
        (f_Writer_token o_names o_out r8).bind fun r9 =>
        some r9

def f_Writer_writeTree_L12 (o_tree_L12 : S_Tree) (o_names_L12 : S_Names) : Nat → Int32 → Int32 → S_Bytes → Option (Int32 × S_Bytes)
  | 0, _, _, _ => none
  | n + 1, v2_L12, v1_L12, o_out_L12 =>
    if o_tree_L12.1 ≤ v2_L12 then
      some (v1_L12, o_out_L12)
    else
      (f_Tree_parent o_tree_L12 v2_L12).bind fun r1222 =>
      (f_Writer_finishUpTo o_tree_L12 o_names_L12 o_out_L12 v1_L12 r1222).bind fun r1223 =>
      (f_Writer_separate o_tree_L12 o_names_L12 r1223 v2_L12).bind fun r1224 =>
      (f_Writer_begin o_tree_L12 o_names_L12 r1224 v2_L12).bind fun r1225 =>
      nm (v2_L12 + 1) fun x1226 =>
      f_Writer_writeTree_L12 o_tree_L12 o_names_L12 n x1226 v2_L12 r1225
def f_Writer_writeTree (o_tree : S_Tree) (o_names : S_Names) (o_out : S_Bytes) : Option (S_Bytes) :=
  (f_Bytes_cut 16384 o_out 0).bind fun r1 =>
  (f_Writer_writeTree_L12 o_tree o_names FU 0 (-1) r1).bind fun r2 =>
  (f_Writer_finishUpTo o_tree o_names r2.2 r2.1 (-1)).bind fun r3 =>
  some r3
