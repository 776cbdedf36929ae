def f_Model_openStatement (o_T : S_MT) (o_I : S_MI) (a1 : Int32) : Option (S_MI) :=
  gd a1 20000 <|
  if (o_T.2.2.1 a1.toNatClampNeg) = 12 then
    (f_Model_item o_I 0 60).bind fun r3 =>
    (f_Model_second o_T a1).bind fun r4 =>
    (f_Model_item r3 1 r4).bind fun r5 =>
    (f_Model_item r5 0 50).bind fun r6 =>
    gd a1 20000 <|
    (f_Model_item r6 1 (o_T.2.2.2.2.2.2.1 a1.toNatClampNeg)).bind fun r8 =>
    some r8
  else
  if (o_T.2.2.1 a1.toNatClampNeg) = 13 then
    (f_Model_item o_I 0 60).bind fun r10 =>
    (f_Model_itemAll o_T r10 56 3 a1 55).bind fun r11 =>
    gd a1 20000 <|
    (f_Model_item r11 8 (o_T.2.2.2.2.1 a1.toNatClampNeg)).bind fun r13 =>
    some r13
  else
  if (o_T.2.2.1 a1.toNatClampNeg) = 14 then
    gd a1 20000 <|
    (f_Model_item o_I 1 (o_T.2.2.2.2.2.2.1 a1.toNatClampNeg)).bind fun r16 =>
    (f_Model_item r16 0 50).bind fun r17 =>
    gd a1 20000 <|
    (f_Model_item r17 8 (o_T.2.2.2.2.1 a1.toNatClampNeg)).bind fun r19 =>
    some r19
  else
  if (o_T.2.2.1 a1.toNatClampNeg) = 15 then
    (f_Model_item o_I 0 60).bind fun r21 =>
    (f_Model_item r21 0 20).bind fun r22 =>
    (f_Model_second o_T a1).bind fun r23 =>
    gd r23 20000 <|
    (f_Model_item r22 4 (o_T.2.2.2.2.2.2.2.2 r23.toNatClampNeg)).bind fun r25 =>
    (f_Model_second o_T a1).bind fun r26 =>
    (f_Model_item r25 1 r26).bind fun r27 =>
    (f_Model_item r27 0 17).bind fun r28 =>
    gd a1 20000 <|
    (f_Model_item r28 1 (o_T.2.2.2.2.2.2.1 a1.toNatClampNeg)).bind fun r30 =>
    (f_Model_item r30 0 16).bind fun r31 =>
    some r31
  else
  if (o_T.2.2.1 a1.toNatClampNeg) = 16 then
    (f_Model_item o_I 0 60).bind fun r33 =>
    (f_Model_item r33 0 22).bind fun r34 =>
    (f_Model_second o_T a1).bind fun r35 =>
    (f_Model_item r34 5 r35).bind fun r36 =>
    (f_Model_item r36 0 15).bind fun r37 =>
    gd a1 20000 <|
    (f_Model_item r37 1 (o_T.2.2.2.2.2.2.1 a1.toNatClampNeg)).bind fun r39 =>
    (f_Model_item r39 0 21).bind fun r40 =>
    some r40
  else
  if (o_T.2.2.1 a1.toNatClampNeg) = 17 then
    gd a1 20000 <|
    (f_Model_item o_I 6 (o_T.2.2.2.2.2.2.1 a1.toNatClampNeg)).bind fun r43 =>
    some r43
  else
  if (o_T.2.2.1 a1.toNatClampNeg) = 18 then
    (f_Model_second o_T a1).bind fun r45 =>
    if r45 = (-1) then
      gd a1 20000 <|
      (f_Model_item o_I 1 (o_T.2.2.2.2.2.2.1 a1.toNatClampNeg)).bind fun r48 =>
      some r48
    else
      (f_Model_second o_T a1).bind fun r49 =>
      (f_Model_item o_I 1 r49).bind fun r50 =>
      (f_Model_item r50 0 51).bind fun r51 =>
      gd a1 20000 <|
      (f_Model_item r51 1 (o_T.2.2.2.2.2.2.1 a1.toNatClampNeg)).bind fun r53 =>
      some r53
  else
  if (o_T.2.2.1 a1.toNatClampNeg) = 19 then
    (f_Model_itemFor o_T o_I a1).bind fun r55 =>
    some r55
  else
  (f_Model_item o_I 0 60).bind fun r56 =>
  gd a1 20000 <|
  if (o_T.2.2.1 a1.toNatClampNeg) = 20 then
    (f_Model_item r56 0 28).bind fun r60 =>
    some r60
  else
    (f_Model_item r56 0 29).bind fun r59 =>
    some r59

def f_Model_openOperand (o_C : S_MC) (o_T : S_MT) (o_V : S_MV) (o_I : S_MI) (a1 : Int32) : Option (S_MV × S_MI) :=
  gd a1 20000 <|
  if (o_T.2.2.1 a1.toNatClampNeg) = 30 then
    gd a1 20000 <|
    (f_Model_putNumber o_V (o_T.2.2.2.2.1 a1.toNatClampNeg)).bind fun r4 =>
    some (r4, o_I)
  else
  if (o_T.2.2.1 a1.toNatClampNeg) = 31 then
    gd a1 20000 <|
    if (o_T.2.2.2.2.1 a1.toNatClampNeg) = 1 then
      (f_Model_putToken o_C o_V 35).bind fun r9 =>
      some (r9, o_I)
    else
      (f_Model_putToken o_C o_V 36).bind fun r8 =>
      some (r8, o_I)
  else
  if (o_T.2.2.1 a1.toNatClampNeg) = 32 then
    (f_Model_itemAll o_T o_I 58 1 a1 57).bind fun r11 =>
    gd a1 20000 <|
    (f_Model_item r11 8 (o_T.2.2.2.2.1 a1.toNatClampNeg)).bind fun r13 =>
    some (o_V, r13)
  else
  if (o_T.2.2.1 a1.toNatClampNeg) = 33 then
    (f_Model_itemAll o_T o_I (-1) 1 a1 62).bind fun r15 =>
    gd a1 20000 <|
    (f_Model_item r15 8 (o_T.2.2.2.2.1 a1.toNatClampNeg)).bind fun r17 =>
    some (o_V, r17)
  else
  if (o_T.2.2.1 a1.toNatClampNeg) = 34 then
    (f_Model_itemAll o_T o_I 56 3 a1 55).bind fun r19 =>
    gd a1 20000 <|
    (f_Model_item r19 8 (o_T.2.2.2.2.1 a1.toNatClampNeg)).bind fun r21 =>
    some (o_V, r21)
  else
  if (o_T.2.2.1 a1.toNatClampNeg) = 35 then
    (f_Model_second o_T a1).bind fun r23 =>
    (f_Model_itemOperand o_T o_I r23 a1 1).bind fun r24 =>
    gd a1 20000 <|
    (f_Model_tokenOf (o_T.2.2.2.2.1 a1.toNatClampNeg)).bind fun r26 =>
    (f_Model_item r24 0 r26).bind fun r27 =>
    gd a1 20000 <|
    (f_Model_itemOperand o_T r27 (o_T.2.2.2.2.2.2.1 a1.toNatClampNeg) a1 0).bind fun r29 =>
    some (o_V, r29)
  else
  gd a1 20000 <|
  (f_Model_itemOperand o_T o_I (o_T.2.2.2.2.2.2.1 a1.toNatClampNeg) a1 0).bind fun r31 =>
  gd a1 20000 <|
  if (o_T.2.2.2.2.1 a1.toNatClampNeg) = 0 then
    (f_Model_item r31 0 64).bind fun r35 =>
    some (o_V, r35)
  else
    (f_Model_item r31 0 34).bind fun r34 =>
    some (o_V, r34)

def f_Model_openRung (o_C : S_MC) (o_T : S_MT) (o_V : S_MV) (o_I : S_MI) (a1 : Int32) : Option (S_MV × S_MI) :=
  gd a1 20000 <|
  nm (o_T.2.2.2.2.1 a1.toNatClampNeg) fun x2 =>
  gd a1 20000 <|
  if (o_T.2.2.1 a1.toNatClampNeg) = 22 then
    (f_Model_itemAll o_T o_I 38 2 a1 37).bind fun r5 =>
    some (o_V, r5)
  else
  if (o_T.2.2.1 a1.toNatClampNeg) = 23 then
    (f_Model_itemAll o_T o_I 40 2 a1 39).bind fun r7 =>
    some (o_V, r7)
  else
  if (o_T.2.2.1 a1.toNatClampNeg) = 24 then
    (f_Model_itemAll o_T o_I 60 2 a1 (-1)).bind fun r9 =>
    some (o_V, r9)
  else
  if (o_T.2.2.1 a1.toNatClampNeg) = 25 then
    if x2 = 0 then
      (f_Model_itemAll o_T o_I (-1) 1 a1 (-1)).bind fun r17 =>
      some (o_V, r17)
    else
      if x2 = 1 then
        (f_Model_itemAll o_T o_I (-1) 1 a1 66).bind fun r16 =>
        some (o_V, r16)
      else
        if x2 = 2 then
          (f_Model_itemAll o_T o_I (-1) 1 a1 69).bind fun r15 =>
          some (o_V, r15)
        else
          (f_Model_itemAll o_T o_I (-1) 1 a1 68).bind fun r14 =>
          some (o_V, r14)
  else
  if (o_T.2.2.1 a1.toNatClampNeg) = 26 then
    (f_Model_putToken o_C o_V 64).bind fun r19 =>
    some (r19, o_I)
  else
  if (o_T.2.2.1 a1.toNatClampNeg) = 27 then
    (f_Model_putToken o_C o_V 65).bind fun r21 =>
    some (r21, o_I)
  else
  if (o_T.2.2.1 a1.toNatClampNeg) = 28 then
    if x2 = 0 then
      (f_Model_itemAll o_T o_I 56 1 a1 (-1)).bind fun r32 =>
      (f_Model_item r32 0 55).bind fun r33 =>
      some (o_V, r33)
    else
      if x2 = 1 then
        (f_Model_itemAll o_T o_I 56 1 a1 66).bind fun r30 =>
        (f_Model_item r30 0 55).bind fun r31 =>
        some (o_V, r31)
      else
        if x2 = 2 then
          (f_Model_itemAll o_T o_I 56 1 a1 63).bind fun r28 =>
          (f_Model_item r28 0 55).bind fun r29 =>
          some (o_V, r29)
        else
          (f_Model_itemAll o_T o_I 56 1 a1 64).bind fun r26 =>
          (f_Model_item r26 0 55).bind fun r27 =>
          some (o_V, r27)
  else
  (f_Model_putToken o_C o_V 71).bind fun r34 =>
  some (r34, o_I)

def f_Model_openBlock (o_C : S_MC) (o_N : S_MN) (o_T : S_MT) (o_V : S_MV) (o_I : S_MI) (a1 : Int32) : Option (S_MV × S_MI) :=
  gd a1 20000 <|
  if (o_T.2.2.1 a1.toNatClampNeg) = 1 then
    (f_Model_itemBlock o_T o_I a1 0 1).bind fun r3 =>
    some (o_V, r3)
  else
  if (o_T.2.2.1 a1.toNatClampNeg) = 2 then
    (f_Model_itemBlock o_T o_I a1 2 3).bind fun r5 =>
    some (o_V, r5)
  else
  if (o_T.2.2.1 a1.toNatClampNeg) = 3 then
    (f_Model_itemBlock o_T o_I a1 4 5).bind fun r7 =>
    some (o_V, r7)
  else
  if (o_T.2.2.1 a1.toNatClampNeg) = 4 then
    gd a1 20000 <|
    (f_Model_itemAll o_T o_I 9 2 a1 (6 + (o_T.2.2.2.2.1 a1.toNatClampNeg))).bind fun r10 =>
    some (o_V, r10)
  else
  if (o_T.2.2.1 a1.toNatClampNeg) = 5 then
    gd a1 20000 <|
    gd (o_T.2.2.2.2.2.2.1 a1.toNatClampNeg) 20000 <|
    (f_Model_item o_I 7 (o_T.2.2.2.2.2.2.2.2 (o_T.2.2.2.2.2.2.1 a1.toNatClampNeg).toNatClampNeg)).bind fun r14 =>
    gd a1 20000 <|
    (f_Model_item r14 1 (o_T.2.2.2.2.2.2.1 a1.toNatClampNeg)).bind fun r16 =>
    some (o_V, r16)
  else
  if (o_T.2.2.1 a1.toNatClampNeg) = 6 then
    gd a1 20000 <|
    (f_Model_putName o_N o_V (o_T.2.2.2.2.1 a1.toNatClampNeg)).bind fun r19 =>
    some (r19, o_I)
  else
  if (o_T.2.2.1 a1.toNatClampNeg) = 7 then
    gd a1 20000 <|
    (f_Model_putPlace o_C o_V (o_T.2.2.2.2.1 a1.toNatClampNeg)).bind fun r22 =>
    some (r22, o_I)
  else
  if (o_T.2.2.1 a1.toNatClampNeg) = 8 then
    gd a1 20000 <|
    (f_Model_putToken o_C o_V (11 + (o_T.2.2.2.2.1 a1.toNatClampNeg))).bind fun r25 =>
    some (r25, o_I)
  else
  if (o_T.2.2.1 a1.toNatClampNeg) = 9 then
    (f_Model_itemArray o_T o_I a1).bind fun r27 =>
    some (o_V, r27)
  else
  if (o_T.2.2.1 a1.toNatClampNeg) = 10 then
    gd a1 20000 <|
    (f_Model_putName o_N o_V (o_T.2.2.2.2.1 a1.toNatClampNeg)).bind fun r30 =>
    some (r30, o_I)
  else
  (f_Model_itemAll o_T o_I (-1) 2 a1 (-1)).bind fun r31 =>
  some (o_V, r31)

def f_Model_openNode (o_C : S_MC) (o_N : S_MN) (o_T : S_MT) (o_V : S_MV) (o_I : S_MI) (a1 : Int32) : Option (S_MV × S_MI) :=
  gd a1 20000 <|
  if 12 ≤ (o_T.2.2.1 a1.toNatClampNeg) then
    gd a1 20000 <|
    if 22 ≤ (o_T.2.2.1 a1.toNatClampNeg) then
      gd a1 20000 <|
      if 30 ≤ (o_T.2.2.1 a1.toNatClampNeg) then
        (f_Model_openOperand o_C o_T o_V o_I a1).bind fun r7 =>
        some (r7.1, r7.2)
      else
        (f_Model_openRung o_C o_T o_V o_I a1).bind fun r8 =>
        some (r8.1, r8.2)
    else
      (f_Model_openStatement o_T o_I a1).bind fun r9 =>
      some (o_V, r9)
  else
    (f_Model_openBlock o_C o_N o_T o_V o_I a1).bind fun r10 =>
    some (r10.1, r10.2)

def f_Model_openParts (o_C : S_MC) (o_T : S_MT) (o_V : S_MV) (o_I : S_MI) (a1 : Int32) : Option (S_MV × S_MI) :=
  if a1 = (-1) then
    (f_Model_putToken o_C o_V 60).bind fun r14 =>
    some (r14, o_I)
  else
    gd a1 20000 <|
    nm (o_T.2.2.1 a1.toNatClampNeg) fun x3 =>
    gd a1 20000 <|
    (f_Model_item o_I 7 (o_T.2.2.2.2.2.2.2.2 a1.toNatClampNeg)).bind fun r5 =>
    (f_Model_item r5 1 a1).bind fun r6 =>
    if x3 = 6 then
      (f_Model_item r6 0 59).bind fun r13 =>
      some (o_V, r13)
    else
      if x3 = 7 then
        (f_Model_item r6 0 10).bind fun r12 =>
        some (o_V, r12)
      else
        if 11 ≤ x3 then
          (f_Model_item r6 0 50).bind fun r10 =>
          some (o_V, r10)
        else
          (f_Model_item r6 0 61).bind fun r11 =>
          some (o_V, r11)

def f_Model_openIf (o_T : S_MT) (o_I : S_MI) (a1 : Int32) : Option (S_MI) :=
  gd a1 20000 <|
  if (o_T.2.2.1 a1.toNatClampNeg) = 11 then
    (f_Model_item o_I 1 a1).bind fun r11 =>
    (f_Model_item r11 0 19).bind fun r12 =>
    some r12
  else
    gd a1 20000 <|
    nm (o_T.2.2.2.2.2.2.2.2 a1.toNatClampNeg) fun x4 =>
    gd x4 20000 <|
    (f_Model_item o_I 4 (o_T.2.2.2.2.2.2.2.2 x4.toNatClampNeg)).bind fun r6 =>
    (f_Model_item r6 1 x4).bind fun r7 =>
    (f_Model_item r7 0 17).bind fun r8 =>
    (f_Model_item r8 1 a1).bind fun r9 =>
    (f_Model_item r9 0 18).bind fun r10 =>
    some r10

def f_Model_openCase (o_T : S_MT) (o_I : S_MI) (a1 : Int32) : Option (S_MI) :=
  gd a1 20000 <|
  if (o_T.2.2.1 a1.toNatClampNeg) = 11 then
    (f_Model_item o_I 1 a1).bind fun r6 =>
    (f_Model_item r6 0 19).bind fun r7 =>
    some r7
  else
    gd a1 20000 <|
    (f_Model_item o_I 5 (o_T.2.2.2.2.2.2.2.2 a1.toNatClampNeg)).bind fun r4 =>
    (f_Model_item r4 1 a1).bind fun r5 =>
    some r5

def f_Model_openRow (o_T : S_MT) (o_I : S_MI) (a1 : Int32) (a2 : Int32) : Option (S_MI) :=
  gd a2 20000 <|
  nm (o_T.2.2.2.2.2.2.2.2 a2.toNatClampNeg) fun x2 =>
  if x2 = (-1) then
    if x2 = (-1) then
      if x2 = (-1) then
        (f_Model_item o_I 1 a2).bind fun r6 =>
        some r6
      else
        (f_Model_item o_I a1 x2).bind fun r7 =>
        (f_Model_item r7 0 59).bind fun r8 =>
        (f_Model_item r8 1 a2).bind fun r9 =>
        some r9
    else
      if a1 = 6 then
        gd x2 20000 <|
        if (o_T.2.2.1 x2.toNatClampNeg) = 11 then
          (f_Model_item o_I 1 x2).bind fun r23 =>
          (f_Model_item r23 0 61).bind fun r24 =>
          (f_Model_item r24 1 a2).bind fun r25 =>
          some r25
        else
          if x2 = (-1) then
            (f_Model_item o_I 1 a2).bind fun r19 =>
            some r19
          else
            (f_Model_item o_I a1 x2).bind fun r20 =>
            (f_Model_item r20 0 59).bind fun r21 =>
            (f_Model_item r21 1 a2).bind fun r22 =>
            some r22
      else
        if x2 = (-1) then
          (f_Model_item o_I 1 a2).bind fun r12 =>
          some r12
        else
          (f_Model_item o_I a1 x2).bind fun r13 =>
          (f_Model_item r13 0 59).bind fun r14 =>
          (f_Model_item r14 1 a2).bind fun r15 =>
          some r15
  else
    if a1 = 2 then
      (f_Model_item o_I 2 x2).bind fun r49 =>
      (f_Model_item r49 1 a2).bind fun r50 =>
      some r50
    else
      if x2 = (-1) then
        if x2 = (-1) then
          (f_Model_item o_I 1 a2).bind fun r29 =>
          some r29
        else
          (f_Model_item o_I a1 x2).bind fun r30 =>
          (f_Model_item r30 0 59).bind fun r31 =>
          (f_Model_item r31 1 a2).bind fun r32 =>
          some r32
      else
        if a1 = 6 then
          gd x2 20000 <|
          if (o_T.2.2.1 x2.toNatClampNeg) = 11 then
            (f_Model_item o_I 1 x2).bind fun r46 =>
            (f_Model_item r46 0 61).bind fun r47 =>
            (f_Model_item r47 1 a2).bind fun r48 =>
            some r48
          else
            if x2 = (-1) then
              (f_Model_item o_I 1 a2).bind fun r42 =>
              some r42
            else
              (f_Model_item o_I a1 x2).bind fun r43 =>
              (f_Model_item r43 0 59).bind fun r44 =>
              (f_Model_item r44 1 a2).bind fun r45 =>
              some r45
        else
          if x2 = (-1) then
            (f_Model_item o_I 1 a2).bind fun r35 =>
            some r35
          else
            (f_Model_item o_I a1 x2).bind fun r36 =>
            (f_Model_item r36 0 59).bind fun r37 =>
            (f_Model_item r37 1 a2).bind fun r38 =>
            some r38

def f_Model_openItem (o_C : S_MC) (o_N : S_MN) (o_T : S_MT) (o_V : S_MV) (o_I : S_MI) (a1 : Int32) (a2 : Int32) : Option (S_MV × S_MI) :=
  if a1 = 0 then
    (f_Model_putToken o_C o_V a2).bind fun r2 =>
    some (r2, o_I)
  else
  if a1 = 7 then
    (f_Model_openParts o_C o_T o_V o_I a2).bind fun r4 =>
    some (r4.1, r4.2)
  else
  if a1 = 8 then
    (f_Model_putName o_N o_V a2).bind fun r6 =>
    some (r6, o_I)
  else
  if a2 = (-1) then
    some (o_V, o_I)
  else
    if a1 = 1 then
      (f_Model_openNode o_C o_N o_T o_V o_I a2).bind fun r14 =>
      some (r14.1, r14.2)
    else
      if a1 = 4 then
        (f_Model_openIf o_T o_I a2).bind fun r13 =>
        some (o_V, r13)
      else
        if a1 = 5 then
          (f_Model_openCase o_T o_I a2).bind fun r12 =>
          some (o_V, r12)
        else
          (f_Model_openRow o_T o_I a1 a2).bind fun r11 =>
          some (o_V, r11)

def f_Model_write_L25 (o_C_L25 : S_MC) (o_N_L25 : S_MN) (o_T_L25 : S_MT) : Nat → S_MV → S_MI → Option (S_MV × S_MI)
  | 0, _, _ => none
  | n + 1, o_V_L25, o_I_L25 =>
    if o_I_L25.1 ≤ 0 then
      some (o_V_L25, o_I_L25)
    else
      gd (o_I_L25.1 - 1) 4000 <|
      gd (o_I_L25.1 - 1) 4000 <|
      (f_Model_openItem o_C_L25 o_N_L25 o_T_L25 o_V_L25 (o_I_L25.1 - 1, o_I_L25.2) (o_I_L25.2.1 (o_I_L25.1 - 1).toNatClampNeg) (o_I_L25.2.2 (o_I_L25.1 - 1).toNatClampNeg)).bind fun r1354 =>
      f_Model_write_L25 o_C_L25 o_N_L25 o_T_L25 n r1354.1 r1354.2
def f_Model_write (o_C : S_MC) (o_N : S_MN) (o_T : S_MT) (o_Q : S_MQ) (o_V : S_MV) (o_I : S_MI) : Option (Int32 × S_MV × S_MI) :=
  if o_Q.1 = 0 then
    some ((-1), o_V, o_I)
  else
    (f_Model_item (0, o_I.2) 1 0).bind fun r2 =>
    (f_Model_write_L25 o_C o_N o_T FU (0, o_V.2) r2).bind fun r3 =>
    some (r3.1.1, r3.1, r3.2)

def f_Model_byteAt (o_V : S_MV) (a1 : Int32) : Option (Int32) :=
  if a1 < 0 then
    some (-1)
  else
    if a1 < o_V.1 then
      gd a1 24000 <|
      some (o_V.2 a1.toNatClampNeg)
    else
      some (-1)

def f_Model_back_L21 (o_V_L21 : S_MV) : Nat → Int32 → S_MX → Option (S_MX)
  | 0, _, _ => none
  | n + 1, v1_L21, o_X_L21 =>
    if o_V_L21.1 ≤ v1_L21 then
      some o_X_L21
    else
      gd v1_L21 24000 <|
      nm (o_V_L21.2 v1_L21.toNatClampNeg) fun x1314 =>
      gd v1_L21 8192 <|
      nm (v1_L21 + 1) fun x1315 =>
      f_Model_back_L21 o_V_L21 n x1315 (o_X_L21.1, upd o_X_L21.2 v1_L21.toNatClampNeg x1314)
def f_Model_back (o_X : S_MX) (o_V : S_MV) : Option (Int32 × S_MX) :=
  if o_V.1 = 0 then
    some ((-1), o_X)
  else
    if o_V.1 ≤ 8192 then
      (f_Model_back_L21 o_V FU 0 o_X).bind fun r3 =>
      some (o_V.1, (o_V.1, r3.2))
    else
      some ((-1), o_X)
