def f_Model_statements (o_C : S_MC) (o_X : S_MX) (o_L : S_ML) (o_N : S_MN) (o_T : S_MT) (o_U : S_MU) (o_O : S_MO) : Option (S_ML × S_MN × S_MT × S_MU × S_MO) :=
  if o_L.2.1 = 60 then
    (f_Model_push o_U 115).bind fun r34 =>
    (f_Model_step o_C o_X o_L o_N).bind fun r35 =>
    some (r35.1, r35.2, o_T, r34, o_O)
  else
    if o_L.2.1 = 80 then
      (f_Model_keepName o_L o_O).bind fun r31 =>
      (f_Model_push2 o_U 115 116).bind fun r32 =>
      (f_Model_step o_C o_X o_L o_N).bind fun r33 =>
      some (r33.1, r33.2, o_T, r32, r31)
    else
      if o_L.2.1 = 16 then
        (f_Model_opens o_L o_O).bind fun r4 =>
        if r4.1 = 0 then
          some (r4.2.1, o_N, o_T, o_U, r4.2.2)
        else
          (f_Model_compound o_C o_X r4.2.1 o_N o_T o_U).bind fun r6 =>
          some (r6.1, r6.2.1, r6.2.2.1, r6.2.2.2, r4.2.2)
      else
        if o_L.2.1 = 21 then
          (f_Model_opens o_L o_O).bind fun r8 =>
          if r8.1 = 0 then
            some (r8.2.1, o_N, o_T, o_U, r8.2.2)
          else
            (f_Model_compound o_C o_X r8.2.1 o_N o_T o_U).bind fun r10 =>
            some (r10.1, r10.2.1, r10.2.2.1, r10.2.2.2, r8.2.2)
        else
          if o_L.2.1 = 23 then
            (f_Model_opens o_L o_O).bind fun r28 =>
            if r28.1 = 0 then
              some (r28.2.1, o_N, o_T, o_U, r28.2.2)
            else
              (f_Model_compound o_C o_X r28.2.1 o_N o_T o_U).bind fun r30 =>
              some (r30.1, r30.2.1, r30.2.2.1, r30.2.2.2, r28.2.2)
          else
            if o_L.2.1 = 28 then
              if o_L.2.1 = 28 then
                (f_Model_leaf o_T 20 o_L.1 0).bind fun r17 =>
                (f_Model_push2 o_U 115 60).bind fun r18 =>
                (f_Model_step o_C o_X o_L o_N).bind fun r19 =>
                some (r19.1, r19.2, r17, r18, o_O)
              else
                (f_Model_leaf o_T 21 o_L.1 0).bind fun r14 =>
                (f_Model_push2 o_U 115 60).bind fun r15 =>
                (f_Model_step o_C o_X o_L o_N).bind fun r16 =>
                some (r16.1, r16.2, r14, r15, o_O)
            else
              if o_L.2.1 = 29 then
                if o_L.2.1 = 28 then
                  (f_Model_leaf o_T 20 o_L.1 0).bind fun r25 =>
                  (f_Model_push2 o_U 115 60).bind fun r26 =>
                  (f_Model_step o_C o_X o_L o_N).bind fun r27 =>
                  some (r27.1, r27.2, r25, r26, o_O)
                else
                  (f_Model_leaf o_T 21 o_L.1 0).bind fun r22 =>
                  (f_Model_push2 o_U 115 60).bind fun r23 =>
                  (f_Model_step o_C o_X o_L o_N).bind fun r24 =>
                  some (r24.1, r24.2, r22, r23, o_O)
              else
                some (o_L, o_N, o_T, o_U, o_O)

def f_Model_up (o_T : S_MT) : Option (S_MT) :=
  gd o_T.2.1 20000 <|
  nm (o_T.2.2.2.2.2.1 o_T.2.1.toNatClampNeg) fun x2 =>
  some (o_T.1, x2, o_T.2.2)

def f_Model_behindName (o_C : S_MC) (o_X : S_MX) (o_L : S_ML) (o_N : S_MN) (o_T : S_MT) (o_U : S_MU) (o_O : S_MO) : Option (S_ML × S_MN × S_MT × S_MU × S_MO) :=
  if o_L.2.1 = 50 then
    (f_Model_down o_T 12 o_L.1 0).bind fun r19 =>
    (f_Model_leaf r19 6 o_O.2.2.2.1 o_O.2.2.2.2.1).bind fun r20 =>
    (f_Model_push2 o_U 101 60).bind fun r21 =>
    (f_Model_pushExpression r21).bind fun r22 =>
    (f_Model_step o_C o_X o_L o_N).bind fun r23 =>
    some (r23.1, r23.2, r20, r22, o_O)
  else
    if o_L.2.1 = 57 then
      (f_Model_opens o_L o_O).bind fun r10 =>
      if r10.1 = 0 then
        some (r10.2.1, o_N, o_T, o_U, r10.2.2)
      else
        (f_Model_down o_T 12 r10.2.1.1 0).bind fun r12 =>
        (f_Model_down r12 32 r10.2.2.2.2.2.1 r10.2.2.2.2.2.2.1).bind fun r13 =>
        (f_Model_push2 o_U 101 60).bind fun r14 =>
        (f_Model_pushExpression r14).bind fun r15 =>
        (f_Model_push2 r15 128 129).bind fun r16 =>
        (f_Model_pushExpression r16).bind fun r17 =>
        (f_Model_step o_C o_X r10.2.1 o_N).bind fun r18 =>
        some (r18.1, r18.2, r13, r17, r10.2.2)
    else
      if o_L.2.1 = 55 then
        (f_Model_opens o_L o_O).bind fun r5 =>
        if r5.1 = 0 then
          some (r5.2.1, o_N, o_T, o_U, r5.2.2)
        else
          (f_Model_down o_T 13 r5.2.2.2.2.2.1 r5.2.2.2.2.2.2.1).bind fun r7 =>
          (f_Model_push4 o_U 101 60 130 131).bind fun r8 =>
          (f_Model_step o_C o_X r5.2.1 o_N).bind fun r9 =>
          some (r9.1, r9.2, r7, r8, r5.2.2)
      else
        (f_Model_wrong o_L).bind fun r4 =>
        some (r4, o_N, o_T, o_U, o_O)

def f_Model_indexEnd (o_C : S_MC) (o_X : S_MX) (o_L : S_ML) (o_N : S_MN) (o_T : S_MT) (o_O : S_MO) : Option (S_ML × S_MN × S_MT × S_MO) :=
  (f_Model_up o_T).bind fun r1 =>
  (f_Model_pass o_C o_X o_L o_N 58).bind fun r2 =>
  some (r2.1, r2.2, r1, (o_O.1 - 1, o_O.2))

def f_Model_assign (o_C : S_MC) (o_X : S_MX) (o_L : S_ML) (o_N : S_MN) (o_T : S_MT) : Option (S_ML × S_MN × S_MT) :=
  gd o_T.2.1 20000 <|
  (f_Model_pass o_C o_X o_L o_N 50).bind fun r2 =>
  some (r2.1, r2.2, (o_T.1, o_T.2.1, o_T.2.2.1, upd o_T.2.2.2.1 o_T.2.1.toNatClampNeg o_L.1, o_T.2.2.2.2))

def f_Model_parameter (o_C : S_MC) (o_X : S_MX) (o_L : S_ML) (o_N : S_MN) (o_T : S_MT) (o_U : S_MU) : Option (S_ML × S_MN × S_MT × S_MU) :=
  (f_Model_down o_T 14 o_L.1 o_L.2.2.1).bind fun r1 =>
  (f_Model_push o_U 101).bind fun r2 =>
  (f_Model_pushExpression r2).bind fun r3 =>
  (f_Model_push r3 50).bind fun r4 =>
  (f_Model_pass o_C o_X o_L o_N 80).bind fun r5 =>
  some (r5.1, r5.2, r1, r4)

def f_Model_elseBody (o_C : S_MC) (o_X : S_MX) (o_L : S_ML) (o_N : S_MN) (o_T : S_MT) (o_U : S_MU) : Option (S_ML × S_MN × S_MT × S_MU) :=
  if o_L.2.1 = 19 then
    (f_Model_bodyBehind o_C o_X o_L o_N o_T o_U 19).bind fun r2 =>
    some (r2.1, r2.2.1, r2.2.2.1, r2.2.2.2)
  else
    some (o_L, o_N, o_T, o_U)

def f_Model_ifRest (o_C : S_MC) (o_X : S_MX) (o_L : S_ML) (o_N : S_MN) (o_T : S_MT) (o_U : S_MU) : Option (S_ML × S_MN × S_MT × S_MU) :=
  if o_L.2.1 = 18 then
    (f_Model_push2 o_U 117 119).bind fun r3 =>
    (f_Model_pushExpression r3).bind fun r4 =>
    (f_Model_step o_C o_X o_L o_N).bind fun r5 =>
    some (r5.1, r5.2, o_T, r4)
  else
    (f_Model_elseBody o_C o_X o_L o_N o_T o_U).bind fun r2 =>
    some (r2.1, r2.2.1, r2.2.2.1, r2.2.2.2)

def f_Model_choices (o_L : S_ML) (o_T : S_MT) (o_U : S_MU) : Option (S_MT × S_MU) :=
  (f_Model_isConstant o_L).bind fun r1 =>
  if r1 = 0 then
    some (o_T, o_U)
  else
    (f_Model_down o_T 17 o_L.1 0).bind fun r3 =>
    (f_Model_push4 o_U 121 101 122 124).bind fun r4 =>
    (f_Model_push r4 123).bind fun r5 =>
    some (r3, r5)

def f_Model_range (o_L : S_ML) (o_T : S_MT) (o_U : S_MU) : Option (S_MT × S_MU) :=
  (f_Model_down o_T 18 o_L.1 0).bind fun r1 =>
  (f_Model_push2 o_U 101 125).bind fun r2 =>
  (f_Model_push r2 113).bind fun r3 =>
  some (r1, r3)

def f_Model_putOperand (o_E : S_ME) (a1 : Int32) : Option (S_ME) :=
  gd o_E.1 400 <|
  some (o_E.1 + 1, o_E.2.1, o_E.2.2.1, upd o_E.2.2.2.1 o_E.1.toNatClampNeg a1, o_E.2.2.2.2)

def f_Model_takeOperand (o_E : S_ME) : Option (Int32 × S_ME) :=
  gd (o_E.1 - 1) 400 <|
  some (o_E.2.2.2.1 (o_E.1 - 1).toNatClampNeg, (o_E.1 - 1, o_E.2))

def f_Model_waitFor (o_E : S_ME) (a1 : Int32) (a2 : Int32) : Option (S_ME) :=
  gd o_E.2.1 400 <|
  gd o_E.2.1 400 <|
  some (o_E.1, o_E.2.1 + 1, o_E.2.2.1, o_E.2.2.2.1, upd o_E.2.2.2.2.1 o_E.2.1.toNatClampNeg a1, upd o_E.2.2.2.2.2.1 o_E.2.1.toNatClampNeg a2, o_E.2.2.2.2.2.2)

def f_Model_expression (o_U : S_MU) (o_O : S_MO) (o_E : S_ME) : Option (S_MU × S_MO × S_ME) :=
  (f_Model_waitFor o_E (-1) 0).bind fun r1 =>
  (f_Model_push2 o_U 136 135).bind fun r2 =>
  some (r2, (o_O.1, o_O.2.1, o_O.2.2.1 + 1, o_O.2.2.2), r1)

def f_Model_signAt (o_L : S_ML) : Option (Int32) :=
  if o_L.2.1 = 30 then
    some 0
  else
  if o_L.2.1 = 31 then
    some 1
  else
  if o_L.2.1 = 32 then
    some 2
  else
  if o_L.2.1 = 33 then
    some 13
  else
  if o_L.2.1 = 34 then
    some (-1)
  else
  if o_L.2.1 = 35 then
    some (-1)
  else
  if o_L.2.1 = 36 then
    some (-1)
  else
  if o_L.2.1 = 37 then
    some (-1)
  else
  if o_L.2.1 = 38 then
    some (-1)
  else
  if o_L.2.1 = 39 then
    some (-1)
  else
  if o_L.2.1 = 40 then
    some (-1)
  else
  if o_L.2.1 = 41 then
    some (-1)
  else
  if o_L.2.1 = 42 then
    some (-1)
  else
  if o_L.2.1 = 43 then
    some (-1)
  else
  if o_L.2.1 = 44 then
    some (-1)
  else
  if o_L.2.1 = 45 then
    some (-1)
  else
  if o_L.2.1 = 46 then
    some (-1)
  else
  if o_L.2.1 = 47 then
    some (-1)
  else
  if o_L.2.1 = 48 then
    some (-1)
  else
  if o_L.2.1 = 49 then
    some (-1)
  else
  if o_L.2.1 = 50 then
    some (-1)
  else
  if o_L.2.1 = 51 then
    some (-1)
  else
  if o_L.2.1 = 52 then
    some 7
  else
  if o_L.2.1 = 53 then
    some 8
  else
  if o_L.2.1 = 54 then
    some 4
  else
  if o_L.2.1 = 55 then
    some (-1)
  else
  if o_L.2.1 = 56 then
    some (-1)
  else
  if o_L.2.1 = 57 then
    some (-1)
  else
  if o_L.2.1 = 58 then
    some (-1)
  else
  if o_L.2.1 = 59 then
    some (-1)
  else
  if o_L.2.1 = 60 then
    some (-1)
  else
  if o_L.2.1 = 61 then
    some (-1)
  else
  if o_L.2.1 = 62 then
    some (-1)
  else
  if o_L.2.1 = 63 then
    some 9
  else
  if o_L.2.1 = 64 then
    some 10
  else
  if o_L.2.1 = 65 then
    some 11
  else
  if o_L.2.1 = 66 then
    some 12
  else
  if o_L.2.1 = 67 then
    some 3
  else
  if o_L.2.1 = 68 then
    some 5
  else
  if o_L.2.1 = 69 then
    some 6
  else
  if o_L.2.1 = 70 then
    some 2
  else
  some (-1)

def f_Model_closeness (a1 : Int32) : Option (Int32) :=
  if 3 ≤ a1 then
    if 5 ≤ a1 then
      if 9 ≤ a1 then
        if 11 ≤ a1 then
          if 20 ≤ a1 then
            some 7
          else
            some 6
        else
          some 5
      else
        some 4
    else
      some 3
  else
    some a1

def f_Model_settle (o_T : S_MT) (o_O : S_MO) (o_E : S_ME) : Option (S_MT × S_MO × S_ME) :=
  gd (o_E.2.1 - 1) 400 <|
  nm (o_E.2.2.2.2.1 (o_E.2.1 - 1).toNatClampNeg) fun x2 =>
  (f_Model_takeOperand (o_E.1, o_E.2.1 - 1, o_E.2.2)).bind fun r3 =>
  if 20 ≤ x2 then
    gd r3.2.2.1 400 <|
    if 20 ≤ x2 then
      (f_Model_make o_T 36 (r3.2.2.2.2.2.2.1 r3.2.2.1.toNatClampNeg) (x2 - 20)).bind fun r7 =>
      if 20 ≤ x2 then
        (f_Model_hang r7.2 r3.1 r7.1).bind fun r9 =>
        (f_Model_putOperand r3.2 r7.1).bind fun r10 =>
        some (r9, (o_O.1 - 1, o_O.2), r10)
      else
        (f_Model_takeOperand r3.2).bind fun r11 =>
        (f_Model_hang r7.2 r11.1 r7.1).bind fun r12 =>
        (f_Model_hang r12 r3.1 r7.1).bind fun r13 =>
        (f_Model_putOperand r11.2 r7.1).bind fun r14 =>
        some (r13, o_O, r14)
    else
      (f_Model_make o_T 36 (r3.2.2.2.2.2.2.1 r3.2.2.1.toNatClampNeg) x2).bind fun r15 =>
      if 20 ≤ x2 then
        (f_Model_hang r15.2 r3.1 r15.1).bind fun r17 =>
        (f_Model_putOperand r3.2 r15.1).bind fun r18 =>
        some (r17, (o_O.1 - 1, o_O.2), r18)
      else
        (f_Model_takeOperand r3.2).bind fun r19 =>
        (f_Model_hang r15.2 r19.1 r15.1).bind fun r20 =>
        (f_Model_hang r20 r3.1 r15.1).bind fun r21 =>
        (f_Model_putOperand r19.2 r15.1).bind fun r22 =>
        some (r21, o_O, r22)
  else
    gd r3.2.2.1 400 <|
    if 20 ≤ x2 then
      (f_Model_make o_T 35 (r3.2.2.2.2.2.2.1 r3.2.2.1.toNatClampNeg) (x2 - 20)).bind fun r25 =>
      if 20 ≤ x2 then
        (f_Model_hang r25.2 r3.1 r25.1).bind fun r27 =>
        (f_Model_putOperand r3.2 r25.1).bind fun r28 =>
        some (r27, (o_O.1 - 1, o_O.2), r28)
      else
        (f_Model_takeOperand r3.2).bind fun r29 =>
        (f_Model_hang r25.2 r29.1 r25.1).bind fun r30 =>
        (f_Model_hang r30 r3.1 r25.1).bind fun r31 =>
        (f_Model_putOperand r29.2 r25.1).bind fun r32 =>
        some (r31, o_O, r32)
    else
      (f_Model_make o_T 35 (r3.2.2.2.2.2.2.1 r3.2.2.1.toNatClampNeg) x2).bind fun r33 =>
      if 20 ≤ x2 then
        (f_Model_hang r33.2 r3.1 r33.1).bind fun r35 =>
        (f_Model_putOperand r3.2 r33.1).bind fun r36 =>
        some (r35, (o_O.1 - 1, o_O.2), r36)
      else
        (f_Model_takeOperand r3.2).bind fun r37 =>
        (f_Model_hang r33.2 r37.1 r33.1).bind fun r38 =>
        (f_Model_hang r38 r3.1 r33.1).bind fun r39 =>
        (f_Model_putOperand r37.2 r33.1).bind fun r40 =>
        some (r39, o_O, r40)

def f_Model_operandCame_L5 : Nat → S_MT → S_MO → S_ME → Option (S_MT × S_MO × S_ME)
  | 0, _, _, _ => none
  | n + 1, o_T_L5, o_O_L5, o_E_L5 =>
    gd (o_E_L5.2.1 - 1) 400 <|
    if (o_E_L5.2.2.2.2.1 (o_E_L5.2.1 - 1).toNatClampNeg) < 20 then
      some (o_T_L5, o_O_L5, o_E_L5)
    else
      (f_Model_settle o_T_L5 o_O_L5 o_E_L5).bind fun r1153 =>
      f_Model_operandCame_L5 n r1153.1 r1153.2.1 r1153.2.2
def f_Model_operandCame (o_T : S_MT) (o_O : S_MO) (o_E : S_ME) (a1 : Int32) : Option (S_MT × S_MO × S_ME) :=
  (f_Model_putOperand o_E a1).bind fun r1 =>
  (f_Model_operandCame_L5 FU o_T o_O r1).bind fun r2 =>
  some (r2.1, r2.2.1, r2.2.2)

def f_Model_anOperand (o_C : S_MC) (o_X : S_MX) (o_L : S_ML) (o_N : S_MN) (o_T : S_MT) (o_U : S_MU) (o_O : S_MO) (o_E : S_ME) : Option (S_ML × S_MN × S_MT × S_MU × S_MO × S_ME) :=
  if o_L.2.1 = 64 then
    (f_Model_opens o_L o_O).bind fun r2 =>
    if r2.1 = 0 then
      some (r2.2.1, o_N, o_T, o_U, r2.2.2, o_E)
    else
      if r2.2.1.2.1 = 64 then
        (f_Model_waitFor o_E 20 r2.2.1.1).bind fun r8 =>
        (f_Model_push o_U 135).bind fun r9 =>
        (f_Model_step o_C o_X r2.2.1 o_N).bind fun r10 =>
        some (r10.1, r10.2, o_T, r9, r2.2.2, r8)
      else
        (f_Model_waitFor o_E 21 r2.2.1.1).bind fun r5 =>
        (f_Model_push o_U 135).bind fun r6 =>
        (f_Model_step o_C o_X r2.2.1 o_N).bind fun r7 =>
        some (r7.1, r7.2, o_T, r6, r2.2.2, r5)
  else
    if o_L.2.1 = 34 then
      (f_Model_opens o_L o_O).bind fun r42 =>
      if r42.1 = 0 then
        some (r42.2.1, o_N, o_T, o_U, r42.2.2, o_E)
      else
        if r42.2.1.2.1 = 64 then
          (f_Model_waitFor o_E 20 r42.2.1.1).bind fun r48 =>
          (f_Model_push o_U 135).bind fun r49 =>
          (f_Model_step o_C o_X r42.2.1 o_N).bind fun r50 =>
          some (r50.1, r50.2, o_T, r49, r42.2.2, r48)
        else
          (f_Model_waitFor o_E 21 r42.2.1.1).bind fun r45 =>
          (f_Model_push o_U 135).bind fun r46 =>
          (f_Model_step o_C o_X r42.2.1 o_N).bind fun r47 =>
          some (r47.1, r47.2, o_T, r46, r42.2.2, r45)
    else
      if o_L.2.1 = 81 then
        (f_Model_make o_T 30 o_L.1 o_L.2.2.1).bind fun r39 =>
        (f_Model_operandCame r39.2 o_O o_E r39.1).bind fun r40 =>
        (f_Model_step o_C o_X o_L o_N).bind fun r41 =>
        some (r41.1, r41.2, r40.1, o_U, r40.2.1, r40.2.2)
      else
        if o_L.2.1 = 35 then
          if o_L.2.1 = 35 then
            (f_Model_make o_T 31 o_L.1 1).bind fun r18 =>
            (f_Model_operandCame r18.2 o_O o_E r18.1).bind fun r19 =>
            (f_Model_step o_C o_X o_L o_N).bind fun r20 =>
            some (r20.1, r20.2, r19.1, o_U, r19.2.1, r19.2.2)
          else
            (f_Model_make o_T 31 o_L.1 0).bind fun r15 =>
            (f_Model_operandCame r15.2 o_O o_E r15.1).bind fun r16 =>
            (f_Model_step o_C o_X o_L o_N).bind fun r17 =>
            some (r17.1, r17.2, r16.1, o_U, r16.2.1, r16.2.2)
        else
          if o_L.2.1 = 36 then
            if o_L.2.1 = 35 then
              (f_Model_make o_T 31 o_L.1 1).bind fun r36 =>
              (f_Model_operandCame r36.2 o_O o_E r36.1).bind fun r37 =>
              (f_Model_step o_C o_X o_L o_N).bind fun r38 =>
              some (r38.1, r38.2, r37.1, o_U, r37.2.1, r37.2.2)
            else
              (f_Model_make o_T 31 o_L.1 0).bind fun r33 =>
              (f_Model_operandCame r33.2 o_O o_E r33.1).bind fun r34 =>
              (f_Model_step o_C o_X o_L o_N).bind fun r35 =>
              some (r35.1, r35.2, r34.1, o_U, r34.2.1, r34.2.2)
          else
            if o_L.2.1 = 55 then
              (f_Model_opens o_L o_O).bind fun r28 =>
              if r28.1 = 0 then
                some (r28.2.1, o_N, o_T, o_U, r28.2.2, o_E)
              else
                (f_Model_push2 o_U 138 134).bind fun r30 =>
                (f_Model_step o_C o_X r28.2.1 o_N).bind fun r31 =>
                some (r31.1, r31.2, o_T, r30, r28.2.2, o_E)
            else
              if o_L.2.1 = 80 then
                (f_Model_keepName o_L o_O).bind fun r25 =>
                (f_Model_push o_U 139).bind fun r26 =>
                (f_Model_step o_C o_X o_L o_N).bind fun r27 =>
                some (r27.1, r27.2, o_T, r26, r25, o_E)
              else
                (f_Model_wrong o_L).bind fun r24 =>
                some (r24, o_N, o_T, o_U, o_O, o_E)

def f_Model_groupEnd (o_C : S_MC) (o_X : S_MX) (o_L : S_ML) (o_N : S_MN) (o_T : S_MT) (o_O : S_MO) (o_E : S_ME) : Option (S_ML × S_MN × S_MT × S_MO × S_ME) :=
  (f_Model_takeOperand o_E).bind fun r1 =>
  (f_Model_operandCame o_T (o_O.1 - 1, o_O.2) r1.2 r1.1).bind fun r2 =>
  (f_Model_pass o_C o_X o_L o_N 56).bind fun r3 =>
  some (r3.1, r3.2, r2.1, r2.2.1, r2.2.2)

def f_Model_start (o_T : S_MT) (o_O : S_MO) (o_E : S_ME) (a1 : Int32) : Option (S_MT × S_ME) :=
  (f_Model_make o_T a1 o_O.2.2.2.1 o_O.2.2.2.2.1).bind fun r1 =>
  gd o_E.2.2.1 400 <|
  some (r1.2, (o_E.1, o_E.2.1, o_E.2.2.1 + 1, o_E.2.2.2.1, o_E.2.2.2.2.1, o_E.2.2.2.2.2.1, upd o_E.2.2.2.2.2.2 o_E.2.2.1.toNatClampNeg r1.1))

def f_Model_behindOperand (o_C : S_MC) (o_X : S_MX) (o_L : S_ML) (o_N : S_MN) (o_T : S_MT) (o_U : S_MU) (o_O : S_MO) (o_E : S_ME) : Option (S_ML × S_MN × S_MT × S_MU × S_MO × S_ME) :=
  if o_L.2.1 = 57 then
    (f_Model_opens o_L o_O).bind fun r14 =>
    if r14.1 = 0 then
      some (r14.2.1, o_N, o_T, o_U, r14.2.2, o_E)
    else
      (f_Model_start o_T r14.2.2 o_E 32).bind fun r16 =>
      (f_Model_push2 o_U 140 134).bind fun r17 =>
      (f_Model_step o_C o_X r14.2.1 o_N).bind fun r18 =>
      some (r18.1, r18.2, r16.1, r17, r14.2.2, r16.2)
  else
    if o_L.2.1 = 62 then
      (f_Model_start o_T o_O o_E 33).bind fun r11 =>
      (f_Model_push o_U 141).bind fun r12 =>
      (f_Model_step o_C o_X o_L o_N).bind fun r13 =>
      some (r13.1, r13.2, r11.1, r12, o_O, r11.2)
    else
      if o_L.2.1 = 55 then
        (f_Model_opens o_L o_O).bind fun r6 =>
        if r6.1 = 0 then
          some (r6.2.1, o_N, o_T, o_U, r6.2.2, o_E)
        else
          (f_Model_start o_T r6.2.2 o_E 34).bind fun r8 =>
          (f_Model_push2 o_U 143 142).bind fun r9 =>
          (f_Model_step o_C o_X r6.2.1 o_N).bind fun r10 =>
          some (r10.1, r10.2, r8.1, r9, r6.2.2, r8.2)
      else
        (f_Model_make o_T 6 o_O.2.2.2.1 o_O.2.2.2.2.1).bind fun r4 =>
        (f_Model_operandCame r4.2 o_O o_E r4.1).bind fun r5 =>
        some (o_L, o_N, r5.1, o_U, r5.2.1, r5.2.2)

def f_Model_finish (o_T : S_MT) (o_O : S_MO) (o_E : S_ME) : Option (S_MT × S_MO × S_ME) :=
  gd (o_E.2.2.1 - 1) 400 <|
  (f_Model_operandCame o_T o_O (o_E.1, o_E.2.1, o_E.2.2.1 - 1, o_E.2.2.2) (o_E.2.2.2.2.2.2 (o_E.2.2.1 - 1).toNatClampNeg)).bind fun r2 =>
  some (r2.1, r2.2.1, r2.2.2)

def f_Model_argument (o_T : S_MT) (o_E : S_ME) : Option (S_MT × S_ME) :=
  (f_Model_takeOperand o_E).bind fun r1 =>
  gd (r1.2.2.2.1 - 1) 400 <|
  (f_Model_hang o_T r1.1 (r1.2.2.2.2.2.2.2 (r1.2.2.2.1 - 1).toNatClampNeg)).bind fun r3 =>
  some (r3, r1.2)

def f_Model_elementEnd (o_C : S_MC) (o_X : S_MX) (o_L : S_ML) (o_N : S_MN) (o_T : S_MT) (o_O : S_MO) (o_E : S_ME) : Option (S_ML × S_MN × S_MT × S_MO × S_ME) :=
  (f_Model_argument o_T o_E).bind fun r1 =>
  (f_Model_finish r1.1 (o_O.1 - 1, o_O.2) r1.2).bind fun r2 =>
  (f_Model_pass o_C o_X o_L o_N 58).bind fun r3 =>
  some (r3.1, r3.2, r2.1, r2.2.1, r2.2.2)

def f_Model_output (o_C : S_MC) (o_X : S_MX) (o_L : S_ML) (o_N : S_MN) (o_T : S_MT) (o_O : S_MO) (o_E : S_ME) : Option (S_ML × S_MN × S_MT × S_MO × S_ME) :=
  (f_Model_make o_T 6 o_L.1 o_L.2.2.1).bind fun r1 =>
  gd (o_E.2.2.1 - 1) 400 <|
  (f_Model_hang r1.2 r1.1 (o_E.2.2.2.2.2.2 (o_E.2.2.1 - 1).toNatClampNeg)).bind fun r3 =>
  (f_Model_finish r3 o_O o_E).bind fun r4 =>
  (f_Model_pass o_C o_X o_L o_N 80).bind fun r5 =>
  some (r5.1, r5.2, r4.1, r4.2.1, r4.2.2)

def f_Model_resultEnd (o_C : S_MC) (o_X : S_MX) (o_L : S_ML) (o_N : S_MN) (o_T : S_MT) (o_O : S_MO) (o_E : S_ME) : Option (S_ML × S_MN × S_MT × S_MO × S_ME) :=
  (f_Model_finish o_T (o_O.1 - 1, o_O.2) o_E).bind fun r1 =>
  (f_Model_pass o_C o_X o_L o_N 56).bind fun r2 =>
  some (r2.1, r2.2, r1.1, r1.2.1, r1.2.2)
