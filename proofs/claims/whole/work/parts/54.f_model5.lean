def f_Model_signRest_L92 : Nat → S_MT → S_MO → S_ME → Option (S_MT × S_MO × S_ME)
  | 0, _, _, _ => none
  | n + 1, o_T_L92, o_O_L92, o_E_L92 =>
    gd (o_E_L92.2.1 - 1) 400 <|
    if (o_E_L92.2.2.2.2.1 (o_E_L92.2.1 - 1).toNatClampNeg) < 0 then
      some (o_T_L92, o_O_L92, o_E_L92)
    else
      (f_Model_settle o_T_L92 o_O_L92 o_E_L92).bind fun r2023 =>
      f_Model_signRest_L92 n r2023.1 r2023.2.1 r2023.2.2
def f_Model_signRest_L26 (w1_L26 : Int32) : Nat → S_MT → S_MO → S_ME → Option (S_MT × S_MO × S_ME)
  | 0, _, _, _ => none
  | n + 1, o_T_L26, o_O_L26, o_E_L26 =>
    gd (o_E_L26.2.1 - 1) 400 <|
    if (o_E_L26.2.2.2.2.1 (o_E_L26.2.1 - 1).toNatClampNeg) < 0 then
      some (o_T_L26, o_O_L26, o_E_L26)
    else
      gd (o_E_L26.2.1 - 1) 400 <|
      (f_Model_closeness (o_E_L26.2.2.2.2.1 (o_E_L26.2.1 - 1).toNatClampNeg)).bind fun r1364 =>
      (f_Model_closeness w1_L26).bind fun r1365 =>
      if r1364 < r1365 then
        some (o_T_L26, o_O_L26, o_E_L26)
      else
        (f_Model_settle o_T_L26 o_O_L26 o_E_L26).bind fun r1367 =>
        f_Model_signRest_L26 w1_L26 n r1367.1 r1367.2.1 r1367.2.2
def f_Model_signRest (o_C : S_MC) (o_X : S_MX) (o_L : S_ML) (o_N : S_MN) (o_T : S_MT) (o_U : S_MU) (o_O : S_MO) (o_E : S_ME) : Option (S_ML × S_MN × S_MT × S_MU × S_MO × S_ME) :=
  (f_Model_signAt o_L).bind fun r1 =>
  if r1 < 0 then
    (f_Model_signRest_L92 FU o_T o_O o_E).bind fun r3 =>
    if (r3.2.1.2.2.1 - 1) = 0 then
      some (o_L, o_N, r3.1, o_U, (r3.2.1.1 - r3.2.1.2.1, 0, r3.2.1.2.2.1 - 1, r3.2.1.2.2.2), (r3.2.2.1, r3.2.2.2.1 - 1, r3.2.2.2.2))
    else
      some (o_L, o_N, r3.1, o_U, (r3.2.1.1, r3.2.1.2.1, r3.2.1.2.2.1 - 1, r3.2.1.2.2.2), (r3.2.2.1, r3.2.2.2.1 - 1, r3.2.2.2.2))
  else
    (f_Model_opens o_L o_O).bind fun r5 =>
    if r5.1 = 0 then
      some (r5.2.1, o_N, o_T, o_U, r5.2.2, o_E)
    else
      (f_Model_signRest_L26 r1 FU o_T (r5.2.2.1, r5.2.2.2.1 + 1, r5.2.2.2.2) o_E).bind fun r7 =>
      (f_Model_waitFor r7.2.2 r1 r5.2.1.1).bind fun r8 =>
      (f_Model_push2 o_U 136 135).bind fun r9 =>
      (f_Model_step o_C o_X r5.2.1 o_N).bind fun r10 =>
      some (r10.1, r10.2, r7.1, r9, r7.2.1, r8)

def f_Model_cell (o_C : S_MC) (o_X : S_MX) (o_L : S_ML) (o_N : S_MN) (o_T : S_MT) (o_U : S_MU) : Option (S_ML × S_MN × S_MT × S_MU) :=
  if o_L.2.1 = 66 then
    (f_Model_down o_T 25 o_L.1 1).bind fun r37 =>
    (f_Model_push2 o_U 101 155).bind fun r38 =>
    (f_Model_step o_C o_X o_L o_N).bind fun r40 =>
    some (r40.1, r40.2, r37, r38)
  else
    if o_L.2.1 = 69 then
      (f_Model_down o_T 25 o_L.1 2).bind fun r32 =>
      (f_Model_push2 o_U 101 155).bind fun r33 =>
      (f_Model_step o_C o_X o_L o_N).bind fun r35 =>
      some (r35.1, r35.2, r32, r33)
    else
      if o_L.2.1 = 68 then
        (f_Model_down o_T 25 o_L.1 3).bind fun r27 =>
        (f_Model_push2 o_U 101 155).bind fun r28 =>
        (f_Model_step o_C o_X o_L o_N).bind fun r30 =>
        some (r30.1, r30.2, r27, r28)
      else
        if o_L.2.1 = 80 then
          (f_Model_down o_T 25 o_L.1 0).bind fun r23 =>
          (f_Model_push2 o_U 101 155).bind fun r24 =>
          some (o_L, o_N, r23, r24)
        else
          if o_L.2.1 = 64 then
            if o_L.2.1 = 64 then
              (f_Model_leaf o_T 26 o_L.1 0).bind fun r10 =>
              (f_Model_step o_C o_X o_L o_N).bind fun r11 =>
              some (r11.1, r11.2, r10, o_U)
            else
              (f_Model_leaf o_T 27 o_L.1 0).bind fun r8 =>
              (f_Model_step o_C o_X o_L o_N).bind fun r9 =>
              some (r9.1, r9.2, r8, o_U)
          else
            if o_L.2.1 = 65 then
              if o_L.2.1 = 64 then
                (f_Model_leaf o_T 26 o_L.1 0).bind fun r21 =>
                (f_Model_step o_C o_X o_L o_N).bind fun r22 =>
                some (r22.1, r22.2, r21, o_U)
              else
                (f_Model_leaf o_T 27 o_L.1 0).bind fun r19 =>
                (f_Model_step o_C o_X o_L o_N).bind fun r20 =>
                some (r20.1, r20.2, r19, o_U)
            else
              if o_L.2.1 = 55 then
                (f_Model_down o_T 28 o_L.1 0).bind fun r15 =>
                (f_Model_push4 o_U 101 56 158 157).bind fun r16 =>
                (f_Model_step o_C o_X o_L o_N).bind fun r17 =>
                some (r17.1, r17.2, r15, r16)
              else
                (f_Model_wrong o_L).bind fun r14 =>
                some (r14, o_N, o_T, o_U)

def f_Model_contact (o_C : S_MC) (o_X : S_MX) (o_L : S_ML) (o_N : S_MN) (o_U : S_MU) (o_O : S_MO) : Option (S_ML × S_MN × S_MU × S_MO) :=
  (f_Model_keepName o_L o_O).bind fun r1 =>
  (f_Model_push o_U 156).bind fun r2 =>
  (f_Model_pass o_C o_X o_L o_N 80).bind fun r3 =>
  some (r3.1, r3.2, r2, r1)

def f_Model_behindContact (o_C : S_MC) (o_X : S_MX) (o_L : S_ML) (o_N : S_MN) (o_T : S_MT) (o_U : S_MU) (o_O : S_MO) : Option (S_ML × S_MN × S_MT × S_MU) :=
  if o_L.2.1 = 62 then
    (f_Model_down o_T 33 o_O.2.2.2.1 o_O.2.2.2.2.1).bind fun r3 =>
    (f_Model_push2 o_U 101 158).bind fun r4 =>
    (f_Model_step o_C o_X o_L o_N).bind fun r5 =>
    some (r5.1, r5.2, r3, r4)
  else
    (f_Model_leaf o_T 6 o_O.2.2.2.1 o_O.2.2.2.2.1).bind fun r2 =>
    some (o_L, o_N, r2, o_U)

def f_Model_coil (o_C : S_MC) (o_X : S_MX) (o_L : S_ML) (o_N : S_MN) (o_T : S_MT) : Option (S_ML × S_MN × S_MT) :=
  if o_L.2.1 = 66 then
    gd o_T.2.1 20000 <|
    (f_Model_step o_C o_X o_L o_N).bind fun r14 =>
    some (r14.1, r14.2, (o_T.1, o_T.2.1, o_T.2.2.1, o_T.2.2.2.1, upd o_T.2.2.2.2.1 o_T.2.1.toNatClampNeg 1, o_T.2.2.2.2.2))
  else
    if o_L.2.1 = 63 then
      gd o_T.2.1 20000 <|
      (f_Model_step o_C o_X o_L o_N).bind fun r11 =>
      some (r11.1, r11.2, (o_T.1, o_T.2.1, o_T.2.2.1, o_T.2.2.2.1, upd o_T.2.2.2.2.1 o_T.2.1.toNatClampNeg 2, o_T.2.2.2.2.2))
    else
      if o_L.2.1 = 64 then
        gd o_T.2.1 20000 <|
        (f_Model_step o_C o_X o_L o_N).bind fun r8 =>
        some (r8.1, r8.2, (o_T.1, o_T.2.1, o_T.2.2.1, o_T.2.2.2.1, upd o_T.2.2.2.2.1 o_T.2.1.toNatClampNeg 3, o_T.2.2.2.2.2))
      else
        gd o_T.2.1 20000 <|
        some (o_L, o_N, (o_T.1, o_T.2.1, o_T.2.2.1, o_T.2.2.2.1, upd o_T.2.2.2.2.1 o_T.2.1.toNatClampNeg 0, o_T.2.2.2.2.2))

def f_Model_moreCells (o_C : S_MC) (o_X : S_MX) (o_L : S_ML) (o_N : S_MN) (o_T : S_MT) (o_U : S_MU) : Option (S_ML × S_MN × S_MT × S_MU) :=
  if o_L.2.1 = 71 then
    (f_Model_leaf o_T 29 o_L.1 0).bind fun r5 =>
    (f_Model_push2 o_U 154 153).bind fun r6 =>
    (f_Model_step o_C o_X o_L o_N).bind fun r7 =>
    some (r7.1, r7.2, r5, r6)
  else
    (f_Model_isCell o_L).bind fun r2 =>
    if r2 = 0 then
      some (o_L, o_N, o_T, o_U)
    else
      (f_Model_push2 o_U 154 153).bind fun r4 =>
      some (o_L, o_N, o_T, r4)

def f_Model_actBlock (o_C : S_MC) (o_X : S_MX) (o_L : S_ML) (o_N : S_MN) (o_T : S_MT) (o_U : S_MU) (o_O : S_MO) (a1 : Int32) : Option (S_ML × S_MN × S_MT × S_MU × S_MO) :=
  if a1 = 100 then
    (f_Model_blocks o_C o_X o_L o_N o_T o_U).bind fun r2 =>
    some (r2.1, r2.2.1, r2.2.2.1, r2.2.2.2, o_O)
  else
  if a1 = 101 then
    (f_Model_up o_T).bind fun r4 =>
    some (o_L, o_N, r4, o_U, o_O)
  else
  if a1 = 102 then
    (f_Model_body o_C o_X o_L o_N o_T o_U).bind fun r6 =>
    some (r6.1, r6.2.1, r6.2.2.1, r6.2.2.2, o_O)
  else
  if a1 = 103 then
    (f_Model_sections o_C o_X o_L o_N o_T o_U).bind fun r8 =>
    some (r8.1, r8.2.1, r8.2.2.1, r8.2.2.2, o_O)
  else
  if a1 = 104 then
    (f_Model_simple o_C o_X o_L o_N o_T).bind fun r10 =>
    some (r10.1, r10.2.1, r10.2.2, o_U, o_O)
  else
  if a1 = 105 then
    (f_Model_title o_C o_X o_L o_N o_T).bind fun r12 =>
    some (r12.1, r12.2.1, r12.2.2, o_U, o_O)
  else
  if a1 = 106 then
    (f_Model_declarations o_L o_T o_U).bind fun r14 =>
    some (o_L, o_N, r14.1, r14.2, o_O)
  else
  if a1 = 107 then
    (f_Model_push o_U 111).bind fun r16 =>
    (f_Model_aName o_C o_X o_L o_N o_T).bind fun r17 =>
    some (r17.1, r17.2.1, r17.2.2, r16, o_O)
  else
  if a1 = 108 then
    (f_Model_perhaps o_C o_X o_L o_N o_U 10 (-1) 112).bind fun r19 =>
    some (r19.1, r19.2.1, o_T, r19.2.2, o_O)
  else
  if a1 = 109 then
    (f_Model_type o_C o_X o_L o_N o_T o_U).bind fun r21 =>
    some (r21.1, r21.2.1, r21.2.2.1, r21.2.2.2, o_O)
  else
  if a1 = 110 then
    (f_Model_perhaps o_C o_X o_L o_N o_U 50 (-1) 113).bind fun r23 =>
    some (r23.1, r23.2.1, o_T, r23.2.2, o_O)
  else
  if a1 = 111 then
    (f_Model_perhaps o_C o_X o_L o_N o_U 59 (-1) 107).bind fun r25 =>
    some (r25.1, r25.2.1, o_T, r25.2.2, o_O)
  else
  if a1 = 112 then
    (f_Model_leaf o_T 7 o_L.1 o_L.2.2.1).bind fun r27 =>
    (f_Model_pass o_C o_X o_L o_N 82).bind fun r28 =>
    some (r28.1, r28.2, r27, o_U, o_O)
  else
  if a1 = 113 then
    (f_Model_constant o_C o_X o_L o_N o_T o_U o_O).bind fun r30 =>
    some (r30.1, r30.2.1, r30.2.2.1, r30.2.2.2.1, r30.2.2.2.2)
  else
  (f_Model_lessNumber o_C o_X o_L o_N o_T o_O).bind fun r31 =>
  some (r31.1, r31.2.1, r31.2.2, o_U, o_O)

def f_Model_actStatement (o_C : S_MC) (o_X : S_MX) (o_L : S_ML) (o_N : S_MN) (o_T : S_MT) (o_U : S_MU) (o_O : S_MO) (a1 : Int32) : Option (S_ML × S_MN × S_MT × S_MU × S_MO) :=
  if a1 = 115 then
    (f_Model_statements o_C o_X o_L o_N o_T o_U o_O).bind fun r2 =>
    some (r2.1, r2.2.1, r2.2.2.1, r2.2.2.2.1, r2.2.2.2.2)
  else
  if a1 = 116 then
    (f_Model_behindName o_C o_X o_L o_N o_T o_U o_O).bind fun r4 =>
    some (r4.1, r4.2.1, r4.2.2.1, r4.2.2.2.1, r4.2.2.2.2)
  else
  if a1 = 117 then
    (f_Model_ifRest o_C o_X o_L o_N o_T o_U).bind fun r6 =>
    some (r6.1, r6.2.1, r6.2.2.1, r6.2.2.2, o_O)
  else
  if a1 = 118 then
    (f_Model_up o_T).bind fun r8 =>
    some (o_L, o_N, r8, o_U, (o_O.1 - 1, o_O.2))
  else
  if a1 = 119 then
    (f_Model_bodyBehind o_C o_X o_L o_N o_T o_U 17).bind fun r10 =>
    some (r10.1, r10.2.1, r10.2.2.1, r10.2.2.2, o_O)
  else
  if a1 = 120 then
    (f_Model_elseBody o_C o_X o_L o_N o_T o_U).bind fun r12 =>
    some (r12.1, r12.2.1, r12.2.2.1, r12.2.2.2, o_O)
  else
  if a1 = 121 then
    (f_Model_choices o_L o_T o_U).bind fun r14 =>
    some (o_L, o_N, r14.1, r14.2, o_O)
  else
  if a1 = 122 then
    (f_Model_bodyBehind o_C o_X o_L o_N o_T o_U 61).bind fun r16 =>
    some (r16.1, r16.2.1, r16.2.2.1, r16.2.2.2, o_O)
  else
  if a1 = 123 then
    (f_Model_range o_L o_T o_U).bind fun r18 =>
    some (o_L, o_N, r18.1, r18.2, o_O)
  else
  if a1 = 124 then
    (f_Model_perhaps o_C o_X o_L o_N o_U 59 124 123).bind fun r20 =>
    some (r20.1, r20.2.1, o_T, r20.2.2, o_O)
  else
  if a1 = 125 then
    (f_Model_perhaps o_C o_X o_L o_N o_U 51 (-1) 113).bind fun r22 =>
    some (r22.1, r22.2.1, o_T, r22.2.2, o_O)
  else
  if a1 = 126 then
    (f_Model_bodyBehind o_C o_X o_L o_N o_T o_U 26).bind fun r24 =>
    some (r24.1, r24.2.1, r24.2.2.1, r24.2.2.2, o_O)
  else
  if a1 = 127 then
    (f_Model_perhaps o_C o_X o_L o_N o_U 25 (-1) 113).bind fun r26 =>
    some (r26.1, r26.2.1, o_T, r26.2.2, o_O)
  else
  if a1 = 128 then
    (f_Model_assign o_C o_X o_L o_N o_T).bind fun r28 =>
    some (r28.1, r28.2.1, r28.2.2, o_U, o_O)
  else
  if a1 = 129 then
    (f_Model_indexEnd o_C o_X o_L o_N o_T o_O).bind fun r30 =>
    some (r30.1, r30.2.1, r30.2.2.1, o_U, r30.2.2.2)
  else
  if a1 = 130 then
    (f_Model_pass o_C o_X o_L o_N 56).bind fun r32 =>
    some (r32.1, r32.2, o_T, o_U, (o_O.1 - 1, o_O.2))
  else
  if a1 = 131 then
    if o_L.2.1 = 80 then
      (f_Model_push2 o_U 133 132).bind fun r35 =>
      some (o_L, o_N, o_T, r35, o_O)
    else
      some (o_L, o_N, o_T, o_U, o_O)
  else
  if a1 = 132 then
    (f_Model_parameter o_C o_X o_L o_N o_T o_U).bind fun r37 =>
    some (r37.1, r37.2.1, r37.2.2.1, r37.2.2.2, o_O)
  else
  (f_Model_perhaps o_C o_X o_L o_N o_U 59 133 132).bind fun r38 =>
  some (r38.1, r38.2.1, o_T, r38.2.2, o_O)

def f_Model_pushArgument (o_U : S_MU) : Option (S_MU) :=
  (f_Model_push2 o_U 144 145).bind fun r1 =>
  (f_Model_push r1 134).bind fun r2 =>
  some r2

def f_Model_actOperand (o_C : S_MC) (o_X : S_MX) (o_L : S_ML) (o_N : S_MN) (o_T : S_MT) (o_U : S_MU) (o_O : S_MO) (o_E : S_ME) (a1 : Int32) : Option (S_ML × S_MN × S_MT × S_MU × S_MO × S_ME) :=
  if a1 = 134 then
    (f_Model_expression o_U o_O o_E).bind fun r2 =>
    some (o_L, o_N, o_T, r2.1, r2.2.1, r2.2.2)
  else
  if a1 = 135 then
    (f_Model_anOperand o_C o_X o_L o_N o_T o_U o_O o_E).bind fun r4 =>
    some (r4.1, r4.2.1, r4.2.2.1, r4.2.2.2.1, r4.2.2.2.2.1, r4.2.2.2.2.2)
  else
  if a1 = 136 then
    (f_Model_signRest o_C o_X o_L o_N o_T o_U o_O o_E).bind fun r6 =>
    some (r6.1, r6.2.1, r6.2.2.1, r6.2.2.2.1, r6.2.2.2.2.1, r6.2.2.2.2.2)
  else
  if a1 = 137 then
    (f_Model_takeOperand o_E).bind fun r8 =>
    (f_Model_hang o_T r8.1 o_T.2.1).bind fun r9 =>
    some (o_L, o_N, r9, o_U, o_O, r8.2)
  else
  if a1 = 138 then
    (f_Model_groupEnd o_C o_X o_L o_N o_T o_O o_E).bind fun r11 =>
    some (r11.1, r11.2.1, r11.2.2.1, o_U, r11.2.2.2.1, r11.2.2.2.2)
  else
  if a1 = 139 then
    (f_Model_behindOperand o_C o_X o_L o_N o_T o_U o_O o_E).bind fun r13 =>
    some (r13.1, r13.2.1, r13.2.2.1, r13.2.2.2.1, r13.2.2.2.2.1, r13.2.2.2.2.2)
  else
  if a1 = 140 then
    (f_Model_elementEnd o_C o_X o_L o_N o_T o_O o_E).bind fun r15 =>
    some (r15.1, r15.2.1, r15.2.2.1, o_U, r15.2.2.2.1, r15.2.2.2.2)
  else
  if a1 = 141 then
    (f_Model_output o_C o_X o_L o_N o_T o_O o_E).bind fun r17 =>
    some (r17.1, r17.2.1, r17.2.2.1, o_U, r17.2.2.2.1, r17.2.2.2.2)
  else
  if a1 = 142 then
    (f_Model_isOperand o_L).bind fun r19 =>
    if r19 = 0 then
      some (o_L, o_N, o_T, o_U, o_O, o_E)
    else
      (f_Model_pushArgument o_U).bind fun r21 =>
      some (o_L, o_N, o_T, r21, o_O, o_E)
  else
  if a1 = 143 then
    (f_Model_resultEnd o_C o_X o_L o_N o_T o_O o_E).bind fun r23 =>
    some (r23.1, r23.2.1, r23.2.2.1, o_U, r23.2.2.2.1, r23.2.2.2.2)
  else
  if a1 = 144 then
    if o_L.2.1 = 59 then
      (f_Model_pushArgument o_U).bind fun r26 =>
      (f_Model_step o_C o_X o_L o_N).bind fun r27 =>
      some (r27.1, r27.2, o_T, r26, o_O, o_E)
    else
      some (o_L, o_N, o_T, o_U, o_O, o_E)
  else
  (f_Model_argument o_T o_E).bind fun r28 =>
  some (o_L, o_N, r28.1, o_U, o_O, r28.2)

def f_Model_actRung (o_C : S_MC) (o_X : S_MX) (o_L : S_ML) (o_N : S_MN) (o_T : S_MT) (o_U : S_MU) (o_O : S_MO) (a1 : Int32) : Option (S_ML × S_MN × S_MT × S_MU × S_MO) :=
  if a1 = 150 then
    if o_L.2.1 = 39 then
      (f_Model_down o_T 23 o_L.1 0).bind fun r3 =>
      (f_Model_push4 o_U 150 101 40 152).bind fun r4 =>
      (f_Model_push r4 151).bind fun r5 =>
      (f_Model_step o_C o_X o_L o_N).bind fun r6 =>
      some (r6.1, r6.2, r3, r5, o_O)
    else
      some (o_L, o_N, o_T, o_U, o_O)
  else
  if a1 = 151 then
    (f_Model_down o_T 24 o_L.1 0).bind fun r8 =>
    (f_Model_push4 o_U 101 60 154 153).bind fun r9 =>
    some (o_L, o_N, r8, r9, o_O)
  else
  if a1 = 152 then
    (f_Model_isCell o_L).bind fun r11 =>
    if r11 = 0 then
      some (o_L, o_N, o_T, o_U, o_O)
    else
      (f_Model_push2 o_U 152 151).bind fun r13 =>
      some (o_L, o_N, o_T, r13, o_O)
  else
  if a1 = 153 then
    (f_Model_cell o_C o_X o_L o_N o_T o_U).bind fun r15 =>
    some (r15.1, r15.2.1, r15.2.2.1, r15.2.2.2, o_O)
  else
  if a1 = 154 then
    (f_Model_moreCells o_C o_X o_L o_N o_T o_U).bind fun r17 =>
    some (r17.1, r17.2.1, r17.2.2.1, r17.2.2.2, o_O)
  else
  if a1 = 155 then
    (f_Model_contact o_C o_X o_L o_N o_U o_O).bind fun r19 =>
    some (r19.1, r19.2.1, o_T, r19.2.2.1, r19.2.2.2)
  else
  if a1 = 156 then
    (f_Model_behindContact o_C o_X o_L o_N o_T o_U o_O).bind fun r21 =>
    some (r21.1, r21.2.1, r21.2.2.1, r21.2.2.2, o_O)
  else
  if a1 = 157 then
    (f_Model_coil o_C o_X o_L o_N o_T).bind fun r23 =>
    some (r23.1, r23.2.1, r23.2.2, o_U, o_O)
  else
  (f_Model_aName o_C o_X o_L o_N o_T).bind fun r24 =>
  some (r24.1, r24.2.1, r24.2.2, o_U, o_O)

def f_Model_act (o_C : S_MC) (o_X : S_MX) (o_L : S_ML) (o_N : S_MN) (o_T : S_MT) (o_U : S_MU) (o_O : S_MO) (o_E : S_ME) (a1 : Int32) : Option (S_ML × S_MN × S_MT × S_MU × S_MO × S_ME) :=
  if 100 ≤ a1 then
    if 115 ≤ a1 then
      if 134 ≤ a1 then
        if 150 ≤ a1 then
          (f_Model_actRung o_C o_X o_L o_N o_T o_U o_O a1).bind fun r5 =>
          some (r5.1, r5.2.1, r5.2.2.1, r5.2.2.2.1, r5.2.2.2.2, o_E)
        else
          (f_Model_actOperand o_C o_X o_L o_N o_T o_U o_O o_E a1).bind fun r6 =>
          some (r6.1, r6.2.1, r6.2.2.1, r6.2.2.2.1, r6.2.2.2.2.1, r6.2.2.2.2.2)
      else
        (f_Model_actStatement o_C o_X o_L o_N o_T o_U o_O a1).bind fun r7 =>
        some (r7.1, r7.2.1, r7.2.2.1, r7.2.2.2.1, r7.2.2.2.2, o_E)
    else
      (f_Model_actBlock o_C o_X o_L o_N o_T o_U o_O a1).bind fun r8 =>
      some (r8.1, r8.2.1, r8.2.2.1, r8.2.2.2.1, r8.2.2.2.2, o_E)
  else
    (f_Model_pass o_C o_X o_L o_N a1).bind fun r9 =>
    some (r9.1, r9.2, o_T, o_U, o_O, o_E)

def f_Model_following_L19 (o_T_L19 : S_MT) : Nat → Int32 → Option (Int32)
  | 0, _ => none
  | n + 1, v2_L19 =>
    if v2_L19 = (-1) then
      some v2_L19
    else
      gd v2_L19 20000 <|
      if (o_T_L19.2.2.2.2.2.2.2.2 v2_L19.toNatClampNeg) = (-1) then
        gd v2_L19 20000 <|
        nm (o_T_L19.2.2.2.2.2.1 v2_L19.toNatClampNeg) fun x1295 =>
        f_Model_following_L19 o_T_L19 n x1295
      else
        some v2_L19
def f_Model_following (o_T : S_MT) (a1 : Int32) : Option (Int32) :=
  gd a1 20000 <|
  if (o_T.2.2.2.2.2.2.1 a1.toNatClampNeg) = (-1) then
    (f_Model_following_L19 o_T FU a1).bind fun r3 =>
    if r3 = (-1) then
      some (-1)
    else
      gd r3 20000 <|
      some (o_T.2.2.2.2.2.2.2.2 r3.toNatClampNeg)
  else
    gd a1 20000 <|
    some (o_T.2.2.2.2.2.2.1 a1.toNatClampNeg)

def f_Model_number_L7 (o_T_L7 : S_MT) : Nat → Int32 → S_MQ → Option (S_MQ)
  | 0, _, _ => none
  | n + 1, v1_L7, o_Q_L7 =>
    if v1_L7 = (-1) then
      some o_Q_L7
    else
      gd o_Q_L7.1 20000 <|
      gd v1_L7 20000 <|
      (f_Model_following o_T_L7 v1_L7).bind fun r1174 =>
      f_Model_number_L7 o_T_L7 n r1174 (o_Q_L7.1 + 1, upd o_Q_L7.2.1 o_Q_L7.1.toNatClampNeg v1_L7, upd o_Q_L7.2.2 v1_L7.toNatClampNeg o_Q_L7.1)
def f_Model_number (o_T : S_MT) (o_Q : S_MQ) : Option (S_MQ) :=
  (f_Model_number_L7 o_T FU 0 (0, o_Q.2)).bind fun r1 =>
  some r1

def f_Model_read_L98 (o_C_L98 : S_MC) (o_X_L98 : S_MX) : Nat → S_ML → S_MN → S_MT → S_MU → S_MO → S_ME → Option (S_ML × S_MN × S_MT × S_MU × S_MO × S_ME)
  | 0, _, _, _, _, _, _ => none
  | n + 1, o_L_L98, o_N_L98, o_T_L98, o_U_L98, o_O_L98, o_E_L98 =>
    if o_L_L98.2.2.2.2.2.1 = 0 then
      if o_U_L98.1 ≤ 0 then
        some (o_L_L98, o_N_L98, o_T_L98, o_U_L98, o_O_L98, o_E_L98)
      else
        gd (o_U_L98.1 - 1) 4000 <|
        (f_Model_act o_C_L98 o_X_L98 o_L_L98 o_N_L98 o_T_L98 (o_U_L98.1 - 1, o_U_L98.2) o_O_L98 o_E_L98 (o_U_L98.2 (o_U_L98.1 - 1).toNatClampNeg)).bind fun r2084 =>
        f_Model_read_L98 o_C_L98 o_X_L98 n r2084.1 r2084.2.1 r2084.2.2.1 r2084.2.2.2.1 r2084.2.2.2.2.1 r2084.2.2.2.2.2
    else
      some (o_L_L98, o_N_L98, o_T_L98, o_U_L98, o_O_L98, o_E_L98)
def f_Model_read (o_C : S_MC) (o_X : S_MX) (o_L : S_ML) (o_N : S_MN) (o_T : S_MT) (o_U : S_MU) (o_O : S_MO) (o_E : S_ME) (o_Q : S_MQ) : Option (Int32 × S_ML × S_MN × S_MT × S_MU × S_MO × S_ME × S_MQ) :=
  gd 0 8193 <|
  (f_Model_make (0, o_T.2) 0 0 0).bind fun r2 =>
  (f_Model_push (0, o_U.2) 100).bind fun r3 =>
  (f_Model_step o_C o_X (0, o_L.2.1, o_L.2.2.1, 0, o_L.2.2.2.2.1, 0, (-1)) (0, upd o_N.2.1 (0 : Int32).toNatClampNeg 0, o_N.2.2)).bind fun r4 =>
  (f_Model_read_L98 o_C o_X FU r4.1 r4.2 (r2.2.1, r2.1, r2.2.2.2) r3 (0, 0, 0, o_O.2.2.2) (0, 0, 0, o_E.2.2.2)).bind fun r5 =>
  if r5.1.2.2.2.2.2.1 = 0 then
    (f_Model_number r5.2.2.1 (0, o_Q.2)).bind fun r7 =>
    some (r5.1.2.2.2.2.2.1, r5.1, r5.2.1, r5.2.2.1, r5.2.2.2.1, r5.2.2.2.2.1, r5.2.2.2.2.2, r7)
  else
    some (r5.1.2.2.2.2.2.1, r5.1, (0, r5.2.1.2), r5.2.2.1, r5.2.2.2.1, r5.2.2.2.2.1, r5.2.2.2.2.2, (0, o_Q.2))
