def f_Model_step (o_C : S_MC) (o_X : S_MX) (o_L : S_ML) (o_N : S_MN) : Option (S_ML × S_MN) :=
  (f_Model_skip o_X (o_L.1, o_L.2.1, o_L.2.2.1, o_L.2.2.2.1, o_L.1, o_L.2.2.2.2.2)).bind fun r1 =>
  if o_X.1 ≤ r1.2.2.2.1 then
    if r1.2.2.2.2.2.1 ≤ 0 then
      (f_Model_at o_X o_X.1).bind fun r4 =>
      if r4 = (-1) then
        some ((o_X.1, 83, r1.2.2), o_N)
      else
        if r4 = 84 then
          (f_Model_at o_X (o_X.1 + 1)).bind fun r7 =>
          if r7 = 35 then
            (f_Model_readNumber o_X (o_X.1, r1.2) 1).bind fun r18 =>
            some (r18, o_N)
          else
            (f_Model_isLetter r4).bind fun r9 =>
            if r9 = 0 then
              (f_Model_isDigit r4).bind fun r11 =>
              if r11 = 0 then
                if r4 = 37 then
                  (f_Model_readPlace o_C o_X (o_X.1, r1.2)).bind fun r15 =>
                  some (r15, o_N)
                else
                  (f_Model_readSign o_C o_X (o_X.1, r1.2)).bind fun r14 =>
                  some (r14, o_N)
              else
                (f_Model_readNumber o_X (o_X.1, r1.2) 0).bind fun r16 =>
                some (r16, o_N)
            else
              (f_Model_readName o_C o_X (o_X.1, r1.2) o_N).bind fun r17 =>
              some (r17.1, r17.2)
        else
          if r4 = 116 then
            (f_Model_at o_X (o_X.1 + 1)).bind fun r29 =>
            if r29 = 35 then
              (f_Model_readNumber o_X (o_X.1, r1.2) 1).bind fun r40 =>
              some (r40, o_N)
            else
              (f_Model_isLetter r4).bind fun r31 =>
              if r31 = 0 then
                (f_Model_isDigit r4).bind fun r33 =>
                if r33 = 0 then
                  if r4 = 37 then
                    (f_Model_readPlace o_C o_X (o_X.1, r1.2)).bind fun r37 =>
                    some (r37, o_N)
                  else
                    (f_Model_readSign o_C o_X (o_X.1, r1.2)).bind fun r36 =>
                    some (r36, o_N)
                else
                  (f_Model_readNumber o_X (o_X.1, r1.2) 0).bind fun r38 =>
                  some (r38, o_N)
              else
                (f_Model_readName o_C o_X (o_X.1, r1.2) o_N).bind fun r39 =>
                some (r39.1, r39.2)
          else
            (f_Model_isLetter r4).bind fun r20 =>
            if r20 = 0 then
              (f_Model_isDigit r4).bind fun r22 =>
              if r22 = 0 then
                if r4 = 37 then
                  (f_Model_readPlace o_C o_X (o_X.1, r1.2)).bind fun r26 =>
                  some (r26, o_N)
                else
                  (f_Model_readSign o_C o_X (o_X.1, r1.2)).bind fun r25 =>
                  some (r25, o_N)
              else
                (f_Model_readNumber o_X (o_X.1, r1.2) 0).bind fun r27 =>
                some (r27, o_N)
            else
              (f_Model_readName o_C o_X (o_X.1, r1.2) o_N).bind fun r28 =>
              some (r28.1, r28.2)
    else
      some ((o_X.1, r1.2), o_N)
  else
    if r1.2.2.2.2.2.1 ≤ 0 then
      (f_Model_at o_X r1.2.2.2.1).bind fun r42 =>
      if r42 = (-1) then
        some ((r1.2.2.2.1, 83, r1.2.2), o_N)
      else
        if r42 = 84 then
          (f_Model_at o_X (r1.2.2.2.1 + 1)).bind fun r45 =>
          if r45 = 35 then
            (f_Model_readNumber o_X (r1.2.2.2.1, r1.2) 1).bind fun r56 =>
            some (r56, o_N)
          else
            (f_Model_isLetter r42).bind fun r47 =>
            if r47 = 0 then
              (f_Model_isDigit r42).bind fun r49 =>
              if r49 = 0 then
                if r42 = 37 then
                  (f_Model_readPlace o_C o_X (r1.2.2.2.1, r1.2)).bind fun r53 =>
                  some (r53, o_N)
                else
                  (f_Model_readSign o_C o_X (r1.2.2.2.1, r1.2)).bind fun r52 =>
                  some (r52, o_N)
              else
                (f_Model_readNumber o_X (r1.2.2.2.1, r1.2) 0).bind fun r54 =>
                some (r54, o_N)
            else
              (f_Model_readName o_C o_X (r1.2.2.2.1, r1.2) o_N).bind fun r55 =>
              some (r55.1, r55.2)
        else
          if r42 = 116 then
            (f_Model_at o_X (r1.2.2.2.1 + 1)).bind fun r67 =>
            if r67 = 35 then
              (f_Model_readNumber o_X (r1.2.2.2.1, r1.2) 1).bind fun r78 =>
              some (r78, o_N)
            else
              (f_Model_isLetter r42).bind fun r69 =>
              if r69 = 0 then
                (f_Model_isDigit r42).bind fun r71 =>
                if r71 = 0 then
                  if r42 = 37 then
                    (f_Model_readPlace o_C o_X (r1.2.2.2.1, r1.2)).bind fun r75 =>
                    some (r75, o_N)
                  else
                    (f_Model_readSign o_C o_X (r1.2.2.2.1, r1.2)).bind fun r74 =>
                    some (r74, o_N)
                else
                  (f_Model_readNumber o_X (r1.2.2.2.1, r1.2) 0).bind fun r76 =>
                  some (r76, o_N)
              else
                (f_Model_readName o_C o_X (r1.2.2.2.1, r1.2) o_N).bind fun r77 =>
                some (r77.1, r77.2)
          else
            (f_Model_isLetter r42).bind fun r58 =>
            if r58 = 0 then
              (f_Model_isDigit r42).bind fun r60 =>
              if r60 = 0 then
                if r42 = 37 then
                  (f_Model_readPlace o_C o_X (r1.2.2.2.1, r1.2)).bind fun r64 =>
                  some (r64, o_N)
                else
                  (f_Model_readSign o_C o_X (r1.2.2.2.1, r1.2)).bind fun r63 =>
                  some (r63, o_N)
              else
                (f_Model_readNumber o_X (r1.2.2.2.1, r1.2) 0).bind fun r65 =>
                some (r65, o_N)
            else
              (f_Model_readName o_C o_X (r1.2.2.2.1, r1.2) o_N).bind fun r66 =>
              some (r66.1, r66.2)
    else
      some ((r1.2.2.2.1, r1.2), o_N)

def f_Model_make (o_T : S_MT) (a1 : Int32) (a2 : Int32) (a3 : Int32) : Option (Int32 × S_MT) :=
  gd o_T.1 20000 <|
  gd o_T.1 20000 <|
  gd o_T.1 20000 <|
  gd o_T.1 20000 <|
  gd o_T.1 20000 <|
  gd o_T.1 20000 <|
  gd o_T.1 20000 <|
  some ((o_T.1 + 1) - 1, (o_T.1 + 1, o_T.2.1, upd o_T.2.2.1 o_T.1.toNatClampNeg a1, upd o_T.2.2.2.1 o_T.1.toNatClampNeg a2, upd o_T.2.2.2.2.1 o_T.1.toNatClampNeg a3, upd o_T.2.2.2.2.2.1 o_T.1.toNatClampNeg (-1), upd o_T.2.2.2.2.2.2.1 o_T.1.toNatClampNeg (-1), upd o_T.2.2.2.2.2.2.2.1 o_T.1.toNatClampNeg (-1), upd o_T.2.2.2.2.2.2.2.2 o_T.1.toNatClampNeg (-1)))

def f_Model_hang (o_T : S_MT) (a1 : Int32) (a2 : Int32) : Option (S_MT) :=
  gd a1 20000 <|
  gd a2 20000 <|
  if (o_T.2.2.2.2.2.2.1 a2.toNatClampNeg) = (-1) then
    gd a2 20000 <|
    gd a2 20000 <|
    some (o_T.1, o_T.2.1, o_T.2.2.1, o_T.2.2.2.1, o_T.2.2.2.2.1, upd o_T.2.2.2.2.2.1 a1.toNatClampNeg a2, upd o_T.2.2.2.2.2.2.1 a2.toNatClampNeg a1, upd o_T.2.2.2.2.2.2.2.1 a2.toNatClampNeg a1, o_T.2.2.2.2.2.2.2.2)
  else
    gd a2 20000 <|
    gd (o_T.2.2.2.2.2.2.2.1 a2.toNatClampNeg) 20000 <|
    gd a2 20000 <|
    some (o_T.1, o_T.2.1, o_T.2.2.1, o_T.2.2.2.1, o_T.2.2.2.2.1, upd o_T.2.2.2.2.2.1 a1.toNatClampNeg a2, o_T.2.2.2.2.2.2.1, upd o_T.2.2.2.2.2.2.2.1 a2.toNatClampNeg a1, upd o_T.2.2.2.2.2.2.2.2 (o_T.2.2.2.2.2.2.2.1 a2.toNatClampNeg).toNatClampNeg a1)

def f_Model_leaf (o_T : S_MT) (a1 : Int32) (a2 : Int32) (a3 : Int32) : Option (S_MT) :=
  (f_Model_make o_T a1 a2 a3).bind fun r1 =>
  (f_Model_hang r1.2 r1.1 r1.2.2.1).bind fun r2 =>
  some r2

def f_Model_down (o_T : S_MT) (a1 : Int32) (a2 : Int32) (a3 : Int32) : Option (S_MT) :=
  (f_Model_make o_T a1 a2 a3).bind fun r1 =>
  (f_Model_hang r1.2 r1.1 r1.2.2.1).bind fun r2 =>
  some (r2.1, r1.1, r2.2.2)

def f_Model_push (o_U : S_MU) (a1 : Int32) : Option (S_MU) :=
  gd o_U.1 4000 <|
  some (o_U.1 + 1, upd o_U.2 o_U.1.toNatClampNeg a1)

def f_Model_push2 (o_U : S_MU) (a1 : Int32) (a2 : Int32) : Option (S_MU) :=
  (f_Model_push o_U a1).bind fun r1 =>
  (f_Model_push r1 a2).bind fun r2 =>
  some r2

def f_Model_push4 (o_U : S_MU) (a1 : Int32) (a2 : Int32) (a3 : Int32) (a4 : Int32) : Option (S_MU) :=
  (f_Model_push2 o_U a1 a2).bind fun r1 =>
  (f_Model_push2 r1 a3 a4).bind fun r2 =>
  some r2

def f_Model_pushExpression (o_U : S_MU) : Option (S_MU) :=
  (f_Model_push2 o_U 137 134).bind fun r1 =>
  some r1

def f_Model_wrong (o_L : S_ML) : Option (S_ML) :=
  (f_Model_fail o_L 6 o_L.1).bind fun r1 =>
  some r1

def f_Model_pass (o_C : S_MC) (o_X : S_MX) (o_L : S_ML) (o_N : S_MN) (a1 : Int32) : Option (S_ML × S_MN) :=
  if o_L.2.1 = a1 then
    (f_Model_step o_C o_X o_L o_N).bind fun r3 =>
    some (r3.1, r3.2)
  else
    (f_Model_wrong o_L).bind fun r2 =>
    some (r2, o_N)

def f_Model_opens (o_L : S_ML) (o_O : S_MO) : Option (Int32 × S_ML × S_MO) :=
  if o_O.1 = 60 then
    (f_Model_fail o_L 7 o_L.1).bind fun r2 =>
    some (0, r2, o_O)
  else
    some (1, o_L, (o_O.1 + 1, o_O.2))

def f_Model_keepName (o_L : S_ML) (o_O : S_MO) : Option (S_MO) :=
  some (o_O.1, o_O.2.1, o_O.2.2.1, o_L.1, o_L.2.2.1, o_O.2.2.2.2.2)

def f_Model_isConstant (o_L : S_ML) : Option (Int32) :=
  if o_L.2.1 = 64 then
    some 1
  else
    if o_L.2.1 = 81 then
      some 1
    else
      if o_L.2.1 = 35 then
        some 1
      else
        if o_L.2.1 = 36 then
          some 1
        else
          some 0

def f_Model_isOperand (o_L : S_ML) : Option (Int32) :=
  (f_Model_isConstant o_L).bind fun r1 =>
  if r1 = 0 then
    if o_L.2.1 = 34 then
      some 1
    else
      if o_L.2.1 = 55 then
        some 1
      else
        if o_L.2.1 = 80 then
          some 1
        else
          some 0
  else
    some 1

def f_Model_isCell (o_L : S_ML) : Option (Int32) :=
  if o_L.2.1 = 66 then
    some 1
  else
    if o_L.2.1 = 69 then
      some 1
    else
      if o_L.2.1 = 68 then
        some 1
      else
        if o_L.2.1 = 80 then
          some 1
        else
          if o_L.2.1 = 64 then
            some 1
          else
            if o_L.2.1 = 65 then
              some 1
            else
              if o_L.2.1 = 55 then
                some 1
              else
                some 0

def f_Model_blocks (o_C : S_MC) (o_X : S_MX) (o_L : S_ML) (o_N : S_MN) (o_T : S_MT) (o_U : S_MU) : Option (S_ML × S_MN × S_MT × S_MU) :=
  if o_L.2.1 = 0 then
    (f_Model_down o_T 1 o_L.1 0).bind fun r26 =>
    (f_Model_push o_U 100).bind fun r27 =>
    (f_Model_push4 r27 101 1 102 103).bind fun r29 =>
    (f_Model_push2 r29 104 61).bind fun r31 =>
    (f_Model_push r31 105).bind fun r32 =>
    (f_Model_step o_C o_X o_L o_N).bind fun r33 =>
    some (r33.1, r33.2, r26, r32)
  else
    if o_L.2.1 = 2 then
      (f_Model_down o_T 2 o_L.1 0).bind fun r17 =>
      (f_Model_push o_U 100).bind fun r18 =>
      (f_Model_push4 r18 101 3 102 103).bind fun r21 =>
      (f_Model_push r21 105).bind fun r23 =>
      (f_Model_step o_C o_X o_L o_N).bind fun r24 =>
      some (r24.1, r24.2, r17, r23)
    else
      if o_L.2.1 = 4 then
        (f_Model_down o_T 3 o_L.1 0).bind fun r8 =>
        (f_Model_push o_U 100).bind fun r9 =>
        (f_Model_push4 r9 101 5 102 103).bind fun r12 =>
        (f_Model_push r12 105).bind fun r14 =>
        (f_Model_step o_C o_X o_L o_N).bind fun r15 =>
        some (r15.1, r15.2, r8, r14)
      else
        if o_L.2.1 = 83 then
          some (o_L, o_N, o_T, o_U)
        else
          (f_Model_wrong o_L).bind fun r6 =>
          some (r6, o_N, o_T, o_U)

def f_Model_title (o_C : S_MC) (o_X : S_MX) (o_L : S_ML) (o_N : S_MN) (o_T : S_MT) : Option (S_ML × S_MN × S_MT) :=
  gd o_T.2.1 20000 <|
  (f_Model_pass o_C o_X o_L o_N 80).bind fun r2 =>
  some (r2.1, r2.2, (o_T.1, o_T.2.1, o_T.2.2.1, o_T.2.2.2.1, upd o_T.2.2.2.2.1 o_T.2.1.toNatClampNeg o_L.2.2.1, o_T.2.2.2.2.2))

def f_Model_sections (o_C : S_MC) (o_X : S_MX) (o_L : S_ML) (o_N : S_MN) (o_T : S_MT) (o_U : S_MU) : Option (S_ML × S_MN × S_MT × S_MU) :=
  if o_L.2.1 < 6 then
    some (o_L, o_N, o_T, o_U)
  else
    if 8 < o_L.2.1 then
      some (o_L, o_N, o_T, o_U)
    else
      (f_Model_down o_T 4 o_L.1 (o_L.2.1 - 6)).bind fun r3 =>
      (f_Model_step o_C o_X o_L o_N).bind fun r4 =>
      (f_Model_push4 o_U 103 101 9 106).bind fun r5 =>
      some (r4.1, r4.2, r3, r5)

def f_Model_body (o_C : S_MC) (o_X : S_MX) (o_L : S_ML) (o_N : S_MN) (o_T : S_MT) (o_U : S_MU) : Option (S_ML × S_MN × S_MT × S_MU) :=
  if o_L.2.1 = 37 then
    (f_Model_down o_T 22 o_L.1 0).bind fun r4 =>
    (f_Model_step o_C o_X o_L o_N).bind fun r5 =>
    (f_Model_push2 o_U 101 38).bind fun r6 =>
    (f_Model_push r6 150).bind fun r7 =>
    some (r5.1, r5.2, r4, r7)
  else
    (f_Model_down o_T 11 o_L.2.2.2.2.1 0).bind fun r2 =>
    (f_Model_push2 o_U 101 115).bind fun r3 =>
    some (o_L, o_N, r2, r3)

def f_Model_bodyBehind (o_C : S_MC) (o_X : S_MX) (o_L : S_ML) (o_N : S_MN) (o_T : S_MT) (o_U : S_MU) (a1 : Int32) : Option (S_ML × S_MN × S_MT × S_MU) :=
  (f_Model_pass o_C o_X o_L o_N a1).bind fun r1 =>
  if r1.1.2.2.2.2.2.1 = 0 then
    (f_Model_down o_T 11 o_L.1 0).bind fun r3 =>
    (f_Model_push2 o_U 101 115).bind fun r4 =>
    some (r1.1, r1.2, r3, r4)
  else
    some (r1.1, r1.2, o_T, o_U)

def f_Model_declarations (o_L : S_ML) (o_T : S_MT) (o_U : S_MU) : Option (S_MT × S_MU) :=
  if o_L.2.1 = 80 then
    (f_Model_down o_T 5 o_L.1 0).bind fun r2 =>
    (f_Model_push4 o_U 106 101 60 110).bind fun r3 =>
    (f_Model_push4 r3 109 61 108 107).bind fun r4 =>
    some (r2, r4)
  else
    some (o_T, o_U)

def f_Model_aName (o_C : S_MC) (o_X : S_MX) (o_L : S_ML) (o_N : S_MN) (o_T : S_MT) : Option (S_ML × S_MN × S_MT) :=
  (f_Model_leaf o_T 6 o_L.1 o_L.2.2.1).bind fun r1 =>
  (f_Model_pass o_C o_X o_L o_N 80).bind fun r2 =>
  some (r2.1, r2.2, r1)

def f_Model_simple (o_C : S_MC) (o_X : S_MX) (o_L : S_ML) (o_N : S_MN) (o_T : S_MT) : Option (S_ML × S_MN × S_MT) :=
  if o_L.2.1 < 11 then
    (f_Model_wrong o_L).bind fun r2 =>
    some (r2, o_N, o_T)
  else
    if 13 < o_L.2.1 then
      (f_Model_wrong o_L).bind fun r4 =>
      some (r4, o_N, o_T)
    else
      (f_Model_leaf o_T 8 o_L.1 (o_L.2.1 - 11)).bind fun r5 =>
      (f_Model_step o_C o_X o_L o_N).bind fun r6 =>
      some (r6.1, r6.2, r5)

def f_Model_type (o_C : S_MC) (o_X : S_MX) (o_L : S_ML) (o_N : S_MN) (o_T : S_MT) (o_U : S_MU) : Option (S_ML × S_MN × S_MT × S_MU) :=
  if o_L.2.1 = 14 then
    (f_Model_down o_T 9 o_L.1 0).bind fun r6 =>
    (f_Model_step o_C o_X o_L o_N).bind fun r7 =>
    (f_Model_push4 o_U 101 104 15 58).bind fun r8 =>
    (f_Model_push4 r8 113 51 113 57).bind fun r9 =>
    some (r7.1, r7.2, r6, r9)
  else
    if o_L.2.1 = 80 then
      (f_Model_leaf o_T 10 o_L.1 o_L.2.2.1).bind fun r4 =>
      (f_Model_step o_C o_X o_L o_N).bind fun r5 =>
      some (r5.1, r5.2, r4, o_U)
    else
      (f_Model_simple o_C o_X o_L o_N o_T).bind fun r3 =>
      some (r3.1, r3.2.1, r3.2.2, o_U)

def f_Model_constant (o_C : S_MC) (o_X : S_MX) (o_L : S_ML) (o_N : S_MN) (o_T : S_MT) (o_U : S_MU) (o_O : S_MO) : Option (S_ML × S_MN × S_MT × S_MU × S_MO) :=
  if o_L.2.1 = 64 then
    (f_Model_step o_C o_X o_L o_N).bind fun r18 =>
    (f_Model_push o_U 114).bind fun r19 =>
    some (r18.1, r18.2, o_T, r19, (o_O.1, o_O.2.1, o_O.2.2.1, o_O.2.2.2.1, o_O.2.2.2.2.1, o_L.1))
  else
    if o_L.2.1 = 81 then
      (f_Model_leaf o_T 30 o_L.1 o_L.2.2.1).bind fun r16 =>
      (f_Model_step o_C o_X o_L o_N).bind fun r17 =>
      some (r17.1, r17.2, r16, o_U, o_O)
    else
      if o_L.2.1 = 35 then
        if o_L.2.1 = 35 then
          (f_Model_leaf o_T 31 o_L.1 1).bind fun r7 =>
          (f_Model_step o_C o_X o_L o_N).bind fun r8 =>
          some (r8.1, r8.2, r7, o_U, o_O)
        else
          (f_Model_leaf o_T 31 o_L.1 0).bind fun r5 =>
          (f_Model_step o_C o_X o_L o_N).bind fun r6 =>
          some (r6.1, r6.2, r5, o_U, o_O)
      else
        if o_L.2.1 = 36 then
          if o_L.2.1 = 35 then
            (f_Model_leaf o_T 31 o_L.1 1).bind fun r14 =>
            (f_Model_step o_C o_X o_L o_N).bind fun r15 =>
            some (r15.1, r15.2, r14, o_U, o_O)
          else
            (f_Model_leaf o_T 31 o_L.1 0).bind fun r12 =>
            (f_Model_step o_C o_X o_L o_N).bind fun r13 =>
            some (r13.1, r13.2, r12, o_U, o_O)
        else
          (f_Model_wrong o_L).bind fun r10 =>
          some (r10, o_N, o_T, o_U, o_O)

def f_Model_lessNumber (o_C : S_MC) (o_X : S_MX) (o_L : S_ML) (o_N : S_MN) (o_T : S_MT) (o_O : S_MO) : Option (S_ML × S_MN × S_MT) :=
  (f_Model_leaf o_T 30 o_O.2.2.2.2.2 (-o_L.2.2.1)).bind fun r1 =>
  (f_Model_pass o_C o_X o_L o_N 81).bind fun r2 =>
  some (r2.1, r2.2, r1)

def f_Model_perhaps (o_C : S_MC) (o_X : S_MX) (o_L : S_ML) (o_N : S_MN) (o_U : S_MU) (a1 : Int32) (a2 : Int32) (a3 : Int32) : Option (S_ML × S_MN × S_MU) :=
  if o_L.2.1 = a1 then
    (f_Model_step o_C o_X o_L o_N).bind fun r2 =>
    if a2 = (-1) then
      (f_Model_push o_U a3).bind fun r4 =>
      some (r2.1, r2.2, r4)
    else
      (f_Model_push o_U a2).bind fun r5 =>
      (f_Model_push r5 a3).bind fun r6 =>
      some (r2.1, r2.2, r6)
  else
    some (o_L, o_N, o_U)

def f_Model_compound (o_C : S_MC) (o_X : S_MX) (o_L : S_ML) (o_N : S_MN) (o_T : S_MT) (o_U : S_MU) : Option (S_ML × S_MN × S_MT × S_MU) :=
  if o_L.2.1 = 16 then
    (f_Model_push4 o_U 115 118 60 20).bind fun r37 =>
    if o_L.2.1 = 16 then
      (f_Model_down o_T 15 o_L.1 0).bind fun r50 =>
      (f_Model_push2 r37 117 119).bind fun r51 =>
      (f_Model_pushExpression r51).bind fun r52 =>
      (f_Model_step o_C o_X o_L o_N).bind fun r53 =>
      some (r53.1, r53.2, r50, r52)
    else
      if o_L.2.1 = 21 then
        (f_Model_down o_T 16 o_L.1 0).bind fun r45 =>
        (f_Model_push2 r37 120 121).bind fun r46 =>
        (f_Model_push r46 15).bind fun r47 =>
        (f_Model_pushExpression r47).bind fun r48 =>
        (f_Model_step o_C o_X o_L o_N).bind fun r49 =>
        some (r49.1, r49.2, r45, r48)
      else
        (f_Model_down o_T 19 o_L.1 0).bind fun r40 =>
        (f_Model_push4 r37 126 127 113 24).bind fun r41 =>
        (f_Model_push2 r41 113 50).bind fun r42 =>
        (f_Model_push r42 105).bind fun r43 =>
        (f_Model_step o_C o_X o_L o_N).bind fun r44 =>
        some (r44.1, r44.2, r40, r43)
  else
    if o_L.2.1 = 21 then
      (f_Model_push4 o_U 115 118 60 22).bind fun r20 =>
      if o_L.2.1 = 16 then
        (f_Model_down o_T 15 o_L.1 0).bind fun r33 =>
        (f_Model_push2 r20 117 119).bind fun r34 =>
        (f_Model_pushExpression r34).bind fun r35 =>
        (f_Model_step o_C o_X o_L o_N).bind fun r36 =>
        some (r36.1, r36.2, r33, r35)
      else
        if o_L.2.1 = 21 then
          (f_Model_down o_T 16 o_L.1 0).bind fun r28 =>
          (f_Model_push2 r20 120 121).bind fun r29 =>
          (f_Model_push r29 15).bind fun r30 =>
          (f_Model_pushExpression r30).bind fun r31 =>
          (f_Model_step o_C o_X o_L o_N).bind fun r32 =>
          some (r32.1, r32.2, r28, r31)
        else
          (f_Model_down o_T 19 o_L.1 0).bind fun r23 =>
          (f_Model_push4 r20 126 127 113 24).bind fun r24 =>
          (f_Model_push2 r24 113 50).bind fun r25 =>
          (f_Model_push r25 105).bind fun r26 =>
          (f_Model_step o_C o_X o_L o_N).bind fun r27 =>
          some (r27.1, r27.2, r23, r26)
    else
      (f_Model_push4 o_U 115 118 60 27).bind fun r3 =>
      if o_L.2.1 = 16 then
        (f_Model_down o_T 15 o_L.1 0).bind fun r16 =>
        (f_Model_push2 r3 117 119).bind fun r17 =>
        (f_Model_pushExpression r17).bind fun r18 =>
        (f_Model_step o_C o_X o_L o_N).bind fun r19 =>
        some (r19.1, r19.2, r16, r18)
      else
        if o_L.2.1 = 21 then
          (f_Model_down o_T 16 o_L.1 0).bind fun r11 =>
          (f_Model_push2 r3 120 121).bind fun r12 =>
          (f_Model_push r12 15).bind fun r13 =>
          (f_Model_pushExpression r13).bind fun r14 =>
          (f_Model_step o_C o_X o_L o_N).bind fun r15 =>
          some (r15.1, r15.2, r11, r14)
        else
          (f_Model_down o_T 19 o_L.1 0).bind fun r6 =>
          (f_Model_push4 r3 126 127 113 24).bind fun r7 =>
          (f_Model_push2 r7 113 50).bind fun r8 =>
          (f_Model_push r8 105).bind fun r9 =>
          (f_Model_step o_C o_X o_L o_N).bind fun r10 =>
          some (r10.1, r10.2, r6, r9)
