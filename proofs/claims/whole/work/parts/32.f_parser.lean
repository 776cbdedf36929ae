def f_Parser_kindOfBlock (a1 : Int32) : Option (Int32) :=
  if a1 = 256 then
    some 1
  else
  if a1 = 258 then
    some 2
  else
  some 3

def f_Parser_take (o_this : S_Parser) (o_tokens : S_Tokens) (a1 : Int32) : Option (S_Parser) :=
  if o_this.2.1 = a1 then
    if o_this.2.1 = 6 then
      some (o_this.1, 6, o_this.2.2)
    else
      if (o_this.1 + 1) < 0 then
        some (o_this.1 + 1, 6, (-1), 0, o_this.2.2.1, o_this.2.2.2.2.2)
      else
        if o_tokens.1 ≤ (o_this.1 + 1) then
          some (o_this.1 + 1, 6, (-1), 0, o_this.2.2.1, o_this.2.2.2.2.2)
        else
          if 8193 ≤ (o_this.1 + 1) then
            some (o_this.1 + 1, 6, (-1), 0, o_this.2.2.1, o_this.2.2.2.2.2)
          else
            gd (o_this.1 + 1) 8193 <|
            nm (o_tokens.2.2.1 (o_this.1 + 1).toNatClampNeg) fun x17 =>
            gd (o_this.1 + 1) 8193 <|
            nm (o_tokens.2.2.2.1 (o_this.1 + 1).toNatClampNeg) fun x20 =>
            gd (o_this.1 + 1) 8193 <|
            nm (o_tokens.2.2.2.2 (o_this.1 + 1).toNatClampNeg) fun x23 =>
            some (o_this.1 + 1, x17, x20, x23, o_this.2.2.1, o_this.2.2.2.2.2)
  else
    some (o_this.1, 6, o_this.2.2)

def f_Parser_simpleType (o_this : S_Parser) (o_tokens : S_Tokens) (o_tree : S_Tree) (a1 : Int32) : Option (S_Parser × S_Tree) :=
  if o_this.2.1 = 267 then
    (f_Tree_add o_tree a1 8 o_this.2.2.1 (o_this.2.1 - 267)).bind fun r2 =>
    (f_Parser_take o_this o_tokens o_this.2.1).bind fun r3 =>
    some (r3, r2.2)
  else
    if o_this.2.1 = 268 then
      (f_Tree_add o_tree a1 8 o_this.2.2.1 (o_this.2.1 - 267)).bind fun r5 =>
      (f_Parser_take o_this o_tokens o_this.2.1).bind fun r6 =>
      some (r6, r5.2)
    else
      if o_this.2.1 = 269 then
        (f_Tree_add o_tree a1 8 o_this.2.2.1 (o_this.2.1 - 267)).bind fun r8 =>
        (f_Parser_take o_this o_tokens o_this.2.1).bind fun r9 =>
        some (r9, r8.2)
      else
        some ((o_this.1, 6, o_this.2.2), o_tree)

def f_Parser_takeName (o_this : S_Parser) (o_tokens : S_Tokens) : Option (Int32 × S_Parser) :=
  (f_Parser_take o_this o_tokens 1).bind fun r1 =>
  some (o_this.2.2.2.1, r1)

def f_Parser_blockHead (o_this : S_Parser) (o_tokens : S_Tokens) (o_tree : S_Tree) (a1 : Int32) : Option (Int32 × S_Parser × S_Tree) :=
  (f_Parser_take o_this o_tokens o_this.2.1).bind fun r1 =>
  (f_Parser_kindOfBlock o_this.2.1).bind fun r2 =>
  (f_Parser_takeName r1 o_tokens).bind fun r3 =>
  (f_Tree_add o_tree a1 r2 o_this.2.2.1 r3.1).bind fun r4 =>
  if o_this.2.1 = 256 then
    (f_Parser_take r3.2 o_tokens 58).bind fun r6 =>
    (f_Parser_simpleType r6 o_tokens r4.2 r4.1).bind fun r7 =>
    some (r4.1, r7.1, r7.2)
  else
    some (r4.1, r3.2, r4.2)

def f_Parser_mayOpen (o_this : S_Parser) : Option (Int32 × S_Parser) :=
  if 60 ≤ (o_this.2.2.2.2.2.2.1 + o_this.2.2.2.2.2.1) then
    some (0, (o_this.1, 6, o_this.2.2.1, o_this.2.2.2.1, o_this.2.2.2.2.1, o_this.2.2.2.2.2.1, o_this.2.2.2.2.2.2.1, 1, o_this.2.2.2.2.2.2.2.2))
  else
    some (1, o_this)

def f_Parser_expression_o_L16 (f_expression : S_Parser → S_Tokens → S_Tree → Int32 → Int32 → Option (S_Parser × S_Tree)) (o_tokens : S_Tokens) (w3_L16 : Int32) (w2_L16 : Int32) : Nat → Int32 → S_Parser → S_Tree → Option (S_Parser × S_Tree)
  | 0, _, _, _ => none
  | n + 1, v4_L16, o_this_L16, o_tree_L16 =>
    if 8192 ≤ v4_L16 then
      some (o_this_L16, o_tree_L16)
    else
      (f_Sign_operation o_this_L16.2.1).bind fun r1262 =>
      (f_Sign_binding r1262).bind fun r1263 =>
      if r1263 < w2_L16 then
        some (o_this_L16, o_tree_L16)
      else
        (f_Parser_mayOpen o_this_L16).bind fun r1265 =>
        if r1265.1 = 0 then
          some (r1265.2, o_tree_L16)
        else
          (f_Tree_wrap o_tree_L16 w3_L16 35 r1265.2.2.2.1 r1262).bind fun r1267 =>
          (f_Parser_take (r1265.2.1, r1265.2.2.1, r1265.2.2.2.1, r1265.2.2.2.2.1, r1265.2.2.2.2.2.1, r1265.2.2.2.2.2.2.1 + 1, r1265.2.2.2.2.2.2.2) o_tokens r1265.2.2.1).bind fun r1268 =>
          (f_expression r1268 o_tokens r1267 w3_L16 (r1263 + 1)).bind fun r1269 =>
          nm (v4_L16 + 1) fun x1270 =>
          f_Parser_expression_o_L16 f_expression o_tokens w3_L16 w2_L16 n x1270 r1269.1 r1269.2
def f_Parser_expression_o (f_operand : S_Parser → S_Tokens → S_Tree → Int32 → Option (S_Parser × S_Tree)) (f_expression : S_Parser → S_Tokens → S_Tree → Int32 → Int32 → Option (S_Parser × S_Tree)) (o_this : S_Parser) (o_tokens : S_Tokens) (o_tree : S_Tree) (a1 : Int32) (a2 : Int32) : Option (S_Parser × S_Tree) :=
  (f_operand o_this o_tokens o_tree a1).bind fun r1 =>
  f_Parser_expression_o_L16 f_expression o_tokens o_tree.1 a2 FU 0 r1.1 r1.2

def f_Parser_literal (o_this : S_Parser) (o_tokens : S_Tokens) (o_tree : S_Tree) (a1 : Int32) : Option (S_Parser × S_Tree) :=
  if o_this.2.1 = 2 then
    (f_Tree_add o_tree a1 30 o_this.2.2.1 o_this.2.2.2.1).bind fun r14 =>
    (f_Parser_take o_this o_tokens 2).bind fun r15 =>
    some (r15, r14.2)
  else
    if o_this.2.1 = 291 then
      if o_this.2.1 = 291 then
        (f_Tree_add o_tree a1 31 o_this.2.2.1 1).bind fun r6 =>
        (f_Parser_take o_this o_tokens o_this.2.1).bind fun r7 =>
        some (r7, r6.2)
      else
        (f_Tree_add o_tree a1 31 o_this.2.2.1 0).bind fun r4 =>
        (f_Parser_take o_this o_tokens o_this.2.1).bind fun r5 =>
        some (r5, r4.2)
    else
      if o_this.2.1 = 292 then
        if o_this.2.1 = 291 then
          (f_Tree_add o_tree a1 31 o_this.2.2.1 1).bind fun r12 =>
          (f_Parser_take o_this o_tokens o_this.2.1).bind fun r13 =>
          some (r13, r12.2)
        else
          (f_Tree_add o_tree a1 31 o_this.2.2.1 0).bind fun r10 =>
          (f_Parser_take o_this o_tokens o_this.2.1).bind fun r11 =>
          some (r11, r10.2)
      else
        some ((o_this.1, 6, o_this.2.2), o_tree)

def f_Parser_nameNode (o_this : S_Parser) (o_tokens : S_Tokens) (o_tree : S_Tree) (a1 : Int32) : Option (S_Parser × S_Tree) :=
  (f_Tree_add o_tree a1 6 o_this.2.2.1 o_this.2.2.2.1).bind fun r1 =>
  (f_Parser_take o_this o_tokens 1).bind fun r2 =>
  some (r2, r1.2)

def f_Parser_takeClosing (o_this : S_Parser) (o_tokens : S_Tokens) (a1 : Int32) : Option (S_Parser) :=
  (f_Parser_take (o_this.1, o_this.2.1, o_this.2.2.1, o_this.2.2.2.1, o_this.2.2.2.2.1, o_this.2.2.2.2.2.1, o_this.2.2.2.2.2.2.1 - 1, o_this.2.2.2.2.2.2.2) o_tokens a1).bind fun r1 =>
  some r1

def f_Parser_takeComma (o_this : S_Parser) (o_tokens : S_Tokens) : Option (Int32 × S_Parser) :=
  if o_this.2.1 = 44 then
    (f_Parser_take o_this o_tokens 44).bind fun r2 =>
    some (1, r2)
  else
    some (0, o_this)

def f_Parser_takeOpening (o_this : S_Parser) (o_tokens : S_Tokens) : Option (S_Parser) :=
  (f_Parser_mayOpen o_this).bind fun r1 =>
  if r1.1 = 0 then
    some r1.2
  else
    (f_Parser_take (r1.2.1, r1.2.2.1, r1.2.2.2.1, r1.2.2.2.2.1, r1.2.2.2.2.2.1, r1.2.2.2.2.2.2.1, r1.2.2.2.2.2.2.2.1 + 1, r1.2.2.2.2.2.2.2.2) o_tokens r1.2.2.1).bind fun r3 =>
    some r3

def f_Parser_operandByName_L144 (f_expression : S_Parser → S_Tokens → S_Tree → Int32 → Int32 → Option (S_Parser × S_Tree)) (w5_L144 : Int32) (o_tokens_L144 : S_Tokens) : Nat → Int32 → Int32 → S_Parser → S_Tree → Option (S_Parser × S_Tree)
  | 0, _, _, _, _ => none
  | n + 1, v7_L144, v6_L144, o_this_L144, o_tree_L144 =>
    if v6_L144 = 0 then
      some (o_this_L144, o_tree_L144)
    else
      if 8192 ≤ v7_L144 then
        some (o_this_L144, o_tree_L144)
      else
        (f_expression o_this_L144 o_tokens_L144 o_tree_L144 w5_L144 0).bind fun r2543 =>
        (f_Parser_takeComma r2543.1 o_tokens_L144).bind fun r2544 =>
        nm (v7_L144 + 1) fun x2545 =>
        f_Parser_operandByName_L144 f_expression w5_L144 o_tokens_L144 n x2545 r2544.1 r2544.2 r2543.2
def f_Parser_operandByName (f_expression : S_Parser → S_Tokens → S_Tree → Int32 → Int32 → Option (S_Parser × S_Tree)) (o_this : S_Parser) (o_tokens : S_Tokens) (o_tree : S_Tree) (a1 : Int32) : Option (S_Parser × S_Tree) :=
  (f_Parser_takeName o_this o_tokens).bind fun r1 =>
  if r1.2.2.1 = 40 then
    (f_Tree_add o_tree a1 34 o_this.2.2.1 r1.1).bind fun r3 =>
    (f_Parser_takeOpening r1.2 o_tokens).bind fun r4 =>
    if r4.2.1 = 41 then
      (f_Parser_operandByName_L144 f_expression r3.1 o_tokens FU 0 0 r4 r3.2).bind fun r6 =>
      (f_Parser_takeClosing r6.1 o_tokens 41).bind fun r7 =>
      some (r7, r6.2)
    else
      (f_Parser_operandByName_L144 f_expression r3.1 o_tokens FU 0 1 r4 r3.2).bind fun r8 =>
      (f_Parser_takeClosing r8.1 o_tokens 41).bind fun r9 =>
      some (r9, r8.2)
  else
  if r1.2.2.1 = 46 then
    (f_Parser_take r1.2 o_tokens 46).bind fun r11 =>
    (f_Tree_add o_tree a1 33 o_this.2.2.1 r1.1).bind fun r12 =>
    (f_Parser_nameNode r11 o_tokens r12.2 r12.1).bind fun r13 =>
    some (r13.1, r13.2)
  else
  if r1.2.2.1 = 91 then
    (f_Tree_add o_tree a1 32 o_this.2.2.1 r1.1).bind fun r15 =>
    (f_Parser_takeOpening r1.2 o_tokens).bind fun r16 =>
    (f_expression r16 o_tokens r15.2 r15.1 0).bind fun r17 =>
    (f_Parser_takeClosing r17.1 o_tokens 93).bind fun r18 =>
    some (r18, r17.2)
  else
  (f_Tree_add o_tree a1 6 o_this.2.2.1 r1.1).bind fun r19 =>
  some (r1.2, r19.2)

def f_Parser_operand_o (f_operand : S_Parser → S_Tokens → S_Tree → Int32 → Option (S_Parser × S_Tree)) (f_expression : S_Parser → S_Tokens → S_Tree → Int32 → Int32 → Option (S_Parser × S_Tree)) (o_this : S_Parser) (o_tokens : S_Tokens) (o_tree : S_Tree) (a1 : Int32) : Option (S_Parser × S_Tree) :=
  if o_this.2.1 = 1 then
    (f_Parser_operandByName f_expression o_this o_tokens o_tree a1).bind fun r2 =>
    some (r2.1, r2.2)
  else
  if o_this.2.1 = 40 then
    (f_Parser_takeOpening o_this o_tokens).bind fun r4 =>
    (f_expression r4 o_tokens o_tree a1 0).bind fun r5 =>
    (f_Parser_takeClosing r5.1 o_tokens 41).bind fun r6 =>
    some (r6, r5.2)
  else
  if o_this.2.1 = 45 then
    if o_this.2.1 = 290 then
      (f_Tree_add o_tree a1 36 o_this.2.2.1 1).bind fun r12 =>
      (f_Parser_takeOpening o_this o_tokens).bind fun r13 =>
      (f_operand r13 o_tokens r12.2 r12.1).bind fun r14 =>
      some ((r14.1.1, r14.1.2.1, r14.1.2.2.1, r14.1.2.2.2.1, r14.1.2.2.2.2.1, r14.1.2.2.2.2.2.1, r14.1.2.2.2.2.2.2.1 - 1, r14.1.2.2.2.2.2.2.2), r14.2)
    else
      (f_Tree_add o_tree a1 36 o_this.2.2.1 0).bind fun r9 =>
      (f_Parser_takeOpening o_this o_tokens).bind fun r10 =>
      (f_operand r10 o_tokens r9.2 r9.1).bind fun r11 =>
      some ((r11.1.1, r11.1.2.1, r11.1.2.2.1, r11.1.2.2.2.1, r11.1.2.2.2.2.1, r11.1.2.2.2.2.2.1, r11.1.2.2.2.2.2.2.1 - 1, r11.1.2.2.2.2.2.2.2), r11.2)
  else
  if o_this.2.1 = 290 then
    if o_this.2.1 = 290 then
      (f_Tree_add o_tree a1 36 o_this.2.2.1 1).bind fun r20 =>
      (f_Parser_takeOpening o_this o_tokens).bind fun r21 =>
      (f_operand r21 o_tokens r20.2 r20.1).bind fun r22 =>
      some ((r22.1.1, r22.1.2.1, r22.1.2.2.1, r22.1.2.2.2.1, r22.1.2.2.2.2.1, r22.1.2.2.2.2.2.1, r22.1.2.2.2.2.2.2.1 - 1, r22.1.2.2.2.2.2.2.2), r22.2)
    else
      (f_Tree_add o_tree a1 36 o_this.2.2.1 0).bind fun r17 =>
      (f_Parser_takeOpening o_this o_tokens).bind fun r18 =>
      (f_operand r18 o_tokens r17.2 r17.1).bind fun r19 =>
      some ((r19.1.1, r19.1.2.1, r19.1.2.2.1, r19.1.2.2.2.1, r19.1.2.2.2.2.1, r19.1.2.2.2.2.2.1, r19.1.2.2.2.2.2.2.1 - 1, r19.1.2.2.2.2.2.2.2), r19.2)
  else
  (f_Parser_literal o_this o_tokens o_tree a1).bind fun r23 =>
  some (r23.1, r23.2)

def GE : Nat → (S_Parser → S_Tokens → S_Tree → Int32 → Int32 → Option (S_Parser × S_Tree)) × (S_Parser → S_Tokens → S_Tree → Int32 → Option (S_Parser × S_Tree))
  | 0 => ((fun _ _ _ _ _ => none), (fun _ _ _ _ => none))
  | d + 1 => (f_Parser_expression_o (GE d).2 (GE d).1, f_Parser_operand_o (GE d).2 (GE d).1)
def DE : Nat := 130
def f_Parser_expression (p : S_Parser) (t : S_Tokens) (r : S_Tree) (a0 a1 : Int32) : Option (S_Parser × S_Tree) := (GE DE).1 p t r a0 a1
def f_Parser_operand (p : S_Parser) (t : S_Tokens) (r : S_Tree) (a0 : Int32) : Option (S_Parser × S_Tree) := (GE DE).2 p t r a0

def f_Parser_outermostExpression (o_this : S_Parser) (o_tokens : S_Tokens) (o_tree : S_Tree) (a1 : Int32) : Option (S_Parser × S_Tree) :=
  (f_Parser_expression o_this o_tokens o_tree a1 0).bind fun r1 =>
  some ((r1.1.1, r1.1.2.1, r1.1.2.2.1, r1.1.2.2.2.1, r1.1.2.2.2.2.1, 0, r1.1.2.2.2.2.2.2), r1.2)

def f_Parser_assignment (o_this : S_Parser) (o_tokens : S_Tokens) (o_tree : S_Tree) (a1 : Int32) (a2 : Int32) (a3 : Int32) : Option (S_Parser × S_Tree) :=
  if o_this.2.1 = 91 then
    (f_Tree_add o_tree a1 32 a2 a3).bind fun r6 =>
    (f_Parser_takeOpening o_this o_tokens).bind fun r7 =>
    (f_Parser_outermostExpression r7 o_tokens r6.2 r6.1).bind fun r8 =>
    (f_Parser_takeClosing r8.1 o_tokens 93).bind fun r9 =>
    (f_Tree_wrap r8.2 o_tree.1 12 r9.2.2.1 0).bind fun r10 =>
    (f_Parser_take r9 o_tokens 14909).bind fun r11 =>
    (f_Parser_outermostExpression r11 o_tokens r10 o_tree.1).bind fun r12 =>
    some (r12.1, r12.2)
  else
    (f_Tree_add o_tree a1 6 a2 a3).bind fun r2 =>
    (f_Tree_wrap r2.2 o_tree.1 12 o_this.2.2.1 0).bind fun r3 =>
    (f_Parser_take o_this o_tokens 14909).bind fun r4 =>
    (f_Parser_outermostExpression r4 o_tokens r3 o_tree.1).bind fun r5 =>
    some (r5.1, r5.2)

def f_Parser_constant (o_this : S_Parser) (o_tokens : S_Tokens) (o_tree : S_Tree) (a1 : Int32) : Option (S_Parser × S_Tree) :=
  if o_this.2.1 = 45 then
    (f_Parser_take o_this o_tokens 45).bind fun r3 =>
    (f_Tree_add o_tree a1 30 o_this.2.2.1 (-r3.2.2.2.1)).bind fun r4 =>
    (f_Parser_take r3 o_tokens 2).bind fun r5 =>
    some (r5, r4.2)
  else
    (f_Parser_literal o_this o_tokens o_tree a1).bind fun r2 =>
    some (r2.1, r2.2)

def f_Parser_ranges_L4 (w1_L4 : Int32) (o_tokens_L4 : S_Tokens) : Nat → Int32 → Int32 → S_Parser → S_Tree → Option (S_Parser × S_Tree)
  | 0, _, _, _, _ => none
  | n + 1, v3_L4, v2_L4, o_this_L4, o_tree_L4 =>
    if v2_L4 = 0 then
      some (o_this_L4, o_tree_L4)
    else
      if 8192 ≤ v3_L4 then
        some (o_this_L4, o_tree_L4)
      else
        (f_Tree_add o_tree_L4 w1_L4 18 o_this_L4.2.2.1 0).bind fun r1143 =>
        (f_Parser_constant o_this_L4 o_tokens_L4 r1143.2 r1143.1).bind fun r1144 =>
        if r1144.1.2.1 = 11822 then
          (f_Parser_take r1144.1 o_tokens_L4 11822).bind fun r1148 =>
          (f_Parser_constant r1148 o_tokens_L4 r1144.2 r1143.1).bind fun r1149 =>
          (f_Parser_takeComma r1149.1 o_tokens_L4).bind fun r1150 =>
          nm (v3_L4 + 1) fun x1151 =>
          f_Parser_ranges_L4 w1_L4 o_tokens_L4 n x1151 r1150.1 r1150.2 r1149.2
        else
          (f_Parser_takeComma r1144.1 o_tokens_L4).bind fun r1146 =>
          nm (v3_L4 + 1) fun x1147 =>
          f_Parser_ranges_L4 w1_L4 o_tokens_L4 n x1147 r1146.1 r1146.2 r1144.2
def f_Parser_ranges (o_this : S_Parser) (o_tokens : S_Tokens) (o_tree : S_Tree) (a1 : Int32) : Option (S_Parser × S_Tree) :=
  (f_Parser_ranges_L4 a1 o_tokens FU 0 1 o_this o_tree).bind fun r1 =>
  some (r1.1, r1.2)

def f_Parser_startsConstant (o_this : S_Parser) : Option (Int32) :=
  if o_this.2.1 = 45 then
    some 1
  else
    if o_this.2.1 = 2 then
      some 1
    else
      if o_this.2.1 = 291 then
        some 1
      else
        if o_this.2.1 = 292 then
          some 1
        else
          some 0

def f_Parser_caseStatement_L34 (f_body : S_Parser → S_Tokens → S_Tree → Int32 → Option (S_Parser × S_Tree)) (w2_L34 : Int32) (o_tokens_L34 : S_Tokens) : Nat → Int32 → S_Parser → S_Tree → Option (S_Parser × S_Tree)
  | 0, _, _, _ => none
  | n + 1, v3_L34, o_this_L34, o_tree_L34 =>
    if 8192 ≤ v3_L34 then
      some (o_this_L34, o_tree_L34)
    else
      (f_Parser_startsConstant o_this_L34).bind fun r1442 =>
      if r1442 = 0 then
        some (o_this_L34, o_tree_L34)
      else
        (f_Tree_add o_tree_L34 w2_L34 17 o_this_L34.2.2.1 0).bind fun r1444 =>
        (f_Parser_ranges o_this_L34 o_tokens_L34 r1444.2 r1444.1).bind fun r1445 =>
        (f_Parser_take r1445.1 o_tokens_L34 58).bind fun r1446 =>
        (f_body r1446 o_tokens_L34 r1445.2 r1444.1).bind fun r1447 =>
        nm (v3_L34 + 1) fun x1448 =>
        f_Parser_caseStatement_L34 f_body w2_L34 o_tokens_L34 n x1448 r1447.1 r1447.2
def f_Parser_caseStatement (f_body : S_Parser → S_Tokens → S_Tree → Int32 → Option (S_Parser × S_Tree)) (o_this : S_Parser) (o_tokens : S_Tokens) (o_tree : S_Tree) (a1 : Int32) : Option (S_Parser × S_Tree) :=
  (f_Tree_add o_tree a1 16 o_this.2.2.1 0).bind fun r1 =>
  (f_Parser_takeOpening o_this o_tokens).bind fun r2 =>
  (f_Parser_outermostExpression r2 o_tokens r1.2 r1.1).bind fun r3 =>
  (f_Parser_take r3.1 o_tokens 271).bind fun r4 =>
  (f_Parser_caseStatement_L34 f_body r1.1 o_tokens FU 0 r4 r3.2).bind fun r5 =>
  if r5.1.2.1 = 275 then
    (f_Parser_take r5.1 o_tokens 275).bind fun r8 =>
    (f_body r8 o_tokens r5.2 r1.1).bind fun r9 =>
    (f_Parser_takeClosing r9.1 o_tokens 278).bind fun r10 =>
    some (r10, r9.2)
  else
    (f_Parser_takeClosing r5.1 o_tokens 278).bind fun r7 =>
    some (r7, r5.2)

def f_Parser_forStatement (f_body : S_Parser → S_Tokens → S_Tree → Int32 → Option (S_Parser × S_Tree)) (o_this : S_Parser) (o_tokens : S_Tokens) (o_tree : S_Tree) (a1 : Int32) : Option (S_Parser × S_Tree) :=
  (f_Parser_takeOpening o_this o_tokens).bind fun r1 =>
  (f_Parser_takeName r1 o_tokens).bind fun r2 =>
  (f_Tree_add o_tree a1 19 o_this.2.2.1 r2.1).bind fun r3 =>
  (f_Parser_take r2.2 o_tokens 14909).bind fun r4 =>
  (f_Parser_constant r4 o_tokens r3.2 r3.1).bind fun r5 =>
  (f_Parser_take r5.1 o_tokens 280).bind fun r6 =>
  (f_Parser_constant r6 o_tokens r5.2 r3.1).bind fun r7 =>
  if r7.1.2.1 = 281 then
    (f_Parser_take r7.1 o_tokens 281).bind fun r12 =>
    (f_Parser_constant r12 o_tokens r7.2 r3.1).bind fun r13 =>
    (f_Parser_take r13.1 o_tokens 282).bind fun r14 =>
    (f_body r14 o_tokens r13.2 r3.1).bind fun r15 =>
    (f_Parser_takeClosing r15.1 o_tokens 283).bind fun r16 =>
    some (r16, r15.2)
  else
    (f_Parser_take r7.1 o_tokens 282).bind fun r9 =>
    (f_body r9 o_tokens r7.2 r3.1).bind fun r10 =>
    (f_Parser_takeClosing r10.1 o_tokens 283).bind fun r11 =>
    some (r11, r10.2)

def f_Parser_ifStatement_L39 (f_body : S_Parser → S_Tokens → S_Tree → Int32 → Option (S_Parser × S_Tree)) (w2_L39 : Int32) (o_tokens_L39 : S_Tokens) : Nat → Int32 → S_Parser → S_Tree → Option (S_Parser × S_Tree)
  | 0, _, _, _ => none
  | n + 1, v3_L39, o_this_L39, o_tree_L39 =>
    if 8192 ≤ v3_L39 then
      some (o_this_L39, o_tree_L39)
    else
      if o_this_L39.2.1 = 274 then
        (f_Parser_take o_this_L39 o_tokens_L39 274).bind fun r1493 =>
        (f_Parser_outermostExpression r1493 o_tokens_L39 o_tree_L39 w2_L39).bind fun r1494 =>
        (f_Parser_take r1494.1 o_tokens_L39 273).bind fun r1495 =>
        (f_body r1495 o_tokens_L39 r1494.2 w2_L39).bind fun r1496 =>
        nm (v3_L39 + 1) fun x1497 =>
        f_Parser_ifStatement_L39 f_body w2_L39 o_tokens_L39 n x1497 r1496.1 r1496.2
      else
        some (o_this_L39, o_tree_L39)
def f_Parser_ifStatement (f_body : S_Parser → S_Tokens → S_Tree → Int32 → Option (S_Parser × S_Tree)) (o_this : S_Parser) (o_tokens : S_Tokens) (o_tree : S_Tree) (a1 : Int32) : Option (S_Parser × S_Tree) :=
  (f_Tree_add o_tree a1 15 o_this.2.2.1 0).bind fun r1 =>
  (f_Parser_takeOpening o_this o_tokens).bind fun r2 =>
  (f_Parser_outermostExpression r2 o_tokens r1.2 r1.1).bind fun r3 =>
  (f_Parser_take r3.1 o_tokens 273).bind fun r4 =>
  (f_body r4 o_tokens r3.2 r1.1).bind fun r5 =>
  (f_Parser_ifStatement_L39 f_body r1.1 o_tokens FU 0 r5.1 r5.2).bind fun r6 =>
  if r6.1.2.1 = 275 then
    (f_Parser_take r6.1 o_tokens 275).bind fun r9 =>
    (f_body r9 o_tokens r6.2 r1.1).bind fun r10 =>
    (f_Parser_takeClosing r10.1 o_tokens 276).bind fun r11 =>
    some (r11, r10.2)
  else
    (f_Parser_takeClosing r6.1 o_tokens 276).bind fun r8 =>
    some (r8, r6.2)

def f_Parser_invocation_L37 (w4_L37 : Int32) (o_tokens_L37 : S_Tokens) : Nat → Int32 → Int32 → S_Parser → S_Tree → Option (S_Parser × S_Tree)
  | 0, _, _, _, _ => none
  | n + 1, v6_L37, v5_L37, o_this_L37, o_tree_L37 =>
    if v5_L37 = 0 then
      some (o_this_L37, o_tree_L37)
    else
      if 8192 ≤ v6_L37 then
        some (o_this_L37, o_tree_L37)
      else
        (f_Parser_takeName o_this_L37 o_tokens_L37).bind fun r1473 =>
        (f_Tree_add o_tree_L37 w4_L37 14 o_this_L37.2.2.1 r1473.1).bind fun r1474 =>
        (f_Parser_take r1473.2 o_tokens_L37 14909).bind fun r1475 =>
        (f_Parser_outermostExpression r1475 o_tokens_L37 r1474.2 r1474.1).bind fun r1476 =>
        (f_Parser_takeComma r1476.1 o_tokens_L37).bind fun r1477 =>
        nm (v6_L37 + 1) fun x1478 =>
        f_Parser_invocation_L37 w4_L37 o_tokens_L37 n x1478 r1477.1 r1477.2 r1476.2
def f_Parser_invocation (o_this : S_Parser) (o_tokens : S_Tokens) (o_tree : S_Tree) (a1 : Int32) (a2 : Int32) (a3 : Int32) : Option (S_Parser × S_Tree) :=
  (f_Tree_add o_tree a1 13 a2 a3).bind fun r1 =>
  (f_Parser_takeOpening o_this o_tokens).bind fun r2 =>
  if r2.2.1 = 41 then
    (f_Parser_invocation_L37 r1.1 o_tokens FU 0 0 r2 r1.2).bind fun r4 =>
    (f_Parser_takeClosing r4.1 o_tokens 41).bind fun r5 =>
    some (r5, r4.2)
  else
    (f_Parser_invocation_L37 r1.1 o_tokens FU 0 1 r2 r1.2).bind fun r6 =>
    (f_Parser_takeClosing r6.1 o_tokens 41).bind fun r7 =>
    some (r7, r6.2)

def f_Parser_statement (f_body : S_Parser → S_Tokens → S_Tree → Int32 → Option (S_Parser × S_Tree)) (o_this : S_Parser) (o_tokens : S_Tokens) (o_tree : S_Tree) (a1 : Int32) : Option (Int32 × S_Parser × S_Tree) :=
  if o_this.2.1 = 1 then
    (f_Parser_takeName o_this o_tokens).bind fun r2 =>
    if r2.2.2.1 = 40 then
      (f_Parser_invocation r2.2 o_tokens o_tree a1 o_this.2.2.1 r2.1).bind fun r6 =>
      (f_Parser_take r6.1 o_tokens 59).bind fun r7 =>
      some (1, r7, r6.2)
    else
      (f_Parser_assignment r2.2 o_tokens o_tree a1 o_this.2.2.1 r2.1).bind fun r4 =>
      (f_Parser_take r4.1 o_tokens 59).bind fun r5 =>
      some (1, r5, r4.2)
  else
  if o_this.2.1 = 59 then
    (f_Parser_take o_this o_tokens 59).bind fun r9 =>
    some (1, r9, o_tree)
  else
  if o_this.2.1 = 272 then
    (f_Parser_ifStatement f_body o_this o_tokens o_tree a1).bind fun r11 =>
    (f_Parser_take r11.1 o_tokens 59).bind fun r12 =>
    some (1, r12, r11.2)
  else
  if o_this.2.1 = 277 then
    (f_Parser_caseStatement f_body o_this o_tokens o_tree a1).bind fun r14 =>
    (f_Parser_take r14.1 o_tokens 59).bind fun r15 =>
    some (1, r15, r14.2)
  else
  if o_this.2.1 = 279 then
    (f_Parser_forStatement f_body o_this o_tokens o_tree a1).bind fun r17 =>
    (f_Parser_take r17.1 o_tokens 59).bind fun r18 =>
    some (1, r18, r17.2)
  else
  if o_this.2.1 = 284 then
    (f_Tree_add o_tree a1 20 o_this.2.2.1 0).bind fun r20 =>
    (f_Parser_take o_this o_tokens 284).bind fun r21 =>
    (f_Parser_take r21 o_tokens 59).bind fun r22 =>
    some (1, r22, r20.2)
  else
  if o_this.2.1 = 285 then
    (f_Tree_add o_tree a1 21 o_this.2.2.1 0).bind fun r24 =>
    (f_Parser_take o_this o_tokens 285).bind fun r25 =>
    (f_Parser_take r25 o_tokens 59).bind fun r26 =>
    some (1, r26, r24.2)
  else
  some (0, o_this, o_tree)

def f_Parser_body_o_L21 (f_body : S_Parser → S_Tokens → S_Tree → Int32 → Option (S_Parser × S_Tree)) (w2_L21 : Int32) (o_tokens_L21 : S_Tokens) : Nat → Int32 → Int32 → S_Parser → S_Tree → Option (S_Parser × S_Tree)
  | 0, _, _, _, _ => none
  | n + 1, v4_L21, v3_L21, o_this_L21, o_tree_L21 =>
    if v3_L21 = 0 then
      some (o_this_L21, o_tree_L21)
    else
      if 8192 ≤ v4_L21 then
        some (o_this_L21, o_tree_L21)
      else
        (f_Parser_statement f_body o_this_L21 o_tokens_L21 o_tree_L21 w2_L21).bind fun r1313 =>
        nm (v4_L21 + 1) fun x1314 =>
        f_Parser_body_o_L21 f_body w2_L21 o_tokens_L21 n x1314 r1313.1 r1313.2.1 r1313.2.2
def f_Parser_body_o (f_body : S_Parser → S_Tokens → S_Tree → Int32 → Option (S_Parser × S_Tree)) (o_this : S_Parser) (o_tokens : S_Tokens) (o_tree : S_Tree) (a1 : Int32) : Option (S_Parser × S_Tree) :=
  (f_Tree_add o_tree a1 11 o_this.2.2.2.2.1 0).bind fun r1 =>
  (f_Parser_body_o_L21 f_body r1.1 o_tokens FU 0 1 o_this r1.2).bind fun r2 =>
  some (r2.1, r2.2)

def GB : Nat → (S_Parser → S_Tokens → S_Tree → Int32 → Option (S_Parser × S_Tree))
  | 0 => (fun _ _ _ _ => none)
  | d + 1 => f_Parser_body_o (GB d)
def DB : Nat := 66
def f_Parser_body (p : S_Parser) (t : S_Tokens) (r : S_Tree) (a0 : Int32) : Option (S_Parser × S_Tree) := (GB DB) p t r a0

def f_Parser_endOfBlock (a1 : Int32) : Option (Int32) :=
  if a1 = 256 then
    some 257
  else
  if a1 = 258 then
    some 259
  else
  some 261

def f_Parser_coilValue (a1 : Int32) : Option (Int32) :=
  if a1 = 43 then
    some 2
  else
  if a1 = 44 then
    some 0
  else
  if a1 = 45 then
    some 3
  else
  if a1 = 46 then
    some 0
  else
  if a1 = 47 then
    some 1
  else
  some 0

def f_Parser_coil (o_this : S_Parser) (o_tokens : S_Tokens) (o_tree : S_Tree) (a1 : Int32) : Option (S_Parser × S_Tree) :=
  (f_Parser_take o_this o_tokens 40).bind fun r1 =>
  (f_Parser_coilValue r1.2.1).bind fun r2 =>
  (f_Tree_add o_tree a1 28 o_this.2.2.1 r2).bind fun r3 =>
  if r2 = 0 then
    (f_Parser_nameNode r1 o_tokens r3.2 r3.1).bind fun r5 =>
    (f_Parser_take r5.1 o_tokens 41).bind fun r6 =>
    some (r6, r5.2)
  else
    (f_Parser_take r1 o_tokens r1.2.1).bind fun r7 =>
    (f_Parser_nameNode r7 o_tokens r3.2 r3.1).bind fun r8 =>
    (f_Parser_take r8.1 o_tokens 41).bind fun r9 =>
    some (r9, r8.2)

def f_Parser_contactValue (a1 : Int32) : Option (Int32) :=
  if a1 = 47 then
    some 1
  else
  if a1 = 60 then
    some 3
  else
  if a1 = 62 then
    some 2
  else
  some 0

def f_Parser_contact (o_this : S_Parser) (o_tokens : S_Tokens) (o_tree : S_Tree) (a1 : Int32) : Option (S_Parser × S_Tree) :=
  (f_Parser_contactValue o_this.2.1).bind fun r1 =>
  (f_Tree_add o_tree a1 25 o_this.2.2.1 r1).bind fun r2 =>
  if r1 = 0 then
    (f_Parser_takeName o_this o_tokens).bind fun r4 =>
    if r4.2.2.1 = 46 then
      (f_Parser_take r4.2 o_tokens 46).bind fun r7 =>
      (f_Tree_add r2.2 r2.1 33 o_this.2.2.1 r4.1).bind fun r8 =>
      (f_Parser_nameNode r7 o_tokens r8.2 r8.1).bind fun r9 =>
      some (r9.1, r9.2)
    else
      (f_Tree_add r2.2 r2.1 6 o_this.2.2.1 r4.1).bind fun r6 =>
      some (r4.2, r6.2)
  else
    (f_Parser_take o_this o_tokens o_this.2.1).bind fun r10 =>
    (f_Parser_takeName r10 o_tokens).bind fun r11 =>
    if r11.2.2.1 = 46 then
      (f_Parser_take r11.2 o_tokens 46).bind fun r14 =>
      (f_Tree_add r2.2 r2.1 33 r10.2.2.1 r11.1).bind fun r15 =>
      (f_Parser_nameNode r14 o_tokens r15.2 r15.1).bind fun r16 =>
      some (r16.1, r16.2)
    else
      (f_Tree_add r2.2 r2.1 6 r10.2.2.1 r11.1).bind fun r13 =>
      some (r11.2, r13.2)

def f_Parser_cell (o_this : S_Parser) (o_tokens : S_Tokens) (o_tree : S_Tree) (a1 : Int32) : Option (S_Parser × S_Tree) :=
  if o_this.2.1 = 1 then
    (f_Parser_contact o_this o_tokens o_tree a1).bind fun r2 =>
    some (r2.1, r2.2)
  else
  if o_this.2.1 = 40 then
    (f_Parser_coil o_this o_tokens o_tree a1).bind fun r4 =>
    some (r4.1, r4.2)
  else
  if o_this.2.1 = 42 then
    (f_Tree_add o_tree a1 27 o_this.2.2.1 0).bind fun r6 =>
    (f_Parser_take o_this o_tokens 42).bind fun r7 =>
    some (r7, r6.2)
  else
  if o_this.2.1 = 45 then
    (f_Tree_add o_tree a1 26 o_this.2.2.1 0).bind fun r9 =>
    (f_Parser_take o_this o_tokens 45).bind fun r10 =>
    some (r10, r9.2)
  else
  if o_this.2.1 = 47 then
    (f_Parser_contact o_this o_tokens o_tree a1).bind fun r12 =>
    some (r12.1, r12.2)
  else
  if o_this.2.1 = 60 then
    (f_Parser_contact o_this o_tokens o_tree a1).bind fun r14 =>
    some (r14.1, r14.2)
  else
  if o_this.2.1 = 62 then
    (f_Parser_contact o_this o_tokens o_tree a1).bind fun r16 =>
    some (r16.1, r16.2)
  else
  some ((o_this.1, 6, o_this.2.2), o_tree)

def f_Parser_startsCell (o_this : S_Parser) : Option (Int32) :=
  if o_this.2.1 = 1 then
    some 1
  else
  if o_this.2.1 = 40 then
    some 1
  else
  if o_this.2.1 = 42 then
    some 1
  else
  if o_this.2.1 = 45 then
    some 1
  else
  if o_this.2.1 = 47 then
    some 1
  else
  if o_this.2.1 = 60 then
    some 1
  else
  if o_this.2.1 = 62 then
    some 1
  else
  some 0

def f_Parser_row_L23 (w2_L23 : Int32) (o_tokens_L23 : S_Tokens) : Nat → Int32 → S_Parser → S_Tree → Option (S_Parser × S_Tree)
  | 0, _, _, _ => none
  | n + 1, v3_L23, o_this_L23, o_tree_L23 =>
    if 8192 ≤ v3_L23 then
      some (o_this_L23, o_tree_L23)
    else
      if o_this_L23.2.1 = 124 then
        if o_this_L23.2.1 = 124 then
          (f_Tree_add o_tree_L23 w2_L23 29 o_this_L23.2.2.1 0).bind fun r1336 =>
          (f_Parser_take o_this_L23 o_tokens_L23 124).bind fun r1337 =>
          (f_Parser_cell r1337 o_tokens_L23 r1336.2 w2_L23).bind fun r1338 =>
          nm (v3_L23 + 1) fun x1339 =>
          f_Parser_row_L23 w2_L23 o_tokens_L23 n x1339 r1338.1 r1338.2
        else
          (f_Parser_cell o_this_L23 o_tokens_L23 o_tree_L23 w2_L23).bind fun r1334 =>
          nm (v3_L23 + 1) fun x1335 =>
          f_Parser_row_L23 w2_L23 o_tokens_L23 n x1335 r1334.1 r1334.2
      else
        (f_Parser_startsCell o_this_L23).bind fun r1340 =>
        if r1340 = 0 then
          some (o_this_L23, o_tree_L23)
        else
          if o_this_L23.2.1 = 124 then
            (f_Tree_add o_tree_L23 w2_L23 29 o_this_L23.2.2.1 0).bind fun r1345 =>
            (f_Parser_take o_this_L23 o_tokens_L23 124).bind fun r1346 =>
            (f_Parser_cell r1346 o_tokens_L23 r1345.2 w2_L23).bind fun r1347 =>
            nm (v3_L23 + 1) fun x1348 =>
            f_Parser_row_L23 w2_L23 o_tokens_L23 n x1348 r1347.1 r1347.2
          else
            (f_Parser_cell o_this_L23 o_tokens_L23 o_tree_L23 w2_L23).bind fun r1343 =>
            nm (v3_L23 + 1) fun x1344 =>
            f_Parser_row_L23 w2_L23 o_tokens_L23 n x1344 r1343.1 r1343.2
def f_Parser_row (o_this : S_Parser) (o_tokens : S_Tokens) (o_tree : S_Tree) (a1 : Int32) : Option (S_Parser × S_Tree) :=
  (f_Tree_add o_tree a1 24 o_this.2.2.1 0).bind fun r1 =>
  (f_Parser_cell o_this o_tokens r1.2 r1.1).bind fun r2 =>
  (f_Parser_row_L23 r1.1 o_tokens FU 0 r2.1 r2.2).bind fun r3 =>
  (f_Parser_take r3.1 o_tokens 59).bind fun r4 =>
  some (r4, r3.2)

def f_Parser_ladder_L75 (w4_L75 : Int32) (o_tokens_L75 : S_Tokens) : Nat → Int32 → S_Parser → S_Tree → Option (S_Parser × S_Tree)
  | 0, _, _, _ => none
  | n + 1, v5_L75, o_this_L75, o_tree_L75 =>
    if 8192 ≤ v5_L75 then
      some (o_this_L75, o_tree_L75)
    else
      (f_Parser_startsCell o_this_L75).bind fun r1952 =>
      if r1952 = 0 then
        some (o_this_L75, o_tree_L75)
      else
        (f_Parser_row o_this_L75 o_tokens_L75 o_tree_L75 w4_L75).bind fun r1954 =>
        nm (v5_L75 + 1) fun x1955 =>
        f_Parser_ladder_L75 w4_L75 o_tokens_L75 n x1955 r1954.1 r1954.2
def f_Parser_ladder_L25 (w2_L25 : Int32) (o_tokens_L25 : S_Tokens) : Nat → Int32 → S_Parser → S_Tree → Option (S_Parser × S_Tree)
  | 0, _, _, _ => none
  | n + 1, v3_L25, o_this_L25, o_tree_L25 =>
    if 8192 ≤ v3_L25 then
      some (o_this_L25, o_tree_L25)
    else
      if o_this_L25.2.1 = 295 then
        (f_Tree_add o_tree_L25 w2_L25 23 o_this_L25.2.2.1 0).bind fun r1353 =>
        (f_Parser_take o_this_L25 o_tokens_L25 295).bind fun r1354 =>
        (f_Parser_row r1354 o_tokens_L25 r1353.2 r1353.1).bind fun r1355 =>
        (f_Parser_ladder_L75 r1353.1 o_tokens_L25 FU 0 r1355.1 r1355.2).bind fun r1356 =>
        (f_Parser_take r1356.1 o_tokens_L25 296).bind fun r1357 =>
        nm (v3_L25 + 1) fun x1358 =>
        f_Parser_ladder_L25 w2_L25 o_tokens_L25 n x1358 r1357 r1356.2
      else
        some (o_this_L25, o_tree_L25)
def f_Parser_ladder (o_this : S_Parser) (o_tokens : S_Tokens) (o_tree : S_Tree) (a1 : Int32) : Option (S_Parser × S_Tree) :=
  (f_Tree_add o_tree a1 22 o_this.2.2.1 0).bind fun r1 =>
  (f_Parser_take o_this o_tokens 293).bind fun r2 =>
  (f_Parser_ladder_L25 r1.1 o_tokens FU 0 r2 r1.2).bind fun r3 =>
  (f_Parser_take r3.1 o_tokens 294).bind fun r4 =>
  some (r4, r3.2)

def f_Parser_type (o_this : S_Parser) (o_tokens : S_Tokens) (o_tree : S_Tree) (a1 : Int32) : Option (S_Parser × S_Tree) :=
  if o_this.2.1 = 1 then
    (f_Tree_add o_tree a1 10 o_this.2.2.1 o_this.2.2.2.1).bind fun r13 =>
    (f_Parser_take o_this o_tokens 1).bind fun r14 =>
    some (r14, r13.2)
  else
    if o_this.2.1 = 270 then
      (f_Tree_add o_tree a1 9 o_this.2.2.1 0).bind fun r4 =>
      (f_Parser_take o_this o_tokens 270).bind fun r5 =>
      (f_Parser_take r5 o_tokens 91).bind fun r6 =>
      (f_Parser_constant r6 o_tokens r4.2 r4.1).bind fun r7 =>
      (f_Parser_take r7.1 o_tokens 11822).bind fun r8 =>
      (f_Parser_constant r8 o_tokens r7.2 r4.1).bind fun r9 =>
      (f_Parser_take r9.1 o_tokens 93).bind fun r10 =>
      (f_Parser_take r10 o_tokens 271).bind fun r11 =>
      (f_Parser_simpleType r11 o_tokens r9.2 r4.1).bind fun r12 =>
      some (r12.1, r12.2)
    else
      (f_Parser_simpleType o_this o_tokens o_tree a1).bind fun r3 =>
      some (r3.1, r3.2)

def f_Parser_declaration_L22 (w2_L22 : Int32) (o_tokens_L22 : S_Tokens) : Nat → Int32 → S_Parser → S_Tree → Option (S_Parser × S_Tree)
  | 0, _, _, _ => none
  | n + 1, v3_L22, o_this_L22, o_tree_L22 =>
    if 8192 ≤ v3_L22 then
      some (o_this_L22, o_tree_L22)
    else
      if o_this_L22.2.1 = 44 then
        (f_Parser_take o_this_L22 o_tokens_L22 44).bind fun r1323 =>
        (f_Parser_nameNode r1323 o_tokens_L22 o_tree_L22 w2_L22).bind fun r1324 =>
        nm (v3_L22 + 1) fun x1325 =>
        f_Parser_declaration_L22 w2_L22 o_tokens_L22 n x1325 r1324.1 r1324.2
      else
        some (o_this_L22, o_tree_L22)
def f_Parser_declaration (o_this : S_Parser) (o_tokens : S_Tokens) (o_tree : S_Tree) (a1 : Int32) : Option (S_Parser × S_Tree) :=
  (f_Tree_add o_tree a1 5 o_this.2.2.1 0).bind fun r1 =>
  (f_Parser_nameNode o_this o_tokens r1.2 r1.1).bind fun r2 =>
  (f_Parser_declaration_L22 r1.1 o_tokens FU 0 r2.1 r2.2).bind fun r3 =>
  if r3.1.2.1 = 266 then
    (f_Parser_take r3.1 o_tokens 266).bind fun r12 =>
    (f_Tree_add r3.2 r1.1 7 r12.2.2.1 r12.2.2.2.1).bind fun r13 =>
    (f_Parser_take r12 o_tokens 3).bind fun r14 =>
    (f_Parser_take r14 o_tokens 58).bind fun r15 =>
    (f_Parser_type r15 o_tokens r13.2 r1.1).bind fun r16 =>
    if r16.1.2.1 = 14909 then
      (f_Parser_take r16.1 o_tokens 14909).bind fun r19 =>
      (f_Parser_constant r19 o_tokens r16.2 r1.1).bind fun r20 =>
      (f_Parser_take r20.1 o_tokens 59).bind fun r21 =>
      some (r21, r20.2)
    else
      (f_Parser_take r16.1 o_tokens 59).bind fun r18 =>
      some (r18, r16.2)
  else
    (f_Parser_take r3.1 o_tokens 58).bind fun r5 =>
    (f_Parser_type r5 o_tokens r3.2 r1.1).bind fun r6 =>
    if r6.1.2.1 = 14909 then
      (f_Parser_take r6.1 o_tokens 14909).bind fun r9 =>
      (f_Parser_constant r9 o_tokens r6.2 r1.1).bind fun r10 =>
      (f_Parser_take r10.1 o_tokens 59).bind fun r11 =>
      some (r11, r10.2)
    else
      (f_Parser_take r6.1 o_tokens 59).bind fun r8 =>
      some (r8, r6.2)

def f_Parser_startsSection (o_this : S_Parser) : Option (Int32) :=
  if o_this.2.1 = 262 then
    some 1
  else
    if o_this.2.1 = 263 then
      some 1
    else
      if o_this.2.1 = 264 then
        some 1
      else
        some 0

def f_Parser_sections_L49 (w3_L49 : Int32) (o_tokens_L49 : S_Tokens) : Nat → Int32 → S_Parser → S_Tree → Option (S_Parser × S_Tree)
  | 0, _, _, _ => none
  | n + 1, v4_L49, o_this_L49, o_tree_L49 =>
    if 8192 ≤ v4_L49 then
      some (o_this_L49, o_tree_L49)
    else
      if o_this_L49.2.1 = 1 then
        (f_Parser_declaration o_this_L49 o_tokens_L49 o_tree_L49 w3_L49).bind fun r1693 =>
        nm (v4_L49 + 1) fun x1694 =>
        f_Parser_sections_L49 w3_L49 o_tokens_L49 n x1694 r1693.1 r1693.2
      else
        some (o_this_L49, o_tree_L49)
def f_Parser_sections_L2 (w1_L2 : Int32) (o_tokens_L2 : S_Tokens) : Nat → Int32 → S_Parser → S_Tree → Option (S_Parser × S_Tree)
  | 0, _, _, _ => none
  | n + 1, v2_L2, o_this_L2, o_tree_L2 =>
    if 8192 ≤ v2_L2 then
      some (o_this_L2, o_tree_L2)
    else
      (f_Parser_startsSection o_this_L2).bind fun r1122 =>
      if r1122 = 0 then
        some (o_this_L2, o_tree_L2)
      else
        (f_Tree_add o_tree_L2 w1_L2 4 o_this_L2.2.2.1 (o_this_L2.2.1 - 262)).bind fun r1124 =>
        (f_Parser_take o_this_L2 o_tokens_L2 o_this_L2.2.1).bind fun r1125 =>
        (f_Parser_sections_L49 r1124.1 o_tokens_L2 FU 0 r1125 r1124.2).bind fun r1126 =>
        (f_Parser_take r1126.1 o_tokens_L2 265).bind fun r1127 =>
        nm (v2_L2 + 1) fun x1128 =>
        f_Parser_sections_L2 w1_L2 o_tokens_L2 n x1128 r1127 r1126.2
def f_Parser_sections (o_this : S_Parser) (o_tokens : S_Tokens) (o_tree : S_Tree) (a1 : Int32) : Option (S_Parser × S_Tree) :=
  (f_Parser_sections_L2 a1 o_tokens FU 0 o_this o_tree).bind fun r1 =>
  some (r1.1, r1.2)

def f_Parser_startsBlock (o_this : S_Parser) : Option (Int32) :=
  if o_this.2.1 = 256 then
    some 1
  else
    if o_this.2.1 = 258 then
      some 1
    else
      if o_this.2.1 = 260 then
        some 1
      else
        some 0

def f_Parser_tellFault (o_this : S_Parser) (o_tokens : S_Tokens) : Option (S_Parser) :=
  (f_Tokens_kind o_tokens o_this.1).bind fun r1 =>
  if r1 = 6 then
    (f_Tokens_place o_tokens o_this.1).bind fun r9 =>
    some (o_this.1, o_this.2.1, o_this.2.2.1, o_this.2.2.2.1, o_this.2.2.2.2.1, o_this.2.2.2.2.2.1, o_this.2.2.2.2.2.2.1, o_this.2.2.2.2.2.2.2.1, 0, r9)
  else
    if r1 = 5 then
      (f_Tokens_value o_tokens o_this.1).bind fun r7 =>
      (f_Tokens_place o_tokens o_this.1).bind fun r8 =>
      some (o_this.1, o_this.2.1, o_this.2.2.1, o_this.2.2.2.1, o_this.2.2.2.2.1, o_this.2.2.2.2.2.1, o_this.2.2.2.2.2.2.1, o_this.2.2.2.2.2.2.2.1, r7, r8)
    else
      if o_this.2.2.2.2.2.2.2.1 = 0 then
        (f_Tokens_place o_tokens o_this.1).bind fun r5 =>
        some (o_this.1, o_this.2.1, o_this.2.2.1, o_this.2.2.2.1, o_this.2.2.2.2.1, o_this.2.2.2.2.2.1, o_this.2.2.2.2.2.2.1, o_this.2.2.2.2.2.2.2.1, 6, r5)
      else
        (f_Tokens_place o_tokens o_this.1).bind fun r6 =>
        some (o_this.1, o_this.2.1, o_this.2.2.1, o_this.2.2.2.1, o_this.2.2.2.2.1, o_this.2.2.2.2.2.1, o_this.2.2.2.2.2.2.1, o_this.2.2.2.2.2.2.2.1, 7, r6)

def f_Parser_parse_L51 (w1_L51 : Int32) (o_tokens_L51 : S_Tokens) : Nat → Int32 → S_Parser → S_Tree → Option (S_Parser × S_Tree)
  | 0, _, _, _ => none
  | n + 1, v2_L51, o_this_L51, o_tree_L51 =>
    if 8192 ≤ v2_L51 then
      some (o_this_L51, o_tree_L51)
    else
      (f_Parser_startsBlock o_this_L51).bind fun r1612 =>
      if r1612 = 0 then
        some (o_this_L51, o_tree_L51)
      else
        (f_Parser_blockHead o_this_L51 o_tokens_L51 o_tree_L51 w1_L51).bind fun r1614 =>
        (f_Parser_sections r1614.2.1 o_tokens_L51 r1614.2.2 r1614.1).bind fun r1615 =>
        if r1615.1.2.1 = 293 then
          (f_Parser_ladder r1615.1 o_tokens_L51 r1615.2 r1614.1).bind fun r1621 =>
          (f_Parser_endOfBlock o_this_L51.2.1).bind fun r1622 =>
          (f_Parser_take r1621.1 o_tokens_L51 r1622).bind fun r1623 =>
          nm (v2_L51 + 1) fun x1624 =>
          f_Parser_parse_L51 w1_L51 o_tokens_L51 n x1624 r1623 r1621.2
        else
          (f_Parser_body r1615.1 o_tokens_L51 r1615.2 r1614.1).bind fun r1617 =>
          (f_Parser_endOfBlock o_this_L51.2.1).bind fun r1618 =>
          (f_Parser_take r1617.1 o_tokens_L51 r1618).bind fun r1619 =>
          nm (v2_L51 + 1) fun x1620 =>
          f_Parser_parse_L51 w1_L51 o_tokens_L51 n x1620 r1619 r1617.2
def f_Parser_parse (o_this : S_Parser) (o_tokens : S_Tokens) (o_tree : S_Tree) : Option (S_Parser × S_Tree) :=
  (f_Parser_take ((-1), (-1), o_this.2.2.1, o_this.2.2.2.1, o_this.2.2.2.2.1, 0, 0, 0, o_this.2.2.2.2.2.2.2.2) o_tokens (-1)).bind fun r1 =>
  (f_Tree_forget o_tree).bind fun r2 =>
  (f_Tree_add r2 (-1) 0 0 0).bind fun r3 =>
  (f_Parser_parse_L51 r3.1 o_tokens FU 0 r1 r3.2).bind fun r4 =>
  (f_Parser_take r4.1 o_tokens 4).bind fun r5 =>
  (f_Parser_tellFault r5 o_tokens).bind fun r6 =>
  some (r6, r4.2)
