def f_Top_clear (o_text : S_Bytes) : Option (Int32 × S_Bytes) :=
  (f_Bytes_cut 8192 o_text 0).bind fun r1 =>
  some (o_text.1, r1)

def f_Top_feedNumber_L3 (w1_L3 : Int32) : Nat → Int32 → S_Bytes → Option (S_Bytes)
  | 0, _, _ => none
  | n + 1, v2_L3, o_text_L3 =>
    if v2_L3 < 0 then
      some o_text_L3
    else
      (f_Bytes_put 8192 o_text_L3 (((w1_L3.toUInt32 >>> (v2_L3.toUInt32 &&& Int32.toUInt32 31)).toInt32) &&& 255)).bind fun r1132 =>
      nm (v2_L3 + (-8)) fun x1133 =>
      f_Top_feedNumber_L3 w1_L3 n x1133 r1132
def f_Top_feedNumber (o_text : S_Bytes) (a1 : Int32) : Option (S_Bytes) :=
  (f_Top_feedNumber_L3 a1 FU 24 o_text).bind fun r1 =>
  some r1

def f_Top_feed (o_text : S_Bytes) (a1 : Int32) (a2 : Int32) (a3 : Int32) (a4 : Int32) (a5 : Int32) : Option (Int32 × S_Bytes) :=
  if (o_text.1 + 20) ≤ 8192 then
    (f_Top_feedNumber o_text a1).bind fun r2 =>
    (f_Top_feedNumber r2 a2).bind fun r3 =>
    (f_Top_feedNumber r3 a3).bind fun r4 =>
    (f_Top_feedNumber r4 a4).bind fun r5 =>
    (f_Top_feedNumber r5 a5).bind fun r6 =>
    some (r6.1, r6)
  else
    some ((-1), o_text)

def f_Top_end (o_text : S_Bytes) (a1 : Int32) : Option (Int32 × S_Bytes) :=
  if a1 < 0 then
    some ((-1), o_text)
  else
    if 20 < a1 then
      some ((-1), o_text)
    else
      if 20 ≤ o_text.1 then
        (f_Bytes_cut 8192 o_text ((o_text.1 - 20) + a1)).bind fun r4 =>
        some (r4.1, r4)
      else
        some ((-1), o_text)

def f_Top_change (o_text : S_Bytes) (a1 : Int32) (a2 : Int32) : Option (Int32 × S_Bytes) :=
  if a2 < 0 then
    some ((-1), o_text)
  else
    if a2 ≤ 255 then
      (f_Bytes_swap 8192 o_text a1 a2).bind fun r3 =>
      some (r3.1, r3.2)
    else
      some ((-1), o_text)

def f_Top_read (o_text : S_Bytes) (o_names : S_Names) (o_tokens : S_Tokens) (o_tree : S_Tree) (o_parser : S_Parser) : Option (Int32 × S_Names × S_Tokens × S_Tree × S_Parser) :=
  (f_Tokens_scan o_tokens o_text o_names).bind fun r1 =>
  (f_Parser_parse o_parser r1.1 o_tree).bind fun r2 =>
  if r2.1.2.2.2.2.2.2.2.2.1 = 0 then
    (f_Tree_link r2.2).bind fun r6 =>
    some (r2.1.2.2.2.2.2.2.2.2.1, r1.2, r1.1, r6, r2.1)
  else
    (f_Tree_forget r2.2).bind fun r4 =>
    (f_Names_forget r1.2).bind fun r5 =>
    some (r2.1.2.2.2.2.2.2.2.2.1, r5, r1.1, r4, r2.1)

def f_Top_count (o_text : S_Bytes) (o_written : S_Bytes) (o_names : S_Names) (o_tree : S_Tree) (o_parser : S_Parser) (a1 : Int32) : Option (Int32) :=
  if a1 = 0 then
    some o_parser.2.2.2.2.2.2.2.2.1
  else
  if a1 = 1 then
    some o_parser.2.2.2.2.2.2.2.2.2
  else
  if a1 = 2 then
    some o_tree.1
  else
  if a1 = 3 then
    some (o_names.1 - 41)
  else
  if a1 = 4 then
    some o_text.1
  else
  if a1 = 5 then
    some o_written.1
  else
  some (-1)

def f_Top_node (o_tree : S_Tree) (a1 : Int32) (a2 : Int32) : Option (Int32) :=
  if a2 = 0 then
    (f_Tree_kind o_tree a1).bind fun r2 =>
    some r2
  else
  if a2 = 1 then
    (f_Tree_place o_tree a1).bind fun r4 =>
    some r4
  else
  if a2 = 2 then
    (f_Tree_value o_tree a1).bind fun r6 =>
    some r6
  else
  if a2 = 3 then
    (f_Tree_parent o_tree a1).bind fun r8 =>
    some r8
  else
  if a2 = 4 then
    (f_Tree_children o_tree a1).bind fun r10 =>
    some r10
  else
  some (-1)

def f_Top_nameByte (o_names : S_Names) (a1 : Int32) (a2 : Int32) : Option (Int32) :=
  if a1 < 0 then
    some (-1)
  else
    if a1 < (o_names.1 - 41) then
      (f_Names_letterOf o_names (41 + a1) a2).bind fun r3 =>
      some r3
    else
      some (-1)

def f_Top_write (o_written : S_Bytes) (o_names : S_Names) (o_tree : S_Tree) : Option (Int32 × S_Bytes) :=
  if o_tree.1 = 0 then
    some ((-1), o_written)
  else
    (f_Writer_writeTree o_tree o_names o_written).bind fun r2 =>
    some (r2.1, r2)

def f_Top_byteAt (o_written : S_Bytes) (a1 : Int32) : Option (Int32) :=
  (f_Bytes_get 16384 o_written a1).bind fun r1 =>
  some r1

def f_Top_back_L35 (o_written_L35 : S_Bytes) : Nat → Int32 → S_Bytes → Option (S_Bytes)
  | 0, _, _ => none
  | n + 1, v1_L35, o_text_L35 =>
    if o_written_L35.1 ≤ v1_L35 then
      some o_text_L35
    else
      (f_Bytes_get 16384 o_written_L35 v1_L35).bind fun r1452 =>
      (f_Bytes_put 8192 o_text_L35 r1452).bind fun r1453 =>
      nm (v1_L35 + 1) fun x1454 =>
      f_Top_back_L35 o_written_L35 n x1454 r1453
def f_Top_back (o_text : S_Bytes) (o_written : S_Bytes) : Option (Int32 × S_Bytes) :=
  if o_written.1 = 0 then
    some ((-1), o_text)
  else
    if o_written.1 ≤ 8192 then
      (f_Bytes_cut 8192 o_text 0).bind fun r3 =>
      (f_Top_back_L35 o_written FU 0 r3).bind fun r4 =>
      some (r4.1, r4)
    else
      some ((-1), o_text)
