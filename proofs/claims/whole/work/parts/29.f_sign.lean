def f_Sign_binding (a1 : Int32) : Option (Int32) :=
  if a1 < 0 then
    some (-1)
  else
    if 14 ≤ a1 then
      some (-1)
    else
      gd a1 14 <|
      some (stG t_BINDING a1.toNatClampNeg)

def f_Sign_operation (a1 : Int32) : Option (Int32) :=
  if a1 = 38 then
    some 2
  else
  if a1 = 42 then
    some 11
  else
  if a1 = 43 then
    some 9
  else
  if a1 = 45 then
    some 10
  else
  if a1 = 47 then
    some 12
  else
  if a1 = 60 then
    some 5
  else
  if a1 = 61 then
    some 3
  else
  if a1 = 62 then
    some 6
  else
  if a1 = 286 then
    some 0
  else
  if a1 = 287 then
    some 1
  else
  if a1 = 288 then
    some 2
  else
  if a1 = 289 then
    some 13
  else
  if a1 = 15421 then
    some 7
  else
  if a1 = 15422 then
    some 4
  else
  if a1 = 15933 then
    some 8
  else
  some (-1)

def f_Sign_between (a1 : Int32) : Option (Int32) :=
  if a1 < 0 then
    some (-1)
  else
    if 14 ≤ a1 then
      some (-1)
    else
      gd a1 14 <|
      some (stG t_BETWEEN a1.toNatClampNeg)
