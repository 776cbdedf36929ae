def f_Math_min (a1 : Int64) (a2 : Int64) : Option (Int64) :=
  if 0 < (lg_cmp a1 a2) then
    some a2
  else
    some a1

def f_Math_max (a1 : Int32) (a2 : Int32) : Option (Int32) :=
  if a1 < a2 then
    some a2
  else
    some a1

def f_Math_abs (a1 : Int32) : Option (Int32) :=
  if 0 ≤ a1 then
    some a1
  else
    some (-a1)
