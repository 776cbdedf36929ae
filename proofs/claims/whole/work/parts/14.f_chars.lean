def f_Top_great (a1 : Int32) : Option (Int32) :=
  if a1 < 97 then
    some a1
  else
    if 122 < a1 then
      some a1
    else
      some ((a1 - 97) + 65)

def f_Top_isDigit (a1 : Int32) : Option (Int32) :=
  if a1 < 48 then
    some 0
  else
    if 57 < a1 then
      some 0
    else
      some 1

def f_Top_isNameByte (a1 : Int32) : Option (Int32) :=
  if a1 < 65 then
    if a1 < 97 then
      if a1 < 48 then
        if a1 = 95 then
          some 1
        else
          some 0
      else
        if a1 ≤ 57 then
          some 1
        else
          if a1 = 95 then
            some 1
          else
            some 0
    else
      if a1 ≤ 122 then
        some 1
      else
        if a1 < 48 then
          if a1 = 95 then
            some 1
          else
            some 0
        else
          if a1 ≤ 57 then
            some 1
          else
            if a1 = 95 then
              some 1
            else
              some 0
  else
    if a1 ≤ 90 then
      some 1
    else
      if a1 < 97 then
        if a1 < 48 then
          if a1 = 95 then
            some 1
          else
            some 0
        else
          if a1 ≤ 57 then
            some 1
          else
            if a1 = 95 then
              some 1
            else
              some 0
      else
        if a1 ≤ 122 then
          some 1
        else
          if a1 < 48 then
            if a1 = 95 then
              some 1
            else
              some 0
          else
            if a1 ≤ 57 then
              some 1
            else
              if a1 = 95 then
                some 1
              else
                some 0
