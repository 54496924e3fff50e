def fX5_within (p0 : Int32) (p1 : Int32) (p2 : Int32) : Option (Bool) :=
  if p0 < p1 then
    some (false)
  else
    if p2 < p0 then
      some (false)
    else
      some (true)
def fX3_length (tx : Tab) : Option (Int32) :=
  (fX4_count tx).bind fun x1 =>
  some (x1)
def fX3_lengthen (fu : Nat) (tx : Tab) (p1 : Int32) : Option (Int32 × Tab) :=
  (fX4_count tx).bind fun x1 =>
  (fX4_insert fu tx x1).bind fun x2 =>
  (fX4_put x2 x1 (0 : Int32) p1).bind fun x3 =>
  (fX4_count x3).bind fun x4 =>
  some (x4, x3)
def fX3_wipe (tx : Tab) : Option (Int32 × Tab) :=
  (fX4_count tx).bind fun x1 =>
  (fX4_clear tx).bind fun x2 =>
  some (x1, x2)
def fX3_commandCount (cm : Tab) : Option (Int32) :=
  (fX4_count cm).bind fun x1 =>
  some (x1)
def fX3_wantBehindLetter (p0 : Int32) : Option (Int32) :=
  if p0 = 99 then
    some ((1 : Int32))
  else
  if p0 = 100 then
    some ((6 : Int32))
  else
  if p0 = 101 then
    some ((6 : Int32))
  else
  if p0 = 102 then
    some ((-1 : Int32))
  else
  if p0 = 103 then
    some ((-1 : Int32))
  else
  if p0 = 104 then
    some ((2 : Int32))
  else
  if p0 = 105 then
    some ((-1 : Int32))
  else
  if p0 = 106 then
    some ((-1 : Int32))
  else
  if p0 = 107 then
    some ((-1 : Int32))
  else
  if p0 = 108 then
    some ((-1 : Int32))
  else
  if p0 = 109 then
    some ((-1 : Int32))
  else
  if p0 = 110 then
    some ((6 : Int32))
  else
  if p0 = 111 then
    some ((-1 : Int32))
  else
  if p0 = 112 then
    some ((-1 : Int32))
  else
  if p0 = 113 then
    some ((-1 : Int32))
  else
  if p0 = 114 then
    some ((6 : Int32))
  else
  if p0 = 115 then
    some ((2 : Int32))
  else
  some ((-1 : Int32))
def fX3_isDigit (p0 : Int32) : Option (Bool) :=
  if p0 < (48 : Int32) then
    some (false)
  else
    if (57 : Int32) < p0 then
      some (false)
    else
      some (true)
def fX3_wantBehindEnd (p0 : Int32) : Option (Int32) :=
  if p0 = (59 : Int32) then
    some ((0 : Int32))
  else
    some ((-1 : Int32))
def fX3_wantBehind (p0 : Int32) (p1 : Int32) : Option (Int32) :=
  if p0 = 0 then
    (fX3_wantBehindLetter p1).bind fun x2 =>
    some (x2)
  else
  if p0 = 1 then
    (fX3_isDigit p1).bind fun x4 =>
    if (bI x4) = 0 then
      some ((-1 : Int32))
    else
      some ((6 : Int32))
  else
  if p0 = 2 then
    (fX3_isDigit p1).bind fun x6 =>
    if (bI x6) = 0 then
      some ((-1 : Int32))
    else
      some ((3 : Int32))
  else
  if p0 = 3 then
    if p1 = (44 : Int32) then
      some ((4 : Int32))
    else
      some ((-1 : Int32))
  else
  if p0 = 4 then
    (fX3_isDigit p1).bind fun x9 =>
    if (bI x9) = 0 then
      some ((-1 : Int32))
    else
      some ((5 : Int32))
  else
  if p0 = 5 then
    (fX3_isDigit p1).bind fun x11 =>
    if (bI x11) = 0 then
      (fX3_wantBehindEnd p1).bind fun x12 =>
      some (x12)
    else
      some ((6 : Int32))
  else
  (fX3_wantBehindEnd p1).bind fun x13 =>
  some (x13)
def fX3_note_J55 (fu : Nat) (p2 : Int32) (cm : Tab) (v3 : Int32) : Option (Tab) :=
  (fX4_put cm v3 (1 : Int32) (p2 - (48 : Int32))).bind fun x2 =>
  some (x2)
def fX3_note_J18 (fu : Nat) (p1 : Int32) (p2 : Int32) (cm : Tab) : Option (Tab) :=
  (fX4_count cm).bind fun x1 =>
  if p1 = 0 then
    (fX4_put cm (x1 - (1 : Int32)) (0 : Int32) p2).bind fun x6 =>
    some (x6)
  else
    if p1 = (1 : Int32) then
      fX3_note_J55 fu p2 cm (x1 - (1 : Int32))
    else
      if p1 = (2 : Int32) then
        fX3_note_J55 fu p2 cm (x1 - (1 : Int32))
      else
        (fX3_isDigit p2).bind fun x3 =>
        if (bI x3) = 0 then
          some (cm)
        else
          (fX4_at cm (x1 - (1 : Int32)) (2 : Int32)).bind fun x4 =>
          (fX4_put cm (x1 - (1 : Int32)) (2 : Int32) ((((10 : Int32) * x4) + p2) - (48 : Int32))).bind fun x5 =>
          some (x5)
def fX3_note (fu : Nat) (cm : Tab) (p1 : Int32) (p2 : Int32) : Option (Tab) :=
  if p1 = 0 then
    (fX4_count cm).bind fun x7 =>
    (fX4_insert fu cm x7).bind fun x8 =>
    fX3_note_J18 fu p1 p2 x8
  else
    fX3_note_J18 fu p1 p2 cm
def fX3_read_L11 (fu : Nat) (tx : Tab) : Nat → Tab → Int32 → Int32 → Option (Int32 × Tab)
  | 0, _, _, _ => none
  | k + 1, cm, v1, v2 =>
    (fX4_count tx).bind fun x2 =>
    if x2 ≤ v2 then
      if v1 = 0 then
        some ((-1 : Int32), cm)
      else
        (fX4_count tx).bind fun x3 =>
        some (x3, cm)
    else
      (fX4_at tx v2 (0 : Int32)).bind fun x4 =>
      (fX3_wantBehind v1 x4).bind fun x5 =>
      if x5 = (-1 : Int32) then
        some (v2, cm)
      else
        (fX3_note fu cm v1 x4).bind fun x6 =>
        fX3_read_L11 fu tx k x6 x5 (v2 + 1)
def fX3_read (fu : Nat) (tx : Tab) (cm : Tab) : Option (Int32 × Tab) :=
  (fX4_clear cm).bind fun x1 =>
  fX3_read_L11 fu tx fu x1 (0 : Int32) (0 : Int32)
def fX3_kindOf (p0 : Int32) : Option (Int32) :=
  if p0 = (104 : Int32) then
    some ((1 : Int32))
  else
    some ((0 : Int32))
def fX3_isPossible (fu : Nat) (o_ft : Tab) (o_li : Tab) (o_st : Tab) (o_tu : Int32) (o_dl : Bool) (p0 : Int32) (p1 : Int32) (p2 : Int32) : Option (Bool) :=
  if p0 = 99 then
    (fX1_isFighter o_ft p1).bind fun x2 =>
    if (bI x2) = 0 then
      some (false)
    else
      (fX1_mayResumeTurn fu o_ft o_li o_tu p1).bind fun x3 =>
      if (bI x3) = 0 then
        some (false)
      else
        some (true)
  else
  if p0 = 100 then
    (fX1_mayDelayTurn o_tu o_dl).bind fun x5 =>
    some (x5)
  else
  if p0 = 101 then
    (fX1_mayEndTurn o_st o_tu).bind fun x7 =>
    some (x7)
  else
  if p0 = 110 then
    (fX1_mayBeginTurn o_tu).bind fun x9 =>
    some (x9)
  else
  if p0 = 114 then
    (fX1_maySettle o_st).bind fun x11 =>
    some (x11)
  else
  (fX1_isFighter o_ft p1).bind fun x12 =>
  if (bI x12) = 0 then
    some (false)
  else
    (fX5_within p2 (1 : Int32) (60 : Int32)).bind fun x13 =>
    if (bI x13) = 0 then
      some (false)
    else
      (fX1_presentTurn o_tu).bind fun x14 =>
      (fX3_kindOf p0).bind fun x15 =>
      (fX1_mayAct o_ft o_st o_tu x14 x15).bind fun x16 =>
      if (bI x16) = 0 then
        some (false)
      else
        some (true)
def fX3_perform (fu : Nat) (cm : Tab) (o_ft : Tab) (o_er : Tab) (o_eb : Int32) (o_li : Tab) (o_st : Tab) (o_rd : Int32) (o_tu : Int32) (o_la : Int32) (o_dl : Bool) (o_sh : Int32) (o_tb : Int32) (p1 : Int32) : Option (Bool × Tab × Tab × Int32 × Tab × Tab × Int32 × Int32 × Int32 × Bool × Int32) :=
  (fX4_at cm p1 (0 : Int32)).bind fun x1 =>
  (fX4_at cm p1 (1 : Int32)).bind fun x2 =>
  (fX4_at cm p1 (2 : Int32)).bind fun x3 =>
  (fX3_isPossible fu o_ft o_li o_st o_tu o_dl x1 x2 x3).bind fun x4 =>
  if (bI x4) = 0 then
    some (false, o_ft, o_er, o_eb, o_li, o_st, o_rd, o_tu, o_la, o_dl, o_tb)
  else
    if x1 = 99 then
      (fX1_resumeTurn fu o_li o_tu o_la o_dl x2).bind fun x6 =>
      some (true, o_ft, o_er, o_eb, x6.2.1, o_st, o_rd, x6.2.2.1, x6.2.2.2.1, x6.2.2.2.2, o_tb)
    else
    if x1 = 100 then
      (fX1_delayTurn fu o_li o_tu).bind fun x8 =>
      some (true, o_ft, o_er, o_eb, x8.2.1, o_st, o_rd, x8.2.2, o_la, o_dl, o_tb)
    else
    if x1 = 101 then
      (fX1_endTurn fu o_er o_tu).bind fun x10 =>
      some (true, o_ft, x10.2.1, o_eb, o_li, o_st, o_rd, x10.2.2, o_la, o_dl, o_tb)
    else
    if x1 = 110 then
      (fX1_beginTurn fu o_ft o_er o_li o_rd o_tu o_la o_dl o_sh o_tb).bind fun x12 =>
      some (true, x12.2.1, x12.2.2.1, o_eb, x12.2.2.2.1, o_st, x12.2.2.2.2.1, x12.2.2.2.2.2.1, x12.2.2.2.2.2.2.1, x12.2.2.2.2.2.2.2.1, x12.2.2.2.2.2.2.2.2)
    else
    if x1 = 114 then
      (fX1_settleStack fu o_ft o_er o_eb o_st o_tu o_sh).bind fun x14 =>
      some (true, x14.2.1, x14.2.2.1, x14.2.2.2.1, o_li, x14.2.2.2.2.1, o_rd, x14.2.2.2.2.2, o_la, o_dl, o_tb)
    else
    (fX3_kindOf x1).bind fun x15 =>
    (fX1_presentTurn o_tu).bind fun x16 =>
    (fX1_beginAct fu o_ft o_st o_dl x15 x16 x2 x3 (0 : Int32) (0 : Int32) (0 : Int32)).bind fun x17 =>
    some (true, x17.2.1, o_er, o_eb, o_li, x17.2.2.1, o_rd, o_tu, o_la, x17.2.2.2, o_tb)
