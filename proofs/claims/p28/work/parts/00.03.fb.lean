def fX5_within (p0 : Int32) (p1 : Int32) (p2 : Int32) : Option (Bool) :=
  if p0 < p1 then
    some (false)
  else
    if p2 < p0 then
      some (false)
    else
      some (true)
def fX3_length (tx : Tab) : Option (Int32) :=
  (fX4_count tx).bind fun x1 =>
  some (x1)
def fX3_commandCount (cm : Tab) : Option (Int32) :=
  (fX4_count cm).bind fun x1 =>
  some (x1)
def fX3_wantBehindLetter (p0 : Int32) : Option (Int32) :=
  if p0 = 99 then
    some ((1 : Int32))
  else
  if p0 = 100 then
    some ((6 : Int32))
  else
  if p0 = 101 then
    some ((6 : Int32))
  else
  if p0 = 102 then
    some ((-1 : Int32))
  else
  if p0 = 103 then
    some ((-1 : Int32))
  else
  if p0 = 104 then
    some ((2 : Int32))
  else
  if p0 = 105 then
    some ((-1 : Int32))
  else
  if p0 = 106 then
    some ((-1 : Int32))
  else
  if p0 = 107 then
    some ((-1 : Int32))
  else
  if p0 = 108 then
    some ((-1 : Int32))
  else
  if p0 = 109 then
    some ((-1 : Int32))
  else
  if p0 = 110 then
    some ((6 : Int32))
  else
  if p0 = 111 then
    some ((-1 : Int32))
  else
  if p0 = 112 then
    some ((-1 : Int32))
  else
  if p0 = 113 then
    some ((-1 : Int32))
  else
  if p0 = 114 then
    some ((6 : Int32))
  else
  if p0 = 115 then
    some ((2 : Int32))
  else
  some ((-1 : Int32))
def fX3_isDigit (p0 : Int32) : Option (Bool) :=
  if p0 < (48 : Int32) then
    some (false)
  else
    if (57 : Int32) < p0 then
      some (false)
    else
      some (true)
def fX3_wantBehindEnd (p0 : Int32) : Option (Int32) :=
  if p0 = (59 : Int32) then
    some ((0 : Int32))
  else
    some ((-1 : Int32))
def fX3_wantBehind (p0 : Int32) (p1 : Int32) : Option (Int32) :=
  if p0 = 0 then
    (fX3_wantBehindLetter p1).bind fun x2 =>
    some (x2)
  else
  if p0 = 1 then
    (fX3_isDigit p1).bind fun x4 =>
    if (bI x4) = 0 then
      some ((-1 : Int32))
    else
      some ((6 : Int32))
  else
  if p0 = 2 then
    (fX3_isDigit p1).bind fun x6 =>
    if (bI x6) = 0 then
      some ((-1 : Int32))
    else
      some ((3 : Int32))
  else
  if p0 = 3 then
    if p1 = (44 : Int32) then
      some ((4 : Int32))
    else
      some ((-1 : Int32))
  else
  if p0 = 4 then
    (fX3_isDigit p1).bind fun x9 =>
    if (bI x9) = 0 then
      some ((-1 : Int32))
    else
      some ((5 : Int32))
  else
  if p0 = 5 then
    (fX3_isDigit p1).bind fun x11 =>
    if (bI x11) = 0 then
      (fX3_wantBehindEnd p1).bind fun x12 =>
      some (x12)
    else
      some ((6 : Int32))
  else
  (fX3_wantBehindEnd p1).bind fun x13 =>
  some (x13)
def fX3_note_J55 (fu : Nat) (p2 : Int32) (cm : Tab) (v3 : Int32) : Option (Tab) :=
  (fX4_put cm v3 (1 : Int32) (p2 - (48 : Int32))).bind fun x2 =>
  some (x2)
def fX3_note_J18 (fu : Nat) (p1 : Int32) (p2 : Int32) (cm : Tab) : Option (Tab) :=
  (fX4_count cm).bind fun x1 =>
  if p1 = 0 then
    (fX4_put cm (x1 - (1 : Int32)) (0 : Int32) p2).bind fun x6 =>
    some (x6)
  else
    if p1 = (1 : Int32) then
      fX3_note_J55 fu p2 cm (x1 - (1 : Int32))
    else
      if p1 = (2 : Int32) then
        fX3_note_J55 fu p2 cm (x1 - (1 : Int32))
      else
        (fX3_isDigit p2).bind fun x3 =>
        if (bI x3) = 0 then
          some (cm)
        else
          (fX4_at cm (x1 - (1 : Int32)) (2 : Int32)).bind fun x4 =>
          (fX4_put cm (x1 - (1 : Int32)) (2 : Int32) ((((10 : Int32) * x4) + p2) - (48 : Int32))).bind fun x5 =>
          some (x5)
def fX3_note (fu : Nat) (cm : Tab) (p1 : Int32) (p2 : Int32) : Option (Tab) :=
  if p1 = 0 then
    (fX4_count cm).bind fun x7 =>
    (fX4_insert fu cm x7).bind fun x8 =>
    fX3_note_J18 fu p1 p2 x8
  else
    fX3_note_J18 fu p1 p2 cm
def fX3_read_L11 (fu : Nat) (tx : Tab) : Nat → Tab → Int32 → Int32 → Option (Int32 × Tab)
  | 0, _, _, _ => none
  | k + 1, cm, v1, v2 =>
    (fX4_count tx).bind fun x2 =>
    if x2 ≤ v2 then
      if v1 = 0 then
        some ((-1 : Int32), cm)
      else
        (fX4_count tx).bind fun x3 =>
        some (x3, cm)
    else
      (fX4_at tx v2 (0 : Int32)).bind fun x4 =>
      (fX3_wantBehind v1 x4).bind fun x5 =>
      if x5 = (-1 : Int32) then
        some (v2, cm)
      else
        (fX3_note fu cm v1 x4).bind fun x6 =>
        fX3_read_L11 fu tx k x6 x5 (v2 + 1)
def fX3_read (fu : Nat) (tx : Tab) (cm : Tab) : Option (Int32 × Tab) :=
  (fX4_clear cm).bind fun x1 =>
  fX3_read_L11 fu tx fu x1 (0 : Int32) (0 : Int32)
def fX3_kindOf (p0 : Int32) : Option (Int32) :=
  if p0 = (104 : Int32) then
    some ((1 : Int32))
  else
    some ((0 : Int32))
def fX3_isPossible (fu : Nat) (o_ft : Tab) (o_li : Tab) (o_st : Tab) (o_tu : Int32) (o_dl : Bool) (p0 : Int32) (p1 : Int32) (p2 : Int32) : Option (Bool) :=
  if p0 = 99 then
    (fX1_isFighter o_ft p1).bind fun x2 =>
    if (bI x2) = 0 then
      some (false)
    else
      (fX1_mayResumeTurn fu o_ft o_li o_tu p1).bind fun x3 =>
      if (bI x3) = 0 then
        some (false)
      else
        some (true)
  else
  if p0 = 100 then
    (fX1_mayDelayTurn o_tu o_dl).bind fun x5 =>
    some (x5)
  else
  if p0 = 101 then
    (fX1_mayEndTurn o_st o_tu).bind fun x7 =>
    some (x7)
  else
  if p0 = 110 then
    (fX1_mayBeginTurn o_tu).bind fun x9 =>
    some (x9)
  else
  if p0 = 114 then
    (fX1_maySettle o_st).bind fun x11 =>
    some (x11)
  else
  (fX1_isFighter o_ft p1).bind fun x12 =>
  if (bI x12) = 0 then
    some (false)
  else
    (fX5_within p2 (1 : Int32) (60 : Int32)).bind fun x13 =>
    if (bI x13) = 0 then
      some (false)
    else
      (fX1_presentTurn o_tu).bind fun x14 =>
      (fX3_kindOf p0).bind fun x15 =>
      (fX1_mayAct o_ft o_st o_tu x14 x15).bind fun x16 =>
      if (bI x16) = 0 then
        some (false)
      else
        some (true)
def fX3_perform (fu : Nat) (cm : Tab) (o_ft : Tab) (o_er : Tab) (o_eb : Int32) (o_li : Tab) (o_st : Tab) (o_rd : Int32) (o_tu : Int32) (o_la : Int32) (o_dl : Bool) (o_sh : Int32) (o_tb : Int32) (p1 : Int32) : Option (Bool × Tab × Tab × Int32 × Tab × Tab × Int32 × Int32 × Int32 × Bool × Int32) :=
  (fX4_at cm p1 (0 : Int32)).bind fun x1 =>
  (fX4_at cm p1 (1 : Int32)).bind fun x2 =>
  (fX4_at cm p1 (2 : Int32)).bind fun x3 =>
  (fX3_isPossible fu o_ft o_li o_st o_tu o_dl x1 x2 x3).bind fun x4 =>
  if (bI x4) = 0 then
    some (false, o_ft, o_er, o_eb, o_li, o_st, o_rd, o_tu, o_la, o_dl, o_tb)
  else
    if x1 = 99 then
      (fX1_resumeTurn fu o_li o_tu o_la o_dl x2).bind fun x6 =>
      some (true, o_ft, o_er, o_eb, x6.2.1, o_st, o_rd, x6.2.2.1, x6.2.2.2.1, x6.2.2.2.2, o_tb)
    else
    if x1 = 100 then
      (fX1_delayTurn fu o_li o_tu).bind fun x8 =>
      some (true, o_ft, o_er, o_eb, x8.2.1, o_st, o_rd, x8.2.2, o_la, o_dl, o_tb)
    else
    if x1 = 101 then
      (fX1_endTurn fu o_er o_tu).bind fun x10 =>
      some (true, o_ft, x10.2.1, o_eb, o_li, o_st, o_rd, x10.2.2, o_la, o_dl, o_tb)
    else
    if x1 = 110 then
      (fX1_beginTurn fu o_ft o_er o_li o_rd o_tu o_la o_dl o_sh o_tb).bind fun x12 =>
      some (true, x12.2.1, x12.2.2.1, o_eb, x12.2.2.2.1, o_st, x12.2.2.2.2.1, x12.2.2.2.2.2.1, x12.2.2.2.2.2.2.1, x12.2.2.2.2.2.2.2.1, x12.2.2.2.2.2.2.2.2)
    else
    if x1 = 114 then
      (fX1_settleStack fu o_ft o_er o_eb o_st o_tu o_sh).bind fun x14 =>
      some (true, x14.2.1, x14.2.2.1, x14.2.2.2.1, o_li, x14.2.2.2.2.1, o_rd, x14.2.2.2.2.2, o_la, o_dl, o_tb)
    else
    (fX3_kindOf x1).bind fun x15 =>
    (fX1_presentTurn o_tu).bind fun x16 =>
    (fX1_beginAct fu o_ft o_st o_dl x15 x16 x2 x3 (0 : Int32) (0 : Int32) (0 : Int32)).bind fun x17 =>
    some (true, x17.2.1, o_er, o_eb, o_li, x17.2.2.1, o_rd, o_tu, o_la, x17.2.2.2, o_tb)
def fX2_size (yc : Int32) : Option (Int32) :=
  some (yc)
def fX2_slotAt (yp : (Nat → Nat)) (p1 : Int32) : Option (Nat) :=
  if p1 < 0 then
    none
  else
    if (Int32.ofNat 4) ≤ p1 then
      none
    else
      if ¬ (p1 < 0 ∨ 4 ≤ (p1).toNatClampNeg) then
        some (yp (p1).toNatClampNeg)
      else none
def fX2_dropOldest_L8 (fu : Nat) (yc : Int32) (v1 : Nat) : Nat → (Nat → Nat) → Int32 → Option (Int32 × (Nat → Nat))
  | 0, _, _ => none
  | k + 1, yp, v2 =>
    if (Int32.ofNat 4) ≤ v2 then
      if (Int32.ofNat 4) ≤ 0 then
        some ((yc - (1 : Int32)), yp)
      else
        if ¬ (((Int32.ofNat 4) - (1 : Int32)) < 0 ∨ 4 ≤ (((Int32.ofNat 4) - (1 : Int32))).toNatClampNeg) ∧ v1 < 4 then
          some ((yc - (1 : Int32)), (va_up yp (((Int32.ofNat 4) - (1 : Int32))).toNatClampNeg v1))
        else none
    else
      if ¬ (v2 < 0 ∨ 4 ≤ (v2).toNatClampNeg) then
        if ¬ ((v2 - (1 : Int32)) < 0 ∨ 4 ≤ ((v2 - (1 : Int32))).toNatClampNeg) ∧ (yp (v2).toNatClampNeg) < 4 then
          fX2_dropOldest_L8 fu yc v1 k (va_up yp ((v2 - (1 : Int32))).toNatClampNeg (yp (v2).toNatClampNeg)) (v2 + 1)
        else none
      else none
def fX2_dropOldest (fu : Nat) (yc : Int32) (yp : (Nat → Nat)) : Option (Int32 × (Nat → Nat)) :=
  (fX2_slotAt yp (0 : Int32)).bind fun x1 =>
  fX2_dropOldest_L8 fu yc x1 fu yp (1 : Int32)
def fX2_save_J16 (fu : Nat) (yg : (Nat → GV)) (o_ft : Tab) (o_er : Tab) (o_eb : Int32) (o_li : Tab) (o_st : Tab) (o_rd : Int32) (o_tu : Int32) (o_la : Int32) (o_dl : Bool) (o_sh : Int32) (o_tb : Int32) (yc : Int32) (yp : (Nat → Nat)) : Option (Int32 × (Nat → Nat) × (Nat → GV)) :=
  (fX2_slotAt yp yc).bind fun x1 =>
  if x1 < 4 then
    (fX1_copyFrom (yg x1).1 (yg x1).2.1 (yg x1).2.2.1 (yg x1).2.2.2.1 (yg x1).2.2.2.2.1 (yg x1).2.2.2.2.2.1 (yg x1).2.2.2.2.2.2.1 (yg x1).2.2.2.2.2.2.2.1 (yg x1).2.2.2.2.2.2.2.2.1 (yg x1).2.2.2.2.2.2.2.2.2.1 (yg x1).2.2.2.2.2.2.2.2.2.2 o_ft o_er o_eb o_li o_st o_rd o_tu o_la o_dl o_sh o_tb).bind fun x2 =>
    some ((yc + (1 : Int32)), yp, (va_up yg x1 x2))
  else none
def fX2_save (fu : Nat) (yc : Int32) (yp : (Nat → Nat)) (yg : (Nat → GV)) (o_ft : Tab) (o_er : Tab) (o_eb : Int32) (o_li : Tab) (o_st : Tab) (o_rd : Int32) (o_tu : Int32) (o_la : Int32) (o_dl : Bool) (o_sh : Int32) (o_tb : Int32) : Option (Int32 × (Nat → Nat) × (Nat → GV)) :=
  if yc < (Int32.ofNat 4) then
    fX2_save_J16 fu yg o_ft o_er o_eb o_li o_st o_rd o_tu o_la o_dl o_sh o_tb yc yp
  else
    (fX2_dropOldest fu yc yp).bind fun x7 =>
    fX2_save_J16 fu yg o_ft o_er o_eb o_li o_st o_rd o_tu o_la o_dl o_sh o_tb x7.1 x7.2
def fX2_restore (yc : Int32) (yp : (Nat → Nat)) (yg : (Nat → GV)) (o_ft : Tab) (o_er : Tab) (o_eb : Int32) (o_li : Tab) (o_st : Tab) (o_rd : Int32) (o_tu : Int32) (o_la : Int32) (o_dl : Bool) (o_sh : Int32) (o_tb : Int32) : Option (Int32 × Tab × Tab × Int32 × Tab × Tab × Int32 × Int32 × Int32 × Bool × Int32 × Int32) :=
  (fX2_slotAt yp (yc - (1 : Int32))).bind fun x1 =>
  if x1 < 4 then
    (fX1_copyFrom o_ft o_er o_eb o_li o_st o_rd o_tu o_la o_dl o_sh o_tb (yg x1).1 (yg x1).2.1 (yg x1).2.2.1 (yg x1).2.2.2.1 (yg x1).2.2.2.2.1 (yg x1).2.2.2.2.2.1 (yg x1).2.2.2.2.2.2.1 (yg x1).2.2.2.2.2.2.2.1 (yg x1).2.2.2.2.2.2.2.2.1 (yg x1).2.2.2.2.2.2.2.2.2.1 (yg x1).2.2.2.2.2.2.2.2.2.2).bind fun x2 =>
    some ((yc - (1 : Int32)), x2.1, x2.2.1, x2.2.2.1, x2.2.2.2.1, x2.2.2.2.2.1, x2.2.2.2.2.2.1, x2.2.2.2.2.2.2.1, x2.2.2.2.2.2.2.2.1, x2.2.2.2.2.2.2.2.2.1, x2.2.2.2.2.2.2.2.2.2.1, x2.2.2.2.2.2.2.2.2.2.2)
  else none
def fX5_add (fu : Nat) (g_ft : Tab) (g_er : Tab) (g_eb : Int32) (g_li : Tab) (g_st : Tab) (g_rd : Int32) (g_tu : Int32) (g_la : Int32) (g_dl : Bool) (g_sh : Int32) (g_tb : Int32) (yc : Int32) (yp : (Nat → Nat)) (yg : (Nat → GV)) (p1 : Int32) (p2 : Int32) : Option (Int32 × Tab × Int32 × (Nat → Nat) × (Nat → GV)) :=
  (fX5_within p1 (1 : Int32) (30 : Int32)).bind fun x1 =>
  if (bI x1) = 0 then
    none
  else
    (fX5_within p2 (1 : Int32) (200 : Int32)).bind fun x2 =>
    if (bI x2) = 0 then
      none
    else
      (fX1_fighterCount g_ft).bind fun x3 =>
      if x3 < (10 : Int32) then
        (fX2_save fu yc yp yg g_ft g_er g_eb g_li g_st g_rd g_tu g_la g_dl g_sh g_tb).bind fun x4 =>
        (fX1_join fu g_ft p1 p2).bind fun x5 =>
        some (x5.1, x5.2, x4.1, x4.2.1, x4.2.2)
      else
        none
def fX5_requireFighter (g_ft : Tab) (p1 : Int32) : Option (Unit) :=
  (fX1_isFighter g_ft p1).bind fun x1 =>
  if (bI x1) = 0 then
    none
  else
    some ()
def fX5_requireWithin (p0 : Int32) (p1 : Int32) (p2 : Int32) : Option (Unit) :=
  (fX5_within p0 p1 p2).bind fun x1 =>
  if (bI x1) = 0 then
    none
  else
    some ()
def fX5_setSpeed (fu : Nat) (g_ft : Tab) (g_er : Tab) (g_eb : Int32) (g_li : Tab) (g_st : Tab) (g_rd : Int32) (g_tu : Int32) (g_la : Int32) (g_dl : Bool) (g_sh : Int32) (g_tb : Int32) (yc : Int32) (yp : (Nat → Nat)) (yg : (Nat → GV)) (p1 : Int32) (p2 : Int32) : Option (Int32 × Tab × Int32 × (Nat → Nat) × (Nat → GV)) :=
  (fX5_requireFighter g_ft p1).bind fun x1 =>
  (fX5_requireWithin p2 (1 : Int32) (30 : Int32)).bind fun x2 =>
  (fX2_save fu yc yp yg g_ft g_er g_eb g_li g_st g_rd g_tu g_la g_dl g_sh g_tb).bind fun x3 =>
  (fX1_changeSpeed g_ft p1 p2).bind fun x4 =>
  some (x4.1, x4.2, x3.1, x3.2.1, x3.2.2)
def fX5_setShock (fu : Nat) (g_ft : Tab) (g_er : Tab) (g_eb : Int32) (g_li : Tab) (g_st : Tab) (g_rd : Int32) (g_tu : Int32) (g_la : Int32) (g_dl : Bool) (g_sh : Int32) (g_tb : Int32) (yc : Int32) (yp : (Nat → Nat)) (yg : (Nat → GV)) (p1 : Int32) : Option (Int32 × Int32 × Int32 × (Nat → Nat) × (Nat → GV)) :=
  (fX5_requireWithin p1 (1 : Int32) (200 : Int32)).bind fun x1 =>
  (fX2_save fu yc yp yg g_ft g_er g_eb g_li g_st g_rd g_tu g_la g_dl g_sh g_tb).bind fun x2 =>
  (fX1_changeShock g_sh p1).bind fun x3 =>
  some (x3.1, x3.2, x2.1, x2.2.1, x2.2.2)
def fX5_fighter (fu : Nat) (g_ft : Tab) (g_er : Tab) (g_li : Tab) (p1 : Int32) (p2 : Int32) : Option (Int32) :=
  (fX5_requireFighter g_ft p1).bind fun x1 =>
  (fX5_requireWithin p2 (0 : Int32) (8 : Int32)).bind fun x2 =>
  (fX1_aboutFighter fu g_ft g_er g_li p1 p2).bind fun x3 =>
  some (x3)
def fX5_requireEffect (g_er : Tab) (p1 : Int32) : Option (Unit) :=
  (fX1_effectCount g_er).bind fun x1 =>
  (fX5_within p1 (0 : Int32) (x1 - (1 : Int32))).bind fun x2 =>
  if (bI x2) = 0 then
    none
  else
    some ()
def fX5_effect (g_er : Tab) (p1 : Int32) (p2 : Int32) : Option (Int32) :=
  (fX5_requireEffect g_er p1).bind fun x1 =>
  (fX5_requireWithin p2 (0 : Int32) (6 : Int32)).bind fun x2 =>
  (fX1_aboutEffect g_er p1 p2).bind fun x3 =>
  some (x3)
def fX5_value (fu : Nat) (g_ft : Tab) (g_er : Tab) (g_eb : Int32) (g_st : Tab) (g_rd : Int32) (g_tu : Int32) (g_sh : Int32) (g_tb : Int32) (p1 : Int32) : Option (Int32) :=
  (fX5_requireWithin p1 (0 : Int32) (8 : Int32)).bind fun x1 =>
  (fX1_number fu g_ft g_er g_eb g_st g_rd g_tu g_sh g_tb p1).bind fun x2 =>
  some (x2)
def fX5_inList (g_li : Tab) (p1 : Int32) : Option (Int32) :=
  (fX1_listLength g_li).bind fun x1 =>
  (fX5_within p1 (0 : Int32) (x1 - (1 : Int32))).bind fun x2 =>
  if (bI x2) = 0 then
    none
  else
    (fX1_listed g_li p1).bind fun x3 =>
    some (x3)
def fX5_requirePossible (p0 : Bool) : Option (Unit) :=
  if (bI p0) = 0 then
    none
  else
    some ()
def fX5_next (fu : Nat) (g_ft : Tab) (g_er : Tab) (g_eb : Int32) (g_li : Tab) (g_st : Tab) (g_rd : Int32) (g_tu : Int32) (g_la : Int32) (g_dl : Bool) (g_sh : Int32) (g_tb : Int32) (yc : Int32) (yp : (Nat → Nat)) (yg : (Nat → GV)) : Option (Int32 × Tab × Tab × Tab × Int32 × Int32 × Int32 × Bool × Int32 × Int32 × (Nat → Nat) × (Nat → GV)) :=
  (fX1_mayBeginTurn g_tu).bind fun x1 =>
  (fX5_requirePossible x1).bind fun x2 =>
  (fX2_save fu yc yp yg g_ft g_er g_eb g_li g_st g_rd g_tu g_la g_dl g_sh g_tb).bind fun x3 =>
  (fX1_beginTurn fu g_ft g_er g_li g_rd g_tu g_la g_dl g_sh g_tb).bind fun x4 =>
  some (x4.1, x4.2.1, x4.2.2.1, x4.2.2.2.1, x4.2.2.2.2.1, x4.2.2.2.2.2.1, x4.2.2.2.2.2.2.1, x4.2.2.2.2.2.2.2.1, x4.2.2.2.2.2.2.2.2, x3.1, x3.2.1, x3.2.2)
def fX5_end (fu : Nat) (g_ft : Tab) (g_er : Tab) (g_eb : Int32) (g_li : Tab) (g_st : Tab) (g_rd : Int32) (g_tu : Int32) (g_la : Int32) (g_dl : Bool) (g_sh : Int32) (g_tb : Int32) (yc : Int32) (yp : (Nat → Nat)) (yg : (Nat → GV)) : Option (Int32 × Tab × Int32 × Int32 × (Nat → Nat) × (Nat → GV)) :=
  (fX1_mayEndTurn g_st g_tu).bind fun x1 =>
  (fX5_requirePossible x1).bind fun x2 =>
  (fX2_save fu yc yp yg g_ft g_er g_eb g_li g_st g_rd g_tu g_la g_dl g_sh g_tb).bind fun x3 =>
  (fX1_endTurn fu g_er g_tu).bind fun x4 =>
  some (x4.1, x4.2.1, x4.2.2, x3.1, x3.2.1, x3.2.2)
def fX5_comeIn (fu : Nat) (g_ft : Tab) (g_er : Tab) (g_eb : Int32) (g_li : Tab) (g_st : Tab) (g_rd : Int32) (g_tu : Int32) (g_la : Int32) (g_dl : Bool) (g_sh : Int32) (g_tb : Int32) (yc : Int32) (yp : (Nat → Nat)) (yg : (Nat → GV)) (p1 : Int32) : Option (Int32 × Tab × Int32 × Int32 × Bool × Int32 × (Nat → Nat) × (Nat → GV)) :=
  (fX5_requireFighter g_ft p1).bind fun x1 =>
  (fX1_mayResumeTurn fu g_ft g_li g_tu p1).bind fun x2 =>
  (fX5_requirePossible x2).bind fun x3 =>
  (fX2_save fu yc yp yg g_ft g_er g_eb g_li g_st g_rd g_tu g_la g_dl g_sh g_tb).bind fun x4 =>
  (fX1_resumeTurn fu g_li g_tu g_la g_dl p1).bind fun x5 =>
  some (x5.1, x5.2.1, x5.2.2.1, x5.2.2.2.1, x5.2.2.2.2, x4.1, x4.2.1, x4.2.2)
def fX5_act_J34 (fu : Nat) (g_ft : Tab) (g_er : Tab) (g_eb : Int32) (g_li : Tab) (g_st : Tab) (g_rd : Int32) (g_tu : Int32) (g_la : Int32) (g_dl : Bool) (g_sh : Int32) (g_tb : Int32) (yc : Int32) (yp : (Nat → Nat)) (yg : (Nat → GV)) (p1 : Int32) (p2 : Int32) (p3 : Int32) (p4 : Int32) : Option (Int32 × Tab × Tab × Bool × Int32 × (Nat → Nat) × (Nat → GV)) :=
  (fX5_requireWithin p4 (1 : Int32) (60 : Int32)).bind fun x3 =>
  (fX1_mayAct g_ft g_st g_tu p1 p2).bind fun x4 =>
  (fX5_requirePossible x4).bind fun x5 =>
  (fX2_save fu yc yp yg g_ft g_er g_eb g_li g_st g_rd g_tu g_la g_dl g_sh g_tb).bind fun x6 =>
  (fX1_beginAct fu g_ft g_st g_dl p2 p1 p3 p4 (0 : Int32) (0 : Int32) (0 : Int32)).bind fun x7 =>
  some (x7.1, x7.2.1, x7.2.2.1, x7.2.2.2, x6.1, x6.2.1, x6.2.2)
def fX5_act (fu : Nat) (g_ft : Tab) (g_er : Tab) (g_eb : Int32) (g_li : Tab) (g_st : Tab) (g_rd : Int32) (g_tu : Int32) (g_la : Int32) (g_dl : Bool) (g_sh : Int32) (g_tb : Int32) (yc : Int32) (yp : (Nat → Nat)) (yg : (Nat → GV)) (p1 : Int32) (p2 : Int32) (p3 : Int32) (p4 : Int32) : Option (Int32 × Tab × Tab × Bool × Int32 × (Nat → Nat) × (Nat → GV)) :=
  (fX5_requireFighter g_ft p1).bind fun x1 =>
  (fX5_requireFighter g_ft p3).bind fun x2 =>
  if p2 = 0 then
    fX5_act_J34 fu g_ft g_er g_eb g_li g_st g_rd g_tu g_la g_dl g_sh g_tb yc yp yg p1 p2 p3 p4
  else
    if p2 = (1 : Int32) then
      fX5_act_J34 fu g_ft g_er g_eb g_li g_st g_rd g_tu g_la g_dl g_sh g_tb yc yp yg p1 p2 p3 p4
    else
      if p2 = (3 : Int32) then
        fX5_act_J34 fu g_ft g_er g_eb g_li g_st g_rd g_tu g_la g_dl g_sh g_tb yc yp yg p1 p2 p3 p4
      else
        none
def fX5_cast (fu : Nat) (g_ft : Tab) (g_er : Tab) (g_eb : Int32) (g_li : Tab) (g_st : Tab) (g_rd : Int32) (g_tu : Int32) (g_la : Int32) (g_dl : Bool) (g_sh : Int32) (g_tb : Int32) (yc : Int32) (yp : (Nat → Nat)) (yg : (Nat → GV)) (p1 : Int32) (p2 : Int32) (p3 : Int32) (p4 : Int32) (p5 : Int32) (p6 : Int32) : Option (Int32 × Tab × Tab × Bool × Int32 × (Nat → Nat) × (Nat → GV)) :=
  (fX5_requireFighter g_ft p1).bind fun x1 =>
  (fX5_requireFighter g_ft p2).bind fun x2 =>
  (fX5_requireWithin p3 (0 : Int32) (4 : Int32)).bind fun x3 =>
  (fX5_requireWithin p4 (1 : Int32) (20 : Int32)).bind fun x4 =>
  (fX5_requireWithin p5 (1 : Int32) (20 : Int32)).bind fun x5 =>
  (fX5_requireWithin p6 (0 : Int32) (3 : Int32)).bind fun x6 =>
  (fX1_mayAct g_ft g_st g_tu p1 (2 : Int32)).bind fun x7 =>
  (fX5_requirePossible x7).bind fun x8 =>
  (fX2_save fu yc yp yg g_ft g_er g_eb g_li g_st g_rd g_tu g_la g_dl g_sh g_tb).bind fun x9 =>
  (fX1_beginAct fu g_ft g_st g_dl (2 : Int32) p1 p2 p4 p3 p5 p6).bind fun x10 =>
  some (x10.1, x10.2.1, x10.2.2.1, x10.2.2.2, x9.1, x9.2.1, x9.2.2)
def fX5_settle (fu : Nat) (g_ft : Tab) (g_er : Tab) (g_eb : Int32) (g_li : Tab) (g_st : Tab) (g_rd : Int32) (g_tu : Int32) (g_la : Int32) (g_dl : Bool) (g_sh : Int32) (g_tb : Int32) (yc : Int32) (yp : (Nat → Nat)) (yg : (Nat → GV)) : Option (Int32 × Tab × Tab × Int32 × Tab × Int32 × Int32 × (Nat → Nat) × (Nat → GV)) :=
  (fX1_maySettle g_st).bind fun x1 =>
  (fX5_requirePossible x1).bind fun x2 =>
  (fX2_save fu yc yp yg g_ft g_er g_eb g_li g_st g_rd g_tu g_la g_dl g_sh g_tb).bind fun x3 =>
  (fX1_settleStack fu g_ft g_er g_eb g_st g_tu g_sh).bind fun x4 =>
  some (x4.1, x4.2.1, x4.2.2.1, x4.2.2.2.1, x4.2.2.2.2.1, x4.2.2.2.2.2, x3.1, x3.2.1, x3.2.2)
def fX5_stacked (g_st : Tab) (p1 : Int32) (p2 : Int32) : Option (Int32) :=
  (fX1_stackSize g_st).bind fun x1 =>
  (fX5_within p1 (0 : Int32) (x1 - (1 : Int32))).bind fun x2 =>
  if (bI x2) = 0 then
    none
  else
    (fX5_requireWithin p2 (0 : Int32) (3 : Int32)).bind fun x3 =>
    (fX1_aboutAct g_st p1 p2).bind fun x4 =>
    some (x4)
def fX5_mayAnswer (g_ft : Tab) (g_st : Tab) (p1 : Int32) : Option (Bool) :=
  (fX5_requireFighter g_ft p1).bind fun x1 =>
  (fX1_canAnswer g_ft g_st p1).bind fun x2 =>
  some (x2)
def fX5_upcoming_L29 (fu : Nat) (g_ft : Tab) (g_er : Tab) (g_eb : Int32) (g_li : Tab) (g_st : Tab) (g_rd : Int32) (g_tu : Int32) (g_la : Int32) (g_dl : Bool) (g_sh : Int32) (g_tb : Int32) (p1 : Int32) (z_eb : Int32) (z_st : Tab) (z_sh : Int32) : Nat → Tab → Tab → Tab → Int32 → Int32 → Int32 → Bool → Int32 → Int32 → Int32 → Option (Int32 × Tab × Tab × Int32 × Tab × Tab × Int32 × Int32 × Int32 × Bool × Int32 × Int32)
  | 0, _, _, _, _, _, _, _, _, _, _ => none
  | k + 1, z_ft, z_er, z_li, z_rd, z_tu, z_la, z_dl, z_tb, v2, v3 =>
    if p1 < v3 then
      some (v2, z_ft, z_er, z_eb, z_li, z_st, z_rd, z_tu, z_la, z_dl, z_sh, z_tb)
    else
      (fX1_passTurn fu z_ft z_er z_li z_rd z_tu z_la z_dl z_sh z_tb).bind fun x4 =>
      fX5_upcoming_L29 fu g_ft g_er g_eb g_li g_st g_rd g_tu g_la g_dl g_sh g_tb p1 z_eb z_st z_sh k x4.2.1 x4.2.2.1 x4.2.2.2.1 x4.2.2.2.2.1 x4.2.2.2.2.2.1 x4.2.2.2.2.2.2.1 x4.2.2.2.2.2.2.2.1 x4.2.2.2.2.2.2.2.2 x4.1 (v3 + 1)
def fX5_upcoming (fu : Nat) (g_ft : Tab) (g_er : Tab) (g_eb : Int32) (g_li : Tab) (g_st : Tab) (g_rd : Int32) (g_tu : Int32) (g_la : Int32) (g_dl : Bool) (g_sh : Int32) (g_tb : Int32) (z_ft : Tab) (z_er : Tab) (z_eb : Int32) (z_li : Tab) (z_st : Tab) (z_rd : Int32) (z_tu : Int32) (z_la : Int32) (z_dl : Bool) (z_sh : Int32) (z_tb : Int32) (p1 : Int32) : Option (Int32 × Tab × Tab × Int32 × Tab × Tab × Int32 × Int32 × Int32 × Bool × Int32 × Int32) :=
  (fX5_requireWithin p1 (0 : Int32) (40 : Int32)).bind fun x1 =>
  (fX1_copyFrom z_ft z_er z_eb z_li z_st z_rd z_tu z_la z_dl z_sh z_tb g_ft g_er g_eb g_li g_st g_rd g_tu g_la g_dl g_sh g_tb).bind fun x2 =>
  (fX1_abandonTurn fu x2.2.1 x2.2.2.2.2.1 x2.2.2.2.2.2.2.1).bind fun x3 =>
  fX5_upcoming_L29 fu g_ft g_er g_eb g_li g_st g_rd g_tu g_la g_dl g_sh g_tb p1 x2.2.2.1 x3.2.1 x2.2.2.2.2.2.2.2.2.2.1 fu x2.1 x3.1 x2.2.2.2.1 x2.2.2.2.2.2.1 x3.2.2 x2.2.2.2.2.2.2.2.1 x2.2.2.2.2.2.2.2.2.1 x2.2.2.2.2.2.2.2.2.2.2 (-1 : Int32) (0 : Int32)
def fX5_goneAfter_L34 (fu : Nat) (g_ft : Tab) (g_er : Tab) (g_eb : Int32) (g_li : Tab) (g_st : Tab) (g_rd : Int32) (g_tu : Int32) (g_la : Int32) (g_dl : Bool) (g_sh : Int32) (g_tb : Int32) (z_eb : Int32) (z_st : Tab) (z_sh : Int32) (v2 : Int32) : Nat → Tab → Tab → Tab → Int32 → Int32 → Int32 → Bool → Int32 → Int32 → Option (Int32 × Tab × Tab × Int32 × Tab × Tab × Int32 × Int32 × Int32 × Bool × Int32 × Int32)
  | 0, _, _, _, _, _, _, _, _, _ => none
  | k + 1, z_ft, z_er, z_li, z_rd, z_tu, z_la, z_dl, z_tb, v3 =>
    if (60 : Int32) < v3 then
      some ((-1 : Int32), z_ft, z_er, z_eb, z_li, z_st, z_rd, z_tu, z_la, z_dl, z_sh, z_tb)
    else
      (fX1_hasEffectBorn fu z_er v2).bind fun x5 =>
      if (bI x5) = 0 then
        some (v3, z_ft, z_er, z_eb, z_li, z_st, z_rd, z_tu, z_la, z_dl, z_sh, z_tb)
      else
        (fX1_passTurn fu z_ft z_er z_li z_rd z_tu z_la z_dl z_sh z_tb).bind fun x6 =>
        fX5_goneAfter_L34 fu g_ft g_er g_eb g_li g_st g_rd g_tu g_la g_dl g_sh g_tb z_eb z_st z_sh v2 k x6.2.1 x6.2.2.1 x6.2.2.2.1 x6.2.2.2.2.1 x6.2.2.2.2.2.1 x6.2.2.2.2.2.2.1 x6.2.2.2.2.2.2.2.1 x6.2.2.2.2.2.2.2.2 (v3 + 1)
def fX5_goneAfter (fu : Nat) (g_ft : Tab) (g_er : Tab) (g_eb : Int32) (g_li : Tab) (g_st : Tab) (g_rd : Int32) (g_tu : Int32) (g_la : Int32) (g_dl : Bool) (g_sh : Int32) (g_tb : Int32) (z_ft : Tab) (z_er : Tab) (z_eb : Int32) (z_li : Tab) (z_st : Tab) (z_rd : Int32) (z_tu : Int32) (z_la : Int32) (z_dl : Bool) (z_sh : Int32) (z_tb : Int32) (p1 : Int32) : Option (Int32 × Tab × Tab × Int32 × Tab × Tab × Int32 × Int32 × Int32 × Bool × Int32 × Int32) :=
  (fX5_requireEffect g_er p1).bind fun x1 =>
  (fX1_birthOf g_er p1).bind fun x2 =>
  (fX1_copyFrom z_ft z_er z_eb z_li z_st z_rd z_tu z_la z_dl z_sh z_tb g_ft g_er g_eb g_li g_st g_rd g_tu g_la g_dl g_sh g_tb).bind fun x3 =>
  (fX1_abandonTurn fu x3.2.1 x3.2.2.2.2.1 x3.2.2.2.2.2.2.1).bind fun x4 =>
  fX5_goneAfter_L34 fu g_ft g_er g_eb g_li g_st g_rd g_tu g_la g_dl g_sh g_tb x3.2.2.1 x4.2.1 x3.2.2.2.2.2.2.2.2.2.1 x2 fu x3.1 x4.1 x3.2.2.2.1 x3.2.2.2.2.2.1 x4.2.2 x3.2.2.2.2.2.2.2.1 x3.2.2.2.2.2.2.2.2.1 x3.2.2.2.2.2.2.2.2.2.2 (0 : Int32)
def fX5_lifeSettled (fu : Nat) (g_ft : Tab) (g_er : Tab) (g_eb : Int32) (g_li : Tab) (g_st : Tab) (g_rd : Int32) (g_tu : Int32) (g_la : Int32) (g_dl : Bool) (g_sh : Int32) (g_tb : Int32) (z_ft : Tab) (z_er : Tab) (z_eb : Int32) (z_li : Tab) (z_st : Tab) (z_rd : Int32) (z_tu : Int32) (z_la : Int32) (z_dl : Bool) (z_sh : Int32) (z_tb : Int32) : Option (Int32 × Tab × Tab × Int32 × Tab × Tab × Int32 × Int32 × Int32 × Bool × Int32 × Int32) :=
  (fX1_copyFrom z_ft z_er z_eb z_li z_st z_rd z_tu z_la z_dl z_sh z_tb g_ft g_er g_eb g_li g_st g_rd g_tu g_la g_dl g_sh g_tb).bind fun x1 =>
  (fX1_settleStack fu x1.1 x1.2.1 x1.2.2.1 x1.2.2.2.2.1 x1.2.2.2.2.2.2.1 x1.2.2.2.2.2.2.2.2.2.1).bind fun x2 =>
  (fX1_lives fu x2.2.1).bind fun x3 =>
  some (x3, x2.2.1, x2.2.2.1, x2.2.2.2.1, x1.2.2.2.1, x2.2.2.2.2.1, x1.2.2.2.2.2.1, x2.2.2.2.2.2, x1.2.2.2.2.2.2.2.1, x1.2.2.2.2.2.2.2.2.1, x1.2.2.2.2.2.2.2.2.2.1, x1.2.2.2.2.2.2.2.2.2.2)
def fX5_carryOut_L31 (fu : Nat) (g_ft : Tab) (g_er : Tab) (g_eb : Int32) (g_li : Tab) (g_st : Tab) (g_rd : Int32) (g_tu : Int32) (g_la : Int32) (g_dl : Bool) (g_sh : Int32) (g_tb : Int32) (yc : Int32) (yp : (Nat → Nat)) (yg : (Nat → GV)) (tx : Tab) (z_sh : Int32) (cm : Tab) : Nat → Tab → Tab → Int32 → Tab → Tab → Int32 → Int32 → Int32 → Bool → Int32 → Int32 → Option (Int32 × Tab × Tab × Int32 × Tab × Tab × Int32 × Int32 × Int32 × Bool × Int32 × Int32 × Tab × Tab × Int32 × Tab × Tab × Int32 × Int32 × Int32 × Bool × Int32 × Int32 × Int32 × (Nat → Nat) × (Nat → GV) × Tab)
  | 0, _, _, _, _, _, _, _, _, _, _, _ => none
  | k + 1, z_ft, z_er, z_eb, z_li, z_st, z_rd, z_tu, z_la, z_dl, z_tb, v2 =>
    (fX3_commandCount cm).bind fun x3 =>
    if x3 ≤ v2 then
      (fX2_save fu yc yp yg g_ft g_er g_eb g_li g_st g_rd g_tu g_la g_dl g_sh g_tb).bind fun x4 =>
      (fX1_copyFrom g_ft g_er g_eb g_li g_st g_rd g_tu g_la g_dl g_sh g_tb z_ft z_er z_eb z_li z_st z_rd z_tu z_la z_dl z_sh z_tb).bind fun x5 =>
      (fX3_commandCount cm).bind fun x6 =>
      some (x6, x5.1, x5.2.1, x5.2.2.1, x5.2.2.2.1, x5.2.2.2.2.1, x5.2.2.2.2.2.1, x5.2.2.2.2.2.2.1, x5.2.2.2.2.2.2.2.1, x5.2.2.2.2.2.2.2.2.1, x5.2.2.2.2.2.2.2.2.2.1, x5.2.2.2.2.2.2.2.2.2.2, z_ft, z_er, z_eb, z_li, z_st, z_rd, z_tu, z_la, z_dl, z_sh, z_tb, x4.1, x4.2.1, x4.2.2, cm)
    else
      (fX3_perform fu cm z_ft z_er z_eb z_li z_st z_rd z_tu z_la z_dl z_sh z_tb v2).bind fun x7 =>
      if (bI x7.1) = 0 then
        some (((-1000 : Int32) - v2), g_ft, g_er, g_eb, g_li, g_st, g_rd, g_tu, g_la, g_dl, g_sh, g_tb, x7.2.1, x7.2.2.1, x7.2.2.2.1, x7.2.2.2.2.1, x7.2.2.2.2.2.1, x7.2.2.2.2.2.2.1, x7.2.2.2.2.2.2.2.1, x7.2.2.2.2.2.2.2.2.1, x7.2.2.2.2.2.2.2.2.2.1, z_sh, x7.2.2.2.2.2.2.2.2.2.2, yc, yp, yg, cm)
      else
        fX5_carryOut_L31 fu g_ft g_er g_eb g_li g_st g_rd g_tu g_la g_dl g_sh g_tb yc yp yg tx z_sh cm k x7.2.1 x7.2.2.1 x7.2.2.2.1 x7.2.2.2.2.1 x7.2.2.2.2.2.1 x7.2.2.2.2.2.2.1 x7.2.2.2.2.2.2.2.1 x7.2.2.2.2.2.2.2.2.1 x7.2.2.2.2.2.2.2.2.2.1 x7.2.2.2.2.2.2.2.2.2.2 (v2 + 1)
def fX5_carryOut (fu : Nat) (g_ft : Tab) (g_er : Tab) (g_eb : Int32) (g_li : Tab) (g_st : Tab) (g_rd : Int32) (g_tu : Int32) (g_la : Int32) (g_dl : Bool) (g_sh : Int32) (g_tb : Int32) (z_ft : Tab) (z_er : Tab) (z_eb : Int32) (z_li : Tab) (z_st : Tab) (z_rd : Int32) (z_tu : Int32) (z_la : Int32) (z_dl : Bool) (z_sh : Int32) (z_tb : Int32) (yc : Int32) (yp : (Nat → Nat)) (yg : (Nat → GV)) (tx : Tab) (cm : Tab) : Option (Int32 × Tab × Tab × Int32 × Tab × Tab × Int32 × Int32 × Int32 × Bool × Int32 × Int32 × Tab × Tab × Int32 × Tab × Tab × Int32 × Int32 × Int32 × Bool × Int32 × Int32 × Int32 × (Nat → Nat) × (Nat → GV) × Tab) :=
  (fX3_read fu tx cm).bind fun x1 =>
  if x1.1 = (-1 : Int32) then
    (fX1_copyFrom z_ft z_er z_eb z_li z_st z_rd z_tu z_la z_dl z_sh z_tb g_ft g_er g_eb g_li g_st g_rd g_tu g_la g_dl g_sh g_tb).bind fun x2 =>
    fX5_carryOut_L31 fu g_ft g_er g_eb g_li g_st g_rd g_tu g_la g_dl g_sh g_tb yc yp yg tx x2.2.2.2.2.2.2.2.2.2.1 x1.2 fu x2.1 x2.2.1 x2.2.2.1 x2.2.2.2.1 x2.2.2.2.2.1 x2.2.2.2.2.2.1 x2.2.2.2.2.2.2.1 x2.2.2.2.2.2.2.2.1 x2.2.2.2.2.2.2.2.2.1 x2.2.2.2.2.2.2.2.2.2.2 (0 : Int32)
  else
    some (((-10 : Int32) - x1.1), g_ft, g_er, g_eb, g_li, g_st, g_rd, g_tu, g_la, g_dl, g_sh, g_tb, z_ft, z_er, z_eb, z_li, z_st, z_rd, z_tu, z_la, z_dl, z_sh, z_tb, yc, yp, yg, x1.2)
def fX5_undo_J15 (g_ft : Tab) (g_er : Tab) (g_eb : Int32) (g_li : Tab) (g_st : Tab) (g_rd : Int32) (g_tu : Int32) (g_la : Int32) (g_dl : Bool) (g_sh : Int32) (g_tb : Int32) (yc : Int32) (yp : (Nat → Nat)) (yg : (Nat → GV)) (t0 : Bool) : Option (Int32 × Tab × Tab × Int32 × Tab × Tab × Int32 × Int32 × Int32 × Bool × Int32 × Int32 × Int32) :=
  (fX5_requirePossible t0).bind fun x2 =>
  (fX2_restore yc yp yg g_ft g_er g_eb g_li g_st g_rd g_tu g_la g_dl g_sh g_tb).bind fun x3 =>
  (fX2_size x3.1).bind fun x4 =>
  some (x4, x3.2.1, x3.2.2.1, x3.2.2.2.1, x3.2.2.2.2.1, x3.2.2.2.2.2.1, x3.2.2.2.2.2.2.1, x3.2.2.2.2.2.2.2.1, x3.2.2.2.2.2.2.2.2.1, x3.2.2.2.2.2.2.2.2.2.1, x3.2.2.2.2.2.2.2.2.2.2.1, x3.2.2.2.2.2.2.2.2.2.2.2, x3.1)
def fX5_undo (g_ft : Tab) (g_er : Tab) (g_eb : Int32) (g_li : Tab) (g_st : Tab) (g_rd : Int32) (g_tu : Int32) (g_la : Int32) (g_dl : Bool) (g_sh : Int32) (g_tb : Int32) (yc : Int32) (yp : (Nat → Nat)) (yg : (Nat → GV)) : Option (Int32 × Tab × Tab × Int32 × Tab × Tab × Int32 × Int32 × Int32 × Bool × Int32 × Int32 × Int32) :=
  (fX2_size yc).bind fun x1 =>
  if x1 ≤ 0 then
    fX5_undo_J15 g_ft g_er g_eb g_li g_st g_rd g_tu g_la g_dl g_sh g_tb yc yp yg false
  else
    fX5_undo_J15 g_ft g_er g_eb g_li g_st g_rd g_tu g_la g_dl g_sh g_tb yc yp yg true
def fX5_withFighters_L20 (fu : Nat) (g_ft : Tab) (g_er : Tab) (g_li : Tab) (v5 : Int32) : Nat → Int64 → Int32 → Option (Int64)
  | 0, _, _ => none
  | k + 1, v3, v6 =>
    if (8 : Int32) < v6 then
      some ((v3))
    else
      (fX1_aboutFighter fu g_ft g_er g_li v5 v6).bind fun x2 =>
      fX5_withFighters_L20 fu g_ft g_er g_li v5 k (((31 : Int64) * v3) + ((x2).toInt64)) (v6 + 1)
def fX5_withFighters_L5 (fu : Nat) (g_ft : Tab) (g_er : Tab) (g_li : Tab) : Nat → Int64 → Int32 → Option (Int64)
  | 0, _, _ => none
  | k + 1, v3, v5 =>
    (fX1_fighterCount g_ft).bind fun x1 =>
    if x1 ≤ v5 then
      some (v3)
    else
      (fX5_withFighters_L20 fu g_ft g_er g_li v5 fu v3 (0 : Int32)).bind fun y3 =>
        fX5_withFighters_L5 fu g_ft g_er g_li k y3 (v5 + 1)
def fX5_withFighters (fu : Nat) (g_ft : Tab) (g_er : Tab) (g_li : Tab) (p1 : Int64) : Option (Int64) :=
  fX5_withFighters_L5 fu g_ft g_er g_li fu p1 (0 : Int32)
def fX5_withEffects_L20 (fu : Nat) (g_er : Tab) (v5 : Int32) : Nat → Int64 → Int32 → Option (Int64)
  | 0, _, _ => none
  | k + 1, v3, v6 =>
    if (6 : Int32) < v6 then
      some ((v3))
    else
      (fX1_aboutEffect g_er v5 v6).bind fun x2 =>
      fX5_withEffects_L20 fu g_er v5 k (((31 : Int64) * v3) + ((x2).toInt64)) (v6 + 1)
def fX5_withEffects_L5 (fu : Nat) (g_er : Tab) : Nat → Int64 → Int32 → Option (Int64)
  | 0, _, _ => none
  | k + 1, v3, v5 =>
    (fX1_effectCount g_er).bind fun x1 =>
    if x1 ≤ v5 then
      some (v3)
    else
      (fX5_withEffects_L20 fu g_er v5 fu v3 (0 : Int32)).bind fun y3 =>
        fX5_withEffects_L5 fu g_er k y3 (v5 + 1)
def fX5_withEffects (fu : Nat) (g_er : Tab) (p1 : Int64) : Option (Int64) :=
  fX5_withEffects_L5 fu g_er fu p1 (0 : Int32)
def fX5_withStack_L20 (fu : Nat) (g_st : Tab) (v5 : Int32) : Nat → Int64 → Int32 → Option (Int64)
  | 0, _, _ => none
  | k + 1, v3, v6 =>
    if (3 : Int32) < v6 then
      some ((v3))
    else
      (fX1_aboutAct g_st v5 v6).bind fun x2 =>
      fX5_withStack_L20 fu g_st v5 k (((31 : Int64) * v3) + ((x2).toInt64)) (v6 + 1)
def fX5_withStack_L5 (fu : Nat) (g_st : Tab) : Nat → Int64 → Int32 → Option (Int64)
  | 0, _, _ => none
  | k + 1, v3, v5 =>
    (fX1_stackSize g_st).bind fun x1 =>
    if x1 ≤ v5 then
      some (v3)
    else
      (fX5_withStack_L20 fu g_st v5 fu v3 (0 : Int32)).bind fun y3 =>
        fX5_withStack_L5 fu g_st k y3 (v5 + 1)
def fX5_withStack (fu : Nat) (g_st : Tab) (p1 : Int64) : Option (Int64) :=
  fX5_withStack_L5 fu g_st fu p1 (0 : Int32)
def fX5_digest_L57 (fu : Nat) (g_ft : Tab) (g_er : Tab) (g_eb : Int32) (g_li : Tab) (g_st : Tab) (g_rd : Int32) (g_tu : Int32) (g_sh : Int32) (g_tb : Int32) (yc : Int32) (tx : Tab) : Nat → Int64 → Int32 → Option (Int64)
  | 0, _, _ => none
  | k + 1, v1, v3 =>
    (fX1_listLength g_li).bind fun x4 =>
    if x4 ≤ v3 then
      (fX5_withStack fu g_st v1).bind fun x5 =>
      (fX2_size yc).bind fun x6 =>
      some ((((31 : Int64) * x5) + ((x6).toInt64)))
    else
      (fX1_listed g_li v3).bind fun x7 =>
      fX5_digest_L57 fu g_ft g_er g_eb g_li g_st g_rd g_tu g_sh g_tb yc tx k (((31 : Int64) * v1) + ((x7).toInt64)) (v3 + 1)
def fX5_digest_L15 (fu : Nat) (g_ft : Tab) (g_er : Tab) (g_eb : Int32) (g_li : Tab) (g_st : Tab) (g_rd : Int32) (g_tu : Int32) (g_sh : Int32) (g_tb : Int32) (yc : Int32) (tx : Tab) : Nat → Int64 → Int32 → Option (Int64)
  | 0, _, _ => none
  | k + 1, v1, v3 =>
    if (8 : Int32) < v3 then
      (fX5_withFighters fu g_ft g_er g_li v1).bind fun x2 =>
      (fX5_withEffects fu g_er x2).bind fun x3 =>
      fX5_digest_L57 fu g_ft g_er g_eb g_li g_st g_rd g_tu g_sh g_tb yc tx fu x3 (0 : Int32)
    else
      (fX1_number fu g_ft g_er g_eb g_st g_rd g_tu g_sh g_tb v3).bind fun x8 =>
      fX5_digest_L15 fu g_ft g_er g_eb g_li g_st g_rd g_tu g_sh g_tb yc tx k (((31 : Int64) * v1) + ((x8).toInt64)) (v3 + 1)
def fX5_digest (fu : Nat) (g_ft : Tab) (g_er : Tab) (g_eb : Int32) (g_li : Tab) (g_st : Tab) (g_rd : Int32) (g_tu : Int32) (g_sh : Int32) (g_tb : Int32) (yc : Int32) (tx : Tab) : Option (Int64) :=
  (fX3_length tx).bind fun x1 =>
  fX5_digest_L15 fu g_ft g_er g_eb g_li g_st g_rd g_tu g_sh g_tb yc tx fu ((103633 : Int64) + ((x1).toInt64)) (0 : Int32)
