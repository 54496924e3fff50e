def fL_cell (xL : Nat) (xs : Nat → Int32) (p1 : Int32) : Option (Int32) :=
  if p1 < Int32.ofNat xL then
    if ¬ (p1 < 0 ∨ xL ≤ p1.toNatClampNeg) then
      some (xs p1.toNatClampNeg)
    else none
  else
    some (((7919 : Int32) * (p1 + (3 : Int32))) * (p1 + (11 : Int32)))
def fL_low (p0 : Int32) (p1 : Int32) : Option (Int32) :=
  if ¬ p1 = 0 then
    some (((p0 &&& (2147483647 : Int32)) - (p0 &&& (2147483647 : Int32)) / p1 * p1))
  else none
def fL_comes_J33 (fu : Nat) (g_ft : Tab) (g_er : Tab) (g_eb : Int32) (g_li : Tab) (g_st : Tab) (g_rd : Int32) (g_tu : Int32) (g_la : Int32) (g_dl : Bool) (g_sh : Int32) (g_tb : Int32) (yc : Int32) (yp : (Nat → Nat)) (yg : (Nat → GV)) (p1 : Int32) (t0 : Bool) : Option (Int32 × Tab × Int32 × Int32 × Bool × Int32 × (Nat → Nat) × (Nat → GV)) :=
  if (bI t0) = 0 then
    some ((-200 : Int32), g_li, g_tu, g_la, g_dl, yc, yp, yg)
  else
    (fX5_comeIn fu g_ft g_er g_eb g_li g_st g_rd g_tu g_la g_dl g_sh g_tb yc yp yg p1).bind fun x2 =>
    some (x2.1, x2.2.1, x2.2.2.1, x2.2.2.2.1, x2.2.2.2.2.1, x2.2.2.2.2.2.1, x2.2.2.2.2.2.2.1, x2.2.2.2.2.2.2.2)
def fL_comes_J32 (fu : Nat) (g_ft : Tab) (g_er : Tab) (g_eb : Int32) (g_li : Tab) (g_st : Tab) (g_rd : Int32) (g_tu : Int32) (g_la : Int32) (g_dl : Bool) (g_sh : Int32) (g_tb : Int32) (yc : Int32) (yp : (Nat → Nat)) (yg : (Nat → GV)) (p1 : Int32) : Option (Int32 × Tab × Int32 × Int32 × Bool × Int32 × (Nat → Nat) × (Nat → GV)) :=
  fL_comes_J33 fu g_ft g_er g_eb g_li g_st g_rd g_tu g_la g_dl g_sh g_tb yc yp yg p1 false
def fL_comes (fu : Nat) (g_ft : Tab) (g_er : Tab) (g_eb : Int32) (g_li : Tab) (g_st : Tab) (g_rd : Int32) (g_tu : Int32) (g_la : Int32) (g_dl : Bool) (g_sh : Int32) (g_tb : Int32) (yc : Int32) (yp : (Nat → Nat)) (yg : (Nat → GV)) (p1 : Int32) : Option (Int32 × Tab × Int32 × Int32 × Bool × Int32 × (Nat → Nat) × (Nat → GV)) :=
  (fX5_value fu g_ft g_er g_eb g_st g_rd g_tu g_sh g_tb (4 : Int32)).bind fun x1 =>
  if x1 = (-1 : Int32) then
    (fX5_fighter fu g_ft g_er g_li p1 (5 : Int32)).bind fun x3 =>
    if x3 = (2 : Int32) then
      (fX5_fighter fu g_ft g_er g_li p1 (2 : Int32)).bind fun x4 =>
      if x4 ≤ 0 then
        fL_comes_J32 fu g_ft g_er g_eb g_li g_st g_rd g_tu g_la g_dl g_sh g_tb yc yp yg p1
      else
        fL_comes_J33 fu g_ft g_er g_eb g_li g_st g_rd g_tu g_la g_dl g_sh g_tb yc yp yg p1 true
    else
      fL_comes_J32 fu g_ft g_er g_eb g_li g_st g_rd g_tu g_la g_dl g_sh g_tb yc yp yg p1
  else
    fL_comes_J32 fu g_ft g_er g_eb g_li g_st g_rd g_tu g_la g_dl g_sh g_tb yc yp yg p1
def fL_act_J348 (fu : Nat) (g_ft : Tab) (g_er : Tab) (g_eb : Int32) (g_li : Tab) (g_st : Tab) (g_rd : Int32) (g_tu : Int32) (g_la : Int32) (g_dl : Bool) (g_sh : Int32) (g_tb : Int32) (yc : Int32) (yp : (Nat → Nat)) (yg : (Nat → GV)) (p1 : Int32) (v6 : Int32) (t0 : Int32) : Option (Int32 × Tab × Tab × Int32 × Tab × Tab × Int32 × Int32 × Int32 × Bool × Int32 × Int32 × Int32 × (Nat → Nat) × (Nat → GV)) :=
  (fL_low (p1 >>> ((6 : Int32) &&& 31)) (5 : Int32)).bind fun x42 =>
  (fL_low (p1 >>> ((8 : Int32) &&& 31)) (20 : Int32)).bind fun x43 =>
  (fL_low (p1 >>> ((5 : Int32) &&& 31)) (4 : Int32)).bind fun x44 =>
  (fL_low (p1 >>> ((9 : Int32) &&& 31)) (4 : Int32)).bind fun x45 =>
  (fX5_cast fu g_ft g_er g_eb g_li g_st g_rd g_tu g_la g_dl g_sh g_tb yc yp yg t0 v6 x42 ((1 : Int32) + x43) ((1 : Int32) + x44) x45).bind fun x46 =>
  some (x46.1, x46.2.1, g_er, g_eb, g_li, x46.2.2.1, g_rd, g_tu, g_la, x46.2.2.2.1, g_sh, g_tb, x46.2.2.2.2.1, x46.2.2.2.2.2.1, x46.2.2.2.2.2.2)
def fL_act_J335 (fu : Nat) (g_ft : Tab) (g_er : Tab) (g_eb : Int32) (g_li : Tab) (g_st : Tab) (g_rd : Int32) (g_tu : Int32) (g_la : Int32) (g_dl : Bool) (g_sh : Int32) (g_tb : Int32) (yc : Int32) (yp : (Nat → Nat)) (yg : (Nat → GV)) (p1 : Int32) (v4 : Int32) (v5 : Int32) (v6 : Int32) (v7 : Bool) : Option (Int32 × Tab × Tab × Int32 × Tab × Tab × Int32 × Int32 × Int32 × Bool × Int32 × Int32 × Int32 × (Nat → Nat) × (Nat → GV)) :=
  if (bI v7) = 0 then
    fL_act_J348 fu g_ft g_er g_eb g_li g_st g_rd g_tu g_la g_dl g_sh g_tb yc yp yg p1 v6 v5
  else
    fL_act_J348 fu g_ft g_er g_eb g_li g_st g_rd g_tu g_la g_dl g_sh g_tb yc yp yg p1 v6 v4
def fL_act_J455 (fu : Nat) (g_ft : Tab) (g_er : Tab) (g_eb : Int32) (g_li : Tab) (g_st : Tab) (g_rd : Int32) (g_tu : Int32) (g_la : Int32) (g_dl : Bool) (g_sh : Int32) (g_tb : Int32) (yc : Int32) (yp : (Nat → Nat)) (yg : (Nat → GV)) (p1 : Int32) (v6 : Int32) (t0 : Int32) : Option (Int32 × Tab × Tab × Int32 × Tab × Tab × Int32 × Int32 × Int32 × Bool × Int32 × Int32 × Int32 × (Nat → Nat) × (Nat → GV)) :=
  (fL_low (p1 >>> ((6 : Int32) &&& 31)) (40 : Int32)).bind fun x55 =>
  (fX5_act fu g_ft g_er g_eb g_li g_st g_rd g_tu g_la g_dl g_sh g_tb yc yp yg t0 ((p1 >>> ((10 : Int32) &&& 31)) &&& (1 : Int32)) v6 ((1 : Int32) + x55)).bind fun x56 =>
  some (x56.1, x56.2.1, g_er, g_eb, g_li, x56.2.2.1, g_rd, g_tu, g_la, x56.2.2.2.1, g_sh, g_tb, x56.2.2.2.2.1, x56.2.2.2.2.2.1, x56.2.2.2.2.2.2)
def fL_act_J442 (fu : Nat) (g_ft : Tab) (g_er : Tab) (g_eb : Int32) (g_li : Tab) (g_st : Tab) (g_rd : Int32) (g_tu : Int32) (g_la : Int32) (g_dl : Bool) (g_sh : Int32) (g_tb : Int32) (yc : Int32) (yp : (Nat → Nat)) (yg : (Nat → GV)) (p1 : Int32) (v4 : Int32) (v5 : Int32) (v6 : Int32) (v7 : Bool) : Option (Int32 × Tab × Tab × Int32 × Tab × Tab × Int32 × Int32 × Int32 × Bool × Int32 × Int32 × Int32 × (Nat → Nat) × (Nat → GV)) :=
  if (bI v7) = 0 then
    fL_act_J455 fu g_ft g_er g_eb g_li g_st g_rd g_tu g_la g_dl g_sh g_tb yc yp yg p1 v6 v5
  else
    fL_act_J455 fu g_ft g_er g_eb g_li g_st g_rd g_tu g_la g_dl g_sh g_tb yc yp yg p1 v6 v4
def fL_act_J75 (fu : Nat) (g_ft : Tab) (g_er : Tab) (g_eb : Int32) (g_li : Tab) (g_st : Tab) (g_rd : Int32) (g_tu : Int32) (g_la : Int32) (g_dl : Bool) (g_sh : Int32) (g_tb : Int32) (yc : Int32) (yp : (Nat → Nat)) (yg : (Nat → GV)) (p1 : Int32) (v2 : Int32) (v3 : Int32) (v4 : Int32) (v5 : Int32) (v6 : Int32) (v7 : Bool) (t0 : Bool) : Option (Int32 × Tab × Tab × Int32 × Tab × Tab × Int32 × Int32 × Int32 × Bool × Int32 × Int32 × Int32 × (Nat → Nat) × (Nat → GV)) :=
  if (p1 &&& (15 : Int32)) = 0 then
    if (6 : Int32) ≤ v3 then
      some ((-200 : Int32), g_ft, g_er, g_eb, g_li, g_st, g_rd, g_tu, g_la, g_dl, g_sh, g_tb, yc, yp, yg)
    else
      (fL_low v2 (30 : Int32)).bind fun x8 =>
      (fL_low (p1 >>> ((5 : Int32) &&& 31)) (60 : Int32)).bind fun x9 =>
      (fX5_add fu g_ft g_er g_eb g_li g_st g_rd g_tu g_la g_dl g_sh g_tb yc yp yg ((1 : Int32) + x8) ((1 : Int32) + x9)).bind fun x10 =>
      some (x10.1, x10.2.1, g_er, g_eb, g_li, g_st, g_rd, g_tu, g_la, g_dl, g_sh, g_tb, x10.2.2.1, x10.2.2.2.1, x10.2.2.2.2)
  else
  if (p1 &&& (15 : Int32)) = 1 then
    (fL_low (p1 >>> ((6 : Int32) &&& 31)) (30 : Int32)).bind fun x12 =>
    (fX5_setSpeed fu g_ft g_er g_eb g_li g_st g_rd g_tu g_la g_dl g_sh g_tb yc yp yg v5 ((1 : Int32) + x12)).bind fun x13 =>
    some (x13.1, x13.2.1, g_er, g_eb, g_li, g_st, g_rd, g_tu, g_la, g_dl, g_sh, g_tb, x13.2.2.1, x13.2.2.2.1, x13.2.2.2.2)
  else
  if (p1 &&& (15 : Int32)) = 2 then
    (fL_low v2 (30 : Int32)).bind fun x15 =>
    (fX5_setShock fu g_ft g_er g_eb g_li g_st g_rd g_tu g_la g_dl g_sh g_tb yc yp yg ((1 : Int32) + x15)).bind fun x16 =>
    some (x16.1, g_ft, g_er, g_eb, g_li, g_st, g_rd, g_tu, g_la, g_dl, x16.2.1, g_tb, x16.2.2.1, x16.2.2.2.1, x16.2.2.2.2)
  else
  if (p1 &&& (15 : Int32)) = 3 then
    if v4 < 0 then
      (fL_comes fu g_ft g_er g_eb g_li g_st g_rd g_tu g_la g_dl g_sh g_tb yc yp yg v5).bind fun x18 =>
      some (x18.1, g_ft, g_er, g_eb, x18.2.1, g_st, g_rd, x18.2.2.1, x18.2.2.2.1, x18.2.2.2.2.1, g_sh, g_tb, x18.2.2.2.2.2.1, x18.2.2.2.2.2.2.1, x18.2.2.2.2.2.2.2)
    else
      (fX5_fighter fu g_ft g_er g_li v4 (4 : Int32)).bind fun x19 =>
      if x19 = (1 : Int32) then
        if (bI v7) = 0 then
          (fL_comes fu g_ft g_er g_eb g_li g_st g_rd g_tu g_la g_dl g_sh g_tb yc yp yg v5).bind fun x21 =>
          some (x21.1, g_ft, g_er, g_eb, x21.2.1, g_st, g_rd, x21.2.2.1, x21.2.2.2.1, x21.2.2.2.2.1, g_sh, g_tb, x21.2.2.2.2.2.1, x21.2.2.2.2.2.2.1, x21.2.2.2.2.2.2.2)
        else
          if (p1 &&& (256 : Int32)) = 0 then
            (fL_comes fu g_ft g_er g_eb g_li g_st g_rd g_tu g_la g_dl g_sh g_tb yc yp yg v5).bind fun x22 =>
            some (x22.1, g_ft, g_er, g_eb, x22.2.1, g_st, g_rd, x22.2.2.1, x22.2.2.2.1, x22.2.2.2.2.1, g_sh, g_tb, x22.2.2.2.2.2.1, x22.2.2.2.2.2.2.1, x22.2.2.2.2.2.2.2)
          else
            some ((-200 : Int32), g_ft, g_er, g_eb, g_li, g_st, g_rd, g_tu, g_la, g_dl, g_sh, g_tb, yc, yp, yg)
      else
        (fL_comes fu g_ft g_er g_eb g_li g_st g_rd g_tu g_la g_dl g_sh g_tb yc yp yg v5).bind fun x20 =>
        some (x20.1, g_ft, g_er, g_eb, x20.2.1, g_st, g_rd, x20.2.2.1, x20.2.2.2.1, x20.2.2.2.2.1, g_sh, g_tb, x20.2.2.2.2.2.1, x20.2.2.2.2.2.2.1, x20.2.2.2.2.2.2.2)
  else
  if (p1 &&& (15 : Int32)) = 4 then
    if (bI v7) = 0 then
      if (bI v7) = 0 then
        (fX5_settle fu g_ft g_er g_eb g_li g_st g_rd g_tu g_la g_dl g_sh g_tb yc yp yg).bind fun x24 =>
        some (x24.1, x24.2.1, x24.2.2.1, x24.2.2.2.1, g_li, x24.2.2.2.2.1, g_rd, x24.2.2.2.2.2.1, g_la, g_dl, g_sh, g_tb, x24.2.2.2.2.2.2.1, x24.2.2.2.2.2.2.2.1, x24.2.2.2.2.2.2.2.2)
      else
        (fX5_end fu g_ft g_er g_eb g_li g_st g_rd g_tu g_la g_dl g_sh g_tb yc yp yg).bind fun x25 =>
        some (x25.1, g_ft, x25.2.1, g_eb, g_li, g_st, g_rd, x25.2.2.1, g_la, g_dl, g_sh, g_tb, x25.2.2.2.1, x25.2.2.2.2.1, x25.2.2.2.2.2)
    else
      if v4 = (-1 : Int32) then
        (fX5_next fu g_ft g_er g_eb g_li g_st g_rd g_tu g_la g_dl g_sh g_tb yc yp yg).bind fun x28 =>
        some (x28.1, x28.2.1, x28.2.2.1, g_eb, x28.2.2.2.1, g_st, x28.2.2.2.2.1, x28.2.2.2.2.2.1, x28.2.2.2.2.2.2.1, x28.2.2.2.2.2.2.2.1, g_sh, x28.2.2.2.2.2.2.2.2.1, x28.2.2.2.2.2.2.2.2.2.1, x28.2.2.2.2.2.2.2.2.2.2.1, x28.2.2.2.2.2.2.2.2.2.2.2)
      else
        if (bI v7) = 0 then
          (fX5_settle fu g_ft g_er g_eb g_li g_st g_rd g_tu g_la g_dl g_sh g_tb yc yp yg).bind fun x26 =>
          some (x26.1, x26.2.1, x26.2.2.1, x26.2.2.2.1, g_li, x26.2.2.2.2.1, g_rd, x26.2.2.2.2.2.1, g_la, g_dl, g_sh, g_tb, x26.2.2.2.2.2.2.1, x26.2.2.2.2.2.2.2.1, x26.2.2.2.2.2.2.2.2)
        else
          (fX5_end fu g_ft g_er g_eb g_li g_st g_rd g_tu g_la g_dl g_sh g_tb yc yp yg).bind fun x27 =>
          some (x27.1, g_ft, x27.2.1, g_eb, g_li, g_st, g_rd, x27.2.2.1, g_la, g_dl, g_sh, g_tb, x27.2.2.2.1, x27.2.2.2.2.1, x27.2.2.2.2.2)
  else
  if (p1 &&& (15 : Int32)) = 5 then
    if (bI v7) = 0 then
      if (bI v7) = 0 then
        (fX5_settle fu g_ft g_er g_eb g_li g_st g_rd g_tu g_la g_dl g_sh g_tb yc yp yg).bind fun x30 =>
        some (x30.1, x30.2.1, x30.2.2.1, x30.2.2.2.1, g_li, x30.2.2.2.2.1, g_rd, x30.2.2.2.2.2.1, g_la, g_dl, g_sh, g_tb, x30.2.2.2.2.2.2.1, x30.2.2.2.2.2.2.2.1, x30.2.2.2.2.2.2.2.2)
      else
        (fX5_end fu g_ft g_er g_eb g_li g_st g_rd g_tu g_la g_dl g_sh g_tb yc yp yg).bind fun x31 =>
        some (x31.1, g_ft, x31.2.1, g_eb, g_li, g_st, g_rd, x31.2.2.1, g_la, g_dl, g_sh, g_tb, x31.2.2.2.1, x31.2.2.2.2.1, x31.2.2.2.2.2)
    else
      if v4 = (-1 : Int32) then
        (fX5_next fu g_ft g_er g_eb g_li g_st g_rd g_tu g_la g_dl g_sh g_tb yc yp yg).bind fun x34 =>
        some (x34.1, x34.2.1, x34.2.2.1, g_eb, x34.2.2.2.1, g_st, x34.2.2.2.2.1, x34.2.2.2.2.2.1, x34.2.2.2.2.2.2.1, x34.2.2.2.2.2.2.2.1, g_sh, x34.2.2.2.2.2.2.2.2.1, x34.2.2.2.2.2.2.2.2.2.1, x34.2.2.2.2.2.2.2.2.2.2.1, x34.2.2.2.2.2.2.2.2.2.2.2)
      else
        if (bI v7) = 0 then
          (fX5_settle fu g_ft g_er g_eb g_li g_st g_rd g_tu g_la g_dl g_sh g_tb yc yp yg).bind fun x32 =>
          some (x32.1, x32.2.1, x32.2.2.1, x32.2.2.2.1, g_li, x32.2.2.2.2.1, g_rd, x32.2.2.2.2.2.1, g_la, g_dl, g_sh, g_tb, x32.2.2.2.2.2.2.1, x32.2.2.2.2.2.2.2.1, x32.2.2.2.2.2.2.2.2)
        else
          (fX5_end fu g_ft g_er g_eb g_li g_st g_rd g_tu g_la g_dl g_sh g_tb yc yp yg).bind fun x33 =>
          some (x33.1, g_ft, x33.2.1, g_eb, g_li, g_st, g_rd, x33.2.2.1, g_la, g_dl, g_sh, g_tb, x33.2.2.2.1, x33.2.2.2.2.1, x33.2.2.2.2.2)
  else
  if (p1 &&& (15 : Int32)) = 6 then
    if (bI v7) = 0 then
      (fX5_settle fu g_ft g_er g_eb g_li g_st g_rd g_tu g_la g_dl g_sh g_tb yc yp yg).bind fun x36 =>
      some (x36.1, x36.2.1, x36.2.2.1, x36.2.2.2.1, g_li, x36.2.2.2.2.1, g_rd, x36.2.2.2.2.2.1, g_la, g_dl, g_sh, g_tb, x36.2.2.2.2.2.2.1, x36.2.2.2.2.2.2.2.1, x36.2.2.2.2.2.2.2.2)
    else
      if v4 = (-1 : Int32) then
        (fX5_next fu g_ft g_er g_eb g_li g_st g_rd g_tu g_la g_dl g_sh g_tb yc yp yg).bind fun x37 =>
        some (x37.1, x37.2.1, x37.2.2.1, g_eb, x37.2.2.2.1, g_st, x37.2.2.2.2.1, x37.2.2.2.2.2.1, x37.2.2.2.2.2.2.1, x37.2.2.2.2.2.2.2.1, g_sh, x37.2.2.2.2.2.2.2.2.1, x37.2.2.2.2.2.2.2.2.2.1, x37.2.2.2.2.2.2.2.2.2.2.1, x37.2.2.2.2.2.2.2.2.2.2.2)
      else
        some ((-200 : Int32), g_ft, g_er, g_eb, g_li, g_st, g_rd, g_tu, g_la, g_dl, g_sh, g_tb, yc, yp, yg)
  else
  if (p1 &&& (15 : Int32)) = 7 then
    if (bI v7) = 0 then
      (fX5_settle fu g_ft g_er g_eb g_li g_st g_rd g_tu g_la g_dl g_sh g_tb yc yp yg).bind fun x39 =>
      some (x39.1, x39.2.1, x39.2.2.1, x39.2.2.2.1, g_li, x39.2.2.2.2.1, g_rd, x39.2.2.2.2.2.1, g_la, g_dl, g_sh, g_tb, x39.2.2.2.2.2.2.1, x39.2.2.2.2.2.2.2.1, x39.2.2.2.2.2.2.2.2)
    else
      if v4 = (-1 : Int32) then
        (fX5_next fu g_ft g_er g_eb g_li g_st g_rd g_tu g_la g_dl g_sh g_tb yc yp yg).bind fun x40 =>
        some (x40.1, x40.2.1, x40.2.2.1, g_eb, x40.2.2.2.1, g_st, x40.2.2.2.2.1, x40.2.2.2.2.2.1, x40.2.2.2.2.2.2.1, x40.2.2.2.2.2.2.2.1, g_sh, x40.2.2.2.2.2.2.2.2.1, x40.2.2.2.2.2.2.2.2.2.1, x40.2.2.2.2.2.2.2.2.2.2.1, x40.2.2.2.2.2.2.2.2.2.2.2)
      else
        some ((-200 : Int32), g_ft, g_er, g_eb, g_li, g_st, g_rd, g_tu, g_la, g_dl, g_sh, g_tb, yc, yp, yg)
  else
  if (p1 &&& (15 : Int32)) = 8 then
    if v4 < 0 then
      some ((-200 : Int32), g_ft, g_er, g_eb, g_li, g_st, g_rd, g_tu, g_la, g_dl, g_sh, g_tb, yc, yp, yg)
    else
      if (bI v7) = 0 then
        (fX5_mayAnswer g_ft g_st v5).bind fun x47 =>
        if (bI x47) = 0 then
          some ((-200 : Int32), g_ft, g_er, g_eb, g_li, g_st, g_rd, g_tu, g_la, g_dl, g_sh, g_tb, yc, yp, yg)
        else
          fL_act_J335 fu g_ft g_er g_eb g_li g_st g_rd g_tu g_la g_dl g_sh g_tb yc yp yg p1 v4 v5 v6 v7
      else
        fL_act_J335 fu g_ft g_er g_eb g_li g_st g_rd g_tu g_la g_dl g_sh g_tb yc yp yg p1 v4 v5 v6 v7
  else
  if (p1 &&& (15 : Int32)) = 9 then
    if v4 < 0 then
      some ((-200 : Int32), g_ft, g_er, g_eb, g_li, g_st, g_rd, g_tu, g_la, g_dl, g_sh, g_tb, yc, yp, yg)
    else
      if (bI v7) = 0 then
        (fX5_mayAnswer g_ft g_st v5).bind fun x49 =>
        if (bI x49) = 0 then
          some ((-200 : Int32), g_ft, g_er, g_eb, g_li, g_st, g_rd, g_tu, g_la, g_dl, g_sh, g_tb, yc, yp, yg)
        else
          fL_act_J335 fu g_ft g_er g_eb g_li g_st g_rd g_tu g_la g_dl g_sh g_tb yc yp yg p1 v4 v5 v6 v7
      else
        fL_act_J335 fu g_ft g_er g_eb g_li g_st g_rd g_tu g_la g_dl g_sh g_tb yc yp yg p1 v4 v5 v6 v7
  else
  if (p1 &&& (15 : Int32)) = 10 then
    if v4 < 0 then
      some ((-200 : Int32), g_ft, g_er, g_eb, g_li, g_st, g_rd, g_tu, g_la, g_dl, g_sh, g_tb, yc, yp, yg)
    else
      if (bI v7) = 0 then
        (fX5_mayAnswer g_ft g_st v5).bind fun x51 =>
        if (bI x51) = 0 then
          some ((-200 : Int32), g_ft, g_er, g_eb, g_li, g_st, g_rd, g_tu, g_la, g_dl, g_sh, g_tb, yc, yp, yg)
        else
          fL_act_J335 fu g_ft g_er g_eb g_li g_st g_rd g_tu g_la g_dl g_sh g_tb yc yp yg p1 v4 v5 v6 v7
      else
        fL_act_J335 fu g_ft g_er g_eb g_li g_st g_rd g_tu g_la g_dl g_sh g_tb yc yp yg p1 v4 v5 v6 v7
  else
  if (p1 &&& (15 : Int32)) = 11 then
    if (bI v7) = 0 then
      (fX5_mayAnswer g_ft g_st v5).bind fun x53 =>
      if (bI x53) = 0 then
        some ((-200 : Int32), g_ft, g_er, g_eb, g_li, g_st, g_rd, g_tu, g_la, g_dl, g_sh, g_tb, yc, yp, yg)
      else
        (fX5_act fu g_ft g_er g_eb g_li g_st g_rd g_tu g_la g_dl g_sh g_tb yc yp yg v5 (3 : Int32) v6 (1 : Int32)).bind fun x54 =>
        some (x54.1, x54.2.1, g_er, g_eb, g_li, x54.2.2.1, g_rd, g_tu, g_la, x54.2.2.2.1, g_sh, g_tb, x54.2.2.2.2.1, x54.2.2.2.2.2.1, x54.2.2.2.2.2.2)
    else
      some ((-200 : Int32), g_ft, g_er, g_eb, g_li, g_st, g_rd, g_tu, g_la, g_dl, g_sh, g_tb, yc, yp, yg)
  else
  if v4 < 0 then
    some ((-200 : Int32), g_ft, g_er, g_eb, g_li, g_st, g_rd, g_tu, g_la, g_dl, g_sh, g_tb, yc, yp, yg)
  else
    if (bI t0) = 0 then
      if (bI v7) = 0 then
        some ((-200 : Int32), g_ft, g_er, g_eb, g_li, g_st, g_rd, g_tu, g_la, g_dl, g_sh, g_tb, yc, yp, yg)
      else
        fL_act_J442 fu g_ft g_er g_eb g_li g_st g_rd g_tu g_la g_dl g_sh g_tb yc yp yg p1 v4 v5 v6 v7
    else
      fL_act_J442 fu g_ft g_er g_eb g_li g_st g_rd g_tu g_la g_dl g_sh g_tb yc yp yg p1 v4 v5 v6 v7
def fL_act_J47 (fu : Nat) (g_ft : Tab) (g_er : Tab) (g_eb : Int32) (g_li : Tab) (g_st : Tab) (g_rd : Int32) (g_tu : Int32) (g_la : Int32) (g_dl : Bool) (g_sh : Int32) (g_tb : Int32) (yc : Int32) (yp : (Nat → Nat)) (yg : (Nat → GV)) (p1 : Int32) (v2 : Int32) (v3 : Int32) (v4 : Int32) (v5 : Int32) (v6 : Int32) (t0 : Bool) : Option (Int32 × Tab × Tab × Int32 × Tab × Tab × Int32 × Int32 × Int32 × Bool × Int32 × Int32 × Int32 × (Nat → Nat) × (Nat → GV)) :=
  if (bI t0) = 0 then
    (fX5_mayAnswer g_ft g_st v5).bind fun x6 =>
    fL_act_J75 fu g_ft g_er g_eb g_li g_st g_rd g_tu g_la g_dl g_sh g_tb yc yp yg p1 v2 v3 v4 v5 v6 t0 x6
  else
    if v4 = v5 then
      fL_act_J75 fu g_ft g_er g_eb g_li g_st g_rd g_tu g_la g_dl g_sh g_tb yc yp yg p1 v2 v3 v4 v5 v6 t0 true
    else
      fL_act_J75 fu g_ft g_er g_eb g_li g_st g_rd g_tu g_la g_dl g_sh g_tb yc yp yg p1 v2 v3 v4 v5 v6 t0 false
def fL_act (fu : Nat) (g_ft : Tab) (g_er : Tab) (g_eb : Int32) (g_li : Tab) (g_st : Tab) (g_rd : Int32) (g_tu : Int32) (g_la : Int32) (g_dl : Bool) (g_sh : Int32) (g_tb : Int32) (yc : Int32) (yp : (Nat → Nat)) (yg : (Nat → GV)) (p1 : Int32) : Option (Int32 × Tab × Tab × Int32 × Tab × Tab × Int32 × Int32 × Int32 × Bool × Int32 × Int32 × Int32 × (Nat → Nat) × (Nat → GV)) :=
  (fX5_value fu g_ft g_er g_eb g_st g_rd g_tu g_sh g_tb (0 : Int32)).bind fun x1 =>
  (fX5_value fu g_ft g_er g_eb g_st g_rd g_tu g_sh g_tb (4 : Int32)).bind fun x2 =>
  (fL_low (p1 >>> ((4 : Int32) &&& 31)) x1).bind fun x3 =>
  (fL_low (p1 >>> ((7 : Int32) &&& 31)) x1).bind fun x4 =>
  (fX5_value fu g_ft g_er g_eb g_st g_rd g_tu g_sh g_tb (5 : Int32)).bind fun x5 =>
  if x5 = 0 then
    fL_act_J47 fu g_ft g_er g_eb g_li g_st g_rd g_tu g_la g_dl g_sh g_tb yc yp yg p1 (p1 >>> ((4 : Int32) &&& 31)) x1 x2 x3 x4 true
  else
    fL_act_J47 fu g_ft g_er g_eb g_li g_st g_rd g_tu g_la g_dl g_sh g_tb yc yp yg p1 (p1 >>> ((4 : Int32) &&& 31)) x1 x2 x3 x4 false
def fL_isRight_J609 (fu : Nat) (g_ft : Tab) (g_er : Tab) (g_eb : Int32) (g_li : Tab) (g_st : Tab) (g_rd : Int32) (g_tu : Int32) (g_la : Int32) (g_dl : Bool) (g_sh : Int32) (g_tb : Int32) (z_ft : Tab) (z_er : Tab) (z_eb : Int32) (z_li : Tab) (z_st : Tab) (z_rd : Int32) (z_tu : Int32) (z_la : Int32) (z_dl : Bool) (z_sh : Int32) (z_tb : Int32) (v1 : Int32) (v3 : Int32) (v5 : Int32) (t0 : Bool) (rec : Int32 → Option (Bool × Tab × Tab × Int32 × Tab × Tab × Int32 × Int32 × Int32 × Bool × Int32 × Int32)) : Option (Bool × Tab × Tab × Int32 × Tab × Tab × Int32 × Int32 × Int32 × Bool × Int32 × Int32) :=
  (fX5_mayAnswer g_ft g_st v5).bind fun x11 =>
  if (bI t0) = (bI x11) then
    rec (v5 + 1)
  else
    some (false, z_ft, z_er, z_eb, z_li, z_st, z_rd, z_tu, z_la, z_dl, z_sh, z_tb)
def fL_isRight_J608 (fu : Nat) (g_ft : Tab) (g_er : Tab) (g_eb : Int32) (g_li : Tab) (g_st : Tab) (g_rd : Int32) (g_tu : Int32) (g_la : Int32) (g_dl : Bool) (g_sh : Int32) (g_tb : Int32) (z_ft : Tab) (z_er : Tab) (z_eb : Int32) (z_li : Tab) (z_st : Tab) (z_rd : Int32) (z_tu : Int32) (z_la : Int32) (z_dl : Bool) (z_sh : Int32) (z_tb : Int32) (v1 : Int32) (v3 : Int32) (v5 : Int32) (rec : Int32 → Option (Bool × Tab × Tab × Int32 × Tab × Tab × Int32 × Int32 × Int32 × Bool × Int32 × Int32)) : Option (Bool × Tab × Tab × Int32 × Tab × Tab × Int32 × Int32 × Int32 × Bool × Int32 × Int32) :=
  fL_isRight_J609 fu g_ft g_er g_eb g_li g_st g_rd g_tu g_la g_dl g_sh g_tb z_ft z_er z_eb z_li z_st z_rd z_tu z_la z_dl z_sh z_tb v1 v3 v5 false rec
def fL_isRight_L544 (fu : Nat) (g_ft : Tab) (g_er : Tab) (g_eb : Int32) (g_li : Tab) (g_st : Tab) (g_rd : Int32) (g_tu : Int32) (g_la : Int32) (g_dl : Bool) (g_sh : Int32) (g_tb : Int32) (z_ft : Tab) (z_er : Tab) (z_eb : Int32) (z_li : Tab) (z_st : Tab) (z_rd : Int32) (z_tu : Int32) (z_la : Int32) (z_dl : Bool) (z_sh : Int32) (z_tb : Int32) (v1 : Int32) (v3 : Int32) : Nat → Int32 → Option (Bool × Tab × Tab × Int32 × Tab × Tab × Int32 × Int32 × Int32 × Bool × Int32 × Int32)
  | 0, _ => none
  | k + 1, v5 =>
    (fX5_value fu g_ft g_er g_eb g_st g_rd g_tu g_sh g_tb (0 : Int32)).bind fun x5 =>
    if x5 ≤ v5 then
      (fX5_value fu g_ft g_er g_eb g_st g_rd g_tu g_sh g_tb (1 : Int32)).bind fun x6 =>
      if v1 = x6 then
        (fX5_value fu g_ft g_er g_eb g_st g_rd g_tu g_sh g_tb (2 : Int32)).bind fun x7 =>
        if (30 : Int32) < x7 then
          some (false, z_ft, z_er, z_eb, z_li, z_st, z_rd, z_tu, z_la, z_dl, z_sh, z_tb)
        else
          (fX5_value fu g_ft g_er g_eb g_st g_rd g_tu g_sh g_tb (5 : Int32)).bind fun x8 =>
          if 0 < x8 then
            some (true, z_ft, z_er, z_eb, z_li, z_st, z_rd, z_tu, z_la, z_dl, z_sh, z_tb)
          else
            (fX5_lifeSettled fu g_ft g_er g_eb g_li g_st g_rd g_tu g_la g_dl g_sh g_tb z_ft z_er z_eb z_li z_st z_rd z_tu z_la z_dl z_sh z_tb).bind fun x9 =>
            if x9.1 = v3 then
              some (true, x9.2.1, x9.2.2.1, x9.2.2.2.1, x9.2.2.2.2.1, x9.2.2.2.2.2.1, x9.2.2.2.2.2.2.1, x9.2.2.2.2.2.2.2.1, x9.2.2.2.2.2.2.2.2.1, x9.2.2.2.2.2.2.2.2.2.1, x9.2.2.2.2.2.2.2.2.2.2.1, x9.2.2.2.2.2.2.2.2.2.2.2)
            else
              some (false, x9.2.1, x9.2.2.1, x9.2.2.2.1, x9.2.2.2.2.1, x9.2.2.2.2.2.1, x9.2.2.2.2.2.2.1, x9.2.2.2.2.2.2.2.1, x9.2.2.2.2.2.2.2.2.1, x9.2.2.2.2.2.2.2.2.2.1, x9.2.2.2.2.2.2.2.2.2.2.1, x9.2.2.2.2.2.2.2.2.2.2.2)
      else
        some (false, z_ft, z_er, z_eb, z_li, z_st, z_rd, z_tu, z_la, z_dl, z_sh, z_tb)
    else
      (fX5_value fu g_ft g_er g_eb g_st g_rd g_tu g_sh g_tb (5 : Int32)).bind fun x10 =>
      if x10 ≤ 0 then
        fL_isRight_J608 fu g_ft g_er g_eb g_li g_st g_rd g_tu g_la g_dl g_sh g_tb z_ft z_er z_eb z_li z_st z_rd z_tu z_la z_dl z_sh z_tb v1 v3 v5 (fun v5 => fL_isRight_L544 fu g_ft g_er g_eb g_li g_st g_rd g_tu g_la g_dl g_sh g_tb z_ft z_er z_eb z_li z_st z_rd z_tu z_la z_dl z_sh z_tb v1 v3 k v5)
      else
        (fX5_value fu g_ft g_er g_eb g_st g_rd g_tu g_sh g_tb (5 : Int32)).bind fun x12 =>
        if (8 : Int32) ≤ x12 then
          fL_isRight_J608 fu g_ft g_er g_eb g_li g_st g_rd g_tu g_la g_dl g_sh g_tb z_ft z_er z_eb z_li z_st z_rd z_tu z_la z_dl z_sh z_tb v1 v3 v5 (fun v5 => fL_isRight_L544 fu g_ft g_er g_eb g_li g_st g_rd g_tu g_la g_dl g_sh g_tb z_ft z_er z_eb z_li z_st z_rd z_tu z_la z_dl z_sh z_tb v1 v3 k v5)
        else
          (fX5_fighter fu g_ft g_er g_li v5 (2 : Int32)).bind fun x13 =>
          if x13 ≤ 0 then
            fL_isRight_J608 fu g_ft g_er g_eb g_li g_st g_rd g_tu g_la g_dl g_sh g_tb z_ft z_er z_eb z_li z_st z_rd z_tu z_la z_dl z_sh z_tb v1 v3 v5 (fun v5 => fL_isRight_L544 fu g_ft g_er g_eb g_li g_st g_rd g_tu g_la g_dl g_sh g_tb z_ft z_er z_eb z_li z_st z_rd z_tu z_la z_dl z_sh z_tb v1 v3 k v5)
          else
            (fX5_fighter fu g_ft g_er g_li v5 (4 : Int32)).bind fun x14 =>
            if x14 = (1 : Int32) then
              (fX5_stacked g_st (0 : Int32) (1 : Int32)).bind fun x15 =>
              if x15 = v5 then
                fL_isRight_J608 fu g_ft g_er g_eb g_li g_st g_rd g_tu g_la g_dl g_sh g_tb z_ft z_er z_eb z_li z_st z_rd z_tu z_la z_dl z_sh z_tb v1 v3 v5 (fun v5 => fL_isRight_L544 fu g_ft g_er g_eb g_li g_st g_rd g_tu g_la g_dl g_sh g_tb z_ft z_er z_eb z_li z_st z_rd z_tu z_la z_dl z_sh z_tb v1 v3 k v5)
              else
                fL_isRight_J609 fu g_ft g_er g_eb g_li g_st g_rd g_tu g_la g_dl g_sh g_tb z_ft z_er z_eb z_li z_st z_rd z_tu z_la z_dl z_sh z_tb v1 v3 v5 true (fun v5 => fL_isRight_L544 fu g_ft g_er g_eb g_li g_st g_rd g_tu g_la g_dl g_sh g_tb z_ft z_er z_eb z_li z_st z_rd z_tu z_la z_dl z_sh z_tb v1 v3 k v5)
            else
              fL_isRight_J608 fu g_ft g_er g_eb g_li g_st g_rd g_tu g_la g_dl g_sh g_tb z_ft z_er z_eb z_li z_st z_rd z_tu z_la z_dl z_sh z_tb v1 v3 v5 (fun v5 => fL_isRight_L544 fu g_ft g_er g_eb g_li g_st g_rd g_tu g_la g_dl g_sh g_tb z_ft z_er z_eb z_li z_st z_rd z_tu z_la z_dl z_sh z_tb v1 v3 k v5)
def fL_isRight_J516 (fu : Nat) (g_ft : Tab) (g_er : Tab) (g_eb : Int32) (g_li : Tab) (g_st : Tab) (g_rd : Int32) (g_tu : Int32) (g_la : Int32) (g_dl : Bool) (g_sh : Int32) (g_tb : Int32) (z_ft : Tab) (z_er : Tab) (z_eb : Int32) (z_li : Tab) (z_st : Tab) (z_rd : Int32) (z_tu : Int32) (z_la : Int32) (z_dl : Bool) (z_sh : Int32) (z_tb : Int32) (v1 : Int32) (v3 : Int32) (v4 : Int32) : Option (Bool × Tab × Tab × Int32 × Tab × Tab × Int32 × Int32 × Int32 × Bool × Int32 × Int32) :=
  (fX5_value fu g_ft g_er g_eb g_st g_rd g_tu g_sh g_tb (5 : Int32)).bind fun x3 =>
  if (8 : Int32) < x3 then
    some (false, z_ft, z_er, z_eb, z_li, z_st, z_rd, z_tu, z_la, z_dl, z_sh, z_tb)
  else
    (fX5_value fu g_ft g_er g_eb g_st g_rd g_tu g_sh g_tb (5 : Int32)).bind fun x4 =>
    if x4 ≤ 0 then
      fL_isRight_L544 fu g_ft g_er g_eb g_li g_st g_rd g_tu g_la g_dl g_sh g_tb z_ft z_er z_eb z_li z_st z_rd z_tu z_la z_dl z_sh z_tb v1 v3 fu (0 : Int32)
    else
      if 0 ≤ v4 then
        fL_isRight_L544 fu g_ft g_er g_eb g_li g_st g_rd g_tu g_la g_dl g_sh g_tb z_ft z_er z_eb z_li z_st z_rd z_tu z_la z_dl z_sh z_tb v1 v3 fu (0 : Int32)
      else
        some (false, z_ft, z_er, z_eb, z_li, z_st, z_rd, z_tu, z_la, z_dl, z_sh, z_tb)
def fL_isRight_L459 (fu : Nat) (g_ft : Tab) (g_er : Tab) (g_eb : Int32) (g_li : Tab) (g_st : Tab) (g_rd : Int32) (g_tu : Int32) (g_la : Int32) (g_dl : Bool) (g_sh : Int32) (g_tb : Int32) (z_ft : Tab) (z_er : Tab) (z_eb : Int32) (z_li : Tab) (z_st : Tab) (z_rd : Int32) (z_tu : Int32) (z_la : Int32) (z_dl : Bool) (z_sh : Int32) (z_tb : Int32) (v1 : Int32) (v2 : Int32) (v3 : Int32) (v4 : Int32) : Nat → Int32 → Option (Bool × Tab × Tab × Int32 × Tab × Tab × Int32 × Int32 × Int32 × Bool × Int32 × Int32)
  | 0, _ => none
  | k + 1, v5 =>
    if v2 ≤ v5 then
      if v4 < 0 then
        fL_isRight_J516 fu g_ft g_er g_eb g_li g_st g_rd g_tu g_la g_dl g_sh g_tb z_ft z_er z_eb z_li z_st z_rd z_tu z_la z_dl z_sh z_tb v1 v3 v4
      else
        (fX5_fighter fu g_ft g_er g_li v4 (2 : Int32)).bind fun x16 =>
        if x16 = 0 then
          some (false, z_ft, z_er, z_eb, z_li, z_st, z_rd, z_tu, z_la, z_dl, z_sh, z_tb)
        else
          (fX5_fighter fu g_ft g_er g_li v4 (5 : Int32)).bind fun x17 =>
          if x17 = (1 : Int32) then
            fL_isRight_J516 fu g_ft g_er g_eb g_li g_st g_rd g_tu g_la g_dl g_sh g_tb z_ft z_er z_eb z_li z_st z_rd z_tu z_la z_dl z_sh z_tb v1 v3 v4
          else
            some (false, z_ft, z_er, z_eb, z_li, z_st, z_rd, z_tu, z_la, z_dl, z_sh, z_tb)
    else
      (fX5_inList g_li v5).bind fun x18 =>
      (fX5_inList g_li (v5 - (1 : Int32))).bind fun x19 =>
      if x18 = x19 then
        some (false, z_ft, z_er, z_eb, z_li, z_st, z_rd, z_tu, z_la, z_dl, z_sh, z_tb)
      else
        fL_isRight_L459 fu g_ft g_er g_eb g_li g_st g_rd g_tu g_la g_dl g_sh g_tb z_ft z_er z_eb z_li z_st z_rd z_tu z_la z_dl z_sh z_tb v1 v2 v3 v4 k (v5 + 1)
def fL_isRight_J388 (fu : Nat) (g_ft : Tab) (g_er : Tab) (g_eb : Int32) (g_li : Tab) (g_st : Tab) (g_rd : Int32) (g_tu : Int32) (g_la : Int32) (g_dl : Bool) (g_sh : Int32) (g_tb : Int32) (z_ft : Tab) (z_er : Tab) (z_eb : Int32) (z_li : Tab) (z_st : Tab) (z_rd : Int32) (z_tu : Int32) (z_la : Int32) (z_dl : Bool) (z_sh : Int32) (z_tb : Int32) (v1 : Int32) (v2 : Int32) (v3 : Int32) (v4 : Int32) (v5 : Int32) (v6 : Int32) (v9 : Int32) (v10 : Int32) (v11 : Int32) (v12 : Int32) (rec : Int32 → Int32 → Int32 → Int32 → Option ((Int32 × Int32 × Int32) ⊕ (Bool × Tab × Tab × Int32 × Tab × Tab × Int32 × Int32 × Int32 × Bool × Int32 × Int32))) : Option ((Int32 × Int32 × Int32) ⊕ (Bool × Tab × Tab × Int32 × Tab × Tab × Int32 × Int32 × Int32 × Bool × Int32 × Int32)) :=
  (fX5_effect g_er v12 (4 : Int32)).bind fun x31 =>
  if (1 : Int32) ≤ x31 then
    rec v9 v10 v11 (v12 + 1)
  else
    some (.inr (false, z_ft, z_er, z_eb, z_li, z_st, z_rd, z_tu, z_la, z_dl, z_sh, z_tb))
def fL_isRight_J358 (fu : Nat) (g_ft : Tab) (g_er : Tab) (g_eb : Int32) (g_li : Tab) (g_st : Tab) (g_rd : Int32) (g_tu : Int32) (g_la : Int32) (g_dl : Bool) (g_sh : Int32) (g_tb : Int32) (z_ft : Tab) (z_er : Tab) (z_eb : Int32) (z_li : Tab) (z_st : Tab) (z_rd : Int32) (z_tu : Int32) (z_la : Int32) (z_dl : Bool) (z_sh : Int32) (z_tb : Int32) (v1 : Int32) (v2 : Int32) (v3 : Int32) (v4 : Int32) (v5 : Int32) (v6 : Int32) (v10 : Int32) (v11 : Int32) (v12 : Int32) (t0 : Int32) (t1 : Int32) (rec : Int32 → Int32 → Int32 → Int32 → Option ((Int32 × Int32 × Int32) ⊕ (Bool × Tab × Tab × Int32 × Tab × Tab × Int32 × Int32 × Int32 × Bool × Int32 × Int32))) : Option ((Int32 × Int32 × Int32) ⊕ (Bool × Tab × Tab × Int32 × Tab × Tab × Int32 × Int32 × Int32 × Bool × Int32 × Int32)) :=
  if v6 = 0 then
    (fX5_effect g_er v12 (2 : Int32)).bind fun x32 =>
    if x32 = v5 then
      (fX5_effect g_er v12 (5 : Int32)).bind fun x33 =>
      if x33 = 0 then
        some (.inr (false, z_ft, z_er, z_eb, z_li, z_st, z_rd, z_tu, z_la, z_dl, z_sh, z_tb))
      else
        fL_isRight_J388 fu g_ft g_er g_eb g_li g_st g_rd g_tu g_la g_dl g_sh g_tb z_ft z_er z_eb z_li z_st z_rd z_tu z_la z_dl z_sh z_tb v1 v2 v3 v4 v5 v6 (t1 + t0) v10 v11 v12 rec
    else
      fL_isRight_J388 fu g_ft g_er g_eb g_li g_st g_rd g_tu g_la g_dl g_sh g_tb z_ft z_er z_eb z_li z_st z_rd z_tu z_la z_dl z_sh z_tb v1 v2 v3 v4 v5 v6 (t1 + t0) v10 v11 v12 rec
  else
    fL_isRight_J388 fu g_ft g_er g_eb g_li g_st g_rd g_tu g_la g_dl g_sh g_tb z_ft z_er z_eb z_li z_st z_rd z_tu z_la z_dl z_sh z_tb v1 v2 v3 v4 v5 v6 (t1 + t0) v10 v11 v12 rec
def fL_isRight_J293 (fu : Nat) (g_ft : Tab) (g_er : Tab) (g_eb : Int32) (g_li : Tab) (g_st : Tab) (g_rd : Int32) (g_tu : Int32) (g_la : Int32) (g_dl : Bool) (g_sh : Int32) (g_tb : Int32) (z_ft : Tab) (z_er : Tab) (z_eb : Int32) (z_li : Tab) (z_st : Tab) (z_rd : Int32) (z_tu : Int32) (z_la : Int32) (z_dl : Bool) (z_sh : Int32) (z_tb : Int32) (v1 : Int32) (v2 : Int32) (v3 : Int32) (v4 : Int32) (v5 : Int32) (v6 : Int32) (v9 : Int32) (v10 : Int32) (v12 : Int32) (t0 : Bool) (t1 : Int32) (rec : Int32 → Int32 → Int32 → Int32 → Option ((Int32 × Int32 × Int32) ⊕ (Bool × Tab × Tab × Int32 × Tab × Tab × Int32 × Int32 × Int32 × Bool × Int32 × Int32))) : Option ((Int32 × Int32 × Int32) ⊕ (Bool × Tab × Tab × Int32 × Tab × Tab × Int32 × Int32 × Int32 × Bool × Int32 × Int32)) :=
  (fX5_effect g_er v12 (3 : Int32)).bind fun x30 =>
  if x30 = v5 then
    (fX5_effect g_er v12 (0 : Int32)).bind fun x34 =>
    if x34 = (1 : Int32) then
      (fX5_effect g_er v12 (1 : Int32)).bind fun x37 =>
      fL_isRight_J358 fu g_ft g_er g_eb g_li g_st g_rd g_tu g_la g_dl g_sh g_tb z_ft z_er z_eb z_li z_st z_rd z_tu z_la z_dl z_sh z_tb v1 v2 v3 v4 v5 v6 v10 (t1 + (bI t0)) v12 x37 v9 rec
    else
      (fX5_effect g_er v12 (0 : Int32)).bind fun x35 =>
      if x35 = (2 : Int32) then
        (fX5_effect g_er v12 (1 : Int32)).bind fun x36 =>
        fL_isRight_J358 fu g_ft g_er g_eb g_li g_st g_rd g_tu g_la g_dl g_sh g_tb z_ft z_er z_eb z_li z_st z_rd z_tu z_la z_dl z_sh z_tb v1 v2 v3 v4 v5 v6 v10 (t1 + (bI t0)) v12 (-x36) v9 rec
      else
        fL_isRight_J358 fu g_ft g_er g_eb g_li g_st g_rd g_tu g_la g_dl g_sh g_tb z_ft z_er z_eb z_li z_st z_rd z_tu z_la z_dl z_sh z_tb v1 v2 v3 v4 v5 v6 v10 (t1 + (bI t0)) v12 (0 : Int32) v9 rec
  else
    fL_isRight_J358 fu g_ft g_er g_eb g_li g_st g_rd g_tu g_la g_dl g_sh g_tb z_ft z_er z_eb z_li z_st z_rd z_tu z_la z_dl z_sh z_tb v1 v2 v3 v4 v5 v6 v10 (t1 + (bI t0)) v12 (0 : Int32) v9 rec
def fL_isRight_J292 (fu : Nat) (g_ft : Tab) (g_er : Tab) (g_eb : Int32) (g_li : Tab) (g_st : Tab) (g_rd : Int32) (g_tu : Int32) (g_la : Int32) (g_dl : Bool) (g_sh : Int32) (g_tb : Int32) (z_ft : Tab) (z_er : Tab) (z_eb : Int32) (z_li : Tab) (z_st : Tab) (z_rd : Int32) (z_tu : Int32) (z_la : Int32) (z_dl : Bool) (z_sh : Int32) (z_tb : Int32) (v1 : Int32) (v2 : Int32) (v3 : Int32) (v4 : Int32) (v5 : Int32) (v6 : Int32) (v9 : Int32) (v10 : Int32) (v12 : Int32) (t0 : Int32) (rec : Int32 → Int32 → Int32 → Int32 → Option ((Int32 × Int32 × Int32) ⊕ (Bool × Tab × Tab × Int32 × Tab × Tab × Int32 × Int32 × Int32 × Bool × Int32 × Int32))) : Option ((Int32 × Int32 × Int32) ⊕ (Bool × Tab × Tab × Int32 × Tab × Tab × Int32 × Int32 × Int32 × Bool × Int32 × Int32)) :=
  fL_isRight_J293 fu g_ft g_er g_eb g_li g_st g_rd g_tu g_la g_dl g_sh g_tb z_ft z_er z_eb z_li z_st z_rd z_tu z_la z_dl z_sh z_tb v1 v2 v3 v4 v5 v6 v9 v10 v12 false t0 rec
def fL_isRight_J259 (fu : Nat) (g_ft : Tab) (g_er : Tab) (g_eb : Int32) (g_li : Tab) (g_st : Tab) (g_rd : Int32) (g_tu : Int32) (g_la : Int32) (g_dl : Bool) (g_sh : Int32) (g_tb : Int32) (z_ft : Tab) (z_er : Tab) (z_eb : Int32) (z_li : Tab) (z_st : Tab) (z_rd : Int32) (z_tu : Int32) (z_la : Int32) (z_dl : Bool) (z_sh : Int32) (z_tb : Int32) (v1 : Int32) (v2 : Int32) (v3 : Int32) (v4 : Int32) (v5 : Int32) (v6 : Int32) (v9 : Int32) (v11 : Int32) (v12 : Int32) (t0 : Bool) (t1 : Int32) (rec : Int32 → Int32 → Int32 → Int32 → Option ((Int32 × Int32 × Int32) ⊕ (Bool × Tab × Tab × Int32 × Tab × Tab × Int32 × Int32 × Int32 × Bool × Int32 × Int32))) : Option ((Int32 × Int32 × Int32) ⊕ (Bool × Tab × Tab × Int32 × Tab × Tab × Int32 × Int32 × Int32 × Bool × Int32 × Int32)) :=
  (fX5_effect g_er v12 (2 : Int32)).bind fun x29 =>
  if x29 = v5 then
    (fX5_effect g_er v12 (6 : Int32)).bind fun x38 =>
    if x38 = (1 : Int32) then
      fL_isRight_J293 fu g_ft g_er g_eb g_li g_st g_rd g_tu g_la g_dl g_sh g_tb z_ft z_er z_eb z_li z_st z_rd z_tu z_la z_dl z_sh z_tb v1 v2 v3 v4 v5 v6 v9 (t1 + (bI t0)) v12 true v11 rec
    else
      fL_isRight_J292 fu g_ft g_er g_eb g_li g_st g_rd g_tu g_la g_dl g_sh g_tb z_ft z_er z_eb z_li z_st z_rd z_tu z_la z_dl z_sh z_tb v1 v2 v3 v4 v5 v6 v9 (t1 + (bI t0)) v12 v11 rec
  else
    fL_isRight_J292 fu g_ft g_er g_eb g_li g_st g_rd g_tu g_la g_dl g_sh g_tb z_ft z_er z_eb z_li z_st z_rd z_tu z_la z_dl z_sh z_tb v1 v2 v3 v4 v5 v6 v9 (t1 + (bI t0)) v12 v11 rec
def fL_isRight_L230 (fu : Nat) (g_ft : Tab) (g_er : Tab) (g_eb : Int32) (g_li : Tab) (g_st : Tab) (g_rd : Int32) (g_tu : Int32) (g_la : Int32) (g_dl : Bool) (g_sh : Int32) (g_tb : Int32) (z_ft : Tab) (z_er : Tab) (z_eb : Int32) (z_li : Tab) (z_st : Tab) (z_rd : Int32) (z_tu : Int32) (z_la : Int32) (z_dl : Bool) (z_sh : Int32) (z_tb : Int32) (v1 : Int32) (v2 : Int32) (v3 : Int32) (v4 : Int32) (v5 : Int32) (v6 : Int32) : Nat → Int32 → Int32 → Int32 → Int32 → Option ((Int32 × Int32 × Int32) ⊕ (Bool × Tab × Tab × Int32 × Tab × Tab × Int32 × Int32 × Int32 × Bool × Int32 × Int32))
  | 0, _, _, _, _ => none
  | k + 1, v9, v10, v11, v12 =>
    (fX5_value fu g_ft g_er g_eb g_st g_rd g_tu g_sh g_tb (2 : Int32)).bind fun x27 =>
    if x27 ≤ v12 then
      some (.inl (v9, v10, v11))
    else
      (fX5_effect g_er v12 (3 : Int32)).bind fun x28 =>
      if x28 = v5 then
        fL_isRight_J259 fu g_ft g_er g_eb g_li g_st g_rd g_tu g_la g_dl g_sh g_tb z_ft z_er z_eb z_li z_st z_rd z_tu z_la z_dl z_sh z_tb v1 v2 v3 v4 v5 v6 v9 v11 v12 true v10 (fun v9 v10 v11 v12 => fL_isRight_L230 fu g_ft g_er g_eb g_li g_st g_rd g_tu g_la g_dl g_sh g_tb z_ft z_er z_eb z_li z_st z_rd z_tu z_la z_dl z_sh z_tb v1 v2 v3 v4 v5 v6 k v9 v10 v11 v12)
      else
        fL_isRight_J259 fu g_ft g_er g_eb g_li g_st g_rd g_tu g_la g_dl g_sh g_tb z_ft z_er z_eb z_li z_st z_rd z_tu z_la z_dl z_sh z_tb v1 v2 v3 v4 v5 v6 v9 v11 v12 false v10 (fun v9 v10 v11 v12 => fL_isRight_L230 fu g_ft g_er g_eb g_li g_st g_rd g_tu g_la g_dl g_sh g_tb z_ft z_er z_eb z_li z_st z_rd z_tu z_la z_dl z_sh z_tb v1 v2 v3 v4 v5 v6 k v9 v10 v11 v12)
def fL_isRight_J445 (fu : Nat) (g_ft : Tab) (g_er : Tab) (g_eb : Int32) (g_li : Tab) (g_st : Tab) (g_rd : Int32) (g_tu : Int32) (g_la : Int32) (g_dl : Bool) (g_sh : Int32) (g_tb : Int32) (z_ft : Tab) (z_er : Tab) (z_eb : Int32) (z_li : Tab) (z_st : Tab) (z_rd : Int32) (z_tu : Int32) (z_la : Int32) (z_dl : Bool) (z_sh : Int32) (z_tb : Int32) (v1 : Int32) (v2 : Int32) (v3 : Int32) (v4 : Int32) (v5 : Int32) (t0 : Int32) (t1 : Int32) (rec : Int32 → Int32 → Int32 → Int32 → Option (Bool × Tab × Tab × Int32 × Tab × Tab × Int32 × Int32 × Int32 × Bool × Int32 × Int32)) : Option (Bool × Tab × Tab × Int32 × Tab × Tab × Int32 × Int32 × Int32 × Bool × Int32 × Int32) :=
  if t1 = t0 then
    rec v1 v2 v3 (v5 + 1)
  else
    some (false, z_ft, z_er, z_eb, z_li, z_st, z_rd, z_tu, z_la, z_dl, z_sh, z_tb)
def fL_isRight_J212 (fu : Nat) (g_ft : Tab) (g_er : Tab) (g_eb : Int32) (g_li : Tab) (g_st : Tab) (g_rd : Int32) (g_tu : Int32) (g_la : Int32) (g_dl : Bool) (g_sh : Int32) (g_tb : Int32) (z_ft : Tab) (z_er : Tab) (z_eb : Int32) (z_li : Tab) (z_st : Tab) (z_rd : Int32) (z_tu : Int32) (z_la : Int32) (z_dl : Bool) (z_sh : Int32) (z_tb : Int32) (v1 : Int32) (v2 : Int32) (v3 : Int32) (v4 : Int32) (v5 : Int32) (v6 : Int32) (rec : Int32 → Int32 → Int32 → Int32 → Option (Bool × Tab × Tab × Int32 × Tab × Tab × Int32 × Int32 × Int32 × Bool × Int32 × Int32)) : Option (Bool × Tab × Tab × Int32 × Tab × Tab × Int32 × Int32 × Int32 × Bool × Int32 × Int32) :=
  (fX5_fighter fu g_ft g_er g_li v5 (0 : Int32)).bind fun x26 =>
  (fL_isRight_L230 fu g_ft g_er g_eb g_li g_st g_rd g_tu g_la g_dl g_sh g_tb z_ft z_er z_eb z_li z_st z_rd z_tu z_la z_dl z_sh z_tb v1 v2 v3 v4 v5 v6 fu x26 (0 : Int32) (0 : Int32) (0 : Int32)).bind fun y39 => y39.elim (fun u40 =>
    (fX5_fighter fu g_ft g_er g_li v5 (8 : Int32)).bind fun x41 =>
    if u40.2.1 = x41 then
      if (1 : Int32) < u40.2.2 then
        some (false, z_ft, z_er, z_eb, z_li, z_st, z_rd, z_tu, z_la, z_dl, z_sh, z_tb)
      else
        (fX5_fighter fu g_ft g_er g_li v5 (3 : Int32)).bind fun x42 =>
        if (1 : Int32) ≤ u40.1 then
          fL_isRight_J445 fu g_ft g_er g_eb g_li g_st g_rd g_tu g_la g_dl g_sh g_tb z_ft z_er z_eb z_li z_st z_rd z_tu z_la z_dl z_sh z_tb v1 v2 v3 v4 v5 u40.1 x42 rec
        else
          fL_isRight_J445 fu g_ft g_er g_eb g_li g_st g_rd g_tu g_la g_dl g_sh g_tb z_ft z_er z_eb z_li z_st z_rd z_tu z_la z_dl z_sh z_tb v1 v2 v3 v4 v5 (1 : Int32) x42 rec
    else
      some (false, z_ft, z_er, z_eb, z_li, z_st, z_rd, z_tu, z_la, z_dl, z_sh, z_tb)) (fun r => some r)
def fL_isRight_J189 (fu : Nat) (g_ft : Tab) (g_er : Tab) (g_eb : Int32) (g_li : Tab) (g_st : Tab) (g_rd : Int32) (g_tu : Int32) (g_la : Int32) (g_dl : Bool) (g_sh : Int32) (g_tb : Int32) (z_ft : Tab) (z_er : Tab) (z_eb : Int32) (z_li : Tab) (z_st : Tab) (z_rd : Int32) (z_tu : Int32) (z_la : Int32) (z_dl : Bool) (z_sh : Int32) (z_tb : Int32) (v1 : Int32) (v2 : Int32) (v3 : Int32) (v4 : Int32) (v5 : Int32) (v6 : Int32) (v8 : Int32) (rec : Int32 → Int32 → Int32 → Int32 → Option (Bool × Tab × Tab × Int32 × Tab × Tab × Int32 × Int32 × Int32 × Bool × Int32 × Int32)) : Option (Bool × Tab × Tab × Int32 × Tab × Tab × Int32 × Int32 × Int32 × Bool × Int32 × Int32) :=
  if v6 = 0 then
    (fX5_fighter fu g_ft g_er g_li v5 (8 : Int32)).bind fun x43 =>
    if x43 = 0 then
      if v8 < 0 then
        fL_isRight_J212 fu g_ft g_er g_eb g_li g_st g_rd g_tu g_la g_dl g_sh g_tb z_ft z_er z_eb z_li z_st z_rd z_tu z_la z_dl z_sh z_tb v1 v2 v3 v4 v5 v6 rec
      else
        some (false, z_ft, z_er, z_eb, z_li, z_st, z_rd, z_tu, z_la, z_dl, z_sh, z_tb)
    else
      some (false, z_ft, z_er, z_eb, z_li, z_st, z_rd, z_tu, z_la, z_dl, z_sh, z_tb)
  else
    fL_isRight_J212 fu g_ft g_er g_eb g_li g_st g_rd g_tu g_la g_dl g_sh g_tb z_ft z_er z_eb z_li z_st z_rd z_tu z_la z_dl z_sh z_tb v1 v2 v3 v4 v5 v6 rec
def fL_isRight_J150 (fu : Nat) (g_ft : Tab) (g_er : Tab) (g_eb : Int32) (g_li : Tab) (g_st : Tab) (g_rd : Int32) (g_tu : Int32) (g_la : Int32) (g_dl : Bool) (g_sh : Int32) (g_tb : Int32) (z_ft : Tab) (z_er : Tab) (z_eb : Int32) (z_li : Tab) (z_st : Tab) (z_rd : Int32) (z_tu : Int32) (z_la : Int32) (z_dl : Bool) (z_sh : Int32) (z_tb : Int32) (v1 : Int32) (v2 : Int32) (v3 : Int32) (v4 : Int32) (v5 : Int32) (v6 : Int32) (rec : Int32 → Int32 → Int32 → Int32 → Option (Bool × Tab × Tab × Int32 × Tab × Tab × Int32 × Int32 × Int32 × Bool × Int32 × Int32)) : Option (Bool × Tab × Tab × Int32 × Tab × Tab × Int32 × Int32 × Int32 × Bool × Int32 × Int32) :=
  (fX5_fighter fu g_ft g_er g_li v5 (7 : Int32)).bind fun x25 =>
  if x25 < 0 then
    fL_isRight_J189 fu g_ft g_er g_eb g_li g_st g_rd g_tu g_la g_dl g_sh g_tb z_ft z_er z_eb z_li z_st z_rd z_tu z_la z_dl z_sh z_tb v1 v2 v3 v4 v5 v6 x25 rec
  else
    (fX5_effect g_er x25 (2 : Int32)).bind fun x44 =>
    if x44 = v5 then
      (fX5_effect g_er x25 (6 : Int32)).bind fun x45 =>
      if x45 = (1 : Int32) then
        fL_isRight_J189 fu g_ft g_er g_eb g_li g_st g_rd g_tu g_la g_dl g_sh g_tb z_ft z_er z_eb z_li z_st z_rd z_tu z_la z_dl z_sh z_tb v1 v2 v3 v4 v5 v6 x25 rec
      else
        some (false, z_ft, z_er, z_eb, z_li, z_st, z_rd, z_tu, z_la, z_dl, z_sh, z_tb)
    else
      some (false, z_ft, z_er, z_eb, z_li, z_st, z_rd, z_tu, z_la, z_dl, z_sh, z_tb)
def fL_isRight_J129 (fu : Nat) (g_ft : Tab) (g_er : Tab) (g_eb : Int32) (g_li : Tab) (g_st : Tab) (g_rd : Int32) (g_tu : Int32) (g_la : Int32) (g_dl : Bool) (g_sh : Int32) (g_tb : Int32) (z_ft : Tab) (z_er : Tab) (z_eb : Int32) (z_li : Tab) (z_st : Tab) (z_rd : Int32) (z_tu : Int32) (z_la : Int32) (z_dl : Bool) (z_sh : Int32) (z_tb : Int32) (v1 : Int32) (v2 : Int32) (v3 : Int32) (v4 : Int32) (v5 : Int32) (v6 : Int32) (v7 : Int32) (t0 : Bool) (t1 : Bool) (rec : Int32 → Int32 → Int32 → Int32 → Option (Bool × Tab × Tab × Int32 × Tab × Tab × Int32 × Int32 × Int32 × Bool × Int32 × Int32)) : Option (Bool × Tab × Tab × Int32 × Tab × Tab × Int32 × Int32 × Int32 × Bool × Int32 × Int32) :=
  if (bI t1) = (bI t0) then
    if v7 < 0 then
      fL_isRight_J150 fu g_ft g_er g_eb g_li g_st g_rd g_tu g_la g_dl g_sh g_tb z_ft z_er z_eb z_li z_st z_rd z_tu z_la z_dl z_sh z_tb v1 v2 v3 v4 v5 v6 rec
    else
      (fX5_inList g_li v7).bind fun x46 =>
      if x46 = v5 then
        fL_isRight_J150 fu g_ft g_er g_eb g_li g_st g_rd g_tu g_la g_dl g_sh g_tb z_ft z_er z_eb z_li z_st z_rd z_tu z_la z_dl z_sh z_tb v1 v2 v3 v4 v5 v6 rec
      else
        some (false, z_ft, z_er, z_eb, z_li, z_st, z_rd, z_tu, z_la, z_dl, z_sh, z_tb)
  else
    some (false, z_ft, z_er, z_eb, z_li, z_st, z_rd, z_tu, z_la, z_dl, z_sh, z_tb)
def fL_isRight_J114 (fu : Nat) (g_ft : Tab) (g_er : Tab) (g_eb : Int32) (g_li : Tab) (g_st : Tab) (g_rd : Int32) (g_tu : Int32) (g_la : Int32) (g_dl : Bool) (g_sh : Int32) (g_tb : Int32) (z_ft : Tab) (z_er : Tab) (z_eb : Int32) (z_li : Tab) (z_st : Tab) (z_rd : Int32) (z_tu : Int32) (z_la : Int32) (z_dl : Bool) (z_sh : Int32) (z_tb : Int32) (v1 : Int32) (v2 : Int32) (v3 : Int32) (v4 : Int32) (v5 : Int32) (v6 : Int32) (v7 : Int32) (t0 : Bool) (rec : Int32 → Int32 → Int32 → Int32 → Option (Bool × Tab × Tab × Int32 × Tab × Tab × Int32 × Int32 × Int32 × Bool × Int32 × Int32)) : Option (Bool × Tab × Tab × Int32 × Tab × Tab × Int32 × Int32 × Int32 × Bool × Int32 × Int32) :=
  (fX5_fighter fu g_ft g_er g_li v5 (5 : Int32)).bind fun x24 =>
  if x24 < 0 then
    fL_isRight_J129 fu g_ft g_er g_eb g_li g_st g_rd g_tu g_la g_dl g_sh g_tb z_ft z_er z_eb z_li z_st z_rd z_tu z_la z_dl z_sh z_tb v1 v2 v3 v4 v5 v6 v7 false t0 rec
  else
    fL_isRight_J129 fu g_ft g_er g_eb g_li g_st g_rd g_tu g_la g_dl g_sh g_tb z_ft z_er z_eb z_li z_st z_rd z_tu z_la z_dl z_sh z_tb v1 v2 v3 v4 v5 v6 v7 true t0 rec
def fL_isRight_J74 (fu : Nat) (g_ft : Tab) (g_er : Tab) (g_eb : Int32) (g_li : Tab) (g_st : Tab) (g_rd : Int32) (g_tu : Int32) (g_la : Int32) (g_dl : Bool) (g_sh : Int32) (g_tb : Int32) (z_ft : Tab) (z_er : Tab) (z_eb : Int32) (z_li : Tab) (z_st : Tab) (z_rd : Int32) (z_tu : Int32) (z_la : Int32) (z_dl : Bool) (z_sh : Int32) (z_tb : Int32) (v1 : Int32) (v3 : Int32) (v4 : Int32) (v5 : Int32) (v6 : Int32) (v7 : Int32) (t0 : Bool) (t1 : Int32) (rec : Int32 → Int32 → Int32 → Int32 → Option (Bool × Tab × Tab × Int32 × Tab × Tab × Int32 × Int32 × Int32 × Bool × Int32 × Int32)) : Option (Bool × Tab × Tab × Int32 × Tab × Tab × Int32 × Int32 × Int32 × Bool × Int32 × Int32) :=
  if v6 < 0 then
    some (false, z_ft, z_er, z_eb, z_li, z_st, z_rd, z_tu, z_la, z_dl, z_sh, z_tb)
  else
    (fX5_fighter fu g_ft g_er g_li v5 (1 : Int32)).bind fun x22 =>
    if x22 < v6 then
      some (false, z_ft, z_er, z_eb, z_li, z_st, z_rd, z_tu, z_la, z_dl, z_sh, z_tb)
    else
      (fX5_fighter fu g_ft g_er g_li v5 (3 : Int32)).bind fun x23 =>
      if x23 < (1 : Int32) then
        some (false, z_ft, z_er, z_eb, z_li, z_st, z_rd, z_tu, z_la, z_dl, z_sh, z_tb)
      else
        if v7 < 0 then
          fL_isRight_J114 fu g_ft g_er g_eb g_li g_st g_rd g_tu g_la g_dl g_sh g_tb z_ft z_er z_eb z_li z_st z_rd z_tu z_la z_dl z_sh z_tb v1 (t1 + (bI t0)) v3 v4 v5 v6 v7 false rec
        else
          fL_isRight_J114 fu g_ft g_er g_eb g_li g_st g_rd g_tu g_la g_dl g_sh g_tb z_ft z_er z_eb z_li z_st z_rd z_tu z_la z_dl z_sh z_tb v1 (t1 + (bI t0)) v3 v4 v5 v6 v7 true rec
def fL_isRight_J51 (fu : Nat) (g_ft : Tab) (g_er : Tab) (g_eb : Int32) (g_li : Tab) (g_st : Tab) (g_rd : Int32) (g_tu : Int32) (g_la : Int32) (g_dl : Bool) (g_sh : Int32) (g_tb : Int32) (z_ft : Tab) (z_er : Tab) (z_eb : Int32) (z_li : Tab) (z_st : Tab) (z_rd : Int32) (z_tu : Int32) (z_la : Int32) (z_dl : Bool) (z_sh : Int32) (z_tb : Int32) (v2 : Int32) (v3 : Int32) (v4 : Int32) (v5 : Int32) (v6 : Int32) (t0 : Bool) (t1 : Int32) (rec : Int32 → Int32 → Int32 → Int32 → Option (Bool × Tab × Tab × Int32 × Tab × Tab × Int32 × Int32 × Int32 × Bool × Int32 × Int32)) : Option (Bool × Tab × Tab × Int32 × Tab × Tab × Int32 × Int32 × Int32 × Bool × Int32 × Int32) :=
  (fX5_fighter fu g_ft g_er g_li v5 (6 : Int32)).bind fun x21 =>
  if x21 < 0 then
    fL_isRight_J74 fu g_ft g_er g_eb g_li g_st g_rd g_tu g_la g_dl g_sh g_tb z_ft z_er z_eb z_li z_st z_rd z_tu z_la z_dl z_sh z_tb (t1 + (bI t0)) v3 v4 v5 v6 x21 false v2 rec
  else
    fL_isRight_J74 fu g_ft g_er g_eb g_li g_st g_rd g_tu g_la g_dl g_sh g_tb z_ft z_er z_eb z_li z_st z_rd z_tu z_la z_dl z_sh z_tb (t1 + (bI t0)) v3 v4 v5 v6 x21 true v2 rec
def fL_isRight_L16 (fu : Nat) (g_ft : Tab) (g_er : Tab) (g_eb : Int32) (g_li : Tab) (g_st : Tab) (g_rd : Int32) (g_tu : Int32) (g_la : Int32) (g_dl : Bool) (g_sh : Int32) (g_tb : Int32) (z_ft : Tab) (z_er : Tab) (z_eb : Int32) (z_li : Tab) (z_st : Tab) (z_rd : Int32) (z_tu : Int32) (z_la : Int32) (z_dl : Bool) (z_sh : Int32) (z_tb : Int32) (v4 : Int32) : Nat → Int32 → Int32 → Int32 → Int32 → Option (Bool × Tab × Tab × Int32 × Tab × Tab × Int32 × Int32 × Int32 × Bool × Int32 × Int32)
  | 0, _, _, _, _ => none
  | k + 1, v1, v2, v3, v5 =>
    (fX5_value fu g_ft g_er g_eb g_st g_rd g_tu g_sh g_tb (0 : Int32)).bind fun x2 =>
    if x2 ≤ v5 then
      fL_isRight_L459 fu g_ft g_er g_eb g_li g_st g_rd g_tu g_la g_dl g_sh g_tb z_ft z_er z_eb z_li z_st z_rd z_tu z_la z_dl z_sh z_tb v1 v2 v3 v4 fu (1 : Int32)
    else
      (fX5_fighter fu g_ft g_er g_li v5 (2 : Int32)).bind fun x20 =>
      if x20 ≤ 0 then
        fL_isRight_J51 fu g_ft g_er g_eb g_li g_st g_rd g_tu g_la g_dl g_sh g_tb z_ft z_er z_eb z_li z_st z_rd z_tu z_la z_dl z_sh z_tb v2 (v3 + x20) v4 v5 x20 false v1 (fun v1 v2 v3 v5 => fL_isRight_L16 fu g_ft g_er g_eb g_li g_st g_rd g_tu g_la g_dl g_sh g_tb z_ft z_er z_eb z_li z_st z_rd z_tu z_la z_dl z_sh z_tb v4 k v1 v2 v3 v5)
      else
        fL_isRight_J51 fu g_ft g_er g_eb g_li g_st g_rd g_tu g_la g_dl g_sh g_tb z_ft z_er z_eb z_li z_st z_rd z_tu z_la z_dl z_sh z_tb v2 (v3 + x20) v4 v5 x20 true v1 (fun v1 v2 v3 v5 => fL_isRight_L16 fu g_ft g_er g_eb g_li g_st g_rd g_tu g_la g_dl g_sh g_tb z_ft z_er z_eb z_li z_st z_rd z_tu z_la z_dl z_sh z_tb v4 k v1 v2 v3 v5)
def fL_isRight (fu : Nat) (g_ft : Tab) (g_er : Tab) (g_eb : Int32) (g_li : Tab) (g_st : Tab) (g_rd : Int32) (g_tu : Int32) (g_la : Int32) (g_dl : Bool) (g_sh : Int32) (g_tb : Int32) (z_ft : Tab) (z_er : Tab) (z_eb : Int32) (z_li : Tab) (z_st : Tab) (z_rd : Int32) (z_tu : Int32) (z_la : Int32) (z_dl : Bool) (z_sh : Int32) (z_tb : Int32) : Option (Bool × Tab × Tab × Int32 × Tab × Tab × Int32 × Int32 × Int32 × Bool × Int32 × Int32) :=
  (fX5_value fu g_ft g_er g_eb g_st g_rd g_tu g_sh g_tb (4 : Int32)).bind fun x1 =>
  fL_isRight_L16 fu g_ft g_er g_eb g_li g_st g_rd g_tu g_la g_dl g_sh g_tb z_ft z_er z_eb z_li z_st z_rd z_tu z_la z_dl z_sh z_tb x1 fu (0 : Int32) (0 : Int32) (0 : Int32) (0 : Int32)
def fL_comesTrue_J48 (fu : Nat) (g_ft : Tab) (g_eb : Int32) (g_li : Tab) (g_st : Tab) (g_rd : Int32) (g_la : Int32) (g_dl : Bool) (g_sh : Int32) (g_tb : Int32) (p1 : Int32) (g_er : Tab) (g_tu : Int32) (z_ft : Tab) (z_er : Tab) (z_eb : Int32) (z_li : Tab) (z_st : Tab) (z_rd : Int32) (z_tu : Int32) (z_la : Int32) (z_dl : Bool) (z_sh : Int32) (z_tb : Int32) (yc : Int32) (yp : (Nat → Nat)) (yg : (Nat → GV)) (v2 : Int32) (v3 : Int32) (v4 : Int32) (t0 : Int32) : Option (Bool × Tab × Tab × Tab × Int32 × Int32 × Int32 × Bool × Int32 × Tab × Tab × Int32 × Tab × Tab × Int32 × Int32 × Int32 × Bool × Int32 × Int32 × Int32 × (Nat → Nat) × (Nat → GV)) :=
  if v4 < t0 then
    some (false, g_ft, g_er, g_li, g_rd, g_tu, g_la, g_dl, g_tb, z_ft, z_er, z_eb, z_li, z_st, z_rd, z_tu, z_la, z_dl, z_sh, z_tb, yc, yp, yg)
  else
    if v2 = 0 then
      if v4 ≤ 0 then
        (fX5_next fu g_ft g_er g_eb g_li g_st g_rd g_tu g_la g_dl g_sh g_tb yc yp yg).bind fun x6 =>
        if x6.1 = p1 then
          some (true, x6.2.1, x6.2.2.1, x6.2.2.2.1, x6.2.2.2.2.1, x6.2.2.2.2.2.1, x6.2.2.2.2.2.2.1, x6.2.2.2.2.2.2.2.1, x6.2.2.2.2.2.2.2.2.1, z_ft, z_er, z_eb, z_li, z_st, z_rd, z_tu, z_la, z_dl, z_sh, z_tb, x6.2.2.2.2.2.2.2.2.2.1, x6.2.2.2.2.2.2.2.2.2.2.1, x6.2.2.2.2.2.2.2.2.2.2.2)
        else
          some (false, x6.2.1, x6.2.2.1, x6.2.2.2.1, x6.2.2.2.2.1, x6.2.2.2.2.2.1, x6.2.2.2.2.2.2.1, x6.2.2.2.2.2.2.2.1, x6.2.2.2.2.2.2.2.2.1, z_ft, z_er, z_eb, z_li, z_st, z_rd, z_tu, z_la, z_dl, z_sh, z_tb, x6.2.2.2.2.2.2.2.2.2.1, x6.2.2.2.2.2.2.2.2.2.2.1, x6.2.2.2.2.2.2.2.2.2.2.2)
      else
        (fX5_value fu g_ft g_er g_eb g_st g_rd g_tu g_sh g_tb (8 : Int32)).bind fun x7 =>
        if x7 = v3 then
          some (false, g_ft, g_er, g_li, g_rd, g_tu, g_la, g_dl, g_tb, z_ft, z_er, z_eb, z_li, z_st, z_rd, z_tu, z_la, z_dl, z_sh, z_tb, yc, yp, yg)
        else
          (fX5_next fu g_ft g_er g_eb g_li g_st g_rd g_tu g_la g_dl g_sh g_tb yc yp yg).bind fun x8 =>
          if x8.1 = p1 then
            some (true, x8.2.1, x8.2.2.1, x8.2.2.2.1, x8.2.2.2.2.1, x8.2.2.2.2.2.1, x8.2.2.2.2.2.2.1, x8.2.2.2.2.2.2.2.1, x8.2.2.2.2.2.2.2.2.1, z_ft, z_er, z_eb, z_li, z_st, z_rd, z_tu, z_la, z_dl, z_sh, z_tb, x8.2.2.2.2.2.2.2.2.2.1, x8.2.2.2.2.2.2.2.2.2.2.1, x8.2.2.2.2.2.2.2.2.2.2.2)
          else
            some (false, x8.2.1, x8.2.2.1, x8.2.2.2.1, x8.2.2.2.2.1, x8.2.2.2.2.2.1, x8.2.2.2.2.2.2.1, x8.2.2.2.2.2.2.2.1, x8.2.2.2.2.2.2.2.2.1, z_ft, z_er, z_eb, z_li, z_st, z_rd, z_tu, z_la, z_dl, z_sh, z_tb, x8.2.2.2.2.2.2.2.2.2.1, x8.2.2.2.2.2.2.2.2.2.2.1, x8.2.2.2.2.2.2.2.2.2.2.2)
    else
      (fX5_next fu g_ft g_er g_eb g_li g_st g_rd g_tu g_la g_dl g_sh g_tb yc yp yg).bind fun x5 =>
      if x5.1 = p1 then
        some (true, x5.2.1, x5.2.2.1, x5.2.2.2.1, x5.2.2.2.2.1, x5.2.2.2.2.2.1, x5.2.2.2.2.2.2.1, x5.2.2.2.2.2.2.2.1, x5.2.2.2.2.2.2.2.2.1, z_ft, z_er, z_eb, z_li, z_st, z_rd, z_tu, z_la, z_dl, z_sh, z_tb, x5.2.2.2.2.2.2.2.2.2.1, x5.2.2.2.2.2.2.2.2.2.2.1, x5.2.2.2.2.2.2.2.2.2.2.2)
      else
        some (false, x5.2.1, x5.2.2.1, x5.2.2.2.1, x5.2.2.2.2.1, x5.2.2.2.2.2.1, x5.2.2.2.2.2.2.1, x5.2.2.2.2.2.2.2.1, x5.2.2.2.2.2.2.2.2.1, z_ft, z_er, z_eb, z_li, z_st, z_rd, z_tu, z_la, z_dl, z_sh, z_tb, x5.2.2.2.2.2.2.2.2.2.1, x5.2.2.2.2.2.2.2.2.2.2.1, x5.2.2.2.2.2.2.2.2.2.2.2)
def fL_comesTrue_J17 (fu : Nat) (g_ft : Tab) (g_er : Tab) (g_eb : Int32) (g_li : Tab) (g_st : Tab) (g_rd : Int32) (g_tu : Int32) (g_la : Int32) (g_dl : Bool) (g_sh : Int32) (g_tb : Int32) (yc : Int32) (yp : (Nat → Nat)) (yg : (Nat → GV)) (p1 : Int32) (z_ft : Tab) (z_er : Tab) (z_eb : Int32) (z_li : Tab) (z_st : Tab) (z_rd : Int32) (z_tu : Int32) (z_la : Int32) (z_dl : Bool) (z_sh : Int32) (z_tb : Int32) (t0 : Int32) : Option (Bool × Tab × Tab × Tab × Int32 × Int32 × Int32 × Bool × Int32 × Tab × Tab × Int32 × Tab × Tab × Int32 × Int32 × Int32 × Bool × Int32 × Int32 × Int32 × (Nat → Nat) × (Nat → GV)) :=
  (fX5_value fu g_ft g_er g_eb g_st g_rd g_tu g_sh g_tb (8 : Int32)).bind fun x2 =>
  (fX5_value fu g_ft g_er g_eb g_st g_rd g_tu g_sh g_tb (2 : Int32)).bind fun x3 =>
  (fX5_value fu g_ft g_er g_eb g_st g_rd g_tu g_sh g_tb (4 : Int32)).bind fun x4 =>
  if x4 < 0 then
    fL_comesTrue_J48 fu g_ft g_eb g_li g_st g_rd g_la g_dl g_sh g_tb p1 g_er g_tu z_ft z_er z_eb z_li z_st z_rd z_tu z_la z_dl z_sh z_tb yc yp yg t0 x2 x3 (0 : Int32)
  else
    (fX5_end fu g_ft g_er g_eb g_li g_st g_rd g_tu g_la g_dl g_sh g_tb yc yp yg).bind fun x9 =>
    fL_comesTrue_J48 fu g_ft g_eb g_li g_st g_rd g_la g_dl g_sh g_tb p1 x9.2.1 x9.2.2.1 z_ft z_er z_eb z_li z_st z_rd z_tu z_la z_dl z_sh z_tb x9.2.2.2.1 x9.2.2.2.2.1 x9.2.2.2.2.2 t0 x2 x3 x9.1
def fL_comesTrue (fu : Nat) (g_ft : Tab) (g_er : Tab) (g_eb : Int32) (g_li : Tab) (g_st : Tab) (g_rd : Int32) (g_tu : Int32) (g_la : Int32) (g_dl : Bool) (g_sh : Int32) (g_tb : Int32) (z_ft : Tab) (z_er : Tab) (z_eb : Int32) (z_li : Tab) (z_st : Tab) (z_rd : Int32) (z_tu : Int32) (z_la : Int32) (z_dl : Bool) (z_sh : Int32) (z_tb : Int32) (yc : Int32) (yp : (Nat → Nat)) (yg : (Nat → GV)) (p1 : Int32) : Option (Bool × Tab × Tab × Tab × Int32 × Int32 × Int32 × Bool × Int32 × Tab × Tab × Int32 × Tab × Tab × Int32 × Int32 × Int32 × Bool × Int32 × Int32 × Int32 × (Nat → Nat) × (Nat → GV)) :=
  (fX5_value fu g_ft g_er g_eb g_st g_rd g_tu g_sh g_tb (2 : Int32)).bind fun x1 =>
  if x1 ≤ 0 then
    fL_comesTrue_J17 fu g_ft g_er g_eb g_li g_st g_rd g_tu g_la g_dl g_sh g_tb yc yp yg p1 z_ft z_er z_eb z_li z_st z_rd z_tu z_la z_dl z_sh z_tb (0 : Int32)
  else
    (fX5_goneAfter fu g_ft g_er g_eb g_li g_st g_rd g_tu g_la g_dl g_sh g_tb z_ft z_er z_eb z_li z_st z_rd z_tu z_la z_dl z_sh z_tb (0 : Int32)).bind fun x10 =>
    fL_comesTrue_J17 fu g_ft g_er g_eb g_li g_st g_rd g_tu g_la g_dl g_sh g_tb yc yp yg p1 x10.2.1 x10.2.2.1 x10.2.2.2.1 x10.2.2.2.2.1 x10.2.2.2.2.2.1 x10.2.2.2.2.2.2.1 x10.2.2.2.2.2.2.2.1 x10.2.2.2.2.2.2.2.2.1 x10.2.2.2.2.2.2.2.2.2.1 x10.2.2.2.2.2.2.2.2.2.2.1 x10.2.2.2.2.2.2.2.2.2.2.2 x10.1
def fL_law_L271 (fu : Nat) (xL : Nat) (xs : Nat → Int32) (tx : Tab) (cm : Tab) (g_ft : Tab) (g_er : Tab) (g_eb : Int32) (g_li : Tab) (g_st : Tab) (g_rd : Int32) (g_tu : Int32) (g_la : Int32) (g_dl : Bool) (g_sh : Int32) (g_tb : Int32) (z_ft : Tab) (z_er : Tab) (z_eb : Int32) (z_li : Tab) (z_st : Tab) (z_rd : Int32) (z_tu : Int32) (z_la : Int32) (z_dl : Bool) (z_sh : Int32) (z_tb : Int32) (yc : Int32) (yp : (Nat → Nat)) (yg : (Nat → GV)) (v2 : Int32) (v7 : Int64) (v11 : Int32) (v13 : Int32) : Nat → Int32 → Int32 → Option (Int32)
  | 0, _, _ => none
  | k + 1, v12, v14 =>
    (fX5_value fu g_ft g_er g_eb g_st g_rd g_tu g_sh g_tb (0 : Int32)).bind fun x17 =>
    if x17 ≤ v14 then
      some ((v12))
    else
      (fX5_fighter fu g_ft g_er g_li v14 (2 : Int32)).bind fun x18 =>
      fL_law_L271 fu xL xs tx cm g_ft g_er g_eb g_li g_st g_rd g_tu g_la g_dl g_sh g_tb z_ft z_er z_eb z_li z_st z_rd z_tu z_la z_dl z_sh z_tb yc yp yg v2 v7 v11 v13 k (v12 + x18) (v14 + 1)
def fL_law_J251 (fu : Nat) (xL : Nat) (xs : Nat → Int32) (tx : Tab) (cm : Tab) (g_ft : Tab) (g_er : Tab) (g_eb : Int32) (g_li : Tab) (g_st : Tab) (g_rd : Int32) (g_tu : Int32) (g_la : Int32) (g_dl : Bool) (g_sh : Int32) (g_tb : Int32) (z_ft : Tab) (z_er : Tab) (z_eb : Int32) (z_li : Tab) (z_st : Tab) (z_rd : Int32) (z_tu : Int32) (z_la : Int32) (z_dl : Bool) (z_sh : Int32) (z_tb : Int32) (yc : Int32) (yp : (Nat → Nat)) (yg : (Nat → GV)) (v2 : Int32) (v7 : Int64) (v9 : Int32) (v11 : Int32) (rec : Tab → Tab → Int32 → Tab → Tab → Int32 → Int32 → Int32 → Bool → Int32 → Int32 → Tab → Tab → Int32 → Tab → Tab → Int32 → Int32 → Int32 → Bool → Int32 → Int32 → Int32 → (Nat → Nat) → (Nat → GV) → Int32 → Option (Bool)) : Option (Bool) :=
  (fX5_value fu g_ft g_er g_eb g_st g_rd g_tu g_sh g_tb (5 : Int32)).bind fun x14 =>
  if x14 ≤ 0 then
    (fL_comesTrue fu g_ft g_er g_eb g_li g_st g_rd g_tu g_la g_dl g_sh g_tb z_ft z_er z_eb z_li z_st z_rd z_tu z_la z_dl z_sh z_tb yc yp yg v9).bind fun x15 =>
    if (bI x15.1) = 0 then
      some (false)
    else
      rec x15.2.1 x15.2.2.1 g_eb x15.2.2.2.1 g_st x15.2.2.2.2.1 x15.2.2.2.2.2.1 x15.2.2.2.2.2.2.1 x15.2.2.2.2.2.2.2.1 g_sh x15.2.2.2.2.2.2.2.2.1 x15.2.2.2.2.2.2.2.2.2.1 x15.2.2.2.2.2.2.2.2.2.2.1 x15.2.2.2.2.2.2.2.2.2.2.2.1 x15.2.2.2.2.2.2.2.2.2.2.2.2.1 x15.2.2.2.2.2.2.2.2.2.2.2.2.2.1 x15.2.2.2.2.2.2.2.2.2.2.2.2.2.2.1 x15.2.2.2.2.2.2.2.2.2.2.2.2.2.2.2.1 x15.2.2.2.2.2.2.2.2.2.2.2.2.2.2.2.2.1 x15.2.2.2.2.2.2.2.2.2.2.2.2.2.2.2.2.2.1 x15.2.2.2.2.2.2.2.2.2.2.2.2.2.2.2.2.2.2.1 x15.2.2.2.2.2.2.2.2.2.2.2.2.2.2.2.2.2.2.2.1 x15.2.2.2.2.2.2.2.2.2.2.2.2.2.2.2.2.2.2.2.2.1 x15.2.2.2.2.2.2.2.2.2.2.2.2.2.2.2.2.2.2.2.2.2.1 x15.2.2.2.2.2.2.2.2.2.2.2.2.2.2.2.2.2.2.2.2.2.2 (v2 + 1)
  else
    (fX5_settle fu g_ft g_er g_eb g_li g_st g_rd g_tu g_la g_dl g_sh g_tb yc yp yg).bind fun x16 =>
    (fL_law_L271 fu xL xs tx cm x16.2.1 x16.2.2.1 x16.2.2.2.1 g_li x16.2.2.2.2.1 g_rd x16.2.2.2.2.2.1 g_la g_dl g_sh g_tb z_ft z_er z_eb z_li z_st z_rd z_tu z_la z_dl z_sh z_tb x16.2.2.2.2.2.2.1 x16.2.2.2.2.2.2.2.1 x16.2.2.2.2.2.2.2.2 v2 v7 v11 x16.1 fu (0 : Int32) (0 : Int32)).bind fun y19 =>
      if y19 = v11 then
        if x16.1 < 0 then
          some (false)
        else
          (fX5_undo x16.2.1 x16.2.2.1 x16.2.2.2.1 g_li x16.2.2.2.2.1 g_rd x16.2.2.2.2.2.1 g_la g_dl g_sh g_tb x16.2.2.2.2.2.2.1 x16.2.2.2.2.2.2.2.1 x16.2.2.2.2.2.2.2.2).bind fun x20 =>
          if x20.1 < 0 then
            some (false)
          else
            (fX5_digest fu x20.2.1 x20.2.2.1 x20.2.2.2.1 x20.2.2.2.2.1 x20.2.2.2.2.2.1 x20.2.2.2.2.2.2.1 x20.2.2.2.2.2.2.2.1 x20.2.2.2.2.2.2.2.2.2.2.1 x20.2.2.2.2.2.2.2.2.2.2.2.1 x20.2.2.2.2.2.2.2.2.2.2.2.2 tx).bind fun x21 =>
            if (lg_cmp x21 v7) = 0 then
              rec x20.2.1 x20.2.2.1 x20.2.2.2.1 x20.2.2.2.2.1 x20.2.2.2.2.2.1 x20.2.2.2.2.2.2.1 x20.2.2.2.2.2.2.2.1 x20.2.2.2.2.2.2.2.2.1 x20.2.2.2.2.2.2.2.2.2.1 x20.2.2.2.2.2.2.2.2.2.2.1 x20.2.2.2.2.2.2.2.2.2.2.2.1 z_ft z_er z_eb z_li z_st z_rd z_tu z_la z_dl z_sh z_tb x20.2.2.2.2.2.2.2.2.2.2.2.2 x16.2.2.2.2.2.2.2.1 x16.2.2.2.2.2.2.2.2 (v2 + 1)
            else
              (fX5_value fu x20.2.1 x20.2.2.1 x20.2.2.2.1 x20.2.2.2.2.2.1 x20.2.2.2.2.2.2.1 x20.2.2.2.2.2.2.2.1 x20.2.2.2.2.2.2.2.2.2.2.1 x20.2.2.2.2.2.2.2.2.2.2.2.1 (5 : Int32)).bind fun x22 =>
              if x22 = 0 then
                some (false)
              else
                rec x20.2.1 x20.2.2.1 x20.2.2.2.1 x20.2.2.2.2.1 x20.2.2.2.2.2.1 x20.2.2.2.2.2.2.1 x20.2.2.2.2.2.2.2.1 x20.2.2.2.2.2.2.2.2.1 x20.2.2.2.2.2.2.2.2.2.1 x20.2.2.2.2.2.2.2.2.2.2.1 x20.2.2.2.2.2.2.2.2.2.2.2.1 z_ft z_er z_eb z_li z_st z_rd z_tu z_la z_dl z_sh z_tb x20.2.2.2.2.2.2.2.2.2.2.2.2 x16.2.2.2.2.2.2.2.1 x16.2.2.2.2.2.2.2.2 (v2 + 1)
      else
        some (false)
def fL_law_J239 (fu : Nat) (xL : Nat) (xs : Nat → Int32) (tx : Tab) (cm : Tab) (g_ft : Tab) (g_er : Tab) (g_eb : Int32) (g_li : Tab) (g_st : Tab) (g_rd : Int32) (g_tu : Int32) (g_la : Int32) (g_dl : Bool) (g_sh : Int32) (g_tb : Int32) (z_ft : Tab) (z_er : Tab) (z_eb : Int32) (z_li : Tab) (z_st : Tab) (z_rd : Int32) (z_tu : Int32) (z_la : Int32) (z_dl : Bool) (z_sh : Int32) (z_tb : Int32) (yc : Int32) (yp : (Nat → Nat)) (yg : (Nat → GV)) (v2 : Int32) (v7 : Int64) (v9 : Int32) (v10 : Int32) (v11 : Int32) (rec : Tab → Tab → Int32 → Tab → Tab → Int32 → Int32 → Int32 → Bool → Int32 → Int32 → Tab → Tab → Int32 → Tab → Tab → Int32 → Int32 → Int32 → Bool → Int32 → Int32 → Int32 → (Nat → Nat) → (Nat → GV) → Int32 → Option (Bool)) : Option (Bool) :=
  if 0 ≤ v9 then
    fL_law_J251 fu xL xs tx cm g_ft g_er g_eb g_li g_st g_rd g_tu g_la g_dl g_sh g_tb z_ft z_er z_eb z_li z_st z_rd z_tu z_la z_dl z_sh z_tb yc yp yg v2 v7 v9 v11 rec
  else
    if v10 < 0 then
      fL_law_J251 fu xL xs tx cm g_ft g_er g_eb g_li g_st g_rd g_tu g_la g_dl g_sh g_tb z_ft z_er z_eb z_li z_st z_rd z_tu z_la z_dl z_sh z_tb yc yp yg v2 v7 v9 v11 rec
    else
      some (false)
def fL_law_J174 (fu : Nat) (xL : Nat) (xs : Nat → Int32) (tx : Tab) (cm : Tab) (g_ft : Tab) (g_er : Tab) (g_eb : Int32) (g_li : Tab) (g_st : Tab) (g_rd : Int32) (g_tu : Int32) (g_la : Int32) (g_dl : Bool) (g_sh : Int32) (g_tb : Int32) (z_ft : Tab) (z_er : Tab) (z_eb : Int32) (z_li : Tab) (z_st : Tab) (z_rd : Int32) (z_tu : Int32) (z_la : Int32) (z_dl : Bool) (z_sh : Int32) (z_tb : Int32) (yc : Int32) (yp : (Nat → Nat)) (yg : (Nat → GV)) (v2 : Int32) (rec : Tab → Tab → Int32 → Tab → Tab → Int32 → Int32 → Int32 → Bool → Int32 → Int32 → Tab → Tab → Int32 → Tab → Tab → Int32 → Int32 → Int32 → Bool → Int32 → Int32 → Int32 → (Nat → Nat) → (Nat → GV) → Int32 → Option (Bool)) : Option (Bool) :=
  if (v2 - v2 / (5 : Int32) * (5 : Int32)) = (4 : Int32) then
    (fX5_digest fu g_ft g_er g_eb g_li g_st g_rd g_tu g_sh g_tb yc tx).bind fun x9 =>
    (fX5_upcoming fu g_ft g_er g_eb g_li g_st g_rd g_tu g_la g_dl g_sh g_tb z_ft z_er z_eb z_li z_st z_rd z_tu z_la z_dl z_sh z_tb (0 : Int32)).bind fun x10 =>
    (fX5_upcoming fu g_ft g_er g_eb g_li g_st g_rd g_tu g_la g_dl g_sh g_tb x10.2.1 x10.2.2.1 x10.2.2.2.1 x10.2.2.2.2.1 x10.2.2.2.2.2.1 x10.2.2.2.2.2.2.1 x10.2.2.2.2.2.2.2.1 x10.2.2.2.2.2.2.2.2.1 x10.2.2.2.2.2.2.2.2.2.1 x10.2.2.2.2.2.2.2.2.2.2.1 x10.2.2.2.2.2.2.2.2.2.2.2 (2 : Int32)).bind fun x11 =>
    (fX5_lifeSettled fu g_ft g_er g_eb g_li g_st g_rd g_tu g_la g_dl g_sh g_tb x11.2.1 x11.2.2.1 x11.2.2.2.1 x11.2.2.2.2.1 x11.2.2.2.2.2.1 x11.2.2.2.2.2.2.1 x11.2.2.2.2.2.2.2.1 x11.2.2.2.2.2.2.2.2.1 x11.2.2.2.2.2.2.2.2.2.1 x11.2.2.2.2.2.2.2.2.2.2.1 x11.2.2.2.2.2.2.2.2.2.2.2).bind fun x12 =>
    (fX5_digest fu g_ft g_er g_eb g_li g_st g_rd g_tu g_sh g_tb yc tx).bind fun x13 =>
    if (lg_cmp x13 x9) = 0 then
      if 0 ≤ x10.1 then
        fL_law_J239 fu xL xs tx cm g_ft g_er g_eb g_li g_st g_rd g_tu g_la g_dl g_sh g_tb x12.2.1 x12.2.2.1 x12.2.2.2.1 x12.2.2.2.2.1 x12.2.2.2.2.2.1 x12.2.2.2.2.2.2.1 x12.2.2.2.2.2.2.2.1 x12.2.2.2.2.2.2.2.2.1 x12.2.2.2.2.2.2.2.2.2.1 x12.2.2.2.2.2.2.2.2.2.2.1 x12.2.2.2.2.2.2.2.2.2.2.2 yc yp yg v2 x9 x10.1 x11.1 x12.1 rec
      else
        (fX5_value fu g_ft g_er g_eb g_st g_rd g_tu g_sh g_tb (1 : Int32)).bind fun x23 =>
        if x23 ≤ (1 : Int32) then
          fL_law_J239 fu xL xs tx cm g_ft g_er g_eb g_li g_st g_rd g_tu g_la g_dl g_sh g_tb x12.2.1 x12.2.2.1 x12.2.2.2.1 x12.2.2.2.2.1 x12.2.2.2.2.2.1 x12.2.2.2.2.2.2.1 x12.2.2.2.2.2.2.2.1 x12.2.2.2.2.2.2.2.2.1 x12.2.2.2.2.2.2.2.2.2.1 x12.2.2.2.2.2.2.2.2.2.2.1 x12.2.2.2.2.2.2.2.2.2.2.2 yc yp yg v2 x9 x10.1 x11.1 x12.1 rec
        else
          (fX5_value fu g_ft g_er g_eb g_st g_rd g_tu g_sh g_tb (2 : Int32)).bind fun x24 =>
          if x24 = 0 then
            some (false)
          else
            fL_law_J239 fu xL xs tx cm g_ft g_er g_eb g_li g_st g_rd g_tu g_la g_dl g_sh g_tb x12.2.1 x12.2.2.1 x12.2.2.2.1 x12.2.2.2.2.1 x12.2.2.2.2.2.1 x12.2.2.2.2.2.2.1 x12.2.2.2.2.2.2.2.1 x12.2.2.2.2.2.2.2.2.1 x12.2.2.2.2.2.2.2.2.2.1 x12.2.2.2.2.2.2.2.2.2.2.1 x12.2.2.2.2.2.2.2.2.2.2.2 yc yp yg v2 x9 x10.1 x11.1 x12.1 rec
    else
      some (false)
  else
    rec g_ft g_er g_eb g_li g_st g_rd g_tu g_la g_dl g_sh g_tb z_ft z_er z_eb z_li z_st z_rd z_tu z_la z_dl z_sh z_tb yc yp yg (v2 + 1)
def fL_law_J120 (fu : Nat) (xL : Nat) (xs : Nat → Int32) (tx : Tab) (cm : Tab) (g_ft : Tab) (g_er : Tab) (g_eb : Int32) (g_li : Tab) (g_st : Tab) (g_rd : Int32) (g_tu : Int32) (g_la : Int32) (g_dl : Bool) (g_sh : Int32) (g_tb : Int32) (z_ft : Tab) (z_er : Tab) (z_eb : Int32) (z_li : Tab) (z_st : Tab) (z_rd : Int32) (z_tu : Int32) (z_la : Int32) (z_dl : Bool) (z_sh : Int32) (z_tb : Int32) (yc : Int32) (yp : (Nat → Nat)) (yg : (Nat → GV)) (v2 : Int32) (v3 : Int32) (v6 : Int32) (rec : Tab → Tab → Int32 → Tab → Tab → Int32 → Int32 → Int32 → Bool → Int32 → Int32 → Tab → Tab → Int32 → Tab → Tab → Int32 → Int32 → Int32 → Bool → Int32 → Int32 → Int32 → (Nat → Nat) → (Nat → GV) → Int32 → Option (Bool)) : Option (Bool) :=
  (fL_isRight fu g_ft g_er g_eb g_li g_st g_rd g_tu g_la g_dl g_sh g_tb z_ft z_er z_eb z_li z_st z_rd z_tu z_la z_dl z_sh z_tb).bind fun x8 =>
  if (bI x8.1) = 0 then
    some (false)
  else
    if v6 = (-200 : Int32) then
      fL_law_J174 fu xL xs tx cm g_ft g_er g_eb g_li g_st g_rd g_tu g_la g_dl g_sh g_tb x8.2.1 x8.2.2.1 x8.2.2.2.1 x8.2.2.2.2.1 x8.2.2.2.2.2.1 x8.2.2.2.2.2.2.1 x8.2.2.2.2.2.2.2.1 x8.2.2.2.2.2.2.2.2.1 x8.2.2.2.2.2.2.2.2.2.1 x8.2.2.2.2.2.2.2.2.2.2.1 x8.2.2.2.2.2.2.2.2.2.2.2 yc yp yg v2 rec
    else
      if (v2 &&& (3 : Int32)) = (1 : Int32) then
        (fX5_undo g_ft g_er g_eb g_li g_st g_rd g_tu g_la g_dl g_sh g_tb yc yp yg).bind fun x25 =>
        if x25.1 < 0 then
          some (false)
        else
          (fL_act fu x25.2.1 x25.2.2.1 x25.2.2.2.1 x25.2.2.2.2.1 x25.2.2.2.2.2.1 x25.2.2.2.2.2.2.1 x25.2.2.2.2.2.2.2.1 x25.2.2.2.2.2.2.2.2.1 x25.2.2.2.2.2.2.2.2.2.1 x25.2.2.2.2.2.2.2.2.2.2.1 x25.2.2.2.2.2.2.2.2.2.2.2.1 x25.2.2.2.2.2.2.2.2.2.2.2.2 yp yg v3).bind fun x26 =>
          if x26.1 = v6 then
            (fL_isRight fu x26.2.1 x26.2.2.1 x26.2.2.2.1 x26.2.2.2.2.1 x26.2.2.2.2.2.1 x26.2.2.2.2.2.2.1 x26.2.2.2.2.2.2.2.1 x26.2.2.2.2.2.2.2.2.1 x26.2.2.2.2.2.2.2.2.2.1 x26.2.2.2.2.2.2.2.2.2.2.1 x26.2.2.2.2.2.2.2.2.2.2.2.1 x8.2.1 x8.2.2.1 x8.2.2.2.1 x8.2.2.2.2.1 x8.2.2.2.2.2.1 x8.2.2.2.2.2.2.1 x8.2.2.2.2.2.2.2.1 x8.2.2.2.2.2.2.2.2.1 x8.2.2.2.2.2.2.2.2.2.1 x8.2.2.2.2.2.2.2.2.2.2.1 x8.2.2.2.2.2.2.2.2.2.2.2).bind fun x27 =>
            if (bI x27.1) = 0 then
              some (false)
            else
              fL_law_J174 fu xL xs tx cm x26.2.1 x26.2.2.1 x26.2.2.2.1 x26.2.2.2.2.1 x26.2.2.2.2.2.1 x26.2.2.2.2.2.2.1 x26.2.2.2.2.2.2.2.1 x26.2.2.2.2.2.2.2.2.1 x26.2.2.2.2.2.2.2.2.2.1 x26.2.2.2.2.2.2.2.2.2.2.1 x26.2.2.2.2.2.2.2.2.2.2.2.1 x27.2.1 x27.2.2.1 x27.2.2.2.1 x27.2.2.2.2.1 x27.2.2.2.2.2.1 x27.2.2.2.2.2.2.1 x27.2.2.2.2.2.2.2.1 x27.2.2.2.2.2.2.2.2.1 x27.2.2.2.2.2.2.2.2.2.1 x27.2.2.2.2.2.2.2.2.2.2.1 x27.2.2.2.2.2.2.2.2.2.2.2 x26.2.2.2.2.2.2.2.2.2.2.2.2.1 x26.2.2.2.2.2.2.2.2.2.2.2.2.2.1 x26.2.2.2.2.2.2.2.2.2.2.2.2.2.2 v2 rec
          else
            some (false)
      else
        fL_law_J174 fu xL xs tx cm g_ft g_er g_eb g_li g_st g_rd g_tu g_la g_dl g_sh g_tb x8.2.1 x8.2.2.1 x8.2.2.2.1 x8.2.2.2.2.1 x8.2.2.2.2.2.1 x8.2.2.2.2.2.2.1 x8.2.2.2.2.2.2.2.1 x8.2.2.2.2.2.2.2.2.1 x8.2.2.2.2.2.2.2.2.2.1 x8.2.2.2.2.2.2.2.2.2.2.1 x8.2.2.2.2.2.2.2.2.2.2.2 yc yp yg v2 rec
def fL_law_L75 (fu : Nat) (xL : Nat) (xs : Nat → Int32) (tx : Tab) (cm : Tab) : Nat → Tab → Tab → Int32 → Tab → Tab → Int32 → Int32 → Int32 → Bool → Int32 → Int32 → Tab → Tab → Int32 → Tab → Tab → Int32 → Int32 → Int32 → Bool → Int32 → Int32 → Int32 → (Nat → Nat) → (Nat → GV) → Int32 → Option (Bool)
  | 0, _, _, _, _, _, _, _, _, _, _, _, _, _, _, _, _, _, _, _, _, _, _, _, _, _, _ => none
  | k + 1, g_ft, g_er, g_eb, g_li, g_st, g_rd, g_tu, g_la, g_dl, g_sh, g_tb, z_ft, z_er, z_eb, z_li, z_st, z_rd, z_tu, z_la, z_dl, z_sh, z_tb, yc, yp, yg, v2 =>
    if (17 : Int32) ≤ v2 then
      (fL_isRight fu g_ft g_er g_eb g_li g_st g_rd g_tu g_la g_dl g_sh g_tb z_ft z_er z_eb z_li z_st z_rd z_tu z_la z_dl z_sh z_tb).bind fun x3 =>
      if (bI x3.1) = 0 then
        some (false)
      else
        (fX5_carryOut fu g_ft g_er g_eb g_li g_st g_rd g_tu g_la g_dl g_sh g_tb x3.2.1 x3.2.2.1 x3.2.2.2.1 x3.2.2.2.2.1 x3.2.2.2.2.2.1 x3.2.2.2.2.2.2.1 x3.2.2.2.2.2.2.2.1 x3.2.2.2.2.2.2.2.2.1 x3.2.2.2.2.2.2.2.2.2.1 x3.2.2.2.2.2.2.2.2.2.2.1 x3.2.2.2.2.2.2.2.2.2.2.2 yc yp yg tx cm).bind fun x4 =>
        if x4.1 = 0 then
          some (true)
        else
          some (false)
    else
      (fL_cell xL xs ((3 : Int32) + v2)).bind fun x5 =>
      (fX5_digest fu g_ft g_er g_eb g_li g_st g_rd g_tu g_sh g_tb yc tx).bind fun x6 =>
      (fL_act fu g_ft g_er g_eb g_li g_st g_rd g_tu g_la g_dl g_sh g_tb yc yp yg x5).bind fun x7 =>
      if x7.1 = (-200 : Int32) then
        (fX5_digest fu x7.2.1 x7.2.2.1 x7.2.2.2.1 x7.2.2.2.2.1 x7.2.2.2.2.2.1 x7.2.2.2.2.2.2.1 x7.2.2.2.2.2.2.2.1 x7.2.2.2.2.2.2.2.2.2.2.1 x7.2.2.2.2.2.2.2.2.2.2.2.1 x7.2.2.2.2.2.2.2.2.2.2.2.2.1 tx).bind fun x28 =>
        if (lg_cmp x28 x6) = 0 then
          fL_law_J120 fu xL xs tx cm x7.2.1 x7.2.2.1 x7.2.2.2.1 x7.2.2.2.2.1 x7.2.2.2.2.2.1 x7.2.2.2.2.2.2.1 x7.2.2.2.2.2.2.2.1 x7.2.2.2.2.2.2.2.2.1 x7.2.2.2.2.2.2.2.2.2.1 x7.2.2.2.2.2.2.2.2.2.2.1 x7.2.2.2.2.2.2.2.2.2.2.2.1 z_ft z_er z_eb z_li z_st z_rd z_tu z_la z_dl z_sh z_tb x7.2.2.2.2.2.2.2.2.2.2.2.2.1 x7.2.2.2.2.2.2.2.2.2.2.2.2.2.1 x7.2.2.2.2.2.2.2.2.2.2.2.2.2.2 v2 x5 x7.1 (fun g_ft g_er g_eb g_li g_st g_rd g_tu g_la g_dl g_sh g_tb z_ft z_er z_eb z_li z_st z_rd z_tu z_la z_dl z_sh z_tb yc yp yg v2 => fL_law_L75 fu xL xs tx cm k g_ft g_er g_eb g_li g_st g_rd g_tu g_la g_dl g_sh g_tb z_ft z_er z_eb z_li z_st z_rd z_tu z_la z_dl z_sh z_tb yc yp yg v2)
        else
          some (false)
      else
        fL_law_J120 fu xL xs tx cm x7.2.1 x7.2.2.1 x7.2.2.2.1 x7.2.2.2.2.1 x7.2.2.2.2.2.1 x7.2.2.2.2.2.2.1 x7.2.2.2.2.2.2.2.1 x7.2.2.2.2.2.2.2.2.1 x7.2.2.2.2.2.2.2.2.2.1 x7.2.2.2.2.2.2.2.2.2.2.1 x7.2.2.2.2.2.2.2.2.2.2.2.1 z_ft z_er z_eb z_li z_st z_rd z_tu z_la z_dl z_sh z_tb x7.2.2.2.2.2.2.2.2.2.2.2.2.1 x7.2.2.2.2.2.2.2.2.2.2.2.2.2.1 x7.2.2.2.2.2.2.2.2.2.2.2.2.2.2 v2 x5 x7.1 (fun g_ft g_er g_eb g_li g_st g_rd g_tu g_la g_dl g_sh g_tb z_ft z_er z_eb z_li z_st z_rd z_tu z_la z_dl z_sh z_tb yc yp yg v2 => fL_law_L75 fu xL xs tx cm k g_ft g_er g_eb g_li g_st g_rd g_tu g_la g_dl g_sh g_tb z_ft z_er z_eb z_li z_st z_rd z_tu z_la z_dl z_sh z_tb yc yp yg v2)
def fL_law_L10 (fu : Nat) (xL : Nat) (xs : Nat → Int32) (g_er : Tab) (g_eb : Int32) (g_li : Tab) (g_st : Tab) (g_rd : Int32) (g_tu : Int32) (g_la : Int32) (g_dl : Bool) (g_sh : Int32) (g_tb : Int32) (z_ft : Tab) (z_er : Tab) (z_eb : Int32) (z_li : Tab) (z_st : Tab) (z_rd : Int32) (z_tu : Int32) (z_la : Int32) (z_dl : Bool) (z_sh : Int32) (z_tb : Int32) (tx : Tab) (cm : Tab) : Nat → Tab → Int32 → (Nat → Nat) → (Nat → GV) → Int32 → Option (Bool)
  | 0, _, _, _, _, _ => none
  | k + 1, g_ft, yc, yp, yg, v2 =>
    if (3 : Int32) ≤ v2 then
      (fX5_value fu g_ft g_er g_eb g_st g_rd g_tu g_sh g_tb (3 : Int32)).bind fun x1 =>
      if x1 = 0 then
        (fX5_next fu g_ft g_er g_eb g_li g_st g_rd g_tu g_la g_dl g_sh g_tb yc yp yg).bind fun x2 =>
        if 0 ≤ x2.1 then
          fL_law_L75 fu xL xs tx cm fu x2.2.1 x2.2.2.1 g_eb x2.2.2.2.1 g_st x2.2.2.2.2.1 x2.2.2.2.2.2.1 x2.2.2.2.2.2.2.1 x2.2.2.2.2.2.2.2.1 g_sh x2.2.2.2.2.2.2.2.2.1 z_ft z_er z_eb z_li z_st z_rd z_tu z_la z_dl z_sh z_tb x2.2.2.2.2.2.2.2.2.2.1 x2.2.2.2.2.2.2.2.2.2.2.1 x2.2.2.2.2.2.2.2.2.2.2.2 (0 : Int32)
        else
          some (false)
      else
        some (false)
    else
      (fL_cell xL xs v2).bind fun x29 =>
      (fL_low x29 (30 : Int32)).bind fun x30 =>
      (fL_low (x29 >>> ((5 : Int32) &&& 31)) (120 : Int32)).bind fun x31 =>
      (fX5_add fu g_ft g_er g_eb g_li g_st g_rd g_tu g_la g_dl g_sh g_tb yc yp yg ((1 : Int32) + x30) ((30 : Int32) + x31)).bind fun x32 =>
      if x32.1 = v2 then
        fL_law_L10 fu xL xs g_er g_eb g_li g_st g_rd g_tu g_la g_dl g_sh g_tb z_ft z_er z_eb z_li z_st z_rd z_tu z_la z_dl z_sh z_tb tx cm k x32.2.1 x32.2.2.1 x32.2.2.2.1 x32.2.2.2.2 (v2 + 1)
      else
        some (false)
def fL_law (fu : Nat) (xL : Nat) (xs : Nat → Int32) (g_ft : Tab) (g_er : Tab) (g_eb : Int32) (g_li : Tab) (g_st : Tab) (g_rd : Int32) (g_tu : Int32) (g_la : Int32) (g_dl : Bool) (g_sh : Int32) (g_tb : Int32) (z_ft : Tab) (z_er : Tab) (z_eb : Int32) (z_li : Tab) (z_st : Tab) (z_rd : Int32) (z_tu : Int32) (z_la : Int32) (z_dl : Bool) (z_sh : Int32) (z_tb : Int32) (yc : Int32) (yp : (Nat → Nat)) (yg : (Nat → GV)) (tx : Tab) (cm : Tab) : Option (Bool) :=
  fL_law_L10 fu xL xs g_er g_eb g_li g_st g_rd g_tu g_la g_dl g_sh g_tb z_ft z_er z_eb z_li z_st z_rd z_tu z_la z_dl z_sh z_tb tx cm fu g_ft yc yp yg (0 : Int32)
