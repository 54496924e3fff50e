def fX5_add (fu : Nat) (g_ft : Tab) (g_er : Tab) (g_eb : Int32) (g_li : Tab) (g_st : Tab) (g_rd : Int32) (g_tu : Int32) (g_la : Int32) (g_dl : Bool) (g_sh : Int32) (g_tb : Int32) (yc : Int32) (yp : (Nat → Nat)) (yg : (Nat → GV)) (p1 : Int32) (p2 : Int32) : Option (String ⊕ (Int32 × Tab × Int32 × (Nat → Nat) × (Nat → GV))) :=
  (fX5_within p1 (1 : Int32) (30 : Int32)).bind fun x1 =>
  if (bI x1) = 0 then
    some (.inl "java/lang/IllegalArgumentException")
  else
    (fX5_within p2 (1 : Int32) (200 : Int32)).bind fun x2 =>
    if (bI x2) = 0 then
      some (.inl "java/lang/IllegalArgumentException")
    else
      (fX1_fighterCount g_ft).bind fun x3 =>
      if x3 < (10 : Int32) then
        (fX2_save fu yc yp yg g_ft g_er g_eb g_li g_st g_rd g_tu g_la g_dl g_sh g_tb).bind fun x4 =>
        (fX1_join fu g_ft p1 p2).bind fun x5 =>
        some (.inr (x5.1, x5.2, x4.1, x4.2.1, x4.2.2))
      else
        some (.inl "java/lang/IllegalStateException")
def fX5_requireFighter (g_ft : Tab) (p1 : Int32) : Option (String ⊕ (Unit)) :=
  (fX1_isFighter g_ft p1).bind fun x1 =>
  if (bI x1) = 0 then
    some (.inl "java/lang/IndexOutOfBoundsException")
  else
    some (.inr ())
def fX5_requireWithin (p0 : Int32) (p1 : Int32) (p2 : Int32) : Option (String ⊕ (Unit)) :=
  (fX5_within p0 p1 p2).bind fun x1 =>
  if (bI x1) = 0 then
    some (.inl "java/lang/IllegalArgumentException")
  else
    some (.inr ())
def fX5_setSpeed (fu : Nat) (g_ft : Tab) (g_er : Tab) (g_eb : Int32) (g_li : Tab) (g_st : Tab) (g_rd : Int32) (g_tu : Int32) (g_la : Int32) (g_dl : Bool) (g_sh : Int32) (g_tb : Int32) (yc : Int32) (yp : (Nat → Nat)) (yg : (Nat → GV)) (p1 : Int32) (p2 : Int32) : Option (String ⊕ (Int32 × Tab × Int32 × (Nat → Nat) × (Nat → GV))) :=
  (fX5_requireFighter g_ft p1).bind fun x => x.elim (fun E => some (.inl E)) fun x1 =>
  (fX5_requireWithin p2 (1 : Int32) (30 : Int32)).bind fun x => x.elim (fun E => some (.inl E)) fun x2 =>
  (fX2_save fu yc yp yg g_ft g_er g_eb g_li g_st g_rd g_tu g_la g_dl g_sh g_tb).bind fun x3 =>
  (fX1_changeSpeed g_ft p1 p2).bind fun x4 =>
  some (.inr (x4.1, x4.2, x3.1, x3.2.1, x3.2.2))
def fX5_setShock (fu : Nat) (g_ft : Tab) (g_er : Tab) (g_eb : Int32) (g_li : Tab) (g_st : Tab) (g_rd : Int32) (g_tu : Int32) (g_la : Int32) (g_dl : Bool) (g_sh : Int32) (g_tb : Int32) (yc : Int32) (yp : (Nat → Nat)) (yg : (Nat → GV)) (p1 : Int32) : Option (String ⊕ (Int32 × Int32 × Int32 × (Nat → Nat) × (Nat → GV))) :=
  (fX5_requireWithin p1 (1 : Int32) (200 : Int32)).bind fun x => x.elim (fun E => some (.inl E)) fun x1 =>
  (fX2_save fu yc yp yg g_ft g_er g_eb g_li g_st g_rd g_tu g_la g_dl g_sh g_tb).bind fun x2 =>
  (fX1_changeShock g_sh p1).bind fun x3 =>
  some (.inr (x3.1, x3.2, x2.1, x2.2.1, x2.2.2))
def fX5_fighter (fu : Nat) (g_ft : Tab) (g_er : Tab) (g_li : Tab) (p1 : Int32) (p2 : Int32) : Option (String ⊕ (Int32)) :=
  (fX5_requireFighter g_ft p1).bind fun x => x.elim (fun E => some (.inl E)) fun x1 =>
  (fX5_requireWithin p2 (0 : Int32) (8 : Int32)).bind fun x => x.elim (fun E => some (.inl E)) fun x2 =>
  (fX1_aboutFighter fu g_ft g_er g_li p1 p2).bind fun x3 =>
  some (.inr (x3))
def fX5_requireEffect (g_er : Tab) (p1 : Int32) : Option (String ⊕ (Unit)) :=
  (fX1_effectCount g_er).bind fun x1 =>
  (fX5_within p1 (0 : Int32) (x1 - (1 : Int32))).bind fun x2 =>
  if (bI x2) = 0 then
    some (.inl "java/lang/IndexOutOfBoundsException")
  else
    some (.inr ())
def fX5_effect (g_er : Tab) (p1 : Int32) (p2 : Int32) : Option (String ⊕ (Int32)) :=
  (fX5_requireEffect g_er p1).bind fun x => x.elim (fun E => some (.inl E)) fun x1 =>
  (fX5_requireWithin p2 (0 : Int32) (6 : Int32)).bind fun x => x.elim (fun E => some (.inl E)) fun x2 =>
  (fX1_aboutEffect g_er p1 p2).bind fun x3 =>
  some (.inr (x3))
def fX5_value (fu : Nat) (g_ft : Tab) (g_er : Tab) (g_eb : Int32) (g_st : Tab) (g_rd : Int32) (g_tu : Int32) (g_sh : Int32) (g_tb : Int32) (p1 : Int32) : Option (String ⊕ (Int32)) :=
  (fX5_requireWithin p1 (0 : Int32) (8 : Int32)).bind fun x => x.elim (fun E => some (.inl E)) fun x1 =>
  (fX1_number fu g_ft g_er g_eb g_st g_rd g_tu g_sh g_tb p1).bind fun x2 =>
  some (.inr (x2))
def fX5_inList (g_li : Tab) (p1 : Int32) : Option (String ⊕ (Int32)) :=
  (fX1_listLength g_li).bind fun x1 =>
  (fX5_within p1 (0 : Int32) (x1 - (1 : Int32))).bind fun x2 =>
  if (bI x2) = 0 then
    some (.inl "java/lang/IndexOutOfBoundsException")
  else
    (fX1_listed g_li p1).bind fun x3 =>
    some (.inr (x3))
def fX5_requirePossible (p0 : Bool) : Option (String ⊕ (Unit)) :=
  if (bI p0) = 0 then
    some (.inl "java/lang/IllegalStateException")
  else
    some (.inr ())
def fX5_next (fu : Nat) (g_ft : Tab) (g_er : Tab) (g_eb : Int32) (g_li : Tab) (g_st : Tab) (g_rd : Int32) (g_tu : Int32) (g_la : Int32) (g_dl : Bool) (g_sh : Int32) (g_tb : Int32) (yc : Int32) (yp : (Nat → Nat)) (yg : (Nat → GV)) : Option (String ⊕ (Int32 × Tab × Tab × Tab × Int32 × Int32 × Int32 × Bool × Int32 × Int32 × (Nat → Nat) × (Nat → GV))) :=
  (fX1_mayBeginTurn g_tu).bind fun x1 =>
  (fX5_requirePossible x1).bind fun x => x.elim (fun E => some (.inl E)) fun x2 =>
  (fX2_save fu yc yp yg g_ft g_er g_eb g_li g_st g_rd g_tu g_la g_dl g_sh g_tb).bind fun x3 =>
  (fX1_beginTurn fu g_ft g_er g_li g_rd g_tu g_la g_dl g_sh g_tb).bind fun x4 =>
  some (.inr (x4.1, x4.2.1, x4.2.2.1, x4.2.2.2.1, x4.2.2.2.2.1, x4.2.2.2.2.2.1, x4.2.2.2.2.2.2.1, x4.2.2.2.2.2.2.2.1, x4.2.2.2.2.2.2.2.2, x3.1, x3.2.1, x3.2.2))
def fX5_end (fu : Nat) (g_ft : Tab) (g_er : Tab) (g_eb : Int32) (g_li : Tab) (g_st : Tab) (g_rd : Int32) (g_tu : Int32) (g_la : Int32) (g_dl : Bool) (g_sh : Int32) (g_tb : Int32) (yc : Int32) (yp : (Nat → Nat)) (yg : (Nat → GV)) : Option (String ⊕ (Int32 × Tab × Int32 × Int32 × (Nat → Nat) × (Nat → GV))) :=
  (fX1_mayEndTurn g_st g_tu).bind fun x1 =>
  (fX5_requirePossible x1).bind fun x => x.elim (fun E => some (.inl E)) fun x2 =>
  (fX2_save fu yc yp yg g_ft g_er g_eb g_li g_st g_rd g_tu g_la g_dl g_sh g_tb).bind fun x3 =>
  (fX1_endTurn fu g_er g_tu).bind fun x4 =>
  some (.inr (x4.1, x4.2.1, x4.2.2, x3.1, x3.2.1, x3.2.2))
def fX5_delay (fu : Nat) (g_ft : Tab) (g_er : Tab) (g_eb : Int32) (g_li : Tab) (g_st : Tab) (g_rd : Int32) (g_tu : Int32) (g_la : Int32) (g_dl : Bool) (g_sh : Int32) (g_tb : Int32) (yc : Int32) (yp : (Nat → Nat)) (yg : (Nat → GV)) : Option (String ⊕ (Int32 × Tab × Int32 × Int32 × (Nat → Nat) × (Nat → GV))) :=
  (fX1_mayDelayTurn g_tu g_dl).bind fun x1 =>
  (fX5_requirePossible x1).bind fun x => x.elim (fun E => some (.inl E)) fun x2 =>
  (fX2_save fu yc yp yg g_ft g_er g_eb g_li g_st g_rd g_tu g_la g_dl g_sh g_tb).bind fun x3 =>
  (fX1_delayTurn fu g_li g_tu).bind fun x4 =>
  some (.inr (x4.1, x4.2.1, x4.2.2, x3.1, x3.2.1, x3.2.2))
def fX5_comeIn (fu : Nat) (g_ft : Tab) (g_er : Tab) (g_eb : Int32) (g_li : Tab) (g_st : Tab) (g_rd : Int32) (g_tu : Int32) (g_la : Int32) (g_dl : Bool) (g_sh : Int32) (g_tb : Int32) (yc : Int32) (yp : (Nat → Nat)) (yg : (Nat → GV)) (p1 : Int32) : Option (String ⊕ (Int32 × Tab × Int32 × Int32 × Bool × Int32 × (Nat → Nat) × (Nat → GV))) :=
  (fX5_requireFighter g_ft p1).bind fun x => x.elim (fun E => some (.inl E)) fun x1 =>
  (fX1_mayResumeTurn fu g_ft g_li g_tu p1).bind fun x2 =>
  (fX5_requirePossible x2).bind fun x => x.elim (fun E => some (.inl E)) fun x3 =>
  (fX2_save fu yc yp yg g_ft g_er g_eb g_li g_st g_rd g_tu g_la g_dl g_sh g_tb).bind fun x4 =>
  (fX1_resumeTurn fu g_li g_tu g_la g_dl p1).bind fun x5 =>
  some (.inr (x5.1, x5.2.1, x5.2.2.1, x5.2.2.2.1, x5.2.2.2.2, x4.1, x4.2.1, x4.2.2))
def fX5_act_J34 (fu : Nat) (g_er : Tab) (g_eb : Int32) (g_li : Tab) (g_rd : Int32) (g_tu : Int32) (g_la : Int32) (g_sh : Int32) (g_tb : Int32) (p1 : Int32) (p2 : Int32) (p3 : Int32) (p4 : Int32) (g_ft : Tab) (g_st : Tab) (g_dl : Bool) (yc : Int32) (yp : (Nat → Nat)) (yg : (Nat → GV)) : Option (String ⊕ (Int32 × Tab × Tab × Bool × Int32 × (Nat → Nat) × (Nat → GV))) :=
  (fX5_requireWithin p4 (1 : Int32) (60 : Int32)).bind fun x => x.elim (fun E => some (.inl E)) fun x3 =>
  (fX1_mayAct g_ft g_st g_tu p1 p2).bind fun x4 =>
  (fX5_requirePossible x4).bind fun x => x.elim (fun E => some (.inl E)) fun x5 =>
  (fX2_save fu yc yp yg g_ft g_er g_eb g_li g_st g_rd g_tu g_la g_dl g_sh g_tb).bind fun x6 =>
  (fX1_beginAct fu g_ft g_st g_dl p2 p1 p3 p4 (0 : Int32) (0 : Int32) (0 : Int32)).bind fun x7 =>
  some (.inr (x7.1, x7.2.1, x7.2.2.1, x7.2.2.2, x6.1, x6.2.1, x6.2.2))
def fX5_act (fu : Nat) (g_ft : Tab) (g_er : Tab) (g_eb : Int32) (g_li : Tab) (g_st : Tab) (g_rd : Int32) (g_tu : Int32) (g_la : Int32) (g_dl : Bool) (g_sh : Int32) (g_tb : Int32) (yc : Int32) (yp : (Nat → Nat)) (yg : (Nat → GV)) (p1 : Int32) (p2 : Int32) (p3 : Int32) (p4 : Int32) : Option (String ⊕ (Int32 × Tab × Tab × Bool × Int32 × (Nat → Nat) × (Nat → GV))) :=
  (fX5_requireFighter g_ft p1).bind fun x => x.elim (fun E => some (.inl E)) fun x1 =>
  (fX5_requireFighter g_ft p3).bind fun x => x.elim (fun E => some (.inl E)) fun x2 =>
  if p2 = 0 then
    fX5_act_J34 fu g_er g_eb g_li g_rd g_tu g_la g_sh g_tb p1 p2 p3 p4 g_ft g_st g_dl yc yp yg
  else
    if p2 = (1 : Int32) then
      fX5_act_J34 fu g_er g_eb g_li g_rd g_tu g_la g_sh g_tb p1 p2 p3 p4 g_ft g_st g_dl yc yp yg
    else
      if p2 = (3 : Int32) then
        fX5_act_J34 fu g_er g_eb g_li g_rd g_tu g_la g_sh g_tb p1 p2 p3 p4 g_ft g_st g_dl yc yp yg
      else
        some (.inl "java/lang/IllegalArgumentException")
def fX5_cast (fu : Nat) (g_ft : Tab) (g_er : Tab) (g_eb : Int32) (g_li : Tab) (g_st : Tab) (g_rd : Int32) (g_tu : Int32) (g_la : Int32) (g_dl : Bool) (g_sh : Int32) (g_tb : Int32) (yc : Int32) (yp : (Nat → Nat)) (yg : (Nat → GV)) (p1 : Int32) (p2 : Int32) (p3 : Int32) (p4 : Int32) (p5 : Int32) (p6 : Int32) : Option (String ⊕ (Int32 × Tab × Tab × Bool × Int32 × (Nat → Nat) × (Nat → GV))) :=
  (fX5_requireFighter g_ft p1).bind fun x => x.elim (fun E => some (.inl E)) fun x1 =>
  (fX5_requireFighter g_ft p2).bind fun x => x.elim (fun E => some (.inl E)) fun x2 =>
  (fX5_requireWithin p3 (0 : Int32) (4 : Int32)).bind fun x => x.elim (fun E => some (.inl E)) fun x3 =>
  (fX5_requireWithin p4 (1 : Int32) (20 : Int32)).bind fun x => x.elim (fun E => some (.inl E)) fun x4 =>
  (fX5_requireWithin p5 (1 : Int32) (20 : Int32)).bind fun x => x.elim (fun E => some (.inl E)) fun x5 =>
  (fX5_requireWithin p6 (0 : Int32) (3 : Int32)).bind fun x => x.elim (fun E => some (.inl E)) fun x6 =>
  (fX1_mayAct g_ft g_st g_tu p1 (2 : Int32)).bind fun x7 =>
  (fX5_requirePossible x7).bind fun x => x.elim (fun E => some (.inl E)) fun x8 =>
  (fX2_save fu yc yp yg g_ft g_er g_eb g_li g_st g_rd g_tu g_la g_dl g_sh g_tb).bind fun x9 =>
  (fX1_beginAct fu g_ft g_st g_dl (2 : Int32) p1 p2 p4 p3 p5 p6).bind fun x10 =>
  some (.inr (x10.1, x10.2.1, x10.2.2.1, x10.2.2.2, x9.1, x9.2.1, x9.2.2))
def fX5_settle (fu : Nat) (g_ft : Tab) (g_er : Tab) (g_eb : Int32) (g_li : Tab) (g_st : Tab) (g_rd : Int32) (g_tu : Int32) (g_la : Int32) (g_dl : Bool) (g_sh : Int32) (g_tb : Int32) (yc : Int32) (yp : (Nat → Nat)) (yg : (Nat → GV)) : Option (String ⊕ (Int32 × Tab × Tab × Int32 × Tab × Int32 × Int32 × (Nat → Nat) × (Nat → GV))) :=
  (fX1_maySettle g_st).bind fun x1 =>
  (fX5_requirePossible x1).bind fun x => x.elim (fun E => some (.inl E)) fun x2 =>
  (fX2_save fu yc yp yg g_ft g_er g_eb g_li g_st g_rd g_tu g_la g_dl g_sh g_tb).bind fun x3 =>
  (fX1_settleStack fu g_ft g_er g_eb g_st g_tu g_sh).bind fun x4 =>
  some (.inr (x4.1, x4.2.1, x4.2.2.1, x4.2.2.2.1, x4.2.2.2.2.1, x4.2.2.2.2.2, x3.1, x3.2.1, x3.2.2))
def fX5_stacked (g_st : Tab) (p1 : Int32) (p2 : Int32) : Option (String ⊕ (Int32)) :=
  (fX1_stackSize g_st).bind fun x1 =>
  (fX5_within p1 (0 : Int32) (x1 - (1 : Int32))).bind fun x2 =>
  if (bI x2) = 0 then
    some (.inl "java/lang/IndexOutOfBoundsException")
  else
    (fX5_requireWithin p2 (0 : Int32) (3 : Int32)).bind fun x => x.elim (fun E => some (.inl E)) fun x3 =>
    (fX1_aboutAct g_st p1 p2).bind fun x4 =>
    some (.inr (x4))
def fX5_mayAnswer (g_ft : Tab) (g_st : Tab) (p1 : Int32) : Option (String ⊕ (Bool)) :=
  (fX5_requireFighter g_ft p1).bind fun x => x.elim (fun E => some (.inl E)) fun x1 =>
  (fX1_canAnswer g_ft g_st p1).bind fun x2 =>
  some (.inr (x2))
def fX5_upcoming_L29 (fu : Nat) (g_ft : Tab) (g_er : Tab) (g_eb : Int32) (g_li : Tab) (g_st : Tab) (g_rd : Int32) (g_tu : Int32) (g_la : Int32) (g_dl : Bool) (g_sh : Int32) (g_tb : Int32) (p1 : Int32) : Nat → Tab → Tab → Int32 → Tab → Tab → Int32 → Int32 → Int32 → Bool → Int32 → Int32 → Int32 → Int32 → Option (String ⊕ (Int32 × Tab × Tab × Int32 × Tab × Tab × Int32 × Int32 × Int32 × Bool × Int32 × Int32))
  | 0, _, _, _, _, _, _, _, _, _, _, _, _, _ => none
  | k + 1, z_ft, z_er, z_eb, z_li, z_st, z_rd, z_tu, z_la, z_dl, z_sh, z_tb, v2, v3 =>
    if p1 < v3 then
      some (.inr (v2, z_ft, z_er, z_eb, z_li, z_st, z_rd, z_tu, z_la, z_dl, z_sh, z_tb))
    else
      (fX1_passTurn fu z_ft z_er z_li z_rd z_tu z_la z_dl z_sh z_tb).bind fun x4 =>
      fX5_upcoming_L29 fu g_ft g_er g_eb g_li g_st g_rd g_tu g_la g_dl g_sh g_tb p1 k x4.2.1 x4.2.2.1 z_eb x4.2.2.2.1 z_st x4.2.2.2.2.1 x4.2.2.2.2.2.1 x4.2.2.2.2.2.2.1 x4.2.2.2.2.2.2.2.1 z_sh x4.2.2.2.2.2.2.2.2 x4.1 (v3 + 1)
def fX5_upcoming (fu : Nat) (g_ft : Tab) (g_er : Tab) (g_eb : Int32) (g_li : Tab) (g_st : Tab) (g_rd : Int32) (g_tu : Int32) (g_la : Int32) (g_dl : Bool) (g_sh : Int32) (g_tb : Int32) (z_ft : Tab) (z_er : Tab) (z_eb : Int32) (z_li : Tab) (z_st : Tab) (z_rd : Int32) (z_tu : Int32) (z_la : Int32) (z_dl : Bool) (z_sh : Int32) (z_tb : Int32) (p1 : Int32) : Option (String ⊕ (Int32 × Tab × Tab × Int32 × Tab × Tab × Int32 × Int32 × Int32 × Bool × Int32 × Int32)) :=
  (fX5_requireWithin p1 (0 : Int32) (40 : Int32)).bind fun x => x.elim (fun E => some (.inl E)) fun x1 =>
  (fX1_copyFrom z_ft z_er z_eb z_li z_st z_rd z_tu z_la z_dl z_sh z_tb g_ft g_er g_eb g_li g_st g_rd g_tu g_la g_dl g_sh g_tb).bind fun x2 =>
  (fX1_abandonTurn fu x2.2.1 x2.2.2.2.2.1 x2.2.2.2.2.2.2.1).bind fun x3 =>
  fX5_upcoming_L29 fu g_ft g_er g_eb g_li g_st g_rd g_tu g_la g_dl g_sh g_tb p1 fu x2.1 x3.1 x2.2.2.1 x2.2.2.2.1 x3.2.1 x2.2.2.2.2.2.1 x3.2.2 x2.2.2.2.2.2.2.2.1 x2.2.2.2.2.2.2.2.2.1 x2.2.2.2.2.2.2.2.2.2.1 x2.2.2.2.2.2.2.2.2.2.2 (-1 : Int32) (0 : Int32)
def fX5_goneAfter_L34 (fu : Nat) (g_ft : Tab) (g_er : Tab) (g_eb : Int32) (g_li : Tab) (g_st : Tab) (g_rd : Int32) (g_tu : Int32) (g_la : Int32) (g_dl : Bool) (g_sh : Int32) (g_tb : Int32) : Nat → Tab → Tab → Int32 → Tab → Tab → Int32 → Int32 → Int32 → Bool → Int32 → Int32 → Int32 → Int32 → Option (String ⊕ (Int32 × Tab × Tab × Int32 × Tab × Tab × Int32 × Int32 × Int32 × Bool × Int32 × Int32))
  | 0, _, _, _, _, _, _, _, _, _, _, _, _, _ => none
  | k + 1, z_ft, z_er, z_eb, z_li, z_st, z_rd, z_tu, z_la, z_dl, z_sh, z_tb, v2, v3 =>
    if (60 : Int32) < v3 then
      some (.inr ((-1 : Int32), z_ft, z_er, z_eb, z_li, z_st, z_rd, z_tu, z_la, z_dl, z_sh, z_tb))
    else
      (fX1_hasEffectBorn fu z_er v2).bind fun x5 =>
      if (bI x5) = 0 then
        some (.inr (v3, z_ft, z_er, z_eb, z_li, z_st, z_rd, z_tu, z_la, z_dl, z_sh, z_tb))
      else
        (fX1_passTurn fu z_ft z_er z_li z_rd z_tu z_la z_dl z_sh z_tb).bind fun x6 =>
        fX5_goneAfter_L34 fu g_ft g_er g_eb g_li g_st g_rd g_tu g_la g_dl g_sh g_tb k x6.2.1 x6.2.2.1 z_eb x6.2.2.2.1 z_st x6.2.2.2.2.1 x6.2.2.2.2.2.1 x6.2.2.2.2.2.2.1 x6.2.2.2.2.2.2.2.1 z_sh x6.2.2.2.2.2.2.2.2 v2 (v3 + 1)
def fX5_goneAfter (fu : Nat) (g_ft : Tab) (g_er : Tab) (g_eb : Int32) (g_li : Tab) (g_st : Tab) (g_rd : Int32) (g_tu : Int32) (g_la : Int32) (g_dl : Bool) (g_sh : Int32) (g_tb : Int32) (z_ft : Tab) (z_er : Tab) (z_eb : Int32) (z_li : Tab) (z_st : Tab) (z_rd : Int32) (z_tu : Int32) (z_la : Int32) (z_dl : Bool) (z_sh : Int32) (z_tb : Int32) (p1 : Int32) : Option (String ⊕ (Int32 × Tab × Tab × Int32 × Tab × Tab × Int32 × Int32 × Int32 × Bool × Int32 × Int32)) :=
  (fX5_requireEffect g_er p1).bind fun x => x.elim (fun E => some (.inl E)) fun x1 =>
  (fX1_birthOf g_er p1).bind fun x2 =>
  (fX1_copyFrom z_ft z_er z_eb z_li z_st z_rd z_tu z_la z_dl z_sh z_tb g_ft g_er g_eb g_li g_st g_rd g_tu g_la g_dl g_sh g_tb).bind fun x3 =>
  (fX1_abandonTurn fu x3.2.1 x3.2.2.2.2.1 x3.2.2.2.2.2.2.1).bind fun x4 =>
  fX5_goneAfter_L34 fu g_ft g_er g_eb g_li g_st g_rd g_tu g_la g_dl g_sh g_tb fu x3.1 x4.1 x3.2.2.1 x3.2.2.2.1 x4.2.1 x3.2.2.2.2.2.1 x4.2.2 x3.2.2.2.2.2.2.2.1 x3.2.2.2.2.2.2.2.2.1 x3.2.2.2.2.2.2.2.2.2.1 x3.2.2.2.2.2.2.2.2.2.2 x2 (0 : Int32)
def fX5_lifeSettled (fu : Nat) (g_ft : Tab) (g_er : Tab) (g_eb : Int32) (g_li : Tab) (g_st : Tab) (g_rd : Int32) (g_tu : Int32) (g_la : Int32) (g_dl : Bool) (g_sh : Int32) (g_tb : Int32) (z_ft : Tab) (z_er : Tab) (z_eb : Int32) (z_li : Tab) (z_st : Tab) (z_rd : Int32) (z_tu : Int32) (z_la : Int32) (z_dl : Bool) (z_sh : Int32) (z_tb : Int32) : Option (Int32 × Tab × Tab × Int32 × Tab × Tab × Int32 × Int32 × Int32 × Bool × Int32 × Int32) :=
  (fX1_copyFrom z_ft z_er z_eb z_li z_st z_rd z_tu z_la z_dl z_sh z_tb g_ft g_er g_eb g_li g_st g_rd g_tu g_la g_dl g_sh g_tb).bind fun x1 =>
  (fX1_settleStack fu x1.1 x1.2.1 x1.2.2.1 x1.2.2.2.2.1 x1.2.2.2.2.2.2.1 x1.2.2.2.2.2.2.2.2.2.1).bind fun x2 =>
  (fX1_lives fu x2.2.1).bind fun x3 =>
  some (x3, x2.2.1, x2.2.2.1, x2.2.2.2.1, x1.2.2.2.1, x2.2.2.2.2.1, x1.2.2.2.2.2.1, x2.2.2.2.2.2, x1.2.2.2.2.2.2.2.1, x1.2.2.2.2.2.2.2.2.1, x1.2.2.2.2.2.2.2.2.2.1, x1.2.2.2.2.2.2.2.2.2.2)
def fX5_append (fu : Nat) (tx : Tab) (p1 : Int32) : Option (String ⊕ (Int32 × Tab)) :=
  (fX5_requireWithin p1 (0 : Int32) (127 : Int32)).bind fun x => x.elim (fun E => some (.inl E)) fun x1 =>
  (fX3_length tx).bind fun x2 =>
  if (120 : Int32) ≤ x2 then
    (fX5_requirePossible false).bind fun x => x.elim (fun E => some (.inl E)) fun x3 =>
    (fX3_lengthen fu tx p1).bind fun x4 =>
    some (.inr (x4.1, x4.2))
  else
    (fX5_requirePossible true).bind fun x => x.elim (fun E => some (.inl E)) fun x5 =>
    (fX3_lengthen fu tx p1).bind fun x6 =>
    some (.inr (x6.1, x6.2))
def fX5_clearText (tx : Tab) : Option (Int32 × Tab) :=
  (fX3_wipe tx).bind fun x1 =>
  some (x1.1, x1.2)
def fX5_carryOut_L31 (fu : Nat) (tx : Tab) : Nat → Tab → Tab → Int32 → Tab → Tab → Int32 → Int32 → Int32 → Bool → Int32 → Int32 → Tab → Tab → Int32 → Tab → Tab → Int32 → Int32 → Int32 → Bool → Int32 → Int32 → Int32 → (Nat → Nat) → (Nat → GV) → Tab → Int32 → Option (Int32 × Tab × Tab × Int32 × Tab × Tab × Int32 × Int32 × Int32 × Bool × Int32 × Int32 × Tab × Tab × Int32 × Tab × Tab × Int32 × Int32 × Int32 × Bool × Int32 × Int32 × Int32 × (Nat → Nat) × (Nat → GV) × Tab)
  | 0, _, _, _, _, _, _, _, _, _, _, _, _, _, _, _, _, _, _, _, _, _, _, _, _, _, _, _ => none
  | k + 1, g_ft, g_er, g_eb, g_li, g_st, g_rd, g_tu, g_la, g_dl, g_sh, g_tb, z_ft, z_er, z_eb, z_li, z_st, z_rd, z_tu, z_la, z_dl, z_sh, z_tb, yc, yp, yg, cm, v2 =>
    (fX3_commandCount cm).bind fun x3 =>
    if x3 ≤ v2 then
      (fX2_save fu yc yp yg g_ft g_er g_eb g_li g_st g_rd g_tu g_la g_dl g_sh g_tb).bind fun x4 =>
      (fX1_copyFrom g_ft g_er g_eb g_li g_st g_rd g_tu g_la g_dl g_sh g_tb z_ft z_er z_eb z_li z_st z_rd z_tu z_la z_dl z_sh z_tb).bind fun x5 =>
      (fX3_commandCount cm).bind fun x6 =>
      some (x6, x5.1, x5.2.1, x5.2.2.1, x5.2.2.2.1, x5.2.2.2.2.1, x5.2.2.2.2.2.1, x5.2.2.2.2.2.2.1, x5.2.2.2.2.2.2.2.1, x5.2.2.2.2.2.2.2.2.1, x5.2.2.2.2.2.2.2.2.2.1, x5.2.2.2.2.2.2.2.2.2.2, z_ft, z_er, z_eb, z_li, z_st, z_rd, z_tu, z_la, z_dl, z_sh, z_tb, x4.1, x4.2.1, x4.2.2, cm)
    else
      (fX3_perform fu cm z_ft z_er z_eb z_li z_st z_rd z_tu z_la z_dl z_sh z_tb v2).bind fun x7 =>
      if (bI x7.1) = 0 then
        some (((-1000 : Int32) - v2), g_ft, g_er, g_eb, g_li, g_st, g_rd, g_tu, g_la, g_dl, g_sh, g_tb, x7.2.1, x7.2.2.1, x7.2.2.2.1, x7.2.2.2.2.1, x7.2.2.2.2.2.1, x7.2.2.2.2.2.2.1, x7.2.2.2.2.2.2.2.1, x7.2.2.2.2.2.2.2.2.1, x7.2.2.2.2.2.2.2.2.2.1, z_sh, x7.2.2.2.2.2.2.2.2.2.2, yc, yp, yg, cm)
      else
        fX5_carryOut_L31 fu tx k g_ft g_er g_eb g_li g_st g_rd g_tu g_la g_dl g_sh g_tb x7.2.1 x7.2.2.1 x7.2.2.2.1 x7.2.2.2.2.1 x7.2.2.2.2.2.1 x7.2.2.2.2.2.2.1 x7.2.2.2.2.2.2.2.1 x7.2.2.2.2.2.2.2.2.1 x7.2.2.2.2.2.2.2.2.2.1 z_sh x7.2.2.2.2.2.2.2.2.2.2 yc yp yg cm (v2 + 1)
def fX5_carryOut (fu : Nat) (g_ft : Tab) (g_er : Tab) (g_eb : Int32) (g_li : Tab) (g_st : Tab) (g_rd : Int32) (g_tu : Int32) (g_la : Int32) (g_dl : Bool) (g_sh : Int32) (g_tb : Int32) (z_ft : Tab) (z_er : Tab) (z_eb : Int32) (z_li : Tab) (z_st : Tab) (z_rd : Int32) (z_tu : Int32) (z_la : Int32) (z_dl : Bool) (z_sh : Int32) (z_tb : Int32) (yc : Int32) (yp : (Nat → Nat)) (yg : (Nat → GV)) (tx : Tab) (cm : Tab) : Option (Int32 × Tab × Tab × Int32 × Tab × Tab × Int32 × Int32 × Int32 × Bool × Int32 × Int32 × Tab × Tab × Int32 × Tab × Tab × Int32 × Int32 × Int32 × Bool × Int32 × Int32 × Int32 × (Nat → Nat) × (Nat → GV) × Tab) :=
  (fX3_read fu tx cm).bind fun x1 =>
  if x1.1 = (-1 : Int32) then
    (fX1_copyFrom z_ft z_er z_eb z_li z_st z_rd z_tu z_la z_dl z_sh z_tb g_ft g_er g_eb g_li g_st g_rd g_tu g_la g_dl g_sh g_tb).bind fun x2 =>
    fX5_carryOut_L31 fu tx fu g_ft g_er g_eb g_li g_st g_rd g_tu g_la g_dl g_sh g_tb x2.1 x2.2.1 x2.2.2.1 x2.2.2.2.1 x2.2.2.2.2.1 x2.2.2.2.2.2.1 x2.2.2.2.2.2.2.1 x2.2.2.2.2.2.2.2.1 x2.2.2.2.2.2.2.2.2.1 x2.2.2.2.2.2.2.2.2.2.1 x2.2.2.2.2.2.2.2.2.2.2 yc yp yg x1.2 (0 : Int32)
  else
    some (((-10 : Int32) - x1.1), g_ft, g_er, g_eb, g_li, g_st, g_rd, g_tu, g_la, g_dl, g_sh, g_tb, z_ft, z_er, z_eb, z_li, z_st, z_rd, z_tu, z_la, z_dl, z_sh, z_tb, yc, yp, yg, x1.2)
def fX5_undo_J15 (yp : (Nat → Nat)) (yg : (Nat → GV)) (g_ft : Tab) (g_er : Tab) (g_eb : Int32) (g_li : Tab) (g_st : Tab) (g_rd : Int32) (g_tu : Int32) (g_la : Int32) (g_dl : Bool) (g_sh : Int32) (g_tb : Int32) (yc : Int32) (t0 : Bool) : Option (String ⊕ (Int32 × Tab × Tab × Int32 × Tab × Tab × Int32 × Int32 × Int32 × Bool × Int32 × Int32 × Int32)) :=
  (fX5_requirePossible t0).bind fun x => x.elim (fun E => some (.inl E)) fun x2 =>
  (fX2_restore yc yp yg g_ft g_er g_eb g_li g_st g_rd g_tu g_la g_dl g_sh g_tb).bind fun x3 =>
  (fX2_size x3.1).bind fun x4 =>
  some (.inr (x4, x3.2.1, x3.2.2.1, x3.2.2.2.1, x3.2.2.2.2.1, x3.2.2.2.2.2.1, x3.2.2.2.2.2.2.1, x3.2.2.2.2.2.2.2.1, x3.2.2.2.2.2.2.2.2.1, x3.2.2.2.2.2.2.2.2.2.1, x3.2.2.2.2.2.2.2.2.2.2.1, x3.2.2.2.2.2.2.2.2.2.2.2, x3.1))
def fX5_undo (g_ft : Tab) (g_er : Tab) (g_eb : Int32) (g_li : Tab) (g_st : Tab) (g_rd : Int32) (g_tu : Int32) (g_la : Int32) (g_dl : Bool) (g_sh : Int32) (g_tb : Int32) (yc : Int32) (yp : (Nat → Nat)) (yg : (Nat → GV)) : Option (String ⊕ (Int32 × Tab × Tab × Int32 × Tab × Tab × Int32 × Int32 × Int32 × Bool × Int32 × Int32 × Int32)) :=
  (fX2_size yc).bind fun x1 =>
  if x1 ≤ 0 then
    fX5_undo_J15 yp yg g_ft g_er g_eb g_li g_st g_rd g_tu g_la g_dl g_sh g_tb yc false
  else
    fX5_undo_J15 yp yg g_ft g_er g_eb g_li g_st g_rd g_tu g_la g_dl g_sh g_tb yc true
def fX5_withFighters_L20 (fu : Nat) (g_ft : Tab) (g_er : Tab) (g_li : Tab) : Nat → Int64 → Int32 → Int32 → Option (Int64 × Int32)
  | 0, _, _, _ => none
  | k + 1, v3, v5, v6 =>
    if (8 : Int32) < v6 then
      some (v3, v5)
    else
      (fX1_aboutFighter fu g_ft g_er g_li v5 v6).bind fun x2 =>
      fX5_withFighters_L20 fu g_ft g_er g_li k (((31 : Int64) * v3) + ((x2).toInt64)) v5 (v6 + 1)
def fX5_withFighters_L5 (fu : Nat) (g_ft : Tab) (g_er : Tab) (g_li : Tab) : Nat → Int64 → Int32 → Option (Int64)
  | 0, _, _ => none
  | k + 1, v3, v5 =>
    (fX1_fighterCount g_ft).bind fun x1 =>
    if x1 ≤ v5 then
      some (v3)
    else
      (fX5_withFighters_L20 fu g_ft g_er g_li fu v3 v5 (0 : Int32)).bind fun y3 =>
        fX5_withFighters_L5 fu g_ft g_er g_li k y3.1 (y3.2 + 1)
def fX5_withFighters (fu : Nat) (g_ft : Tab) (g_er : Tab) (g_li : Tab) (p1 : Int64) : Option (Int64) :=
  fX5_withFighters_L5 fu g_ft g_er g_li fu p1 (0 : Int32)
def fX5_withEffects_L20 (fu : Nat) (g_er : Tab) : Nat → Int64 → Int32 → Int32 → Option (Int64 × Int32)
  | 0, _, _, _ => none
  | k + 1, v3, v5, v6 =>
    if (6 : Int32) < v6 then
      some (v3, v5)
    else
      (fX1_aboutEffect g_er v5 v6).bind fun x2 =>
      fX5_withEffects_L20 fu g_er k (((31 : Int64) * v3) + ((x2).toInt64)) v5 (v6 + 1)
def fX5_withEffects_L5 (fu : Nat) (g_er : Tab) : Nat → Int64 → Int32 → Option (Int64)
  | 0, _, _ => none
  | k + 1, v3, v5 =>
    (fX1_effectCount g_er).bind fun x1 =>
    if x1 ≤ v5 then
      some (v3)
    else
      (fX5_withEffects_L20 fu g_er fu v3 v5 (0 : Int32)).bind fun y3 =>
        fX5_withEffects_L5 fu g_er k y3.1 (y3.2 + 1)
def fX5_withEffects (fu : Nat) (g_er : Tab) (p1 : Int64) : Option (Int64) :=
  fX5_withEffects_L5 fu g_er fu p1 (0 : Int32)
def fX5_withStack_L20 (fu : Nat) (g_st : Tab) : Nat → Int64 → Int32 → Int32 → Option (Int64 × Int32)
  | 0, _, _, _ => none
  | k + 1, v3, v5, v6 =>
    if (3 : Int32) < v6 then
      some (v3, v5)
    else
      (fX1_aboutAct g_st v5 v6).bind fun x2 =>
      fX5_withStack_L20 fu g_st k (((31 : Int64) * v3) + ((x2).toInt64)) v5 (v6 + 1)
def fX5_withStack_L5 (fu : Nat) (g_st : Tab) : Nat → Int64 → Int32 → Option (Int64)
  | 0, _, _ => none
  | k + 1, v3, v5 =>
    (fX1_stackSize g_st).bind fun x1 =>
    if x1 ≤ v5 then
      some (v3)
    else
      (fX5_withStack_L20 fu g_st fu v3 v5 (0 : Int32)).bind fun y3 =>
        fX5_withStack_L5 fu g_st k y3.1 (y3.2 + 1)
def fX5_withStack (fu : Nat) (g_st : Tab) (p1 : Int64) : Option (Int64) :=
  fX5_withStack_L5 fu g_st fu p1 (0 : Int32)
def fX5_digest_L57 (fu : Nat) (g_ft : Tab) (g_er : Tab) (g_eb : Int32) (g_li : Tab) (g_st : Tab) (g_rd : Int32) (g_tu : Int32) (g_sh : Int32) (g_tb : Int32) (yc : Int32) (tx : Tab) : Nat → Int64 → Int32 → Option (Int64)
  | 0, _, _ => none
  | k + 1, v1, v3 =>
    (fX1_listLength g_li).bind fun x4 =>
    if x4 ≤ v3 then
      (fX5_withStack fu g_st v1).bind fun x5 =>
      (fX2_size yc).bind fun x6 =>
      some ((((31 : Int64) * x5) + ((x6).toInt64)))
    else
      (fX1_listed g_li v3).bind fun x7 =>
      fX5_digest_L57 fu g_ft g_er g_eb g_li g_st g_rd g_tu g_sh g_tb yc tx k (((31 : Int64) * v1) + ((x7).toInt64)) (v3 + 1)
def fX5_digest_L15 (fu : Nat) (g_ft : Tab) (g_er : Tab) (g_eb : Int32) (g_li : Tab) (g_st : Tab) (g_rd : Int32) (g_tu : Int32) (g_sh : Int32) (g_tb : Int32) (yc : Int32) (tx : Tab) : Nat → Int64 → Int32 → Option (Int64)
  | 0, _, _ => none
  | k + 1, v1, v3 =>
    if (8 : Int32) < v3 then
      (fX5_withFighters fu g_ft g_er g_li v1).bind fun x2 =>
      (fX5_withEffects fu g_er x2).bind fun x3 =>
      fX5_digest_L57 fu g_ft g_er g_eb g_li g_st g_rd g_tu g_sh g_tb yc tx fu x3 (0 : Int32)
    else
      (fX1_number fu g_ft g_er g_eb g_st g_rd g_tu g_sh g_tb v3).bind fun x8 =>
      fX5_digest_L15 fu g_ft g_er g_eb g_li g_st g_rd g_tu g_sh g_tb yc tx k (((31 : Int64) * v1) + ((x8).toInt64)) (v3 + 1)
def fX5_digest (fu : Nat) (g_ft : Tab) (g_er : Tab) (g_eb : Int32) (g_li : Tab) (g_st : Tab) (g_rd : Int32) (g_tu : Int32) (g_sh : Int32) (g_tb : Int32) (yc : Int32) (tx : Tab) : Option (Int64) :=
  (fX3_length tx).bind fun x1 =>
  fX5_digest_L15 fu g_ft g_er g_eb g_li g_st g_rd g_tu g_sh g_tb yc tx fu ((103633 : Int64) + ((x1).toInt64)) (0 : Int32)
