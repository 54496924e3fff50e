/-! the class's methods as functions: printed (wip/p28/gen.py) -/
def fJ7_rangeCheck_23922 (p0 : Int32) (p1 : Int32) (p2 : Int32) : Option (Unit) :=
  if p1 ≤ p2 then
    if 0 ≤ p1 then
      if p2 ≤ p0 then
        some ()
      else
        none
    else
      none
  else
    none
def fJ7_fill_fda19_L10 (fu : Nat) (bn : Nat) (p2 : Int32) (p3 : Int32) : Nat → (Nat → Int32) → Int32 → Option ((Nat → Int32))
  | 0, _, _ => none
  | k + 1, bf, v4 =>
    if p2 ≤ v4 then
      some (bf)
    else
      if ¬ (v4 < 0 ∨ bn ≤ (v4).toNatClampNeg) then
        fJ7_fill_fda19_L10 fu bn p2 p3 k (upd bf (v4).toNatClampNeg p3) (v4 + 1)
      else none
def fJ7_fill_fda19 (fu : Nat) (bn : Nat) (bf : (Nat → Int32)) (p1 : Int32) (p2 : Int32) (p3 : Int32) : Option ((Nat → Int32)) :=
  (fJ7_rangeCheck_23922 (Int32.ofNat bn) p1 p2).bind fun x1 =>
  fJ7_fill_fda19_L10 fu bn p2 p3 fu bf p1
def fX4_count (T : Tab) : Option (Int32) :=
  some (T.2.2.2)
def fX4_isFull (T : Tab) : Option (Bool) :=
  if ((T.2.2.2 + (1 : Int32)) * T.1) ≤ (Int32.ofNat T.2.1) then
    some (false)
  else
    some (true)
def fX4_at (T : Tab) (p1 : Int32) (p2 : Int32) : Option (Int32) :=
  if p1 < 0 then
    some ((-1 : Int32))
  else
    if T.2.2.2 ≤ p1 then
      some ((-1 : Int32))
    else
      if p2 < 0 then
        some ((-1 : Int32))
      else
        if p2 < T.1 then
          if (Int32.ofNat T.2.1) ≤ ((p1 * T.1) + p2) then
            some ((-1 : Int32))
          else
            if ¬ (((p1 * T.1) + p2) < 0 ∨ T.2.1 ≤ (((p1 * T.1) + p2)).toNatClampNeg) then
              some ((T.2.2.1 (((p1 * T.1) + p2)).toNatClampNeg))
            else none
        else
          some ((-1 : Int32))
def fX4_put (T : Tab) (p1 : Int32) (p2 : Int32) (p3 : Int32) : Option (Tab) :=
  if p1 < 0 then
    some (T)
  else
    if T.2.2.2 ≤ p1 then
      some (T)
    else
      if p2 < 0 then
        some (T)
      else
        if p2 < T.1 then
          if (Int32.ofNat T.2.1) ≤ ((p1 * T.1) + p2) then
            some (T)
          else
            if ¬ (((p1 * T.1) + p2) < 0 ∨ T.2.1 ≤ (((p1 * T.1) + p2)).toNatClampNeg) then
              some ((T.1, T.2.1, (upd T.2.2.1 (((p1 * T.1) + p2)).toNatClampNeg p3), T.2.2.2))
            else none
        else
          some (T)
def fX4_insert (fu : Nat) (T : Tab) (p1 : Int32) : Option (Tab) :=
  if p1 < 0 then
    some (T)
  else
    if T.2.2.2 < p1 then
      some (T)
    else
      if ((T.2.2.2 * T.1) + T.1) ≤ (Int32.ofNat T.2.1) then
        if ¬ (p1 * T.1) < 0 ∧ ¬ ((p1 * T.1) + T.1) < 0 ∧ ¬ ((T.2.2.2 * T.1) - (p1 * T.1)) < 0 ∧ ((p1 * T.1)).toNatClampNeg + (((T.2.2.2 * T.1) - (p1 * T.1))).toNatClampNeg ≤ T.2.1 ∧ (((p1 * T.1) + T.1)).toNatClampNeg + (((T.2.2.2 * T.1) - (p1 * T.1))).toNatClampNeg ≤ T.2.1 then
          (fJ7_fill_fda19 fu T.2.1 (va_cpy T.2.2.1 T.2.2.1 ((p1 * T.1)).toNatClampNeg (((p1 * T.1) + T.1)).toNatClampNeg (((T.2.2.2 * T.1) - (p1 * T.1))).toNatClampNeg) (p1 * T.1) ((p1 * T.1) + T.1) (0 : Int32)).bind fun x1 =>
          some ((T.1, T.2.1, x1, (T.2.2.2 + (1 : Int32))))
        else none
      else
        some (T)
def fX4_remove (T : Tab) (p1 : Int32) : Option (Tab) :=
  if p1 < 0 then
    some (T)
  else
    if T.2.2.2 ≤ p1 then
      some (T)
    else
      if (T.2.2.2 * T.1) ≤ (Int32.ofNat T.2.1) then
        if ¬ ((p1 + (1 : Int32)) * T.1) < 0 ∧ ¬ (((p1 + (1 : Int32)) * T.1) - T.1) < 0 ∧ ¬ ((T.2.2.2 * T.1) - ((p1 + (1 : Int32)) * T.1)) < 0 ∧ (((p1 + (1 : Int32)) * T.1)).toNatClampNeg + (((T.2.2.2 * T.1) - ((p1 + (1 : Int32)) * T.1))).toNatClampNeg ≤ T.2.1 ∧ ((((p1 + (1 : Int32)) * T.1) - T.1)).toNatClampNeg + (((T.2.2.2 * T.1) - ((p1 + (1 : Int32)) * T.1))).toNatClampNeg ≤ T.2.1 then
          some ((T.1, T.2.1, (va_cpy T.2.2.1 T.2.2.1 (((p1 + (1 : Int32)) * T.1)).toNatClampNeg ((((p1 + (1 : Int32)) * T.1) - T.1)).toNatClampNeg (((T.2.2.2 * T.1) - ((p1 + (1 : Int32)) * T.1))).toNatClampNeg), (T.2.2.2 - (1 : Int32))))
        else none
      else
        some (T)
def fX4_clear (T : Tab) : Option (Tab) :=
  some ((T.1, T.2.1, T.2.2.1, (0 : Int32)))
def fX4_copyFrom (T : Tab) (o_T : Tab) : Option (Tab) :=
  if ¬ (0 : Int32) < 0 ∧ ¬ (0 : Int32) < 0 ∧ ¬ (if (Int32.ofNat T.2.1) < (Int32.ofNat o_T.2.1) then (Int32.ofNat T.2.1) else (Int32.ofNat o_T.2.1)) < 0 ∧ ((0 : Int32)).toNatClampNeg + ((if (Int32.ofNat T.2.1) < (Int32.ofNat o_T.2.1) then (Int32.ofNat T.2.1) else (Int32.ofNat o_T.2.1))).toNatClampNeg ≤ o_T.2.1 ∧ ((0 : Int32)).toNatClampNeg + ((if (Int32.ofNat T.2.1) < (Int32.ofNat o_T.2.1) then (Int32.ofNat T.2.1) else (Int32.ofNat o_T.2.1))).toNatClampNeg ≤ T.2.1 then
    some ((T.1, T.2.1, (va_cpy o_T.2.2.1 T.2.2.1 ((0 : Int32)).toNatClampNeg ((0 : Int32)).toNatClampNeg ((if (Int32.ofNat T.2.1) < (Int32.ofNat o_T.2.1) then (Int32.ofNat T.2.1) else (Int32.ofNat o_T.2.1))).toNatClampNeg), o_T.2.2.2))
  else none
def fX0_count (er : Tab) : Option (Int32) :=
  (fX4_count er).bind fun x1 =>
  some (x1)
def fX0_ended (er : Tab) (eb : Int32) : Option (Int32) :=
  (fX4_count er).bind fun x1 =>
  some ((eb - x1))
def fX0_about (er : Tab) (p1 : Int32) (p2 : Int32) : Option (Int32) :=
  (fX4_at er p1 p2).bind fun x1 =>
  some (x1)
def fX0_birthOf (er : Tab) (p1 : Int32) : Option (Int32) :=
  (fX4_at er p1 (7 : Int32)).bind fun x1 =>
  some (x1)
def fX0_isThere_L2 (fu : Nat) (er : Tab) (p1 : Int32) : Nat → Int32 → Option (Bool)
  | 0, _ => none
  | k + 1, v2 =>
    (fX4_count er).bind fun x1 =>
    if x1 ≤ v2 then
      some (false)
    else
      (fX4_at er v2 (7 : Int32)).bind fun x2 =>
      if x2 = p1 then
        some (true)
      else
        fX0_isThere_L2 fu er p1 k (v2 + 1)
def fX0_isThere (fu : Nat) (er : Tab) (p1 : Int32) : Option (Bool) :=
  fX0_isThere_L2 fu er p1 fu (0 : Int32)
def fX0_heldBy_L2 (fu : Nat) (er : Tab) (p1 : Int32) : Nat → Int32 → Option (Int32)
  | 0, _ => none
  | k + 1, v2 =>
    (fX4_count er).bind fun x1 =>
    if x1 ≤ v2 then
      some ((-1 : Int32))
    else
      (fX4_at er v2 (6 : Int32)).bind fun x2 =>
      if x2 = (1 : Int32) then
        (fX4_at er v2 (2 : Int32)).bind fun x3 =>
        if x3 = p1 then
          some (v2)
        else
          fX0_heldBy_L2 fu er p1 k (v2 + 1)
      else
        fX0_heldBy_L2 fu er p1 k (v2 + 1)
def fX0_heldBy (fu : Nat) (er : Tab) (p1 : Int32) : Option (Int32) :=
  fX0_heldBy_L2 fu er p1 fu (0 : Int32)
def fX0_countOn_L4 (fu : Nat) (er : Tab) (p1 : Int32) : Nat → Int32 → Int32 → Option (Int32)
  | 0, _, _ => none
  | k + 1, v2, v3 =>
    (fX4_count er).bind fun x1 =>
    if x1 ≤ v3 then
      some (v2)
    else
      (fX4_at er v3 (3 : Int32)).bind fun x2 =>
      if x2 = p1 then
        fX0_countOn_L4 fu er p1 k (v2 + 1) (v3 + 1)
      else
        fX0_countOn_L4 fu er p1 k v2 (v3 + 1)
def fX0_countOn (fu : Nat) (er : Tab) (p1 : Int32) : Option (Int32) :=
  fX0_countOn_L4 fu er p1 fu (0 : Int32) (0 : Int32)
def fX0_powerOn_L5 (fu : Nat) (er : Tab) (p1 : Int32) (p2 : Int32) : Nat → Int32 → Int32 → Option (Int32)
  | 0, _, _ => none
  | k + 1, v3, v4 =>
    (fX4_count er).bind fun x1 =>
    if x1 ≤ v4 then
      some (v3)
    else
      (fX4_at er v4 (3 : Int32)).bind fun x2 =>
      if x2 = p1 then
        (fX4_at er v4 (0 : Int32)).bind fun x3 =>
        if x3 = p2 then
          (fX4_at er v4 (1 : Int32)).bind fun x4 =>
          fX0_powerOn_L5 fu er p1 p2 k (v3 + x4) (v4 + 1)
        else
          fX0_powerOn_L5 fu er p1 p2 k v3 (v4 + 1)
      else
        fX0_powerOn_L5 fu er p1 p2 k v3 (v4 + 1)
def fX0_powerOn (fu : Nat) (er : Tab) (p1 : Int32) (p2 : Int32) : Option (Int32) :=
  fX0_powerOn_L5 fu er p1 p2 fu (0 : Int32) (0 : Int32)
def fX0_poisonBornAfter_J32 (fu : Nat) (er : Tab) (p1 : Int32) (p2 : Int32) (v3 : Int32) (t0 : Bool) (rec : Int32 → Option (Int32)) : Option (Int32) :=
  if (bI t0) = 0 then
    rec (v3 + 1)
  else
    (fX4_at er v3 (3 : Int32)).bind fun x3 =>
    if x3 = p1 then
      (fX4_at er v3 (0 : Int32)).bind fun x4 =>
      if x4 = 0 then
        some (v3)
      else
        rec (v3 + 1)
    else
      rec (v3 + 1)
def fX0_poisonBornAfter_L2 (fu : Nat) (er : Tab) (p1 : Int32) (p2 : Int32) : Nat → Int32 → Option (Int32)
  | 0, _ => none
  | k + 1, v3 =>
    (fX4_count er).bind fun x1 =>
    if x1 ≤ v3 then
      some ((-1 : Int32))
    else
      (fX4_at er v3 (7 : Int32)).bind fun x2 =>
      if x2 ≤ p2 then
        fX0_poisonBornAfter_J32 fu er p1 p2 v3 false (fun v3 => fX0_poisonBornAfter_L2 fu er p1 p2 k v3)
      else
        fX0_poisonBornAfter_J32 fu er p1 p2 v3 true (fun v3 => fX0_poisonBornAfter_L2 fu er p1 p2 k v3)
def fX0_poisonBornAfter (fu : Nat) (er : Tab) (p1 : Int32) (p2 : Int32) : Option (Int32) :=
  fX0_poisonBornAfter_L2 fu er p1 p2 fu (0 : Int32)
def fX0_endHeldBy (fu : Nat) (er : Tab) (p1 : Int32) : Option (Tab) :=
  (fX0_heldBy fu er p1).bind fun x1 =>
  (fX4_remove er x1).bind fun x2 =>
  some (x2)
def fX0_begin_J17 (fu : Nat) (eb : Int32) (p1 : Int32) (p2 : Int32) (p3 : Int32) (p4 : Int32) (p5 : Int32) (p6 : Int32) (er : Tab) (v7 : Int32) : Option (Tab × Int32) :=
  (fX4_isFull er).bind fun x1 =>
  if (bI x1) = 0 then
    (fX4_count er).bind fun x2 =>
    (fX4_insert fu er x2).bind fun x3 =>
    (fX4_put x3 x2 (0 : Int32) p1).bind fun x4 =>
    (fX4_put x4 x2 (1 : Int32) p2).bind fun x5 =>
    (fX4_put x5 x2 (2 : Int32) p3).bind fun x6 =>
    (fX4_put x6 x2 (3 : Int32) p4).bind fun x7 =>
    (fX4_put x7 x2 (4 : Int32) p5).bind fun x8 =>
    (fX4_put x8 x2 (5 : Int32) (p6 / (2 : Int32))).bind fun x9 =>
    (fX4_put x9 x2 (6 : Int32) v7).bind fun x10 =>
    (fX4_put x10 x2 (7 : Int32) eb).bind fun x11 =>
    some (x11, (eb + (1 : Int32)))
  else
    some (er, eb)
def fX0_begin (fu : Nat) (er : Tab) (eb : Int32) (p1 : Int32) (p2 : Int32) (p3 : Int32) (p4 : Int32) (p5 : Int32) (p6 : Int32) : Option (Tab × Int32) :=
  if (p6 - p6 / (2 : Int32) * (2 : Int32)) = (1 : Int32) then
    (fX0_endHeldBy fu er p3).bind fun x12 =>
    fX0_begin_J17 fu eb p1 p2 p3 p4 p5 p6 x12 (p6 - p6 / (2 : Int32) * (2 : Int32))
  else
    fX0_begin_J17 fu eb p1 p2 p3 p4 p5 p6 er (p6 - p6 / (2 : Int32) * (2 : Int32))
def fX0_endOfFallen_J76 (fu : Nat) (p1 : Int32) (er : Tab) (v2 : Int32) (rec : Tab → Int32 → Option (Tab)) : Option (Tab) :=
  (fX4_remove er v2).bind fun x4 =>
  rec x4 (v2 + (-1))
def fX0_endOfFallen_J45 (fu : Nat) (p1 : Int32) (er : Tab) (v2 : Int32) (t0 : Bool) (rec : Tab → Int32 → Option (Tab)) : Option (Tab) :=
  (fX4_at er v2 (3 : Int32)).bind fun x3 =>
  if x3 = p1 then
    fX0_endOfFallen_J76 fu p1 er v2 rec
  else
    if (bI t0) = 0 then
      rec er (v2 + (-1))
    else
      (fX4_at er v2 (2 : Int32)).bind fun x5 =>
      if x5 = p1 then
        fX0_endOfFallen_J76 fu p1 er v2 rec
      else
        rec er (v2 + (-1))
def fX0_endOfFallen_J40 (fu : Nat) (p1 : Int32) (er : Tab) (v2 : Int32) (rec : Tab → Int32 → Option (Tab)) : Option (Tab) :=
  fX0_endOfFallen_J45 fu p1 er v2 true rec
def fX0_endOfFallen_L10 (fu : Nat) (p1 : Int32) : Nat → Tab → Int32 → Option (Tab)
  | 0, _, _ => none
  | k + 1, er, v2 =>
    if v2 < 0 then
      some (er)
    else
      (fX4_at er v2 (6 : Int32)).bind fun x2 =>
      if x2 = (1 : Int32) then
        fX0_endOfFallen_J40 fu p1 er v2 (fun er v2 => fX0_endOfFallen_L10 fu p1 k er v2)
      else
        (fX4_at er v2 (5 : Int32)).bind fun x6 =>
        if x6 = 0 then
          fX0_endOfFallen_J40 fu p1 er v2 (fun er v2 => fX0_endOfFallen_L10 fu p1 k er v2)
        else
          fX0_endOfFallen_J45 fu p1 er v2 false (fun er v2 => fX0_endOfFallen_L10 fu p1 k er v2)
def fX0_endOfFallen (fu : Nat) (er : Tab) (p1 : Int32) : Option (Tab) :=
  (fX4_count er).bind fun x1 =>
  fX0_endOfFallen_L10 fu p1 fu er (x1 - (1 : Int32))
def fX0_countDown_J33 (fu : Nat) (p1 : Int32) (er : Tab) (v2 : Int32) (v3 : Int32) (t0 : Int32) (rec : Tab → Int32 → Option (Int32 × Tab)) : Option (Int32 × Tab) :=
  (fX4_at er v3 t0).bind fun x4 =>
  if x4 = p1 then
    (fX4_at er v3 (4 : Int32)).bind fun x5 =>
    (fX4_put er v3 (4 : Int32) (x5 - (1 : Int32))).bind fun x6 =>
    if 0 < (x5 - (1 : Int32)) then
      rec x6 (v3 + (-1))
    else
      (fX4_remove x6 v3).bind fun x7 =>
      rec x7 (v3 + (-1))
  else
    rec er (v3 + (-1))
def fX0_countDown_L12 (fu : Nat) (p1 : Int32) (v2 : Int32) : Nat → Tab → Int32 → Option (Int32 × Tab)
  | 0, _, _ => none
  | k + 1, er, v3 =>
    if v3 < 0 then
      (fX4_count er).bind fun x2 =>
      some ((v2 - x2), er)
    else
      (fX4_at er v3 (5 : Int32)).bind fun x3 =>
      if x3 = 0 then
        fX0_countDown_J33 fu p1 er v2 v3 (2 : Int32) (fun er v3 => fX0_countDown_L12 fu p1 v2 k er v3)
      else
        fX0_countDown_J33 fu p1 er v2 v3 (3 : Int32) (fun er v3 => fX0_countDown_L12 fu p1 v2 k er v3)
def fX0_countDown (fu : Nat) (er : Tab) (p1 : Int32) : Option (Int32 × Tab) :=
  (fX4_count er).bind fun x1 =>
  fX0_countDown_L12 fu p1 x1 fu er (x1 - (1 : Int32))
def fX0_copyFrom (er : Tab) (eb : Int32) (o_er : Tab) (o_eb : Int32) : Option (Tab × Int32) :=
  (fX4_copyFrom er o_er).bind fun x1 =>
  some (x1, o_eb)
def fX1_copyFrom (ft : Tab) (er : Tab) (eb : Int32) (li : Tab) (st : Tab) (rd : Int32) (tu : Int32) (la : Int32) (dl : Bool) (sh : Int32) (tb : Int32) (o_ft : Tab) (o_er : Tab) (o_eb : Int32) (o_li : Tab) (o_st : Tab) (o_rd : Int32) (o_tu : Int32) (o_la : Int32) (o_dl : Bool) (o_sh : Int32) (o_tb : Int32) : Option (Tab × Tab × Int32 × Tab × Tab × Int32 × Int32 × Int32 × Bool × Int32 × Int32) :=
  (fX4_copyFrom ft o_ft).bind fun x1 =>
  (fX0_copyFrom er eb o_er o_eb).bind fun x2 =>
  (fX4_copyFrom li o_li).bind fun x3 =>
  (fX4_copyFrom st o_st).bind fun x4 =>
  some (x1, x2.1, x2.2, x3, x4, o_rd, o_tu, o_la, o_dl, o_sh, o_tb)
def fX1_fighterCount (ft : Tab) : Option (Int32) :=
  (fX4_count ft).bind fun x1 =>
  some (x1)
def fX1_isFighter (ft : Tab) (p1 : Int32) : Option (Bool) :=
  if p1 < 0 then
    some (false)
  else
    (fX4_count ft).bind fun x1 =>
    if x1 ≤ p1 then
      some (false)
    else
      some (true)
def fX1_presentSpeed (fu : Nat) (ft : Tab) (er : Tab) (p1 : Int32) : Option (Int32) :=
  (fX0_powerOn fu er p1 (1 : Int32)).bind fun x1 =>
  (fX0_powerOn fu er p1 (2 : Int32)).bind fun x2 =>
  (fX4_at ft p1 (0 : Int32)).bind fun x3 =>
  some ((if (1 : Int32) < ((x3 + x1) - x2) then ((x3 + x1) - x2) else (1 : Int32)))
def fX1_placeOf_L2 (fu : Nat) (li : Tab) (p1 : Int32) : Nat → Int32 → Option (Int32)
  | 0, _ => none
  | k + 1, v2 =>
    (fX4_count li).bind fun x1 =>
    if x1 ≤ v2 then
      some ((-1 : Int32))
    else
      (fX4_at li v2 (0 : Int32)).bind fun x2 =>
      if x2 = p1 then
        some (v2)
      else
        fX1_placeOf_L2 fu li p1 k (v2 + 1)
def fX1_placeOf (fu : Nat) (li : Tab) (p1 : Int32) : Option (Int32) :=
  fX1_placeOf_L2 fu li p1 fu (0 : Int32)
def fX1_stateOf (fu : Nat) (li : Tab) (p1 : Int32) : Option (Int32) :=
  (fX1_placeOf fu li p1).bind fun x1 =>
  (fX4_at li x1 (1 : Int32)).bind fun x2 =>
  some (x2)
def fX1_aboutFighter (fu : Nat) (ft : Tab) (er : Tab) (li : Tab) (p1 : Int32) (p2 : Int32) : Option (Int32) :=
  if p2 = 0 then
    (fX4_at ft p1 (0 : Int32)).bind fun x2 =>
    some (x2)
  else
  if p2 = 1 then
    (fX4_at ft p1 (1 : Int32)).bind fun x4 =>
    some (x4)
  else
  if p2 = 2 then
    (fX4_at ft p1 (2 : Int32)).bind fun x6 =>
    some (x6)
  else
  if p2 = 3 then
    (fX1_presentSpeed fu ft er p1).bind fun x8 =>
    some (x8)
  else
  if p2 = 4 then
    (fX4_at ft p1 (3 : Int32)).bind fun x10 =>
    some (x10)
  else
  if p2 = 5 then
    (fX1_stateOf fu li p1).bind fun x12 =>
    some (x12)
  else
  if p2 = 6 then
    (fX1_placeOf fu li p1).bind fun x14 =>
    some (x14)
  else
  if p2 = 7 then
    (fX0_heldBy fu er p1).bind fun x16 =>
    some (x16)
  else
  (fX0_countOn fu er p1).bind fun x17 =>
  some (x17)
def fX1_effectCount (er : Tab) : Option (Int32) :=
  (fX0_count er).bind fun x1 =>
  some (x1)
def fX1_aboutEffect (er : Tab) (p1 : Int32) (p2 : Int32) : Option (Int32) :=
  (fX0_about er p1 p2).bind fun x1 =>
  some (x1)
def fX1_birthOf (er : Tab) (p1 : Int32) : Option (Int32) :=
  (fX0_birthOf er p1).bind fun x1 =>
  some (x1)
def fX1_hasEffectBorn (fu : Nat) (er : Tab) (p1 : Int32) : Option (Bool) :=
  (fX0_isThere fu er p1).bind fun x1 =>
  some (x1)
def fX1_stands (ft : Tab) (p1 : Int32) : Option (Bool) :=
  (fX4_at ft p1 (2 : Int32)).bind fun x1 =>
  if x1 ≤ 0 then
    some (false)
  else
    some (true)
def fX1_standing_L4 (fu : Nat) (ft : Tab) : Nat → Int32 → Int32 → Option (Int32)
  | 0, _, _ => none
  | k + 1, v1, v2 =>
    (fX4_count ft).bind fun x1 =>
    if x1 ≤ v2 then
      some (v1)
    else
      (fX1_stands ft v2).bind fun x2 =>
      if (bI x2) = 0 then
        fX1_standing_L4 fu ft k v1 (v2 + 1)
      else
        fX1_standing_L4 fu ft k (v1 + 1) (v2 + 1)
def fX1_standing (fu : Nat) (ft : Tab) : Option (Int32) :=
  fX1_standing_L4 fu ft fu (0 : Int32) (0 : Int32)
def fX1_number (fu : Nat) (ft : Tab) (er : Tab) (eb : Int32) (st : Tab) (rd : Int32) (tu : Int32) (sh : Int32) (tb : Int32) (p1 : Int32) : Option (Int32) :=
  if p1 = 0 then
    (fX4_count ft).bind fun x2 =>
    some (x2)
  else
  if p1 = 1 then
    (fX1_standing fu ft).bind fun x4 =>
    some (x4)
  else
  if p1 = 2 then
    (fX0_count er).bind fun x6 =>
    some (x6)
  else
  if p1 = 3 then
    some (rd)
  else
  if p1 = 4 then
    some (tu)
  else
  if p1 = 5 then
    (fX4_count st).bind fun x10 =>
    some (x10)
  else
  if p1 = 6 then
    some (sh)
  else
  if p1 = 7 then
    some (tb)
  else
  (fX0_ended er eb).bind fun x13 =>
  some (x13)
def fX1_listLength (li : Tab) : Option (Int32) :=
  (fX4_count li).bind fun x1 =>
  some (x1)
def fX1_listed (li : Tab) (p1 : Int32) : Option (Int32) :=
  (fX4_at li p1 (0 : Int32)).bind fun x1 =>
  some (x1)
def fX1_stackSize (st : Tab) : Option (Int32) :=
  (fX4_count st).bind fun x1 =>
  some (x1)
def fX1_aboutAct (st : Tab) (p1 : Int32) (p2 : Int32) : Option (Int32) :=
  (fX4_count st).bind fun x1 =>
  (fX4_at st ((x1 - (1 : Int32)) - p1) p2).bind fun x2 =>
  some (x2)
def fX1_presentTurn (tu : Int32) : Option (Int32) :=
  some (tu)
def fX1_total_L4 (fu : Nat) (ft : Tab) (p1 : Int32) : Nat → Int32 → Int32 → Option (Int32)
  | 0, _, _ => none
  | k + 1, v2, v3 =>
    (fX4_count ft).bind fun x1 =>
    if x1 ≤ v3 then
      some (v2)
    else
      (fX4_at ft v3 p1).bind fun x2 =>
      fX1_total_L4 fu ft p1 k (v2 + x2) (v3 + 1)
def fX1_total (fu : Nat) (ft : Tab) (p1 : Int32) : Option (Int32) :=
  fX1_total_L4 fu ft p1 fu (0 : Int32) (0 : Int32)
def fX1_lives (fu : Nat) (ft : Tab) : Option (Int32) :=
  (fX1_total fu ft (2 : Int32)).bind fun x1 =>
  some (x1)
def fX1_join (fu : Nat) (ft : Tab) (p1 : Int32) (p2 : Int32) : Option (Int32 × Tab) :=
  (fX4_count ft).bind fun x1 =>
  (fX4_insert fu ft x1).bind fun x2 =>
  (fX4_put x2 x1 (0 : Int32) p1).bind fun x3 =>
  (fX4_put x3 x1 (1 : Int32) p2).bind fun x4 =>
  (fX4_put x4 x1 (2 : Int32) p2).bind fun x5 =>
  (fX4_put x5 x1 (3 : Int32) (1 : Int32)).bind fun x6 =>
  some (x1, x6)
def fX1_changeSpeed (ft : Tab) (p1 : Int32) (p2 : Int32) : Option (Int32 × Tab) :=
  (fX4_at ft p1 (0 : Int32)).bind fun x1 =>
  (fX4_put ft p1 (0 : Int32) p2).bind fun x2 =>
  some (x1, x2)
def fX1_changeShock (sh : Int32) (p1 : Int32) : Option (Int32 × Int32) :=
  some (sh, p1)
def fX1_mayBeginTurn (tu : Int32) : Option (Bool) :=
  if tu = (-1 : Int32) then
    some (true)
  else
    some (false)
def fX1_firstWaiting_L2 (fu : Nat) (ft : Tab) (li : Tab) : Nat → Int32 → Option (Int32)
  | 0, _ => none
  | k + 1, v1 =>
    (fX4_count li).bind fun x1 =>
    if x1 ≤ v1 then
      some ((-1 : Int32))
    else
      (fX4_at li v1 (0 : Int32)).bind fun x2 =>
      (fX4_at li v1 (1 : Int32)).bind fun x3 =>
      if x3 = 0 then
        (fX1_stands ft x2).bind fun x4 =>
        if (bI x4) = 0 then
          fX1_firstWaiting_L2 fu ft li k (v1 + 1)
        else
          some (x2)
      else
        fX1_firstWaiting_L2 fu ft li k (v1 + 1)
def fX1_firstWaiting (fu : Nat) (ft : Tab) (li : Tab) : Option (Int32) :=
  fX1_firstWaiting_L2 fu ft li fu (0 : Int32)
def fX1_enlist_J57 (fu : Nat) (ft : Tab) (er : Tab) (li : Tab) (p1 : Int32) (v3 : Int32) : Option (Tab) :=
  (fX4_insert fu li v3).bind fun x4 =>
  (fX4_put x4 v3 (0 : Int32) p1).bind fun x5 =>
  (fX4_put x5 v3 (1 : Int32) (0 : Int32)).bind fun x6 =>
  some (x6)
def fX1_enlist_L25 (fu : Nat) (ft : Tab) (er : Tab) (li : Tab) (p1 : Int32) (v2 : Int32) : Nat → Int32 → Int32 → Option (Tab)
  | 0, _, _ => none
  | k + 1, v3, v4 =>
    if v4 < 0 then
      fX1_enlist_J57 fu ft er li p1 v3
    else
      (fX4_at li v4 (0 : Int32)).bind fun x7 =>
      (fX1_presentSpeed fu ft er x7).bind fun x8 =>
      if v2 ≤ x8 then
        fX1_enlist_J57 fu ft er li p1 v3
      else
        fX1_enlist_L25 fu ft er li p1 v2 k v4 (v4 + (-1))
def fX1_enlist (fu : Nat) (ft : Tab) (er : Tab) (li : Tab) (p1 : Int32) : Option (Tab) :=
  (fX1_presentSpeed fu ft er p1).bind fun x1 =>
  (fX4_count li).bind fun x2 =>
  (fX4_count li).bind fun x3 =>
  fX1_enlist_L25 fu ft er li p1 x1 fu x2 (x3 - (1 : Int32))
def fX1_beginRound_L19 (fu : Nat) (ft : Tab) (er : Tab) (rd : Int32) : Nat → Tab → Int32 → Option (Tab × Int32)
  | 0, _, _ => none
  | k + 1, li, v1 =>
    (fX4_count ft).bind fun x2 =>
    if x2 ≤ v1 then
      some (li, rd)
    else
      (fX1_stands ft v1).bind fun x3 =>
      if (bI x3) = 0 then
        fX1_beginRound_L19 fu ft er rd k li (v1 + 1)
      else
        (fX1_enlist fu ft er li v1).bind fun x4 =>
        fX1_beginRound_L19 fu ft er rd k x4 (v1 + 1)
def fX1_beginRound (fu : Nat) (ft : Tab) (er : Tab) (li : Tab) (rd : Int32) : Option (Tab × Int32) :=
  (fX4_clear li).bind fun x1 =>
  fX1_beginRound_L19 fu ft er (rd + (1 : Int32)) fu x1 (0 : Int32)
def fX1_takeTurn (fu : Nat) (li : Tab) (tu : Int32) (la : Int32) (p1 : Int32) : Option (Tab × Int32 × Int32) :=
  (fX1_placeOf fu li p1).bind fun x1 =>
  (fX4_put li x1 (1 : Int32) (1 : Int32)).bind fun x2 =>
  some (x2, p1, p1)
def fX1_harm (fu : Nat) (ft : Tab) (er : Tab) (sh : Int32) (p1 : Int32) (p2 : Int32) : Option (Tab × Tab) :=
  (fX4_at ft p1 (2 : Int32)).bind fun x1 =>
  (fX4_put ft p1 (2 : Int32) (x1 - (if x1 < p2 then x1 else p2))).bind fun x2 =>
  if (if x1 < p2 then x1 else p2) < x1 then
    if (if x1 < p2 then x1 else p2) < sh then
      some (x2, er)
    else
      (fX0_endHeldBy fu er p1).bind fun x3 =>
      some (x2, x3)
  else
    (fX0_endOfFallen fu er p1).bind fun x4 =>
    some (x2, x4)
def fX1_sufferPoison_L4 (fu : Nat) (sh : Int32) (p1 : Int32) : Nat → Tab → Tab → Int32 → Int32 → Option (Tab × Tab)
  | 0, _, _, _, _ => none
  | k + 1, ft, er, v2, v3 =>
    if (30 : Int32) ≤ v3 then
      some (ft, er)
    else
      (fX0_poisonBornAfter fu er p1 v2).bind fun x1 =>
      if x1 = (-1 : Int32) then
        some (ft, er)
      else
        (fX0_birthOf er x1).bind fun x2 =>
        (fX0_about er x1 (1 : Int32)).bind fun x3 =>
        (fX1_harm fu ft er sh p1 x3).bind fun x4 =>
        fX1_sufferPoison_L4 fu sh p1 k x4.1 x4.2 x2 (v3 + 1)
def fX1_sufferPoison (fu : Nat) (ft : Tab) (er : Tab) (sh : Int32) (p1 : Int32) : Option (Tab × Tab) :=
  fX1_sufferPoison_L4 fu sh p1 fu ft er (-1 : Int32) (0 : Int32)
def fX1_endTurn (fu : Nat) (er : Tab) (tu : Int32) : Option (Int32 × Tab × Int32) :=
  (fX0_countDown fu er tu).bind fun x1 =>
  some (x1.1, x1.2, (-1 : Int32))
def fX1_beginTurn_J19 (fu : Nat) (ft : Tab) (er : Tab) (tu : Int32) (la : Int32) (dl : Bool) (sh : Int32) (tb : Int32) (li : Tab) (rd : Int32) (v1 : Int32) : Option (Int32 × Tab × Tab × Tab × Int32 × Int32 × Int32 × Bool × Int32) :=
  if v1 = (-1 : Int32) then
    some ((-1 : Int32), ft, er, li, rd, tu, la, dl, tb)
  else
    (fX1_takeTurn fu li tu la v1).bind fun x2 =>
    (fX4_put ft v1 (3 : Int32) (1 : Int32)).bind fun x3 =>
    (fX1_sufferPoison fu x3 er sh v1).bind fun x4 =>
    (fX1_stands x4.1 v1).bind fun x5 =>
    if (bI x5) = 0 then
      some (v1, x4.1, x4.2, x2.1, rd, (-1 : Int32), x2.2.2, true, (tb + (1 : Int32)))
    else
      (fX0_powerOn fu x4.2 v1 (4 : Int32)).bind fun x6 =>
      if x6 ≤ 0 then
        some (v1, x4.1, x4.2, x2.1, rd, x2.2.1, x2.2.2, true, (tb + (1 : Int32)))
      else
        (fX1_endTurn fu x4.2 x2.2.1).bind fun x7 =>
        some (v1, x4.1, x7.2.1, x2.1, rd, x7.2.2, x2.2.2, true, (tb + (1 : Int32)))
def fX1_beginTurn (fu : Nat) (ft : Tab) (er : Tab) (li : Tab) (rd : Int32) (tu : Int32) (la : Int32) (dl : Bool) (sh : Int32) (tb : Int32) : Option (Int32 × Tab × Tab × Tab × Int32 × Int32 × Int32 × Bool × Int32) :=
  (fX1_firstWaiting fu ft li).bind fun x1 =>
  if x1 = (-1 : Int32) then
    (fX1_beginRound fu ft er li rd).bind fun x8 =>
    (fX1_firstWaiting fu ft x8.1).bind fun x9 =>
    fX1_beginTurn_J19 fu ft er tu la dl sh tb x8.1 x8.2 x9
  else
    fX1_beginTurn_J19 fu ft er tu la dl sh tb li rd x1
def fX1_mayEndTurn (st : Tab) (tu : Int32) : Option (Bool) :=
  if tu = (-1 : Int32) then
    some (false)
  else
    (fX4_count st).bind fun x1 =>
    if x1 = 0 then
      some (true)
    else
      some (false)
def fX1_mayDelayTurn (tu : Int32) (dl : Bool) : Option (Bool) :=
  if tu = (-1 : Int32) then
    some (false)
  else
    if (bI dl) = 0 then
      some (false)
    else
      some (true)
def fX1_delayTurn (fu : Nat) (li : Tab) (tu : Int32) : Option (Int32 × Tab × Int32) :=
  (fX1_placeOf fu li tu).bind fun x1 =>
  (fX4_put li x1 (1 : Int32) (2 : Int32)).bind fun x2 =>
  some (tu, x2, (-1 : Int32))
def fX1_mayResumeTurn (fu : Nat) (ft : Tab) (li : Tab) (tu : Int32) (p1 : Int32) : Option (Bool) :=
  if tu = (-1 : Int32) then
    (fX1_stateOf fu li p1).bind fun x1 =>
    if x1 = (2 : Int32) then
      (fX1_stands ft p1).bind fun x2 =>
      if (bI x2) = 0 then
        some (false)
      else
        some (true)
    else
      some (false)
  else
    some (false)
def fX1_resumeTurn_J49 (fu : Nat) (tu : Int32) (la : Int32) (dl : Bool) (p1 : Int32) (li : Tab) : Option (Int32 × Tab × Int32 × Int32 × Bool) :=
  (fX1_takeTurn fu li tu la p1).bind fun x1 =>
  (fX1_placeOf fu x1.1 p1).bind fun x2 =>
  some (x2, x1.1, x1.2.1, x1.2.2, false)
def fX1_resumeTurn (fu : Nat) (li : Tab) (tu : Int32) (la : Int32) (dl : Bool) (p1 : Int32) : Option (Int32 × Tab × Int32 × Int32 × Bool) :=
  if p1 = la then
    fX1_resumeTurn_J49 fu tu la dl p1 li
  else
    (fX1_placeOf fu li p1).bind fun x3 =>
    (fX4_remove li x3).bind fun x4 =>
    (fX1_placeOf fu x4 la).bind fun x5 =>
    (fX4_insert fu x4 (x5 + (1 : Int32))).bind fun x6 =>
    (fX4_put x6 (x5 + (1 : Int32)) (0 : Int32) p1).bind fun x7 =>
    fX1_resumeTurn_J49 fu tu la dl p1 x7
def fX1_canAnswer_J52 (ft : Tab) (st : Tab) (p1 : Int32) (v2 : Bool) (t0 : Bool) : Option (Bool) :=
  if (bI v2) = 0 then
    some (false)
  else
    if (bI t0) = 0 then
      some (false)
    else
      (fX1_aboutAct st (0 : Int32) (1 : Int32)).bind fun x3 =>
      if x3 = p1 then
        some (false)
      else
        some (true)
def fX1_canAnswer_J51 (ft : Tab) (st : Tab) (p1 : Int32) (v2 : Bool) : Option (Bool) :=
  fX1_canAnswer_J52 ft st p1 v2 false
def fX1_canAnswer_J25 (ft : Tab) (st : Tab) (p1 : Int32) (t0 : Bool) : Option (Bool) :=
  (fX1_stands ft p1).bind fun x2 =>
  if (bI x2) = 0 then
    fX1_canAnswer_J51 ft st p1 t0
  else
    (fX4_at ft p1 (3 : Int32)).bind fun x4 =>
    if x4 = (1 : Int32) then
      fX1_canAnswer_J52 ft st p1 t0 true
    else
      fX1_canAnswer_J51 ft st p1 t0
def fX1_canAnswer_J24 (ft : Tab) (st : Tab) (p1 : Int32) : Option (Bool) :=
  fX1_canAnswer_J25 ft st p1 false
def fX1_canAnswer (ft : Tab) (st : Tab) (p1 : Int32) : Option (Bool) :=
  (fX4_count st).bind fun x1 =>
  if x1 ≤ 0 then
    fX1_canAnswer_J24 ft st p1
  else
    (fX4_isFull st).bind fun x5 =>
    if (bI x5) = 0 then
      fX1_canAnswer_J25 ft st p1 true
    else
      fX1_canAnswer_J24 ft st p1
def fX1_mayAct (ft : Tab) (st : Tab) (tu : Int32) (p1 : Int32) (p2 : Int32) : Option (Bool) :=
  (fX4_count st).bind fun x1 =>
  if x1 ≤ 0 then
    if tu = (-1 : Int32) then
      some (false)
    else
      if p1 = tu then
        if p2 = (3 : Int32) then
          some (false)
        else
          some (true)
      else
        some (false)
  else
    (fX1_canAnswer ft st p1).bind fun x2 =>
    some (x2)
def fX1_beginAct_J20 (fu : Nat) (st : Tab) (dl : Bool) (p1 : Int32) (p2 : Int32) (p3 : Int32) (p4 : Int32) (p5 : Int32) (p6 : Int32) (p7 : Int32) (ft : Tab) : Option (Int32 × Tab × Tab × Bool) :=
  (fX4_count st).bind fun x2 =>
  (fX4_insert fu st x2).bind fun x3 =>
  (fX4_put x3 x2 (0 : Int32) p1).bind fun x4 =>
  (fX4_put x4 x2 (1 : Int32) p2).bind fun x5 =>
  (fX4_put x5 x2 (2 : Int32) p3).bind fun x6 =>
  (fX4_put x6 x2 (3 : Int32) p4).bind fun x7 =>
  (fX4_put x7 x2 (4 : Int32) p5).bind fun x8 =>
  (fX4_put x8 x2 (5 : Int32) p6).bind fun x9 =>
  (fX4_put x9 x2 (6 : Int32) p7).bind fun x10 =>
  (fX4_count x10).bind fun x11 =>
  some (x11, ft, x10, false)
def fX1_beginAct (fu : Nat) (ft : Tab) (st : Tab) (dl : Bool) (p1 : Int32) (p2 : Int32) (p3 : Int32) (p4 : Int32) (p5 : Int32) (p6 : Int32) (p7 : Int32) : Option (Int32 × Tab × Tab × Bool) :=
  (fX4_count st).bind fun x1 =>
  if x1 ≤ 0 then
    fX1_beginAct_J20 fu st dl p1 p2 p3 p4 p5 p6 p7 ft
  else
    (fX4_put ft p2 (3 : Int32) (0 : Int32)).bind fun x12 =>
    fX1_beginAct_J20 fu st dl p1 p2 p3 p4 p5 p6 p7 x12
def fX1_maySettle (st : Tab) : Option (Bool) :=
  (fX4_count st).bind fun x1 =>
  if x1 ≤ 0 then
    some (false)
  else
    some (true)
def fX1_dropTop (st : Tab) : Option (Tab) :=
  (fX4_count st).bind fun x1 =>
  (fX4_remove st (x1 - (1 : Int32))).bind fun x2 =>
  some (x2)
def fX1_heal (ft : Tab) (p1 : Int32) (p2 : Int32) : Option (Tab) :=
  (fX4_at ft p1 (2 : Int32)).bind fun x1 =>
  (fX4_at ft p1 (1 : Int32)).bind fun x2 =>
  (fX4_put ft p1 (2 : Int32) (if x2 < (x1 + p2) then x2 else (x1 + p2))).bind fun x3 =>
  some (x3)
def fX1_settleTop_J81 (fu : Nat) (ft : Tab) (er : Tab) (eb : Int32) (sh : Int32) (st : Tab) (v1 : Int32) (v2 : Int32) (v3 : Int32) (v4 : Int32) (v5 : Int32) (v6 : Int32) (v7 : Int32) : Option (Bool × Tab × Tab × Int32 × Tab) :=
  if v1 = 0 then
    (fX0_powerOn fu er v3 (3 : Int32)).bind fun x11 =>
    (fX1_harm fu ft er sh v3 (if (0 : Int32) < (v4 - x11) then (v4 - x11) else (0 : Int32))).bind fun x12 =>
    some (true, x12.1, x12.2, eb, st)
  else
  if v1 = 1 then
    (fX1_heal ft v3 v4).bind fun x14 =>
    some (true, x14, er, eb, st)
  else
  if v1 = 2 then
    (fX0_begin fu er eb v5 v4 v2 v3 v6 v7).bind fun x16 =>
    some (true, ft, x16.1, x16.2, st)
  else
  (fX1_dropTop st).bind fun x17 =>
  some (true, ft, er, eb, x17)
def fX1_settleTop (fu : Nat) (ft : Tab) (er : Tab) (eb : Int32) (st : Tab) (sh : Int32) : Option (Bool × Tab × Tab × Int32 × Tab) :=
  (fX1_aboutAct st (0 : Int32) (0 : Int32)).bind fun x1 =>
  (fX1_aboutAct st (0 : Int32) (1 : Int32)).bind fun x2 =>
  (fX1_aboutAct st (0 : Int32) (2 : Int32)).bind fun x3 =>
  (fX1_aboutAct st (0 : Int32) (3 : Int32)).bind fun x4 =>
  (fX1_aboutAct st (0 : Int32) (4 : Int32)).bind fun x5 =>
  (fX1_aboutAct st (0 : Int32) (5 : Int32)).bind fun x6 =>
  (fX1_aboutAct st (0 : Int32) (6 : Int32)).bind fun x7 =>
  (fX1_dropTop st).bind fun x8 =>
  (fX1_stands ft x2).bind fun x9 =>
  if (bI x9) = 0 then
    some (false, ft, er, eb, x8)
  else
    if x1 = (3 : Int32) then
      fX1_settleTop_J81 fu ft er eb sh x8 x1 x2 x3 x4 x5 x6 x7
    else
      (fX1_stands ft x3).bind fun x18 =>
      if (bI x18) = 0 then
        some (false, ft, er, eb, x8)
      else
        fX1_settleTop_J81 fu ft er eb sh x8 x1 x2 x3 x4 x5 x6 x7
def fX1_settleStack_J36 (fu : Nat) (tu : Int32) (sh : Int32) (ft : Tab) (er : Tab) (eb : Int32) (st : Tab) (v1 : Int32) : Option (Int32 × Tab × Tab × Int32 × Tab × Int32) :=
  if tu = (-1 : Int32) then
    some (v1, ft, er, eb, st, tu)
  else
    (fX1_stands ft tu).bind fun x1 =>
    if (bI x1) = 0 then
      some (v1, ft, er, eb, st, (-1 : Int32))
    else
      some (v1, ft, er, eb, st, tu)
def fX1_settleStack_L4 (fu : Nat) (tu : Int32) (sh : Int32) : Nat → Tab → Tab → Int32 → Tab → Int32 → Int32 → Option (Int32 × Tab × Tab × Int32 × Tab × Int32)
  | 0, _, _, _, _, _, _ => none
  | k + 1, ft, er, eb, st, v1, v2 =>
    if (8 : Int32) ≤ v2 then
      fX1_settleStack_J36 fu tu sh ft er eb st v1
    else
      (fX4_count st).bind fun x2 =>
      if x2 ≤ 0 then
        fX1_settleStack_J36 fu tu sh ft er eb st v1
      else
        (fX1_settleTop fu ft er eb st sh).bind fun x3 =>
        if (bI x3.1) = 0 then
          fX1_settleStack_L4 fu tu sh k x3.2.1 x3.2.2.1 x3.2.2.2.1 x3.2.2.2.2 v1 (v2 + 1)
        else
          fX1_settleStack_L4 fu tu sh k x3.2.1 x3.2.2.1 x3.2.2.2.1 x3.2.2.2.2 (v1 + 1) (v2 + 1)
def fX1_settleStack (fu : Nat) (ft : Tab) (er : Tab) (eb : Int32) (st : Tab) (tu : Int32) (sh : Int32) : Option (Int32 × Tab × Tab × Int32 × Tab × Int32) :=
  fX1_settleStack_L4 fu tu sh fu ft er eb st (0 : Int32) (0 : Int32)
def fX1_abandonTurn (fu : Nat) (er : Tab) (st : Tab) (tu : Int32) : Option (Tab × Tab × Int32) :=
  (fX4_clear st).bind fun x1 =>
  if tu = (-1 : Int32) then
    some (er, x1, tu)
  else
    (fX1_endTurn fu er tu).bind fun x2 =>
    some (x2.2.1, x1, x2.2.2)
def fX1_passTurn (fu : Nat) (ft : Tab) (er : Tab) (li : Tab) (rd : Int32) (tu : Int32) (la : Int32) (dl : Bool) (sh : Int32) (tb : Int32) : Option (Int32 × Tab × Tab × Tab × Int32 × Int32 × Int32 × Bool × Int32) :=
  (fX1_beginTurn fu ft er li rd tu la dl sh tb).bind fun x1 =>
  if x1.2.2.2.2.2.1 = (-1 : Int32) then
    some (x1.1, x1.2.1, x1.2.2.1, x1.2.2.2.1, x1.2.2.2.2.1, x1.2.2.2.2.2.1, x1.2.2.2.2.2.2.1, x1.2.2.2.2.2.2.2.1, x1.2.2.2.2.2.2.2.2)
  else
    (fX1_endTurn fu x1.2.2.1 x1.2.2.2.2.2.1).bind fun x2 =>
    some (x1.1, x1.2.1, x2.2.1, x1.2.2.2.1, x1.2.2.2.2.1, x2.2.2, x1.2.2.2.2.2.2.1, x1.2.2.2.2.2.2.2.1, x1.2.2.2.2.2.2.2.2)
