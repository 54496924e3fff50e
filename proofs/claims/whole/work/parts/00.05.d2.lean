def fX2_size (yc : Int32) : Option (Int32) :=
  some (yc)
def fX2_slotAt (yp : (Nat → Nat)) (p1 : Int32) : Option (Nat) :=
  if p1 < 0 then
    none
  else
    if (Int32.ofNat 4) ≤ p1 then
      none
    else
      if ¬ (p1 < 0 ∨ 4 ≤ (p1).toNatClampNeg) then
        some (yp (p1).toNatClampNeg)
      else none
def fX2_dropOldest_L8 (fu : Nat)  : Nat → Int32 → (Nat → Nat) → Nat → Int32 → Option (Int32 × (Nat → Nat))
  | 0, _, _, _, _ => none
  | k + 1, yc, yp, v1, v2 =>
    if (Int32.ofNat 4) ≤ v2 then
      if (Int32.ofNat 4) ≤ 0 then
        some ((yc - (1 : Int32)), yp)
      else
        if ¬ (((Int32.ofNat 4) - (1 : Int32)) < 0 ∨ 4 ≤ (((Int32.ofNat 4) - (1 : Int32))).toNatClampNeg) ∧ v1 < 4 then
          some ((yc - (1 : Int32)), (va_up yp (((Int32.ofNat 4) - (1 : Int32))).toNatClampNeg v1))
        else none
    else
      if ¬ (v2 < 0 ∨ 4 ≤ (v2).toNatClampNeg) then
        if ¬ ((v2 - (1 : Int32)) < 0 ∨ 4 ≤ ((v2 - (1 : Int32))).toNatClampNeg) ∧ (yp (v2).toNatClampNeg) < 4 then
          fX2_dropOldest_L8 fu k yc (va_up yp ((v2 - (1 : Int32))).toNatClampNeg (yp (v2).toNatClampNeg)) v1 (v2 + 1)
        else none
      else none
def fX2_dropOldest (fu : Nat) (yc : Int32) (yp : (Nat → Nat)) : Option (Int32 × (Nat → Nat)) :=
  (fX2_slotAt yp (0 : Int32)).bind fun x1 =>
  fX2_dropOldest_L8 fu fu yc yp x1 (1 : Int32)
def fX2_save_J16 (fu : Nat) (o_ft : Tab) (o_er : Tab) (o_eb : Int32) (o_li : Tab) (o_st : Tab) (o_rd : Int32) (o_tu : Int32) (o_la : Int32) (o_dl : Bool) (o_sh : Int32) (o_tb : Int32) (yc : Int32) (yp : (Nat → Nat)) (yg : (Nat → GV)) : Option (Int32 × (Nat → Nat) × (Nat → GV)) :=
  (fX2_slotAt yp yc).bind fun x1 =>
  if x1 < 4 then
    (fX1_copyFrom (yg x1).1 (yg x1).2.1 (yg x1).2.2.1 (yg x1).2.2.2.1 (yg x1).2.2.2.2.1 (yg x1).2.2.2.2.2.1 (yg x1).2.2.2.2.2.2.1 (yg x1).2.2.2.2.2.2.2.1 (yg x1).2.2.2.2.2.2.2.2.1 (yg x1).2.2.2.2.2.2.2.2.2.1 (yg x1).2.2.2.2.2.2.2.2.2.2 o_ft o_er o_eb o_li o_st o_rd o_tu o_la o_dl o_sh o_tb).bind fun x2 =>
    some ((yc + (1 : Int32)), yp, (va_up yg x1 x2))
  else none
def fX2_save (fu : Nat) (yc : Int32) (yp : (Nat → Nat)) (yg : (Nat → GV)) (o_ft : Tab) (o_er : Tab) (o_eb : Int32) (o_li : Tab) (o_st : Tab) (o_rd : Int32) (o_tu : Int32) (o_la : Int32) (o_dl : Bool) (o_sh : Int32) (o_tb : Int32) : Option (Int32 × (Nat → Nat) × (Nat → GV)) :=
  if yc < (Int32.ofNat 4) then
    fX2_save_J16 fu o_ft o_er o_eb o_li o_st o_rd o_tu o_la o_dl o_sh o_tb yc yp yg
  else
    (fX2_dropOldest fu yc yp).bind fun x7 =>
    fX2_save_J16 fu o_ft o_er o_eb o_li o_st o_rd o_tu o_la o_dl o_sh o_tb x7.1 x7.2 yg
def fX2_restore (yc : Int32) (yp : (Nat → Nat)) (yg : (Nat → GV)) (o_ft : Tab) (o_er : Tab) (o_eb : Int32) (o_li : Tab) (o_st : Tab) (o_rd : Int32) (o_tu : Int32) (o_la : Int32) (o_dl : Bool) (o_sh : Int32) (o_tb : Int32) : Option (Int32 × Tab × Tab × Int32 × Tab × Tab × Int32 × Int32 × Int32 × Bool × Int32 × Int32) :=
  (fX2_slotAt yp (yc - (1 : Int32))).bind fun x1 =>
  if x1 < 4 then
    (fX1_copyFrom o_ft o_er o_eb o_li o_st o_rd o_tu o_la o_dl o_sh o_tb (yg x1).1 (yg x1).2.1 (yg x1).2.2.1 (yg x1).2.2.2.1 (yg x1).2.2.2.2.1 (yg x1).2.2.2.2.2.1 (yg x1).2.2.2.2.2.2.1 (yg x1).2.2.2.2.2.2.2.1 (yg x1).2.2.2.2.2.2.2.2.1 (yg x1).2.2.2.2.2.2.2.2.2.1 (yg x1).2.2.2.2.2.2.2.2.2.2).bind fun x2 =>
    some ((yc - (1 : Int32)), x2.1, x2.2.1, x2.2.2.1, x2.2.2.2.1, x2.2.2.2.2.1, x2.2.2.2.2.2.1, x2.2.2.2.2.2.2.1, x2.2.2.2.2.2.2.2.1, x2.2.2.2.2.2.2.2.2.1, x2.2.2.2.2.2.2.2.2.2.1, x2.2.2.2.2.2.2.2.2.2.2)
  else none
