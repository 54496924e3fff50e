def fX2_size (hc : Int32) : Option (Int32) :=
  some (hc)
def fX2_slotAt (hp : (Nat → Nat)) (p1 : Int32) : Option (Nat) :=
  if p1 < 0 then
    none
  else
    if (Int32.ofNat 4) ≤ p1 then
      none
    else
      if ¬ (p1 < 0 ∨ 4 ≤ (p1).toNatClampNeg) then
        some (hp (p1).toNatClampNeg)
      else none
def fX2_dropOldest_L8 (fu : Nat)  : Nat → Int32 → (Nat → Nat) → Nat → Int32 → Option (Int32 × (Nat → Nat))
  | 0, _, _, _, _ => none
  | k + 1, hc, hp, v1, v2 =>
    if (Int32.ofNat 4) ≤ v2 then
      if (Int32.ofNat 4) ≤ 0 then
        some ((hc - (1 : Int32)), hp)
      else
        if ¬ (((Int32.ofNat 4) - (1 : Int32)) < 0 ∨ 4 ≤ (((Int32.ofNat 4) - (1 : Int32))).toNatClampNeg) ∧ v1 < 4 then
          some ((hc - (1 : Int32)), (va_up hp (((Int32.ofNat 4) - (1 : Int32))).toNatClampNeg v1))
        else none
    else
      if ¬ (v2 < 0 ∨ 4 ≤ (v2).toNatClampNeg) then
        if ¬ ((v2 - (1 : Int32)) < 0 ∨ 4 ≤ ((v2 - (1 : Int32))).toNatClampNeg) ∧ (hp (v2).toNatClampNeg) < 4 then
          fX2_dropOldest_L8 fu k hc (va_up hp ((v2 - (1 : Int32))).toNatClampNeg (hp (v2).toNatClampNeg)) v1 (v2 + 1)
        else none
      else none
def fX2_dropOldest (fu : Nat) (hc : Int32) (hp : (Nat → Nat)) : Option (Int32 × (Nat → Nat)) :=
  (fX2_slotAt hp (0 : Int32)).bind fun x1 =>
  fX2_dropOldest_L8 fu fu hc hp x1 (1 : Int32)
def fX2_save_J16 (fu : Nat) (o_ft : Tab) (o_er : Tab) (o_eb : Int32) (o_li : Tab) (o_st : Tab) (o_rd : Int32) (o_tu : Int32) (o_la : Int32) (o_dl : Bool) (o_sh : Int32) (o_tb : Int32) (hc : Int32) (hp : (Nat → Nat)) (hg : (Nat → GV)) : Option (Int32 × (Nat → Nat) × (Nat → GV)) :=
  (fX2_slotAt hp hc).bind fun x1 =>
  if x1 < 4 then
    (fX1_copyFrom (hg x1).1 (hg x1).2.1 (hg x1).2.2.1 (hg x1).2.2.2.1 (hg x1).2.2.2.2.1 (hg x1).2.2.2.2.2.1 (hg x1).2.2.2.2.2.2.1 (hg x1).2.2.2.2.2.2.2.1 (hg x1).2.2.2.2.2.2.2.2.1 (hg x1).2.2.2.2.2.2.2.2.2.1 (hg x1).2.2.2.2.2.2.2.2.2.2 o_ft o_er o_eb o_li o_st o_rd o_tu o_la o_dl o_sh o_tb).bind fun x2 =>
    some ((hc + (1 : Int32)), hp, (va_up hg x1 x2))
  else none
def fX2_save (fu : Nat) (hc : Int32) (hp : (Nat → Nat)) (hg : (Nat → GV)) (o_ft : Tab) (o_er : Tab) (o_eb : Int32) (o_li : Tab) (o_st : Tab) (o_rd : Int32) (o_tu : Int32) (o_la : Int32) (o_dl : Bool) (o_sh : Int32) (o_tb : Int32) : Option (Int32 × (Nat → Nat) × (Nat → GV)) :=
  if hc < (Int32.ofNat 4) then
    fX2_save_J16 fu o_ft o_er o_eb o_li o_st o_rd o_tu o_la o_dl o_sh o_tb hc hp hg
  else
    (fX2_dropOldest fu hc hp).bind fun x7 =>
    fX2_save_J16 fu o_ft o_er o_eb o_li o_st o_rd o_tu o_la o_dl o_sh o_tb x7.1 x7.2 hg
def fX2_restore (hc : Int32) (hp : (Nat → Nat)) (hg : (Nat → GV)) (o_ft : Tab) (o_er : Tab) (o_eb : Int32) (o_li : Tab) (o_st : Tab) (o_rd : Int32) (o_tu : Int32) (o_la : Int32) (o_dl : Bool) (o_sh : Int32) (o_tb : Int32) : Option (Int32 × Tab × Tab × Int32 × Tab × Tab × Int32 × Int32 × Int32 × Bool × Int32 × Int32) :=
  (fX2_slotAt hp (hc - (1 : Int32))).bind fun x1 =>
  if x1 < 4 then
    (fX1_copyFrom o_ft o_er o_eb o_li o_st o_rd o_tu o_la o_dl o_sh o_tb (hg x1).1 (hg x1).2.1 (hg x1).2.2.1 (hg x1).2.2.2.1 (hg x1).2.2.2.2.1 (hg x1).2.2.2.2.2.1 (hg x1).2.2.2.2.2.2.1 (hg x1).2.2.2.2.2.2.2.1 (hg x1).2.2.2.2.2.2.2.2.1 (hg x1).2.2.2.2.2.2.2.2.2.1 (hg x1).2.2.2.2.2.2.2.2.2.2).bind fun x2 =>
    some ((hc - (1 : Int32)), x2.1, x2.2.1, x2.2.2.1, x2.2.2.2.1, x2.2.2.2.2.1, x2.2.2.2.2.2.1, x2.2.2.2.2.2.2.1, x2.2.2.2.2.2.2.2.1, x2.2.2.2.2.2.2.2.2.1, x2.2.2.2.2.2.2.2.2.2.1, x2.2.2.2.2.2.2.2.2.2.2)
  else none
