def fX6_thrown (th : Int32) : Option (Int32) :=
  some (th)
def fX6_in (p0 : Int32) (p1 : Int32) (p2 : Int32) : Option (Bool) :=
  if p0 < p1 then
    some (false)
  else
    if p2 < p0 then
      some (false)
    else
      some (true)
def fX6_fails (th : Int32) (p1 : Int32) : Option (Int32 × Int32) :=
  some ((0 : Int32), p1)
def fX6_save_L51 (fu : Nat) (sa : (Nat → Int32)) : Nat → (Nat → Int32) → Int32 → Int32 → Option ((Nat → Int32) × Int32)
  | 0, _, _, _ => none
  | k + 1, sv, sm, v1 =>
    if (378 : Int32) ≤ v1 then
      some (sv, (sm + (1 : Int32)))
    else
      if ¬ (v1 < 0 ∨ 378 ≤ (v1).toNatClampNeg) then
        if ¬ ((((378 : Int32) * sm) + v1) < 0 ∨ 1512 ≤ ((((378 : Int32) * sm) + v1)).toNatClampNeg) then
          fX6_save_L51 fu sa k (upd sv ((((378 : Int32) * sm) + v1)).toNatClampNeg (sa (v1).toNatClampNeg)) sm (v1 + 1)
        else none
      else none
def fX6_save_J49 (fu : Nat) (sa : (Nat → Int32)) (sv : (Nat → Int32)) (sm : Int32) : Option ((Nat → Int32) × Int32) :=
  fX6_save_L51 fu sa fu sv sm (0 : Int32)
def fX6_save_L10 (fu : Nat) (sa : (Nat → Int32)) : Nat → (Nat → Int32) → Int32 → Int32 → Option ((Nat → Int32) × Int32)
  | 0, _, _, _ => none
  | k + 1, sv, sm, v1 =>
    if (1134 : Int32) ≤ v1 then
      fX6_save_J49 fu sa sv (sm - (1 : Int32))
    else
      if ¬ ((v1 + (378 : Int32)) < 0 ∨ 1512 ≤ ((v1 + (378 : Int32))).toNatClampNeg) then
        if ¬ (v1 < 0 ∨ 1512 ≤ (v1).toNatClampNeg) then
          fX6_save_L10 fu sa k (upd sv (v1).toNatClampNeg (sv ((v1 + (378 : Int32))).toNatClampNeg)) sm (v1 + 1)
        else none
      else none
def fX6_save (fu : Nat) (sa : (Nat → Int32)) (sv : (Nat → Int32)) (sm : Int32) : Option ((Nat → Int32) × Int32) :=
  if sm = (4 : Int32) then
    fX6_save_L10 fu sa fu sv sm (0 : Int32)
  else
    fX6_save_J49 fu sa sv sm
def fX6_hold_L2 (fu : Nat) (sa : (Nat → Int32)) : Nat → (Nat → Int32) → Int32 → Option ((Nat → Int32))
  | 0, _, _ => none
  | k + 1, asd, v1 =>
    if (378 : Int32) ≤ v1 then
      some (asd)
    else
      if ¬ (v1 < 0 ∨ 378 ≤ (v1).toNatClampNeg) then
        if ¬ (v1 < 0 ∨ 378 ≤ (v1).toNatClampNeg) then
          fX6_hold_L2 fu sa k (upd asd (v1).toNatClampNeg (sa (v1).toNatClampNeg)) (v1 + 1)
        else none
      else none
def fX6_hold (fu : Nat) (sa : (Nat → Int32)) (asd : (Nat → Int32)) : Option ((Nat → Int32)) :=
  fX6_hold_L2 fu sa fu asd (0 : Int32)
def fX6_release_L2 (fu : Nat) (asd : (Nat → Int32)) : Nat → (Nat → Int32) → Int32 → Option ((Nat → Int32))
  | 0, _, _ => none
  | k + 1, sa, v1 =>
    if (378 : Int32) ≤ v1 then
      some (sa)
    else
      if ¬ (v1 < 0 ∨ 378 ≤ (v1).toNatClampNeg) then
        if ¬ (v1 < 0 ∨ 378 ≤ (v1).toNatClampNeg) then
          fX6_release_L2 fu asd k (upd sa (v1).toNatClampNeg (asd (v1).toNatClampNeg)) (v1 + 1)
        else none
      else none
def fX6_release (fu : Nat) (sa : (Nat → Int32)) (asd : (Nat → Int32)) : Option ((Nat → Int32)) :=
  fX6_release_L2 fu asd fu sa (0 : Int32)
def fX6_isFighter (sa : (Nat → Int32)) (p1 : Int32) : Option (Bool) :=
  if ¬ ((0 : Int32) < 0 ∨ 378 ≤ ((0 : Int32)).toNatClampNeg) then
    (fX6_in p1 (0 : Int32) ((sa ((0 : Int32)).toNatClampNeg) - (1 : Int32))).bind fun x1 =>
    some (x1)
  else none
def fX6_of (sa : (Nat → Int32)) (p1 : Int32) (p2 : Int32) : Option (Int32) :=
  if ¬ ((((12 : Int32) + ((6 : Int32) * p1)) + p2) < 0 ∨ 378 ≤ ((((12 : Int32) + ((6 : Int32) * p1)) + p2)).toNatClampNeg) then
    some ((sa ((((12 : Int32) + ((6 : Int32) * p1)) + p2)).toNatClampNeg))
  else none
def fX6_set (sa : (Nat → Int32)) (p1 : Int32) (p2 : Int32) (p3 : Int32) : Option ((Nat → Int32)) :=
  if ¬ ((((12 : Int32) + ((6 : Int32) * p1)) + p2) < 0 ∨ 378 ≤ ((((12 : Int32) + ((6 : Int32) * p1)) + p2)).toNatClampNeg) then
    some ((upd sa ((((12 : Int32) + ((6 : Int32) * p1)) + p2)).toNatClampNeg p3))
  else none
def fX6_ofEffect (sa : (Nat → Int32)) (p1 : Int32) (p2 : Int32) : Option (Int32) :=
  if ¬ ((((82 : Int32) + ((8 : Int32) * p1)) + p2) < 0 ∨ 378 ≤ ((((82 : Int32) + ((8 : Int32) * p1)) + p2)).toNatClampNeg) then
    some ((sa ((((82 : Int32) + ((8 : Int32) * p1)) + p2)).toNatClampNeg))
  else none
def fX6_stands (sa : (Nat → Int32)) (p1 : Int32) : Option (Bool) :=
  (fX6_of sa p1 (2 : Int32)).bind fun x1 =>
  if x1 ≤ 0 then
    some (false)
  else
    some (true)
def fX6_endEffect_L18 (fu : Nat)  : Nat → (Nat → Int32) → Int32 → Option ((Nat → Int32))
  | 0, _, _ => none
  | k + 1, sa, v2 =>
    if ¬ ((1 : Int32) < 0 ∨ 378 ≤ ((1 : Int32)).toNatClampNeg) then
      if ((82 : Int32) + ((8 : Int32) * (sa ((1 : Int32)).toNatClampNeg))) ≤ v2 then
        if ¬ ((10 : Int32) < 0 ∨ 378 ≤ ((10 : Int32)).toNatClampNeg) then
          if ¬ ((10 : Int32) < 0 ∨ 378 ≤ ((10 : Int32)).toNatClampNeg) then
            some ((upd sa ((10 : Int32)).toNatClampNeg ((sa ((10 : Int32)).toNatClampNeg) + (1 : Int32))))
          else none
        else none
      else
        if ¬ ((v2 + (8 : Int32)) < 0 ∨ 378 ≤ ((v2 + (8 : Int32))).toNatClampNeg) then
          if ¬ (v2 < 0 ∨ 378 ≤ (v2).toNatClampNeg) then
            fX6_endEffect_L18 fu k (upd sa (v2).toNatClampNeg (sa ((v2 + (8 : Int32))).toNatClampNeg)) (v2 + 1)
          else none
        else none
    else none
def fX6_endEffect (fu : Nat) (sa : (Nat → Int32)) (p1 : Int32) : Option ((Nat → Int32)) :=
  if ¬ ((1 : Int32) < 0 ∨ 378 ≤ ((1 : Int32)).toNatClampNeg) then
    if ¬ ((1 : Int32) < 0 ∨ 378 ≤ ((1 : Int32)).toNatClampNeg) then
      fX6_endEffect_L18 fu fu (upd sa ((1 : Int32)).toNatClampNeg ((sa ((1 : Int32)).toNatClampNeg) - (1 : Int32))) ((82 : Int32) + ((8 : Int32) * p1))
    else none
  else none
def fX6_heldBy_L2 (fu : Nat) (sa : (Nat → Int32)) (p1 : Int32) : Nat → Int32 → Option (Int32)
  | 0, _ => none
  | k + 1, v2 =>
    if ¬ ((1 : Int32) < 0 ∨ 378 ≤ ((1 : Int32)).toNatClampNeg) then
      if (sa ((1 : Int32)).toNatClampNeg) ≤ v2 then
        some ((-1 : Int32))
      else
        (fX6_ofEffect sa v2 (2 : Int32)).bind fun x1 =>
        if x1 = p1 then
          (fX6_ofEffect sa v2 (6 : Int32)).bind fun x2 =>
          if x2 = (1 : Int32) then
            some (v2)
          else
            fX6_heldBy_L2 fu sa p1 k (v2 + 1)
        else
          fX6_heldBy_L2 fu sa p1 k (v2 + 1)
    else none
def fX6_heldBy (fu : Nat) (sa : (Nat → Int32)) (p1 : Int32) : Option (Int32) :=
  fX6_heldBy_L2 fu sa p1 fu (0 : Int32)
def fX6_stopHolding (fu : Nat) (sa : (Nat → Int32)) (p1 : Int32) : Option ((Nat → Int32)) :=
  (fX6_heldBy fu sa p1).bind fun x1 =>
  if x1 = (-1 : Int32) then
    some (sa)
  else
    (fX6_endEffect fu sa x1).bind fun x2 =>
    some (x2)
def fX6_powersOn_L5 (fu : Nat) (sa : (Nat → Int32)) (p1 : Int32) (p2 : Int32) : Nat → Int32 → Int32 → Option (Int32)
  | 0, _, _ => none
  | k + 1, v3, v4 =>
    if ¬ ((1 : Int32) < 0 ∨ 378 ≤ ((1 : Int32)).toNatClampNeg) then
      if (sa ((1 : Int32)).toNatClampNeg) ≤ v4 then
        some (v3)
      else
        (fX6_ofEffect sa v4 (3 : Int32)).bind fun x1 =>
        if x1 = p1 then
          (fX6_ofEffect sa v4 (0 : Int32)).bind fun x2 =>
          if x2 = p2 then
            (fX6_ofEffect sa v4 (1 : Int32)).bind fun x3 =>
            fX6_powersOn_L5 fu sa p1 p2 k (v3 + x3) (v4 + 1)
          else
            fX6_powersOn_L5 fu sa p1 p2 k (v3 + (0 : Int32)) (v4 + 1)
        else
          fX6_powersOn_L5 fu sa p1 p2 k (v3 + (0 : Int32)) (v4 + 1)
    else none
def fX6_powersOn (fu : Nat) (sa : (Nat → Int32)) (p1 : Int32) (p2 : Int32) : Option (Int32) :=
  fX6_powersOn_L5 fu sa p1 p2 fu (0 : Int32) (0 : Int32)
def fX6_speedOf (fu : Nat) (sa : (Nat → Int32)) (p1 : Int32) : Option (Int32) :=
  (fX6_of sa p1 (0 : Int32)).bind fun x1 =>
  (fX6_powersOn fu sa p1 (1 : Int32)).bind fun x2 =>
  (fX6_powersOn fu sa p1 (2 : Int32)).bind fun x3 =>
  if (1 : Int32) ≤ ((x1 + x2) - x3) then
    some (((x1 + x2) - x3))
  else
    some ((1 : Int32))
def fX6_fall_L2 (fu : Nat) (p1 : Int32) : Nat → (Nat → Int32) → Int32 → Option ((Nat → Int32))
  | 0, _, _ => none
  | k + 1, sa, v2 =>
    if ¬ ((1 : Int32) < 0 ∨ 378 ≤ ((1 : Int32)).toNatClampNeg) then
      if (sa ((1 : Int32)).toNatClampNeg) ≤ v2 then
        some (sa)
      else
        (fX6_ofEffect sa v2 (2 : Int32)).bind fun x1 =>
        if x1 = p1 then
          (fX6_ofEffect sa v2 (6 : Int32)).bind fun x4 =>
          if x4 = (1 : Int32) then
            (fX6_ofEffect sa v2 (3 : Int32)).bind fun x5 =>
            if x5 = p1 then
              (fX6_endEffect fu sa v2).bind fun x6 =>
              fX6_fall_L2 fu p1 k x6 v2
            else
              (fX6_endEffect fu sa v2).bind fun x7 =>
              fX6_fall_L2 fu p1 k x7 v2
          else
            (fX6_ofEffect sa v2 (5 : Int32)).bind fun x8 =>
            if x8 = 0 then
              (fX6_ofEffect sa v2 (3 : Int32)).bind fun x11 =>
              if x11 = p1 then
                (fX6_endEffect fu sa v2).bind fun x12 =>
                fX6_fall_L2 fu p1 k x12 v2
              else
                (fX6_endEffect fu sa v2).bind fun x13 =>
                fX6_fall_L2 fu p1 k x13 v2
            else
              (fX6_ofEffect sa v2 (3 : Int32)).bind fun x9 =>
              if x9 = p1 then
                (fX6_endEffect fu sa v2).bind fun x10 =>
                fX6_fall_L2 fu p1 k x10 v2
              else
                fX6_fall_L2 fu p1 k sa (v2 + 1)
        else
          (fX6_ofEffect sa v2 (3 : Int32)).bind fun x2 =>
          if x2 = p1 then
            (fX6_endEffect fu sa v2).bind fun x3 =>
            fX6_fall_L2 fu p1 k x3 v2
          else
            fX6_fall_L2 fu p1 k sa (v2 + 1)
    else none
def fX6_fall (fu : Nat) (sa : (Nat → Int32)) (p1 : Int32) : Option ((Nat → Int32)) :=
  fX6_fall_L2 fu p1 fu sa (0 : Int32)
def fX6_harm_J53 (fu : Nat) (p1 : Int32) (sa : (Nat → Int32)) (t0 : Int32) : Option ((Nat → Int32)) :=
  (fX6_of sa p1 (2 : Int32)).bind fun x4 =>
  (fX6_set sa p1 (2 : Int32) (x4 - t0)).bind fun x5 =>
  (fX6_stands x5 p1).bind fun x6 =>
  if (bI x6) = 0 then
    (fX6_fall fu x5 p1).bind fun x8 =>
    some (x8)
  else
    if ¬ ((2 : Int32) < 0 ∨ 378 ≤ ((2 : Int32)).toNatClampNeg) then
      if t0 < (x5 ((2 : Int32)).toNatClampNeg) then
        some (x5)
      else
        (fX6_stopHolding fu x5 p1).bind fun x7 =>
        some (x7)
    else none
def fX6_harm_J29 (fu : Nat) (p1 : Int32) (sa : (Nat → Int32)) (t0 : Int32) : Option ((Nat → Int32)) :=
  (fX6_of sa p1 (2 : Int32)).bind fun x2 =>
  if x2 ≤ t0 then
    (fX6_of sa p1 (2 : Int32)).bind fun x3 =>
    fX6_harm_J53 fu p1 sa x3
  else
    fX6_harm_J53 fu p1 sa t0
def fX6_harm_J16 (fu : Nat) (p1 : Int32) (sa : (Nat → Int32)) (t0 : Int32) : Option ((Nat → Int32)) :=
  if 0 ≤ t0 then
    fX6_harm_J29 fu p1 sa t0
  else
    fX6_harm_J29 fu p1 sa (0 : Int32)
def fX6_harm (fu : Nat) (sa : (Nat → Int32)) (p1 : Int32) (p2 : Int32) (p3 : Bool) : Option ((Nat → Int32)) :=
  if (bI p3) = 0 then
    (fX6_powersOn fu sa p1 (3 : Int32)).bind fun x1 =>
    fX6_harm_J16 fu p1 sa (p2 - x1)
  else
    fX6_harm_J16 fu p1 sa p2
def fX6_newRound_L60 (fu : Nat)  : Nat → (Nat → Int32) → Int32 → Int32 → Option ((Nat → Int32) × Int32 × Int32)
  | 0, _, _, _ => none
  | k + 1, sa, v1, v2 =>
    if v2 ≤ 0 then
      some (sa, v1, v2)
    else
      if ¬ ((((72 : Int32) + v2) - (1 : Int32)) < 0 ∨ 378 ≤ ((((72 : Int32) + v2) - (1 : Int32))).toNatClampNeg) then
        (fX6_speedOf fu sa (sa ((((72 : Int32) + v2) - (1 : Int32))).toNatClampNeg)).bind fun x4 =>
        (fX6_speedOf fu sa v1).bind fun x5 =>
        if x5 ≤ x4 then
          some (sa, v1, v2)
        else
          if ¬ ((((72 : Int32) + v2) - (1 : Int32)) < 0 ∨ 378 ≤ ((((72 : Int32) + v2) - (1 : Int32))).toNatClampNeg) then
            if ¬ (((72 : Int32) + v2) < 0 ∨ 378 ≤ (((72 : Int32) + v2)).toNatClampNeg) then
              fX6_newRound_L60 fu k (upd sa (((72 : Int32) + v2)).toNatClampNeg (sa ((((72 : Int32) + v2) - (1 : Int32))).toNatClampNeg)) v1 (v2 + (-1))
            else none
          else none
      else none
def fX6_newRound_L20 (fu : Nat)  : Nat → (Nat → Int32) → Int32 → Option ((Nat → Int32))
  | 0, _, _ => none
  | k + 1, sa, v1 =>
    if ¬ ((0 : Int32) < 0 ∨ 378 ≤ ((0 : Int32)).toNatClampNeg) then
      if (sa ((0 : Int32)).toNatClampNeg) ≤ v1 then
        some (sa)
      else
        (fX6_set sa v1 (4 : Int32) (-1 : Int32)).bind fun x1 =>
        (fX6_set x1 v1 (5 : Int32) (0 : Int32)).bind fun x2 =>
        (fX6_stands x2 v1).bind fun x3 =>
        if (bI x3) = 0 then
          fX6_newRound_L20 fu k x2 (v1 + 1)
        else
          if ¬ ((6 : Int32) < 0 ∨ 378 ≤ ((6 : Int32)).toNatClampNeg) then
            (fX6_newRound_L60 fu fu x2 v1 (x2 ((6 : Int32)).toNatClampNeg)).bind fun y6 =>
              if ¬ (((72 : Int32) + y6.2.2) < 0 ∨ 378 ≤ (((72 : Int32) + y6.2.2)).toNatClampNeg) then
                if ¬ ((6 : Int32) < 0 ∨ 378 ≤ ((6 : Int32)).toNatClampNeg) then
                  if ¬ ((6 : Int32) < 0 ∨ 378 ≤ ((6 : Int32)).toNatClampNeg) then
                    (fX6_set (upd (upd y6.1 (((72 : Int32) + y6.2.2)).toNatClampNeg y6.2.1) ((6 : Int32)).toNatClampNeg (((upd y6.1 (((72 : Int32) + y6.2.2)).toNatClampNeg y6.2.1) ((6 : Int32)).toNatClampNeg) + (1 : Int32))) y6.2.1 (4 : Int32) (0 : Int32)).bind fun x7 =>
                    fX6_newRound_L20 fu k x7 (y6.2.1 + 1)
                  else none
                else none
              else none
          else none
    else none
def fX6_newRound (fu : Nat) (sa : (Nat → Int32)) : Option ((Nat → Int32)) :=
  if ¬ ((3 : Int32) < 0 ∨ 378 ≤ ((3 : Int32)).toNatClampNeg) then
    if ¬ ((3 : Int32) < 0 ∨ 378 ≤ ((3 : Int32)).toNatClampNeg) then
      if ¬ ((6 : Int32) < 0 ∨ 378 ≤ ((6 : Int32)).toNatClampNeg) then
        fX6_newRound_L20 fu fu (upd (upd sa ((3 : Int32)).toNatClampNeg ((sa ((3 : Int32)).toNatClampNeg) + (1 : Int32))) ((6 : Int32)).toNatClampNeg (0 : Int32)) (0 : Int32)
      else none
    else none
  else none
def fX6_firstWaiting_L2 (fu : Nat) (sa : (Nat → Int32)) : Nat → Int32 → Option (Int32)
  | 0, _ => none
  | k + 1, v1 =>
    if ¬ ((6 : Int32) < 0 ∨ 378 ≤ ((6 : Int32)).toNatClampNeg) then
      if (sa ((6 : Int32)).toNatClampNeg) ≤ v1 then
        some ((-1 : Int32))
      else
        if ¬ (((72 : Int32) + v1) < 0 ∨ 378 ≤ (((72 : Int32) + v1)).toNatClampNeg) then
          (fX6_of sa (sa (((72 : Int32) + v1)).toNatClampNeg) (4 : Int32)).bind fun x1 =>
          if x1 = 0 then
            (fX6_stands sa (sa (((72 : Int32) + v1)).toNatClampNeg)).bind fun x2 =>
            if (bI x2) = 0 then
              fX6_firstWaiting_L2 fu sa k (v1 + 1)
            else
              some ((sa (((72 : Int32) + v1)).toNatClampNeg))
          else
            fX6_firstWaiting_L2 fu sa k (v1 + 1)
        else none
    else none
def fX6_firstWaiting (fu : Nat) (sa : (Nat → Int32)) : Option (Int32) :=
  fX6_firstWaiting_L2 fu sa fu (0 : Int32)
def fX6_sufferPoison_L4 (fu : Nat) (p1 : Int32) : Nat → (Nat → Int32) → Int32 → Int32 → Option ((Nat → Int32))
  | 0, _, _, _ => none
  | k + 1, sa, v2, v3 =>
    if ¬ ((1 : Int32) < 0 ∨ 378 ≤ ((1 : Int32)).toNatClampNeg) then
      if (sa ((1 : Int32)).toNatClampNeg) ≤ v3 then
        some (sa)
      else
        (fX6_stands sa p1).bind fun x1 =>
        if (bI x1) = 0 then
          some (sa)
        else
          (fX6_ofEffect sa v3 (7 : Int32)).bind fun x2 =>
          if x2 ≤ v2 then
            (fX6_ofEffect sa v3 (7 : Int32)).bind fun x3 =>
            if x3 ≤ v2 then
              fX6_sufferPoison_L4 fu p1 k sa v2 (v3 + 1)
            else
              (fX6_ofEffect sa v3 (7 : Int32)).bind fun x4 =>
              fX6_sufferPoison_L4 fu p1 k sa x4 (v3 + 1)
          else
            (fX6_ofEffect sa v3 (0 : Int32)).bind fun x5 =>
            if x5 = 0 then
              (fX6_ofEffect sa v3 (3 : Int32)).bind fun x8 =>
              if x8 = p1 then
                (fX6_ofEffect sa v3 (7 : Int32)).bind fun x11 =>
                if x11 ≤ v2 then
                  (fX6_ofEffect sa v3 (1 : Int32)).bind fun x12 =>
                  (fX6_harm fu sa p1 x12 true).bind fun x13 =>
                  fX6_sufferPoison_L4 fu p1 k x13 v2 (0 : Int32)
                else
                  (fX6_ofEffect sa v3 (7 : Int32)).bind fun x14 =>
                  (fX6_ofEffect sa v3 (1 : Int32)).bind fun x15 =>
                  (fX6_harm fu sa p1 x15 true).bind fun x16 =>
                  fX6_sufferPoison_L4 fu p1 k x16 x14 (0 : Int32)
              else
                (fX6_ofEffect sa v3 (7 : Int32)).bind fun x9 =>
                if x9 ≤ v2 then
                  fX6_sufferPoison_L4 fu p1 k sa v2 (v3 + 1)
                else
                  (fX6_ofEffect sa v3 (7 : Int32)).bind fun x10 =>
                  fX6_sufferPoison_L4 fu p1 k sa x10 (v3 + 1)
            else
              (fX6_ofEffect sa v3 (7 : Int32)).bind fun x6 =>
              if x6 ≤ v2 then
                fX6_sufferPoison_L4 fu p1 k sa v2 (v3 + 1)
              else
                (fX6_ofEffect sa v3 (7 : Int32)).bind fun x7 =>
                fX6_sufferPoison_L4 fu p1 k sa x7 (v3 + 1)
    else none
def fX6_sufferPoison (fu : Nat) (sa : (Nat → Int32)) (p1 : Int32) : Option ((Nat → Int32)) :=
  fX6_sufferPoison_L4 fu p1 fu sa (-1 : Int32) (0 : Int32)
def fX6_ends_L24 (fu : Nat)  : Nat → (Nat → Int32) → Int32 → Int32 → Int32 → Option (Int32 × (Nat → Int32))
  | 0, _, _, _, _ => none
  | k + 1, sa, v1, v2, v3 =>
    if ¬ ((1 : Int32) < 0 ∨ 378 ≤ ((1 : Int32)).toNatClampNeg) then
      if (sa ((1 : Int32)).toNatClampNeg) ≤ v3 then
        if ¬ ((10 : Int32) < 0 ∨ 378 ≤ ((10 : Int32)).toNatClampNeg) then
          some (((sa ((10 : Int32)).toNatClampNeg) - v2), sa)
        else none
      else
        if ¬ ((((82 : Int32) + ((8 : Int32) * v3)) + (5 : Int32)) < 0 ∨ 378 ≤ ((((82 : Int32) + ((8 : Int32) * v3)) + (5 : Int32))).toNatClampNeg) then
          if (sa ((((82 : Int32) + ((8 : Int32) * v3)) + (5 : Int32))).toNatClampNeg) = 0 then
            if ¬ ((((82 : Int32) + ((8 : Int32) * v3)) + (2 : Int32)) < 0 ∨ 378 ≤ ((((82 : Int32) + ((8 : Int32) * v3)) + (2 : Int32))).toNatClampNeg) then
              if (sa ((((82 : Int32) + ((8 : Int32) * v3)) + (2 : Int32))).toNatClampNeg) = v1 then
                if ¬ ((((82 : Int32) + ((8 : Int32) * v3)) + (4 : Int32)) < 0 ∨ 378 ≤ ((((82 : Int32) + ((8 : Int32) * v3)) + (4 : Int32))).toNatClampNeg) then
                  if ¬ ((((82 : Int32) + ((8 : Int32) * v3)) + (4 : Int32)) < 0 ∨ 378 ≤ ((((82 : Int32) + ((8 : Int32) * v3)) + (4 : Int32))).toNatClampNeg) then
                    if ¬ ((((82 : Int32) + ((8 : Int32) * v3)) + (4 : Int32)) < 0 ∨ 378 ≤ ((((82 : Int32) + ((8 : Int32) * v3)) + (4 : Int32))).toNatClampNeg) then
                      if ((upd sa ((((82 : Int32) + ((8 : Int32) * v3)) + (4 : Int32))).toNatClampNeg ((sa ((((82 : Int32) + ((8 : Int32) * v3)) + (4 : Int32))).toNatClampNeg) - (1 : Int32))) ((((82 : Int32) + ((8 : Int32) * v3)) + (4 : Int32))).toNatClampNeg) = 0 then
                        (fX6_endEffect fu (upd sa ((((82 : Int32) + ((8 : Int32) * v3)) + (4 : Int32))).toNatClampNeg ((sa ((((82 : Int32) + ((8 : Int32) * v3)) + (4 : Int32))).toNatClampNeg) - (1 : Int32))) v3).bind fun x4 =>
                        fX6_ends_L24 fu k x4 v1 v2 v3
                      else
                        fX6_ends_L24 fu k (upd sa ((((82 : Int32) + ((8 : Int32) * v3)) + (4 : Int32))).toNatClampNeg ((sa ((((82 : Int32) + ((8 : Int32) * v3)) + (4 : Int32))).toNatClampNeg) - (1 : Int32))) v1 v2 (v3 + 1)
                    else none
                  else none
                else none
              else
                if ¬ ((((82 : Int32) + ((8 : Int32) * v3)) + (4 : Int32)) < 0 ∨ 378 ≤ ((((82 : Int32) + ((8 : Int32) * v3)) + (4 : Int32))).toNatClampNeg) then
                  if (sa ((((82 : Int32) + ((8 : Int32) * v3)) + (4 : Int32))).toNatClampNeg) = 0 then
                    (fX6_endEffect fu sa v3).bind fun x3 =>
                    fX6_ends_L24 fu k x3 v1 v2 v3
                  else
                    fX6_ends_L24 fu k sa v1 v2 (v3 + 1)
                else none
            else none
          else
            if ¬ ((((82 : Int32) + ((8 : Int32) * v3)) + (3 : Int32)) < 0 ∨ 378 ≤ ((((82 : Int32) + ((8 : Int32) * v3)) + (3 : Int32))).toNatClampNeg) then
              if (sa ((((82 : Int32) + ((8 : Int32) * v3)) + (3 : Int32))).toNatClampNeg) = v1 then
                if ¬ ((((82 : Int32) + ((8 : Int32) * v3)) + (4 : Int32)) < 0 ∨ 378 ≤ ((((82 : Int32) + ((8 : Int32) * v3)) + (4 : Int32))).toNatClampNeg) then
                  if ¬ ((((82 : Int32) + ((8 : Int32) * v3)) + (4 : Int32)) < 0 ∨ 378 ≤ ((((82 : Int32) + ((8 : Int32) * v3)) + (4 : Int32))).toNatClampNeg) then
                    if ¬ ((((82 : Int32) + ((8 : Int32) * v3)) + (4 : Int32)) < 0 ∨ 378 ≤ ((((82 : Int32) + ((8 : Int32) * v3)) + (4 : Int32))).toNatClampNeg) then
                      if ((upd sa ((((82 : Int32) + ((8 : Int32) * v3)) + (4 : Int32))).toNatClampNeg ((sa ((((82 : Int32) + ((8 : Int32) * v3)) + (4 : Int32))).toNatClampNeg) - (1 : Int32))) ((((82 : Int32) + ((8 : Int32) * v3)) + (4 : Int32))).toNatClampNeg) = 0 then
                        (fX6_endEffect fu (upd sa ((((82 : Int32) + ((8 : Int32) * v3)) + (4 : Int32))).toNatClampNeg ((sa ((((82 : Int32) + ((8 : Int32) * v3)) + (4 : Int32))).toNatClampNeg) - (1 : Int32))) v3).bind fun x2 =>
                        fX6_ends_L24 fu k x2 v1 v2 v3
                      else
                        fX6_ends_L24 fu k (upd sa ((((82 : Int32) + ((8 : Int32) * v3)) + (4 : Int32))).toNatClampNeg ((sa ((((82 : Int32) + ((8 : Int32) * v3)) + (4 : Int32))).toNatClampNeg) - (1 : Int32))) v1 v2 (v3 + 1)
                    else none
                  else none
                else none
              else
                if ¬ ((((82 : Int32) + ((8 : Int32) * v3)) + (4 : Int32)) < 0 ∨ 378 ≤ ((((82 : Int32) + ((8 : Int32) * v3)) + (4 : Int32))).toNatClampNeg) then
                  if (sa ((((82 : Int32) + ((8 : Int32) * v3)) + (4 : Int32))).toNatClampNeg) = 0 then
                    (fX6_endEffect fu sa v3).bind fun x1 =>
                    fX6_ends_L24 fu k x1 v1 v2 v3
                  else
                    fX6_ends_L24 fu k sa v1 v2 (v3 + 1)
                else none
            else none
        else none
    else none
def fX6_ends (fu : Nat) (sa : (Nat → Int32)) : Option (Int32 × (Nat → Int32)) :=
  if ¬ ((4 : Int32) < 0 ∨ 378 ≤ ((4 : Int32)).toNatClampNeg) then
    if ¬ ((4 : Int32) < 0 ∨ 378 ≤ ((4 : Int32)).toNatClampNeg) then
      if ¬ ((10 : Int32) < 0 ∨ 378 ≤ ((10 : Int32)).toNatClampNeg) then
        fX6_ends_L24 fu fu (upd sa ((4 : Int32)).toNatClampNeg (-1 : Int32)) (sa ((4 : Int32)).toNatClampNeg) ((upd sa ((4 : Int32)).toNatClampNeg (-1 : Int32)) ((10 : Int32)).toNatClampNeg) (0 : Int32)
      else none
    else none
  else none
def fX6_begins_J32 (fu : Nat) (sa : (Nat → Int32)) (v1 : Int32) : Option (Int32 × (Nat → Int32)) :=
  if v1 = (-1 : Int32) then
    some ((-1 : Int32), sa)
  else
    if ¬ ((9 : Int32) < 0 ∨ 378 ≤ ((9 : Int32)).toNatClampNeg) then
      if ¬ ((9 : Int32) < 0 ∨ 378 ≤ ((9 : Int32)).toNatClampNeg) then
        if ¬ ((7 : Int32) < 0 ∨ 378 ≤ ((7 : Int32)).toNatClampNeg) then
          if ¬ ((5 : Int32) < 0 ∨ 378 ≤ ((5 : Int32)).toNatClampNeg) then
            if ¬ ((4 : Int32) < 0 ∨ 378 ≤ ((4 : Int32)).toNatClampNeg) then
              (fX6_set (upd (upd (upd (upd sa ((9 : Int32)).toNatClampNeg ((sa ((9 : Int32)).toNatClampNeg) + (1 : Int32))) ((7 : Int32)).toNatClampNeg v1) ((5 : Int32)).toNatClampNeg (0 : Int32)) ((4 : Int32)).toNatClampNeg v1) v1 (4 : Int32) (1 : Int32)).bind fun x2 =>
              (fX6_set x2 v1 (3 : Int32) (1 : Int32)).bind fun x3 =>
              (fX6_sufferPoison fu x3 v1).bind fun x4 =>
              (fX6_stands x4 v1).bind fun x5 =>
              if (bI x5) = 0 then
                if ¬ ((4 : Int32) < 0 ∨ 378 ≤ ((4 : Int32)).toNatClampNeg) then
                  some (v1, (upd x4 ((4 : Int32)).toNatClampNeg (-1 : Int32)))
                else none
              else
                (fX6_powersOn fu x4 v1 (4 : Int32)).bind fun x6 =>
                if x6 ≤ 0 then
                  some (v1, x4)
                else
                  (fX6_ends fu x4).bind fun x7 =>
                  if 0 ≤ x7.1 then
                    if ¬ ((4 : Int32) < 0 ∨ 378 ≤ ((4 : Int32)).toNatClampNeg) then
                      some (v1, (upd x7.2 ((4 : Int32)).toNatClampNeg (-1 : Int32)))
                    else none
                  else
                    if ¬ ((4 : Int32) < 0 ∨ 378 ≤ ((4 : Int32)).toNatClampNeg) then
                      some (v1, (upd x7.2 ((4 : Int32)).toNatClampNeg v1))
                    else none
            else none
          else none
        else none
      else none
    else none
def fX6_begins_J17 (fu : Nat) (sa : (Nat → Int32)) (t0 : Int32) : Option (Int32 × (Nat → Int32)) :=
  if t0 = (-1 : Int32) then
    (fX6_newRound fu sa).bind fun x8 =>
    (fX6_firstWaiting fu x8).bind fun x9 =>
    fX6_begins_J32 fu x8 x9
  else
    fX6_begins_J32 fu sa t0
def fX6_begins (fu : Nat) (sa : (Nat → Int32)) : Option (Int32 × (Nat → Int32)) :=
  if ¬ ((3 : Int32) < 0 ∨ 378 ≤ ((3 : Int32)).toNatClampNeg) then
    if (sa ((3 : Int32)).toNatClampNeg) = 0 then
      fX6_begins_J17 fu sa (-1 : Int32)
    else
      (fX6_firstWaiting fu sa).bind fun x1 =>
      fX6_begins_J17 fu sa x1
  else none
def fX6_canDelay (sa : (Nat → Int32)) : Option (Bool) :=
  if ¬ ((4 : Int32) < 0 ∨ 378 ≤ ((4 : Int32)).toNatClampNeg) then
    if (sa ((4 : Int32)).toNatClampNeg) = (-1 : Int32) then
      some (false)
    else
      if ¬ ((5 : Int32) < 0 ∨ 378 ≤ ((5 : Int32)).toNatClampNeg) then
        if (sa ((5 : Int32)).toNatClampNeg) = 0 then
          if ¬ ((4 : Int32) < 0 ∨ 378 ≤ ((4 : Int32)).toNatClampNeg) then
            (fX6_of sa (sa ((4 : Int32)).toNatClampNeg) (5 : Int32)).bind fun x1 =>
            if x1 = 0 then
              some (true)
            else
              some (false)
          else none
        else
          some (false)
      else none
  else none
def fX6_delays (sa : (Nat → Int32)) : Option (Int32 × (Nat → Int32)) :=
  if ¬ ((4 : Int32) < 0 ∨ 378 ≤ ((4 : Int32)).toNatClampNeg) then
    (fX6_set sa (sa ((4 : Int32)).toNatClampNeg) (4 : Int32) (2 : Int32)).bind fun x1 =>
    (fX6_set x1 (sa ((4 : Int32)).toNatClampNeg) (5 : Int32) (1 : Int32)).bind fun x2 =>
    if ¬ ((4 : Int32) < 0 ∨ 378 ≤ ((4 : Int32)).toNatClampNeg) then
      some ((sa ((4 : Int32)).toNatClampNeg), (upd x2 ((4 : Int32)).toNatClampNeg (-1 : Int32)))
    else none
  else none
def fX6_placeOf_L2 (fu : Nat) (sa : (Nat → Int32)) (p1 : Int32) : Nat → Int32 → Option (Int32)
  | 0, _ => none
  | k + 1, v2 =>
    if ¬ ((6 : Int32) < 0 ∨ 378 ≤ ((6 : Int32)).toNatClampNeg) then
      if (sa ((6 : Int32)).toNatClampNeg) ≤ v2 then
        some ((-1 : Int32))
      else
        if ¬ (((72 : Int32) + v2) < 0 ∨ 378 ≤ (((72 : Int32) + v2)).toNatClampNeg) then
          if (sa (((72 : Int32) + v2)).toNatClampNeg) = p1 then
            some (v2)
          else
            fX6_placeOf_L2 fu sa p1 k (v2 + 1)
        else none
    else none
def fX6_placeOf (fu : Nat) (sa : (Nat → Int32)) (p1 : Int32) : Option (Int32) :=
  fX6_placeOf_L2 fu sa p1 fu (0 : Int32)
def fX6_canComeIn (sa : (Nat → Int32)) (p1 : Int32) : Option (Bool) :=
  if ¬ ((4 : Int32) < 0 ∨ 378 ≤ ((4 : Int32)).toNatClampNeg) then
    if (sa ((4 : Int32)).toNatClampNeg) = (-1 : Int32) then
      (fX6_of sa p1 (4 : Int32)).bind fun x1 =>
      if x1 = (2 : Int32) then
        (fX6_stands sa p1).bind fun x2 =>
        if (bI x2) = 0 then
          some (false)
        else
          some (true)
      else
        some (false)
    else
      some (false)
  else none
def fX6_carry_L91 (fu : Nat) (p1 : Int32) : Nat → (Nat → Int32) → Int32 → Int32 → Option ((Nat → Int32))
  | 0, _, _, _ => none
  | k + 1, sa, v3, v4 =>
    if v4 ≤ v3 then
      if ¬ (((72 : Int32) + v3) < 0 ∨ 378 ≤ (((72 : Int32) + v3)).toNatClampNeg) then
        if ¬ ((6 : Int32) < 0 ∨ 378 ≤ ((6 : Int32)).toNatClampNeg) then
          if ¬ ((6 : Int32) < 0 ∨ 378 ≤ ((6 : Int32)).toNatClampNeg) then
            some ((upd (upd sa (((72 : Int32) + v3)).toNatClampNeg p1) ((6 : Int32)).toNatClampNeg (((upd sa (((72 : Int32) + v3)).toNatClampNeg p1) ((6 : Int32)).toNatClampNeg) + (1 : Int32))))
          else none
        else none
      else none
    else
      if ¬ ((((72 : Int32) + v4) - (1 : Int32)) < 0 ∨ 378 ≤ ((((72 : Int32) + v4) - (1 : Int32))).toNatClampNeg) then
        if ¬ (((72 : Int32) + v4) < 0 ∨ 378 ≤ (((72 : Int32) + v4)).toNatClampNeg) then
          fX6_carry_L91 fu p1 k (upd sa (((72 : Int32) + v4)).toNatClampNeg (sa ((((72 : Int32) + v4) - (1 : Int32))).toNatClampNeg)) v3 (v4 + (-1))
        else none
      else none
def fX6_carry_L4 (fu : Nat) (p1 : Int32) : Nat → (Nat → Int32) → Int32 → Int32 → Option ((Nat → Int32))
  | 0, _, _, _ => none
  | k + 1, sa, v2, v3 =>
    if ¬ ((6 : Int32) < 0 ∨ 378 ≤ ((6 : Int32)).toNatClampNeg) then
      if (sa ((6 : Int32)).toNatClampNeg) ≤ v3 then
        if ¬ ((6 : Int32) < 0 ∨ 378 ≤ ((6 : Int32)).toNatClampNeg) then
          if ¬ ((6 : Int32) < 0 ∨ 378 ≤ ((6 : Int32)).toNatClampNeg) then
            if ¬ ((7 : Int32) < 0 ∨ 378 ≤ ((7 : Int32)).toNatClampNeg) then
              (fX6_placeOf fu (upd sa ((6 : Int32)).toNatClampNeg ((sa ((6 : Int32)).toNatClampNeg) - (1 : Int32))) ((upd sa ((6 : Int32)).toNatClampNeg ((sa ((6 : Int32)).toNatClampNeg) - (1 : Int32))) ((7 : Int32)).toNatClampNeg)).bind fun x1 =>
              if ¬ ((6 : Int32) < 0 ∨ 378 ≤ ((6 : Int32)).toNatClampNeg) then
                fX6_carry_L91 fu p1 fu (upd sa ((6 : Int32)).toNatClampNeg ((sa ((6 : Int32)).toNatClampNeg) - (1 : Int32))) (x1 + (1 : Int32)) ((upd sa ((6 : Int32)).toNatClampNeg ((sa ((6 : Int32)).toNatClampNeg) - (1 : Int32))) ((6 : Int32)).toNatClampNeg)
              else none
            else none
          else none
        else none
      else
        if ¬ (((72 : Int32) + v3) < 0 ∨ 378 ≤ (((72 : Int32) + v3)).toNatClampNeg) then
          if ¬ (((72 : Int32) + v2) < 0 ∨ 378 ≤ (((72 : Int32) + v2)).toNatClampNeg) then
            if (sa (((72 : Int32) + v3)).toNatClampNeg) = p1 then
              fX6_carry_L4 fu p1 k (upd sa (((72 : Int32) + v2)).toNatClampNeg (sa (((72 : Int32) + v3)).toNatClampNeg)) (v2 + (0 : Int32)) (v3 + 1)
            else
              fX6_carry_L4 fu p1 k (upd sa (((72 : Int32) + v2)).toNatClampNeg (sa (((72 : Int32) + v3)).toNatClampNeg)) (v2 + (1 : Int32)) (v3 + 1)
          else none
        else none
    else none
def fX6_carry (fu : Nat) (sa : (Nat → Int32)) (p1 : Int32) : Option ((Nat → Int32)) :=
  fX6_carry_L4 fu p1 fu sa (0 : Int32) (0 : Int32)
def fX6_comesIn_J16 (fu : Nat) (p1 : Int32) (sa : (Nat → Int32)) : Option (Int32 × (Nat → Int32)) :=
  if ¬ ((7 : Int32) < 0 ∨ 378 ≤ ((7 : Int32)).toNatClampNeg) then
    if ¬ ((4 : Int32) < 0 ∨ 378 ≤ ((4 : Int32)).toNatClampNeg) then
      if ¬ ((5 : Int32) < 0 ∨ 378 ≤ ((5 : Int32)).toNatClampNeg) then
        (fX6_set (upd (upd (upd sa ((7 : Int32)).toNatClampNeg p1) ((4 : Int32)).toNatClampNeg p1) ((5 : Int32)).toNatClampNeg (0 : Int32)) p1 (4 : Int32) (1 : Int32)).bind fun x1 =>
        (fX6_placeOf fu x1 p1).bind fun x2 =>
        some (x2, x1)
      else none
    else none
  else none
def fX6_comesIn (fu : Nat) (sa : (Nat → Int32)) (p1 : Int32) : Option (Int32 × (Nat → Int32)) :=
  if ¬ ((7 : Int32) < 0 ∨ 378 ≤ ((7 : Int32)).toNatClampNeg) then
    if (sa ((7 : Int32)).toNatClampNeg) = p1 then
      fX6_comesIn_J16 fu p1 sa
    else
      (fX6_carry fu sa p1).bind fun x3 =>
      fX6_comesIn_J16 fu p1 x3
  else none
def fX6_ofAct (sa : (Nat → Int32)) (p1 : Int32) (p2 : Int32) : Option (Int32) :=
  if ¬ ((((322 : Int32) + ((7 : Int32) * p1)) + p2) < 0 ∨ 378 ≤ ((((322 : Int32) + ((7 : Int32) * p1)) + p2)).toNatClampNeg) then
    some ((sa ((((322 : Int32) + ((7 : Int32) * p1)) + p2)).toNatClampNeg))
  else none
def fX6_canAnswer (sa : (Nat → Int32)) (p1 : Int32) : Option (Bool) :=
  if ¬ ((8 : Int32) < 0 ∨ 378 ≤ ((8 : Int32)).toNatClampNeg) then
    (fX6_in (sa ((8 : Int32)).toNatClampNeg) (1 : Int32) (7 : Int32)).bind fun x1 =>
    if (bI x1) = 0 then
      some (false)
    else
      (fX6_stands sa p1).bind fun x2 =>
      if (bI x2) = 0 then
        some (false)
      else
        (fX6_of sa p1 (3 : Int32)).bind fun x3 =>
        if x3 = (1 : Int32) then
          if ¬ ((8 : Int32) < 0 ∨ 378 ≤ ((8 : Int32)).toNatClampNeg) then
            (fX6_ofAct sa ((sa ((8 : Int32)).toNatClampNeg) - (1 : Int32)) (1 : Int32)).bind fun x4 =>
            if x4 = p1 then
              some (false)
            else
              some (true)
          else none
        else
          some (false)
  else none
def fX6_canAct (sa : (Nat → Int32)) (p1 : Int32) (p2 : Int32) : Option (Bool) :=
  if ¬ ((8 : Int32) < 0 ∨ 378 ≤ ((8 : Int32)).toNatClampNeg) then
    if (sa ((8 : Int32)).toNatClampNeg) = 0 then
      if ¬ ((4 : Int32) < 0 ∨ 378 ≤ ((4 : Int32)).toNatClampNeg) then
        if (sa ((4 : Int32)).toNatClampNeg) = p1 then
          if p2 = (3 : Int32) then
            some (false)
          else
            some (true)
        else
          some (false)
      else none
    else
      (fX6_canAnswer sa p1).bind fun x1 =>
      some (x1)
  else none
def fX6_pushes_J27 (p1 : Int32) (p2 : Int32) (p3 : Int32) (p4 : Int32) (p5 : Int32) (p6 : Int32) (p7 : Int32) (sa : (Nat → Int32)) : Option (Int32 × (Nat → Int32)) :=
  if ¬ ((8 : Int32) < 0 ∨ 378 ≤ ((8 : Int32)).toNatClampNeg) then
    if ¬ (((322 : Int32) + ((7 : Int32) * (sa ((8 : Int32)).toNatClampNeg))) < 0 ∨ 378 ≤ (((322 : Int32) + ((7 : Int32) * (sa ((8 : Int32)).toNatClampNeg)))).toNatClampNeg) then
      if ¬ ((((322 : Int32) + ((7 : Int32) * (sa ((8 : Int32)).toNatClampNeg))) + (1 : Int32)) < 0 ∨ 378 ≤ ((((322 : Int32) + ((7 : Int32) * (sa ((8 : Int32)).toNatClampNeg))) + (1 : Int32))).toNatClampNeg) then
        if ¬ ((((322 : Int32) + ((7 : Int32) * (sa ((8 : Int32)).toNatClampNeg))) + (2 : Int32)) < 0 ∨ 378 ≤ ((((322 : Int32) + ((7 : Int32) * (sa ((8 : Int32)).toNatClampNeg))) + (2 : Int32))).toNatClampNeg) then
          if ¬ ((((322 : Int32) + ((7 : Int32) * (sa ((8 : Int32)).toNatClampNeg))) + (3 : Int32)) < 0 ∨ 378 ≤ ((((322 : Int32) + ((7 : Int32) * (sa ((8 : Int32)).toNatClampNeg))) + (3 : Int32))).toNatClampNeg) then
            if ¬ ((((322 : Int32) + ((7 : Int32) * (sa ((8 : Int32)).toNatClampNeg))) + (4 : Int32)) < 0 ∨ 378 ≤ ((((322 : Int32) + ((7 : Int32) * (sa ((8 : Int32)).toNatClampNeg))) + (4 : Int32))).toNatClampNeg) then
              if ¬ ((((322 : Int32) + ((7 : Int32) * (sa ((8 : Int32)).toNatClampNeg))) + (5 : Int32)) < 0 ∨ 378 ≤ ((((322 : Int32) + ((7 : Int32) * (sa ((8 : Int32)).toNatClampNeg))) + (5 : Int32))).toNatClampNeg) then
                if ¬ ((((322 : Int32) + ((7 : Int32) * (sa ((8 : Int32)).toNatClampNeg))) + (6 : Int32)) < 0 ∨ 378 ≤ ((((322 : Int32) + ((7 : Int32) * (sa ((8 : Int32)).toNatClampNeg))) + (6 : Int32))).toNatClampNeg) then
                  if ¬ ((8 : Int32) < 0 ∨ 378 ≤ ((8 : Int32)).toNatClampNeg) then
                    if ¬ ((8 : Int32) < 0 ∨ 378 ≤ ((8 : Int32)).toNatClampNeg) then
                      if ¬ ((8 : Int32) < 0 ∨ 378 ≤ ((8 : Int32)).toNatClampNeg) then
                        some (((upd (upd (upd (upd (upd (upd (upd (upd sa (((322 : Int32) + ((7 : Int32) * (sa ((8 : Int32)).toNatClampNeg)))).toNatClampNeg p1) ((((322 : Int32) + ((7 : Int32) * (sa ((8 : Int32)).toNatClampNeg))) + (1 : Int32))).toNatClampNeg p2) ((((322 : Int32) + ((7 : Int32) * (sa ((8 : Int32)).toNatClampNeg))) + (2 : Int32))).toNatClampNeg p3) ((((322 : Int32) + ((7 : Int32) * (sa ((8 : Int32)).toNatClampNeg))) + (3 : Int32))).toNatClampNeg p4) ((((322 : Int32) + ((7 : Int32) * (sa ((8 : Int32)).toNatClampNeg))) + (4 : Int32))).toNatClampNeg p5) ((((322 : Int32) + ((7 : Int32) * (sa ((8 : Int32)).toNatClampNeg))) + (5 : Int32))).toNatClampNeg p6) ((((322 : Int32) + ((7 : Int32) * (sa ((8 : Int32)).toNatClampNeg))) + (6 : Int32))).toNatClampNeg p7) ((8 : Int32)).toNatClampNeg (((upd (upd (upd (upd (upd (upd (upd sa (((322 : Int32) + ((7 : Int32) * (sa ((8 : Int32)).toNatClampNeg)))).toNatClampNeg p1) ((((322 : Int32) + ((7 : Int32) * (sa ((8 : Int32)).toNatClampNeg))) + (1 : Int32))).toNatClampNeg p2) ((((322 : Int32) + ((7 : Int32) * (sa ((8 : Int32)).toNatClampNeg))) + (2 : Int32))).toNatClampNeg p3) ((((322 : Int32) + ((7 : Int32) * (sa ((8 : Int32)).toNatClampNeg))) + (3 : Int32))).toNatClampNeg p4) ((((322 : Int32) + ((7 : Int32) * (sa ((8 : Int32)).toNatClampNeg))) + (4 : Int32))).toNatClampNeg p5) ((((322 : Int32) + ((7 : Int32) * (sa ((8 : Int32)).toNatClampNeg))) + (5 : Int32))).toNatClampNeg p6) ((((322 : Int32) + ((7 : Int32) * (sa ((8 : Int32)).toNatClampNeg))) + (6 : Int32))).toNatClampNeg p7) ((8 : Int32)).toNatClampNeg) + (1 : Int32))) ((8 : Int32)).toNatClampNeg), (upd (upd (upd (upd (upd (upd (upd (upd sa (((322 : Int32) + ((7 : Int32) * (sa ((8 : Int32)).toNatClampNeg)))).toNatClampNeg p1) ((((322 : Int32) + ((7 : Int32) * (sa ((8 : Int32)).toNatClampNeg))) + (1 : Int32))).toNatClampNeg p2) ((((322 : Int32) + ((7 : Int32) * (sa ((8 : Int32)).toNatClampNeg))) + (2 : Int32))).toNatClampNeg p3) ((((322 : Int32) + ((7 : Int32) * (sa ((8 : Int32)).toNatClampNeg))) + (3 : Int32))).toNatClampNeg p4) ((((322 : Int32) + ((7 : Int32) * (sa ((8 : Int32)).toNatClampNeg))) + (4 : Int32))).toNatClampNeg p5) ((((322 : Int32) + ((7 : Int32) * (sa ((8 : Int32)).toNatClampNeg))) + (5 : Int32))).toNatClampNeg p6) ((((322 : Int32) + ((7 : Int32) * (sa ((8 : Int32)).toNatClampNeg))) + (6 : Int32))).toNatClampNeg p7) ((8 : Int32)).toNatClampNeg (((upd (upd (upd (upd (upd (upd (upd sa (((322 : Int32) + ((7 : Int32) * (sa ((8 : Int32)).toNatClampNeg)))).toNatClampNeg p1) ((((322 : Int32) + ((7 : Int32) * (sa ((8 : Int32)).toNatClampNeg))) + (1 : Int32))).toNatClampNeg p2) ((((322 : Int32) + ((7 : Int32) * (sa ((8 : Int32)).toNatClampNeg))) + (2 : Int32))).toNatClampNeg p3) ((((322 : Int32) + ((7 : Int32) * (sa ((8 : Int32)).toNatClampNeg))) + (3 : Int32))).toNatClampNeg p4) ((((322 : Int32) + ((7 : Int32) * (sa ((8 : Int32)).toNatClampNeg))) + (4 : Int32))).toNatClampNeg p5) ((((322 : Int32) + ((7 : Int32) * (sa ((8 : Int32)).toNatClampNeg))) + (5 : Int32))).toNatClampNeg p6) ((((322 : Int32) + ((7 : Int32) * (sa ((8 : Int32)).toNatClampNeg))) + (6 : Int32))).toNatClampNeg p7) ((8 : Int32)).toNatClampNeg) + (1 : Int32))))
                      else none
                    else none
                  else none
                else none
              else none
            else none
          else none
        else none
      else none
    else none
  else none
def fX6_pushes (sa : (Nat → Int32)) (p1 : Int32) (p2 : Int32) (p3 : Int32) (p4 : Int32) (p5 : Int32) (p6 : Int32) (p7 : Int32) : Option (Int32 × (Nat → Int32)) :=
  if ¬ ((8 : Int32) < 0 ∨ 378 ≤ ((8 : Int32)).toNatClampNeg) then
    if (sa ((8 : Int32)).toNatClampNeg) = 0 then
      if ¬ ((5 : Int32) < 0 ∨ 378 ≤ ((5 : Int32)).toNatClampNeg) then
        fX6_pushes_J27 p1 p2 p3 p4 p5 p6 p7 (upd sa ((5 : Int32)).toNatClampNeg (1 : Int32))
      else none
    else
      (fX6_set sa p2 (3 : Int32) (0 : Int32)).bind fun x1 =>
      fX6_pushes_J27 p1 p2 p3 p4 p5 p6 p7 x1
  else none
def fX6_beginEffect_J27 (fu : Nat) (p1 : Int32) (sa : (Nat → Int32)) (v2 : Int32) (v3 : Int32) : Option ((Nat → Int32)) :=
  if ¬ ((1 : Int32) < 0 ∨ 378 ≤ ((1 : Int32)).toNatClampNeg) then
    if (sa ((1 : Int32)).toNatClampNeg) = (30 : Int32) then
      some (sa)
    else
      if ¬ ((1 : Int32) < 0 ∨ 378 ≤ ((1 : Int32)).toNatClampNeg) then
        (fX6_ofAct sa p1 (4 : Int32)).bind fun x3 =>
        if ¬ ((((82 : Int32) + ((8 : Int32) * (sa ((1 : Int32)).toNatClampNeg))) + (0 : Int32)) < 0 ∨ 378 ≤ ((((82 : Int32) + ((8 : Int32) * (sa ((1 : Int32)).toNatClampNeg))) + (0 : Int32))).toNatClampNeg) then
          (fX6_ofAct (upd sa ((((82 : Int32) + ((8 : Int32) * (sa ((1 : Int32)).toNatClampNeg))) + (0 : Int32))).toNatClampNeg x3) p1 (3 : Int32)).bind fun x4 =>
          if ¬ ((((82 : Int32) + ((8 : Int32) * (sa ((1 : Int32)).toNatClampNeg))) + (1 : Int32)) < 0 ∨ 378 ≤ ((((82 : Int32) + ((8 : Int32) * (sa ((1 : Int32)).toNatClampNeg))) + (1 : Int32))).toNatClampNeg) then
            if ¬ ((((82 : Int32) + ((8 : Int32) * (sa ((1 : Int32)).toNatClampNeg))) + (2 : Int32)) < 0 ∨ 378 ≤ ((((82 : Int32) + ((8 : Int32) * (sa ((1 : Int32)).toNatClampNeg))) + (2 : Int32))).toNatClampNeg) then
              (fX6_ofAct (upd (upd (upd sa ((((82 : Int32) + ((8 : Int32) * (sa ((1 : Int32)).toNatClampNeg))) + (0 : Int32))).toNatClampNeg x3) ((((82 : Int32) + ((8 : Int32) * (sa ((1 : Int32)).toNatClampNeg))) + (1 : Int32))).toNatClampNeg x4) ((((82 : Int32) + ((8 : Int32) * (sa ((1 : Int32)).toNatClampNeg))) + (2 : Int32))).toNatClampNeg v2) p1 (2 : Int32)).bind fun x5 =>
              if ¬ ((((82 : Int32) + ((8 : Int32) * (sa ((1 : Int32)).toNatClampNeg))) + (3 : Int32)) < 0 ∨ 378 ≤ ((((82 : Int32) + ((8 : Int32) * (sa ((1 : Int32)).toNatClampNeg))) + (3 : Int32))).toNatClampNeg) then
                (fX6_ofAct (upd (upd (upd (upd sa ((((82 : Int32) + ((8 : Int32) * (sa ((1 : Int32)).toNatClampNeg))) + (0 : Int32))).toNatClampNeg x3) ((((82 : Int32) + ((8 : Int32) * (sa ((1 : Int32)).toNatClampNeg))) + (1 : Int32))).toNatClampNeg x4) ((((82 : Int32) + ((8 : Int32) * (sa ((1 : Int32)).toNatClampNeg))) + (2 : Int32))).toNatClampNeg v2) ((((82 : Int32) + ((8 : Int32) * (sa ((1 : Int32)).toNatClampNeg))) + (3 : Int32))).toNatClampNeg x5) p1 (5 : Int32)).bind fun x6 =>
                if ¬ ((((82 : Int32) + ((8 : Int32) * (sa ((1 : Int32)).toNatClampNeg))) + (4 : Int32)) < 0 ∨ 378 ≤ ((((82 : Int32) + ((8 : Int32) * (sa ((1 : Int32)).toNatClampNeg))) + (4 : Int32))).toNatClampNeg) then
                  if ¬ ((((82 : Int32) + ((8 : Int32) * (sa ((1 : Int32)).toNatClampNeg))) + (5 : Int32)) < 0 ∨ 378 ≤ ((((82 : Int32) + ((8 : Int32) * (sa ((1 : Int32)).toNatClampNeg))) + (5 : Int32))).toNatClampNeg) then
                    if ¬ ((((82 : Int32) + ((8 : Int32) * (sa ((1 : Int32)).toNatClampNeg))) + (6 : Int32)) < 0 ∨ 378 ≤ ((((82 : Int32) + ((8 : Int32) * (sa ((1 : Int32)).toNatClampNeg))) + (6 : Int32))).toNatClampNeg) then
                      if ¬ ((11 : Int32) < 0 ∨ 378 ≤ ((11 : Int32)).toNatClampNeg) then
                        if ¬ ((((82 : Int32) + ((8 : Int32) * (sa ((1 : Int32)).toNatClampNeg))) + (7 : Int32)) < 0 ∨ 378 ≤ ((((82 : Int32) + ((8 : Int32) * (sa ((1 : Int32)).toNatClampNeg))) + (7 : Int32))).toNatClampNeg) then
                          if ¬ ((11 : Int32) < 0 ∨ 378 ≤ ((11 : Int32)).toNatClampNeg) then
                            if ¬ ((11 : Int32) < 0 ∨ 378 ≤ ((11 : Int32)).toNatClampNeg) then
                              if ¬ ((1 : Int32) < 0 ∨ 378 ≤ ((1 : Int32)).toNatClampNeg) then
                                if ¬ ((1 : Int32) < 0 ∨ 378 ≤ ((1 : Int32)).toNatClampNeg) then
                                  some ((upd (upd (upd (upd (upd (upd (upd (upd (upd (upd sa ((((82 : Int32) + ((8 : Int32) * (sa ((1 : Int32)).toNatClampNeg))) + (0 : Int32))).toNatClampNeg x3) ((((82 : Int32) + ((8 : Int32) * (sa ((1 : Int32)).toNatClampNeg))) + (1 : Int32))).toNatClampNeg x4) ((((82 : Int32) + ((8 : Int32) * (sa ((1 : Int32)).toNatClampNeg))) + (2 : Int32))).toNatClampNeg v2) ((((82 : Int32) + ((8 : Int32) * (sa ((1 : Int32)).toNatClampNeg))) + (3 : Int32))).toNatClampNeg x5) ((((82 : Int32) + ((8 : Int32) * (sa ((1 : Int32)).toNatClampNeg))) + (4 : Int32))).toNatClampNeg x6) ((((82 : Int32) + ((8 : Int32) * (sa ((1 : Int32)).toNatClampNeg))) + (5 : Int32))).toNatClampNeg (v3 / (2 : Int32))) ((((82 : Int32) + ((8 : Int32) * (sa ((1 : Int32)).toNatClampNeg))) + (6 : Int32))).toNatClampNeg (v3 - v3 / (2 : Int32) * (2 : Int32))) ((((82 : Int32) + ((8 : Int32) * (sa ((1 : Int32)).toNatClampNeg))) + (7 : Int32))).toNatClampNeg ((upd (upd (upd (upd (upd (upd (upd sa ((((82 : Int32) + ((8 : Int32) * (sa ((1 : Int32)).toNatClampNeg))) + (0 : Int32))).toNatClampNeg x3) ((((82 : Int32) + ((8 : Int32) * (sa ((1 : Int32)).toNatClampNeg))) + (1 : Int32))).toNatClampNeg x4) ((((82 : Int32) + ((8 : Int32) * (sa ((1 : Int32)).toNatClampNeg))) + (2 : Int32))).toNatClampNeg v2) ((((82 : Int32) + ((8 : Int32) * (sa ((1 : Int32)).toNatClampNeg))) + (3 : Int32))).toNatClampNeg x5) ((((82 : Int32) + ((8 : Int32) * (sa ((1 : Int32)).toNatClampNeg))) + (4 : Int32))).toNatClampNeg x6) ((((82 : Int32) + ((8 : Int32) * (sa ((1 : Int32)).toNatClampNeg))) + (5 : Int32))).toNatClampNeg (v3 / (2 : Int32))) ((((82 : Int32) + ((8 : Int32) * (sa ((1 : Int32)).toNatClampNeg))) + (6 : Int32))).toNatClampNeg (v3 - v3 / (2 : Int32) * (2 : Int32))) ((11 : Int32)).toNatClampNeg)) ((11 : Int32)).toNatClampNeg (((upd (upd (upd (upd (upd (upd (upd (upd sa ((((82 : Int32) + ((8 : Int32) * (sa ((1 : Int32)).toNatClampNeg))) + (0 : Int32))).toNatClampNeg x3) ((((82 : Int32) + ((8 : Int32) * (sa ((1 : Int32)).toNatClampNeg))) + (1 : Int32))).toNatClampNeg x4) ((((82 : Int32) + ((8 : Int32) * (sa ((1 : Int32)).toNatClampNeg))) + (2 : Int32))).toNatClampNeg v2) ((((82 : Int32) + ((8 : Int32) * (sa ((1 : Int32)).toNatClampNeg))) + (3 : Int32))).toNatClampNeg x5) ((((82 : Int32) + ((8 : Int32) * (sa ((1 : Int32)).toNatClampNeg))) + (4 : Int32))).toNatClampNeg x6) ((((82 : Int32) + ((8 : Int32) * (sa ((1 : Int32)).toNatClampNeg))) + (5 : Int32))).toNatClampNeg (v3 / (2 : Int32))) ((((82 : Int32) + ((8 : Int32) * (sa ((1 : Int32)).toNatClampNeg))) + (6 : Int32))).toNatClampNeg (v3 - v3 / (2 : Int32) * (2 : Int32))) ((((82 : Int32) + ((8 : Int32) * (sa ((1 : Int32)).toNatClampNeg))) + (7 : Int32))).toNatClampNeg ((upd (upd (upd (upd (upd (upd (upd sa ((((82 : Int32) + ((8 : Int32) * (sa ((1 : Int32)).toNatClampNeg))) + (0 : Int32))).toNatClampNeg x3) ((((82 : Int32) + ((8 : Int32) * (sa ((1 : Int32)).toNatClampNeg))) + (1 : Int32))).toNatClampNeg x4) ((((82 : Int32) + ((8 : Int32) * (sa ((1 : Int32)).toNatClampNeg))) + (2 : Int32))).toNatClampNeg v2) ((((82 : Int32) + ((8 : Int32) * (sa ((1 : Int32)).toNatClampNeg))) + (3 : Int32))).toNatClampNeg x5) ((((82 : Int32) + ((8 : Int32) * (sa ((1 : Int32)).toNatClampNeg))) + (4 : Int32))).toNatClampNeg x6) ((((82 : Int32) + ((8 : Int32) * (sa ((1 : Int32)).toNatClampNeg))) + (5 : Int32))).toNatClampNeg (v3 / (2 : Int32))) ((((82 : Int32) + ((8 : Int32) * (sa ((1 : Int32)).toNatClampNeg))) + (6 : Int32))).toNatClampNeg (v3 - v3 / (2 : Int32) * (2 : Int32))) ((11 : Int32)).toNatClampNeg)) ((11 : Int32)).toNatClampNeg) + (1 : Int32))) ((1 : Int32)).toNatClampNeg (((upd (upd (upd (upd (upd (upd (upd (upd (upd sa ((((82 : Int32) + ((8 : Int32) * (sa ((1 : Int32)).toNatClampNeg))) + (0 : Int32))).toNatClampNeg x3) ((((82 : Int32) + ((8 : Int32) * (sa ((1 : Int32)).toNatClampNeg))) + (1 : Int32))).toNatClampNeg x4) ((((82 : Int32) + ((8 : Int32) * (sa ((1 : Int32)).toNatClampNeg))) + (2 : Int32))).toNatClampNeg v2) ((((82 : Int32) + ((8 : Int32) * (sa ((1 : Int32)).toNatClampNeg))) + (3 : Int32))).toNatClampNeg x5) ((((82 : Int32) + ((8 : Int32) * (sa ((1 : Int32)).toNatClampNeg))) + (4 : Int32))).toNatClampNeg x6) ((((82 : Int32) + ((8 : Int32) * (sa ((1 : Int32)).toNatClampNeg))) + (5 : Int32))).toNatClampNeg (v3 / (2 : Int32))) ((((82 : Int32) + ((8 : Int32) * (sa ((1 : Int32)).toNatClampNeg))) + (6 : Int32))).toNatClampNeg (v3 - v3 / (2 : Int32) * (2 : Int32))) ((((82 : Int32) + ((8 : Int32) * (sa ((1 : Int32)).toNatClampNeg))) + (7 : Int32))).toNatClampNeg ((upd (upd (upd (upd (upd (upd (upd sa ((((82 : Int32) + ((8 : Int32) * (sa ((1 : Int32)).toNatClampNeg))) + (0 : Int32))).toNatClampNeg x3) ((((82 : Int32) + ((8 : Int32) * (sa ((1 : Int32)).toNatClampNeg))) + (1 : Int32))).toNatClampNeg x4) ((((82 : Int32) + ((8 : Int32) * (sa ((1 : Int32)).toNatClampNeg))) + (2 : Int32))).toNatClampNeg v2) ((((82 : Int32) + ((8 : Int32) * (sa ((1 : Int32)).toNatClampNeg))) + (3 : Int32))).toNatClampNeg x5) ((((82 : Int32) + ((8 : Int32) * (sa ((1 : Int32)).toNatClampNeg))) + (4 : Int32))).toNatClampNeg x6) ((((82 : Int32) + ((8 : Int32) * (sa ((1 : Int32)).toNatClampNeg))) + (5 : Int32))).toNatClampNeg (v3 / (2 : Int32))) ((((82 : Int32) + ((8 : Int32) * (sa ((1 : Int32)).toNatClampNeg))) + (6 : Int32))).toNatClampNeg (v3 - v3 / (2 : Int32) * (2 : Int32))) ((11 : Int32)).toNatClampNeg)) ((11 : Int32)).toNatClampNeg (((upd (upd (upd (upd (upd (upd (upd (upd sa ((((82 : Int32) + ((8 : Int32) * (sa ((1 : Int32)).toNatClampNeg))) + (0 : Int32))).toNatClampNeg x3) ((((82 : Int32) + ((8 : Int32) * (sa ((1 : Int32)).toNatClampNeg))) + (1 : Int32))).toNatClampNeg x4) ((((82 : Int32) + ((8 : Int32) * (sa ((1 : Int32)).toNatClampNeg))) + (2 : Int32))).toNatClampNeg v2) ((((82 : Int32) + ((8 : Int32) * (sa ((1 : Int32)).toNatClampNeg))) + (3 : Int32))).toNatClampNeg x5) ((((82 : Int32) + ((8 : Int32) * (sa ((1 : Int32)).toNatClampNeg))) + (4 : Int32))).toNatClampNeg x6) ((((82 : Int32) + ((8 : Int32) * (sa ((1 : Int32)).toNatClampNeg))) + (5 : Int32))).toNatClampNeg (v3 / (2 : Int32))) ((((82 : Int32) + ((8 : Int32) * (sa ((1 : Int32)).toNatClampNeg))) + (6 : Int32))).toNatClampNeg (v3 - v3 / (2 : Int32) * (2 : Int32))) ((((82 : Int32) + ((8 : Int32) * (sa ((1 : Int32)).toNatClampNeg))) + (7 : Int32))).toNatClampNeg ((upd (upd (upd (upd (upd (upd (upd sa ((((82 : Int32) + ((8 : Int32) * (sa ((1 : Int32)).toNatClampNeg))) + (0 : Int32))).toNatClampNeg x3) ((((82 : Int32) + ((8 : Int32) * (sa ((1 : Int32)).toNatClampNeg))) + (1 : Int32))).toNatClampNeg x4) ((((82 : Int32) + ((8 : Int32) * (sa ((1 : Int32)).toNatClampNeg))) + (2 : Int32))).toNatClampNeg v2) ((((82 : Int32) + ((8 : Int32) * (sa ((1 : Int32)).toNatClampNeg))) + (3 : Int32))).toNatClampNeg x5) ((((82 : Int32) + ((8 : Int32) * (sa ((1 : Int32)).toNatClampNeg))) + (4 : Int32))).toNatClampNeg x6) ((((82 : Int32) + ((8 : Int32) * (sa ((1 : Int32)).toNatClampNeg))) + (5 : Int32))).toNatClampNeg (v3 / (2 : Int32))) ((((82 : Int32) + ((8 : Int32) * (sa ((1 : Int32)).toNatClampNeg))) + (6 : Int32))).toNatClampNeg (v3 - v3 / (2 : Int32) * (2 : Int32))) ((11 : Int32)).toNatClampNeg)) ((11 : Int32)).toNatClampNeg) + (1 : Int32))) ((1 : Int32)).toNatClampNeg) + (1 : Int32))))
                                else none
                              else none
                            else none
                          else none
                        else none
                      else none
                    else none
                  else none
                else none
              else none
            else none
          else none
        else none
      else none
  else none
def fX6_beginEffect (fu : Nat) (sa : (Nat → Int32)) (p1 : Int32) : Option ((Nat → Int32)) :=
  (fX6_ofAct sa p1 (1 : Int32)).bind fun x1 =>
  (fX6_ofAct sa p1 (6 : Int32)).bind fun x2 =>
  if (x2 - x2 / (2 : Int32) * (2 : Int32)) = (1 : Int32) then
    (fX6_stopHolding fu sa x1).bind fun x7 =>
    fX6_beginEffect_J27 fu p1 x7 x1 x2
  else
    fX6_beginEffect_J27 fu p1 sa x1 x2
def fX6_happen (fu : Nat) (sa : (Nat → Int32)) (p1 : Int32) : Option ((Nat → Int32)) :=
  (fX6_ofAct sa p1 (2 : Int32)).bind fun x1 =>
  (fX6_ofAct sa p1 (3 : Int32)).bind fun x2 =>
  (fX6_ofAct sa p1 (0 : Int32)).bind fun x3 =>
  if x3 = 0 then
    (fX6_harm fu sa x1 x2 false).bind fun x5 =>
    some (x5)
  else
  if x3 = 1 then
    (fX6_of sa x1 (2 : Int32)).bind fun x7 =>
    (fX6_of sa x1 (1 : Int32)).bind fun x8 =>
    if (x7 + x2) ≤ x8 then
      (fX6_set sa x1 (2 : Int32) (x7 + x2)).bind fun x9 =>
      some (x9)
    else
      (fX6_of sa x1 (1 : Int32)).bind fun x10 =>
      (fX6_set sa x1 (2 : Int32) x10).bind fun x11 =>
      some (x11)
  else
  if x3 = 2 then
    (fX6_beginEffect fu sa p1).bind fun x13 =>
    some (x13)
  else
  if ¬ ((8 : Int32) < 0 ∨ 378 ≤ ((8 : Int32)).toNatClampNeg) then
    if ¬ ((8 : Int32) < 0 ∨ 378 ≤ ((8 : Int32)).toNatClampNeg) then
      if (sa ((8 : Int32)).toNatClampNeg) ≤ 0 then
        if ¬ ((8 : Int32) < 0 ∨ 378 ≤ ((8 : Int32)).toNatClampNeg) then
          some ((upd sa ((8 : Int32)).toNatClampNeg ((sa ((8 : Int32)).toNatClampNeg) - (0 : Int32))))
        else none
      else
        if ¬ ((8 : Int32) < 0 ∨ 378 ≤ ((8 : Int32)).toNatClampNeg) then
          some ((upd sa ((8 : Int32)).toNatClampNeg ((sa ((8 : Int32)).toNatClampNeg) - (1 : Int32))))
        else none
    else none
  else none
def fX6_settles_L2 (fu : Nat)  : Nat → (Nat → Int32) → Int32 → Option (Int32 × (Nat → Int32))
  | 0, _, _ => none
  | k + 1, sa, v1 =>
    if ¬ ((8 : Int32) < 0 ∨ 378 ≤ ((8 : Int32)).toNatClampNeg) then
      if (sa ((8 : Int32)).toNatClampNeg) ≤ 0 then
        if ¬ ((4 : Int32) < 0 ∨ 378 ≤ ((4 : Int32)).toNatClampNeg) then
          if (sa ((4 : Int32)).toNatClampNeg) = (-1 : Int32) then
            some (v1, sa)
          else
            if ¬ ((4 : Int32) < 0 ∨ 378 ≤ ((4 : Int32)).toNatClampNeg) then
              (fX6_stands sa (sa ((4 : Int32)).toNatClampNeg)).bind fun x1 =>
              if (bI x1) = 0 then
                if ¬ ((4 : Int32) < 0 ∨ 378 ≤ ((4 : Int32)).toNatClampNeg) then
                  some (v1, (upd sa ((4 : Int32)).toNatClampNeg (-1 : Int32)))
                else none
              else
                some (v1, sa)
            else none
        else none
      else
        if ¬ ((8 : Int32) < 0 ∨ 378 ≤ ((8 : Int32)).toNatClampNeg) then
          if ¬ ((8 : Int32) < 0 ∨ 378 ≤ ((8 : Int32)).toNatClampNeg) then
            if ¬ ((8 : Int32) < 0 ∨ 378 ≤ ((8 : Int32)).toNatClampNeg) then
              (fX6_ofAct (upd sa ((8 : Int32)).toNatClampNeg ((sa ((8 : Int32)).toNatClampNeg) - (1 : Int32))) ((upd sa ((8 : Int32)).toNatClampNeg ((sa ((8 : Int32)).toNatClampNeg) - (1 : Int32))) ((8 : Int32)).toNatClampNeg) (1 : Int32)).bind fun x2 =>
              (fX6_stands (upd sa ((8 : Int32)).toNatClampNeg ((sa ((8 : Int32)).toNatClampNeg) - (1 : Int32))) x2).bind fun x3 =>
              if (bI x3) = 0 then
                fX6_settles_L2 fu k (upd sa ((8 : Int32)).toNatClampNeg ((sa ((8 : Int32)).toNatClampNeg) - (1 : Int32))) v1
              else
                (fX6_ofAct (upd sa ((8 : Int32)).toNatClampNeg ((sa ((8 : Int32)).toNatClampNeg) - (1 : Int32))) ((upd sa ((8 : Int32)).toNatClampNeg ((sa ((8 : Int32)).toNatClampNeg) - (1 : Int32))) ((8 : Int32)).toNatClampNeg) (0 : Int32)).bind fun x4 =>
                if x4 = (3 : Int32) then
                  (fX6_happen fu (upd sa ((8 : Int32)).toNatClampNeg ((sa ((8 : Int32)).toNatClampNeg) - (1 : Int32))) ((upd sa ((8 : Int32)).toNatClampNeg ((sa ((8 : Int32)).toNatClampNeg) - (1 : Int32))) ((8 : Int32)).toNatClampNeg)).bind fun x5 =>
                  fX6_settles_L2 fu k x5 (v1 + 1)
                else
                  (fX6_ofAct (upd sa ((8 : Int32)).toNatClampNeg ((sa ((8 : Int32)).toNatClampNeg) - (1 : Int32))) ((upd sa ((8 : Int32)).toNatClampNeg ((sa ((8 : Int32)).toNatClampNeg) - (1 : Int32))) ((8 : Int32)).toNatClampNeg) (2 : Int32)).bind fun x6 =>
                  (fX6_stands (upd sa ((8 : Int32)).toNatClampNeg ((sa ((8 : Int32)).toNatClampNeg) - (1 : Int32))) x6).bind fun x7 =>
                  if (bI x7) = 0 then
                    fX6_settles_L2 fu k (upd sa ((8 : Int32)).toNatClampNeg ((sa ((8 : Int32)).toNatClampNeg) - (1 : Int32))) v1
                  else
                    (fX6_happen fu (upd sa ((8 : Int32)).toNatClampNeg ((sa ((8 : Int32)).toNatClampNeg) - (1 : Int32))) ((upd sa ((8 : Int32)).toNatClampNeg ((sa ((8 : Int32)).toNatClampNeg) - (1 : Int32))) ((8 : Int32)).toNatClampNeg)).bind fun x8 =>
                    fX6_settles_L2 fu k x8 (v1 + 1)
            else none
          else none
        else none
    else none
def fX6_settles (fu : Nat) (sa : (Nat → Int32)) : Option (Int32 × (Nat → Int32)) :=
  fX6_settles_L2 fu fu sa (0 : Int32)
def fX6_add (fu : Nat) (th : Int32) (sa : (Nat → Int32)) (sv : (Nat → Int32)) (sm : Int32) (p1 : Int32) (p2 : Int32) : Option (Int32 × Int32 × (Nat → Int32) × (Nat → Int32) × Int32) :=
  (fX6_in p1 (1 : Int32) (30 : Int32)).bind fun x1 =>
  if (bI x1) = 0 then
    (fX6_fails (0 : Int32) (1 : Int32)).bind fun x2 =>
    some (x2.1, x2.2, sa, sv, sm)
  else
    (fX6_in p2 (1 : Int32) (200 : Int32)).bind fun x3 =>
    if (bI x3) = 0 then
      (fX6_fails (0 : Int32) (1 : Int32)).bind fun x12 =>
      some (x12.1, x12.2, sa, sv, sm)
    else
      if ¬ ((0 : Int32) < 0 ∨ 378 ≤ ((0 : Int32)).toNatClampNeg) then
        if (sa ((0 : Int32)).toNatClampNeg) = (10 : Int32) then
          (fX6_fails (0 : Int32) (2 : Int32)).bind fun x11 =>
          some (x11.1, x11.2, sa, sv, sm)
        else
          (fX6_save fu sa sv sm).bind fun x4 =>
          if ¬ ((0 : Int32) < 0 ∨ 378 ≤ ((0 : Int32)).toNatClampNeg) then
            if ¬ ((0 : Int32) < 0 ∨ 378 ≤ ((0 : Int32)).toNatClampNeg) then
              if ¬ ((0 : Int32) < 0 ∨ 378 ≤ ((0 : Int32)).toNatClampNeg) then
                (fX6_set (upd sa ((0 : Int32)).toNatClampNeg ((sa ((0 : Int32)).toNatClampNeg) + (1 : Int32))) (sa ((0 : Int32)).toNatClampNeg) (0 : Int32) p1).bind fun x5 =>
                (fX6_set x5 (sa ((0 : Int32)).toNatClampNeg) (1 : Int32) p2).bind fun x6 =>
                (fX6_set x6 (sa ((0 : Int32)).toNatClampNeg) (2 : Int32) p2).bind fun x7 =>
                (fX6_set x7 (sa ((0 : Int32)).toNatClampNeg) (3 : Int32) (1 : Int32)).bind fun x8 =>
                (fX6_set x8 (sa ((0 : Int32)).toNatClampNeg) (4 : Int32) (-1 : Int32)).bind fun x9 =>
                (fX6_set x9 (sa ((0 : Int32)).toNatClampNeg) (5 : Int32) (0 : Int32)).bind fun x10 =>
                some ((sa ((0 : Int32)).toNatClampNeg), (0 : Int32), x10, x4.1, x4.2)
              else none
            else none
          else none
      else none
def fX6_setSpeed (fu : Nat) (th : Int32) (sa : (Nat → Int32)) (sv : (Nat → Int32)) (sm : Int32) (p1 : Int32) (p2 : Int32) : Option (Int32 × Int32 × (Nat → Int32) × (Nat → Int32) × Int32) :=
  (fX6_isFighter sa p1).bind fun x1 =>
  if (bI x1) = 0 then
    (fX6_fails (0 : Int32) (1 : Int32)).bind fun x7 =>
    some (x7.1, x7.2, sa, sv, sm)
  else
    (fX6_in p2 (1 : Int32) (30 : Int32)).bind fun x2 =>
    if (bI x2) = 0 then
      (fX6_fails (0 : Int32) (2 : Int32)).bind fun x6 =>
      some (x6.1, x6.2, sa, sv, sm)
    else
      (fX6_save fu sa sv sm).bind fun x3 =>
      (fX6_of sa p1 (0 : Int32)).bind fun x4 =>
      (fX6_set sa p1 (0 : Int32) p2).bind fun x5 =>
      some (x4, (0 : Int32), x5, x3.1, x3.2)
def fX6_setShock (fu : Nat) (th : Int32) (sa : (Nat → Int32)) (sv : (Nat → Int32)) (sm : Int32) (p1 : Int32) : Option (Int32 × Int32 × (Nat → Int32) × (Nat → Int32) × Int32) :=
  (fX6_in p1 (1 : Int32) (200 : Int32)).bind fun x1 =>
  if (bI x1) = 0 then
    (fX6_fails (0 : Int32) (1 : Int32)).bind fun x3 =>
    some (x3.1, x3.2, sa, sv, sm)
  else
    (fX6_save fu sa sv sm).bind fun x2 =>
    if ¬ ((2 : Int32) < 0 ∨ 378 ≤ ((2 : Int32)).toNatClampNeg) then
      if ¬ ((2 : Int32) < 0 ∨ 378 ≤ ((2 : Int32)).toNatClampNeg) then
        some ((sa ((2 : Int32)).toNatClampNeg), (0 : Int32), (upd sa ((2 : Int32)).toNatClampNeg p1), x2.1, x2.2)
      else none
    else none
def fX6_effectsOn_L4 (fu : Nat) (sa : (Nat → Int32)) (p1 : Int32) : Nat → Int32 → Int32 → Option (Int32)
  | 0, _, _ => none
  | k + 1, v2, v3 =>
    if ¬ ((1 : Int32) < 0 ∨ 378 ≤ ((1 : Int32)).toNatClampNeg) then
      if (sa ((1 : Int32)).toNatClampNeg) ≤ v3 then
        some (v2)
      else
        (fX6_ofEffect sa v3 (3 : Int32)).bind fun x1 =>
        if x1 = p1 then
          fX6_effectsOn_L4 fu sa p1 k (v2 + (1 : Int32)) (v3 + 1)
        else
          fX6_effectsOn_L4 fu sa p1 k (v2 + (0 : Int32)) (v3 + 1)
    else none
def fX6_effectsOn (fu : Nat) (sa : (Nat → Int32)) (p1 : Int32) : Option (Int32) :=
  fX6_effectsOn_L4 fu sa p1 fu (0 : Int32) (0 : Int32)
def fX6_valueOfFighter (fu : Nat) (sa : (Nat → Int32)) (p1 : Int32) (p2 : Int32) : Option (Int32) :=
  if p2 = 3 then
    (fX6_speedOf fu sa p1).bind fun x2 =>
    some (x2)
  else
  if p2 = 4 then
    (fX6_of sa p1 (3 : Int32)).bind fun x4 =>
    some (x4)
  else
  if p2 = 5 then
    (fX6_of sa p1 (4 : Int32)).bind fun x6 =>
    some (x6)
  else
  if p2 = 6 then
    (fX6_placeOf fu sa p1).bind fun x8 =>
    some (x8)
  else
  if p2 = 7 then
    (fX6_heldBy fu sa p1).bind fun x10 =>
    some (x10)
  else
  if p2 = 8 then
    (fX6_effectsOn fu sa p1).bind fun x12 =>
    some (x12)
  else
  (fX6_of sa p1 p2).bind fun x13 =>
  some (x13)
def fX6_fighter (fu : Nat) (th : Int32) (sa : (Nat → Int32)) (p1 : Int32) (p2 : Int32) : Option (Int32 × Int32) :=
  (fX6_isFighter sa p1).bind fun x1 =>
  if (bI x1) = 0 then
    (fX6_fails (0 : Int32) (1 : Int32)).bind fun x5 =>
    some (x5.1, x5.2)
  else
    (fX6_in p2 (0 : Int32) (8 : Int32)).bind fun x2 =>
    if (bI x2) = 0 then
      (fX6_fails (0 : Int32) (2 : Int32)).bind fun x3 =>
      some (x3.1, x3.2)
    else
      (fX6_valueOfFighter fu sa p1 p2).bind fun x4 =>
      some (x4, (0 : Int32))
def fX6_effect (th : Int32) (sa : (Nat → Int32)) (p1 : Int32) (p2 : Int32) : Option (Int32 × Int32) :=
  if ¬ ((1 : Int32) < 0 ∨ 378 ≤ ((1 : Int32)).toNatClampNeg) then
    (fX6_in p1 (0 : Int32) ((sa ((1 : Int32)).toNatClampNeg) - (1 : Int32))).bind fun x1 =>
    if (bI x1) = 0 then
      (fX6_fails (0 : Int32) (1 : Int32)).bind fun x5 =>
      some (x5.1, x5.2)
    else
      (fX6_in p2 (0 : Int32) (6 : Int32)).bind fun x2 =>
      if (bI x2) = 0 then
        (fX6_fails (0 : Int32) (2 : Int32)).bind fun x3 =>
        some (x3.1, x3.2)
      else
        (fX6_ofEffect sa p1 p2).bind fun x4 =>
        some (x4, (0 : Int32))
  else none
def fX6_standing_L4 (fu : Nat) (sa : (Nat → Int32)) : Nat → Int32 → Int32 → Option (Int32)
  | 0, _, _ => none
  | k + 1, v1, v2 =>
    if ¬ ((0 : Int32) < 0 ∨ 378 ≤ ((0 : Int32)).toNatClampNeg) then
      if (sa ((0 : Int32)).toNatClampNeg) ≤ v2 then
        some (v1)
      else
        (fX6_stands sa v2).bind fun x1 =>
        if (bI x1) = 0 then
          fX6_standing_L4 fu sa k (v1 + (0 : Int32)) (v2 + 1)
        else
          fX6_standing_L4 fu sa k (v1 + (1 : Int32)) (v2 + 1)
    else none
def fX6_standing (fu : Nat) (sa : (Nat → Int32)) : Option (Int32) :=
  fX6_standing_L4 fu sa fu (0 : Int32) (0 : Int32)
def fX6_valueOf (fu : Nat) (sa : (Nat → Int32)) (p1 : Int32) : Option (Int32) :=
  if p1 = 0 then
    if ¬ ((0 : Int32) < 0 ∨ 378 ≤ ((0 : Int32)).toNatClampNeg) then
      some ((sa ((0 : Int32)).toNatClampNeg))
    else none
  else
  if p1 = 1 then
    (fX6_standing fu sa).bind fun x3 =>
    some (x3)
  else
  if p1 = 2 then
    if ¬ ((1 : Int32) < 0 ∨ 378 ≤ ((1 : Int32)).toNatClampNeg) then
      some ((sa ((1 : Int32)).toNatClampNeg))
    else none
  else
  if p1 = 3 then
    if ¬ ((3 : Int32) < 0 ∨ 378 ≤ ((3 : Int32)).toNatClampNeg) then
      some ((sa ((3 : Int32)).toNatClampNeg))
    else none
  else
  if p1 = 4 then
    if ¬ ((4 : Int32) < 0 ∨ 378 ≤ ((4 : Int32)).toNatClampNeg) then
      some ((sa ((4 : Int32)).toNatClampNeg))
    else none
  else
  if p1 = 5 then
    if ¬ ((8 : Int32) < 0 ∨ 378 ≤ ((8 : Int32)).toNatClampNeg) then
      some ((sa ((8 : Int32)).toNatClampNeg))
    else none
  else
  if p1 = 6 then
    if ¬ ((2 : Int32) < 0 ∨ 378 ≤ ((2 : Int32)).toNatClampNeg) then
      some ((sa ((2 : Int32)).toNatClampNeg))
    else none
  else
  if p1 = 7 then
    if ¬ ((9 : Int32) < 0 ∨ 378 ≤ ((9 : Int32)).toNatClampNeg) then
      some ((sa ((9 : Int32)).toNatClampNeg))
    else none
  else
  if ¬ ((10 : Int32) < 0 ∨ 378 ≤ ((10 : Int32)).toNatClampNeg) then
    some ((sa ((10 : Int32)).toNatClampNeg))
  else none
def fX6_value (fu : Nat) (th : Int32) (sa : (Nat → Int32)) (p1 : Int32) : Option (Int32 × Int32) :=
  (fX6_in p1 (0 : Int32) (8 : Int32)).bind fun x1 =>
  if (bI x1) = 0 then
    (fX6_fails (0 : Int32) (1 : Int32)).bind fun x2 =>
    some (x2.1, x2.2)
  else
    (fX6_valueOf fu sa p1).bind fun x3 =>
    some (x3, (0 : Int32))
def fX6_inList (th : Int32) (sa : (Nat → Int32)) (p1 : Int32) : Option (Int32 × Int32) :=
  if ¬ ((6 : Int32) < 0 ∨ 378 ≤ ((6 : Int32)).toNatClampNeg) then
    (fX6_in p1 (0 : Int32) ((sa ((6 : Int32)).toNatClampNeg) - (1 : Int32))).bind fun x1 =>
    if (bI x1) = 0 then
      (fX6_fails (0 : Int32) (1 : Int32)).bind fun x2 =>
      some (x2.1, x2.2)
    else
      if ¬ (((72 : Int32) + p1) < 0 ∨ 378 ≤ (((72 : Int32) + p1)).toNatClampNeg) then
        some ((sa (((72 : Int32) + p1)).toNatClampNeg), (0 : Int32))
      else none
  else none
def fX6_next (fu : Nat) (th : Int32) (sa : (Nat → Int32)) (sv : (Nat → Int32)) (sm : Int32) : Option (Int32 × Int32 × (Nat → Int32) × (Nat → Int32) × Int32) :=
  if ¬ ((4 : Int32) < 0 ∨ 378 ≤ ((4 : Int32)).toNatClampNeg) then
    if (sa ((4 : Int32)).toNatClampNeg) = (-1 : Int32) then
      (fX6_save fu sa sv sm).bind fun x1 =>
      (fX6_begins fu sa).bind fun x2 =>
      some (x2.1, (0 : Int32), x2.2, x1.1, x1.2)
    else
      (fX6_fails (0 : Int32) (1 : Int32)).bind fun x3 =>
      some (x3.1, x3.2, sa, sv, sm)
  else none
def fX6_canEnd (sa : (Nat → Int32)) : Option (Bool) :=
  if ¬ ((4 : Int32) < 0 ∨ 378 ≤ ((4 : Int32)).toNatClampNeg) then
    if (sa ((4 : Int32)).toNatClampNeg) = (-1 : Int32) then
      some (false)
    else
      if ¬ ((8 : Int32) < 0 ∨ 378 ≤ ((8 : Int32)).toNatClampNeg) then
        if (sa ((8 : Int32)).toNatClampNeg) = 0 then
          some (true)
        else
          some (false)
      else none
  else none
def fX6_end (fu : Nat) (th : Int32) (sa : (Nat → Int32)) (sv : (Nat → Int32)) (sm : Int32) : Option (Int32 × Int32 × (Nat → Int32) × (Nat → Int32) × Int32) :=
  (fX6_canEnd sa).bind fun x1 =>
  if (bI x1) = 0 then
    (fX6_fails (0 : Int32) (1 : Int32)).bind fun x4 =>
    some (x4.1, x4.2, sa, sv, sm)
  else
    (fX6_save fu sa sv sm).bind fun x2 =>
    (fX6_ends fu sa).bind fun x3 =>
    some (x3.1, (0 : Int32), x3.2, x2.1, x2.2)
def fX6_delay (fu : Nat) (th : Int32) (sa : (Nat → Int32)) (sv : (Nat → Int32)) (sm : Int32) : Option (Int32 × Int32 × (Nat → Int32) × (Nat → Int32) × Int32) :=
  (fX6_canDelay sa).bind fun x1 =>
  if (bI x1) = 0 then
    (fX6_fails (0 : Int32) (1 : Int32)).bind fun x4 =>
    some (x4.1, x4.2, sa, sv, sm)
  else
    (fX6_save fu sa sv sm).bind fun x2 =>
    (fX6_delays sa).bind fun x3 =>
    some (x3.1, (0 : Int32), x3.2, x2.1, x2.2)
def fX6_comeIn (fu : Nat) (th : Int32) (sa : (Nat → Int32)) (sv : (Nat → Int32)) (sm : Int32) (p1 : Int32) : Option (Int32 × Int32 × (Nat → Int32) × (Nat → Int32) × Int32) :=
  (fX6_isFighter sa p1).bind fun x1 =>
  if (bI x1) = 0 then
    (fX6_fails (0 : Int32) (1 : Int32)).bind fun x6 =>
    some (x6.1, x6.2, sa, sv, sm)
  else
    (fX6_canComeIn sa p1).bind fun x2 =>
    if (bI x2) = 0 then
      (fX6_fails (0 : Int32) (2 : Int32)).bind fun x5 =>
      some (x5.1, x5.2, sa, sv, sm)
    else
      (fX6_save fu sa sv sm).bind fun x3 =>
      (fX6_comesIn fu sa p1).bind fun x4 =>
      some (x4.1, (0 : Int32), x4.2, x3.1, x3.2)
def fX6_act (fu : Nat) (th : Int32) (sa : (Nat → Int32)) (sv : (Nat → Int32)) (sm : Int32) (p1 : Int32) (p2 : Int32) (p3 : Int32) (p4 : Int32) : Option (Int32 × Int32 × (Nat → Int32) × (Nat → Int32) × Int32) :=
  (fX6_isFighter sa p1).bind fun x1 =>
  if (bI x1) = 0 then
    (fX6_fails (0 : Int32) (1 : Int32)).bind fun x2 =>
    some (x2.1, x2.2, sa, sv, sm)
  else
    (fX6_isFighter sa p3).bind fun x3 =>
    if (bI x3) = 0 then
      (fX6_fails (0 : Int32) (1 : Int32)).bind fun x13 =>
      some (x13.1, x13.2, sa, sv, sm)
    else
      (fX6_in p2 (0 : Int32) (3 : Int32)).bind fun x4 =>
      if (bI x4) = 0 then
        (fX6_fails (0 : Int32) (2 : Int32)).bind fun x5 =>
        some (x5.1, x5.2, sa, sv, sm)
      else
        if p2 = (2 : Int32) then
          (fX6_fails (0 : Int32) (2 : Int32)).bind fun x6 =>
          some (x6.1, x6.2, sa, sv, sm)
        else
          (fX6_in p4 (1 : Int32) (60 : Int32)).bind fun x7 =>
          if (bI x7) = 0 then
            (fX6_fails (0 : Int32) (2 : Int32)).bind fun x12 =>
            some (x12.1, x12.2, sa, sv, sm)
          else
            (fX6_canAct sa p1 p2).bind fun x8 =>
            if (bI x8) = 0 then
              (fX6_fails (0 : Int32) (3 : Int32)).bind fun x11 =>
              some (x11.1, x11.2, sa, sv, sm)
            else
              (fX6_save fu sa sv sm).bind fun x9 =>
              (fX6_pushes sa p2 p1 p3 p4 (0 : Int32) (0 : Int32) (0 : Int32)).bind fun x10 =>
              some (x10.1, (0 : Int32), x10.2, x9.1, x9.2)
def fX6_cast (fu : Nat) (th : Int32) (sa : (Nat → Int32)) (sv : (Nat → Int32)) (sm : Int32) (p1 : Int32) (p2 : Int32) (p3 : Int32) (p4 : Int32) (p5 : Int32) (p6 : Int32) : Option (Int32 × Int32 × (Nat → Int32) × (Nat → Int32) × Int32) :=
  (fX6_isFighter sa p1).bind fun x1 =>
  if (bI x1) = 0 then
    (fX6_fails (0 : Int32) (1 : Int32)).bind fun x2 =>
    some (x2.1, x2.2, sa, sv, sm)
  else
    (fX6_isFighter sa p2).bind fun x3 =>
    if (bI x3) = 0 then
      (fX6_fails (0 : Int32) (1 : Int32)).bind fun x16 =>
      some (x16.1, x16.2, sa, sv, sm)
    else
      (fX6_in p3 (0 : Int32) (4 : Int32)).bind fun x4 =>
      if (bI x4) = 0 then
        (fX6_fails (0 : Int32) (2 : Int32)).bind fun x5 =>
        some (x5.1, x5.2, sa, sv, sm)
      else
        (fX6_in p4 (1 : Int32) (20 : Int32)).bind fun x6 =>
        if (bI x6) = 0 then
          (fX6_fails (0 : Int32) (2 : Int32)).bind fun x7 =>
          some (x7.1, x7.2, sa, sv, sm)
        else
          (fX6_in p5 (1 : Int32) (20 : Int32)).bind fun x8 =>
          if (bI x8) = 0 then
            (fX6_fails (0 : Int32) (2 : Int32)).bind fun x9 =>
            some (x9.1, x9.2, sa, sv, sm)
          else
            (fX6_in p6 (0 : Int32) (3 : Int32)).bind fun x10 =>
            if (bI x10) = 0 then
              (fX6_fails (0 : Int32) (2 : Int32)).bind fun x15 =>
              some (x15.1, x15.2, sa, sv, sm)
            else
              (fX6_canAct sa p1 (2 : Int32)).bind fun x11 =>
              if (bI x11) = 0 then
                (fX6_fails (0 : Int32) (3 : Int32)).bind fun x14 =>
                some (x14.1, x14.2, sa, sv, sm)
              else
                (fX6_save fu sa sv sm).bind fun x12 =>
                (fX6_pushes sa (2 : Int32) p1 p2 p4 p3 p5 p6).bind fun x13 =>
                some (x13.1, (0 : Int32), x13.2, x12.1, x12.2)
def fX6_settle (fu : Nat) (th : Int32) (sa : (Nat → Int32)) (sv : (Nat → Int32)) (sm : Int32) : Option (Int32 × Int32 × (Nat → Int32) × (Nat → Int32) × Int32) :=
  if ¬ ((8 : Int32) < 0 ∨ 378 ≤ ((8 : Int32)).toNatClampNeg) then
    if (sa ((8 : Int32)).toNatClampNeg) = 0 then
      (fX6_fails (0 : Int32) (1 : Int32)).bind fun x3 =>
      some (x3.1, x3.2, sa, sv, sm)
    else
      (fX6_save fu sa sv sm).bind fun x1 =>
      (fX6_settles fu sa).bind fun x2 =>
      some (x2.1, (0 : Int32), x2.2, x1.1, x1.2)
  else none
def fX6_stacked (th : Int32) (sa : (Nat → Int32)) (p1 : Int32) (p2 : Int32) : Option (Int32 × Int32) :=
  if ¬ ((8 : Int32) < 0 ∨ 378 ≤ ((8 : Int32)).toNatClampNeg) then
    (fX6_in p1 (0 : Int32) ((sa ((8 : Int32)).toNatClampNeg) - (1 : Int32))).bind fun x1 =>
    if (bI x1) = 0 then
      (fX6_fails (0 : Int32) (1 : Int32)).bind fun x5 =>
      some (x5.1, x5.2)
    else
      (fX6_in p2 (0 : Int32) (3 : Int32)).bind fun x2 =>
      if (bI x2) = 0 then
        (fX6_fails (0 : Int32) (2 : Int32)).bind fun x3 =>
        some (x3.1, x3.2)
      else
        if ¬ ((8 : Int32) < 0 ∨ 378 ≤ ((8 : Int32)).toNatClampNeg) then
          (fX6_ofAct sa (((sa ((8 : Int32)).toNatClampNeg) - (1 : Int32)) - p1) p2).bind fun x4 =>
          some (x4, (0 : Int32))
        else none
  else none
def fX6_mayAnswer (th : Int32) (sa : (Nat → Int32)) (p1 : Int32) : Option (Bool × Int32) :=
  (fX6_isFighter sa p1).bind fun x1 =>
  if (bI x1) = 0 then
    some (false, (1 : Int32))
  else
    (fX6_canAnswer sa p1).bind fun x2 =>
    some (x2, (0 : Int32))
def fX6_clearTurn (fu : Nat) (sa : (Nat → Int32)) : Option ((Nat → Int32)) :=
  if ¬ ((8 : Int32) < 0 ∨ 378 ≤ ((8 : Int32)).toNatClampNeg) then
    if ¬ ((4 : Int32) < 0 ∨ 378 ≤ ((4 : Int32)).toNatClampNeg) then
      if ((upd sa ((8 : Int32)).toNatClampNeg (0 : Int32)) ((4 : Int32)).toNatClampNeg) = (-1 : Int32) then
        some ((upd sa ((8 : Int32)).toNatClampNeg (0 : Int32)))
      else
        (fX6_ends fu (upd sa ((8 : Int32)).toNatClampNeg (0 : Int32))).bind fun x1 =>
        if 0 ≤ x1.1 then
          if ¬ ((4 : Int32) < 0 ∨ 378 ≤ ((4 : Int32)).toNatClampNeg) then
            some ((upd x1.2 ((4 : Int32)).toNatClampNeg (-1 : Int32)))
          else none
        else
          if ¬ ((4 : Int32) < 0 ∨ 378 ≤ ((4 : Int32)).toNatClampNeg) then
            if ¬ ((4 : Int32) < 0 ∨ 378 ≤ ((4 : Int32)).toNatClampNeg) then
              some ((upd x1.2 ((4 : Int32)).toNatClampNeg (x1.2 ((4 : Int32)).toNatClampNeg)))
            else none
          else none
    else none
  else none
def fX6_passesTurn (fu : Nat) (sa : (Nat → Int32)) : Option (Int32 × (Nat → Int32)) :=
  (fX6_begins fu sa).bind fun x1 =>
  if ¬ ((4 : Int32) < 0 ∨ 378 ≤ ((4 : Int32)).toNatClampNeg) then
    if (x1.2 ((4 : Int32)).toNatClampNeg) = (-1 : Int32) then
      some (x1.1, x1.2)
    else
      (fX6_ends fu x1.2).bind fun x2 =>
      if 0 ≤ x2.1 then
        if ¬ ((4 : Int32) < 0 ∨ 378 ≤ ((4 : Int32)).toNatClampNeg) then
          some (x1.1, (upd x2.2 ((4 : Int32)).toNatClampNeg (-1 : Int32)))
        else none
      else
        if ¬ ((4 : Int32) < 0 ∨ 378 ≤ ((4 : Int32)).toNatClampNeg) then
          if ¬ ((4 : Int32) < 0 ∨ 378 ≤ ((4 : Int32)).toNatClampNeg) then
            some (x1.1, (upd x2.2 ((4 : Int32)).toNatClampNeg (x2.2 ((4 : Int32)).toNatClampNeg)))
          else none
        else none
  else none
def fX6_upcoming_L36 (fu : Nat) (p1 : Int32) : Nat → Int32 → (Nat → Int32) → (Nat → Int32) → Int32 → Int32 → Option (Int32 × Int32 × (Nat → Int32) × (Nat → Int32))
  | 0, _, _, _, _, _ => none
  | k + 1, th, sa, asd, v2, v3 =>
    if p1 ≤ v3 then
      (fX6_release fu sa asd).bind fun x5 =>
      some (v2, th, x5, asd)
    else
      if v2 = (-1 : Int32) then
        (fX6_release fu sa asd).bind fun x6 =>
        some (v2, th, x6, asd)
      else
        (fX6_passesTurn fu sa).bind fun x7 =>
        fX6_upcoming_L36 fu p1 k th x7.2 asd x7.1 (v3 + 1)
def fX6_upcoming (fu : Nat) (th : Int32) (sa : (Nat → Int32)) (asd : (Nat → Int32)) (p1 : Int32) : Option (Int32 × Int32 × (Nat → Int32) × (Nat → Int32)) :=
  (fX6_in p1 (0 : Int32) (40 : Int32)).bind fun x1 =>
  if (bI x1) = 0 then
    (fX6_fails (0 : Int32) (1 : Int32)).bind fun x8 =>
    some (x8.1, x8.2, sa, asd)
  else
    (fX6_hold fu sa asd).bind fun x2 =>
    (fX6_clearTurn fu sa).bind fun x3 =>
    (fX6_passesTurn fu x3).bind fun x4 =>
    fX6_upcoming_L36 fu p1 fu (0 : Int32) x4.2 x2 x4.1 (0 : Int32)
def fX6_isThere_L4 (fu : Nat) (sa : (Nat → Int32)) (p1 : Int32) : Nat → Bool → Int32 → Option (Bool)
  | 0, _, _ => none
  | k + 1, v2, v3 =>
    if ¬ ((1 : Int32) < 0 ∨ 378 ≤ ((1 : Int32)).toNatClampNeg) then
      if (sa ((1 : Int32)).toNatClampNeg) ≤ v3 then
        some (v2)
      else
        if (bI v2) = 0 then
          (fX6_ofEffect sa v3 (7 : Int32)).bind fun x1 =>
          if x1 = p1 then
            fX6_isThere_L4 fu sa p1 k true (v3 + 1)
          else
            fX6_isThere_L4 fu sa p1 k false (v3 + 1)
        else
          fX6_isThere_L4 fu sa p1 k true (v3 + 1)
    else none
def fX6_isThere (fu : Nat) (sa : (Nat → Int32)) (p1 : Int32) : Option (Bool) :=
  fX6_isThere_L4 fu sa p1 fu false (0 : Int32)
def fX6_goneAfter_J98 (fu : Nat) (th : Int32) (sa : (Nat → Int32)) (asd : (Nat → Int32)) (v2 : Int32) (v3 : Int32) : Option (Int32 × Int32 × (Nat → Int32) × (Nat → Int32)) :=
  (fX6_isThere fu sa v2).bind fun x5 =>
  (fX6_release fu sa asd).bind fun x6 =>
  if (bI x5) = 0 then
    some (v3, th, x6, asd)
  else
    some ((-1 : Int32), th, x6, asd)
def fX6_goneAfter_L48 (fu : Nat)  : Nat → Int32 → (Nat → Int32) → (Nat → Int32) → Int32 → Int32 → Bool → Option (Int32 × Int32 × (Nat → Int32) × (Nat → Int32))
  | 0, _, _, _, _, _, _ => none
  | k + 1, th, sa, asd, v2, v3, v4 =>
    if (bI v4) = 0 then
      fX6_goneAfter_J98 fu th sa asd v2 v3
    else
      (fX6_isThere fu sa v2).bind fun x7 =>
      if (bI x7) = 0 then
        fX6_goneAfter_J98 fu th sa asd v2 v3
      else
        if (60 : Int32) ≤ v3 then
          fX6_goneAfter_J98 fu th sa asd v2 v3
        else
          (fX6_passesTurn fu sa).bind fun x8 =>
          if x8.1 = (-1 : Int32) then
            fX6_goneAfter_L48 fu k th x8.2 asd v2 (v3 + (0 : Int32)) false
          else
            fX6_goneAfter_L48 fu k th x8.2 asd v2 (v3 + (1 : Int32)) true
def fX6_goneAfter (fu : Nat) (th : Int32) (sa : (Nat → Int32)) (asd : (Nat → Int32)) (p1 : Int32) : Option (Int32 × Int32 × (Nat → Int32) × (Nat → Int32)) :=
  if ¬ ((1 : Int32) < 0 ∨ 378 ≤ ((1 : Int32)).toNatClampNeg) then
    (fX6_in p1 (0 : Int32) ((sa ((1 : Int32)).toNatClampNeg) - (1 : Int32))).bind fun x1 =>
    if (bI x1) = 0 then
      (fX6_fails (0 : Int32) (1 : Int32)).bind fun x9 =>
      some (x9.1, x9.2, sa, asd)
    else
      (fX6_ofEffect sa p1 (7 : Int32)).bind fun x2 =>
      (fX6_hold fu sa asd).bind fun x3 =>
      (fX6_clearTurn fu sa).bind fun x4 =>
      fX6_goneAfter_L48 fu fu (0 : Int32) x4 x3 x2 (0 : Int32) true
  else none
def fX6_lives_L4 (fu : Nat) (sa : (Nat → Int32)) (p1 : Int32) : Nat → Int32 → Int32 → Option (Int32)
  | 0, _, _ => none
  | k + 1, v2, v3 =>
    if ¬ ((0 : Int32) < 0 ∨ 378 ≤ ((0 : Int32)).toNatClampNeg) then
      if (sa ((0 : Int32)).toNatClampNeg) ≤ v3 then
        some (v2)
      else
        (fX6_of sa v3 p1).bind fun x1 =>
        fX6_lives_L4 fu sa p1 k (v2 + x1) (v3 + 1)
    else none
def fX6_lives (fu : Nat) (sa : (Nat → Int32)) (p1 : Int32) : Option (Int32) :=
  fX6_lives_L4 fu sa p1 fu (0 : Int32) (0 : Int32)
def fX6_lifeSettled (fu : Nat) (th : Int32) (sa : (Nat → Int32)) (asd : (Nat → Int32)) : Option (Int32 × Int32 × (Nat → Int32) × (Nat → Int32)) :=
  (fX6_hold fu sa asd).bind fun x1 =>
  (fX6_settles fu sa).bind fun x2 =>
  if 0 ≤ x2.1 then
    (fX6_lives fu x2.2 (2 : Int32)).bind fun x3 =>
    (fX6_release fu x2.2 x1).bind fun x4 =>
    some (x3, (0 : Int32), x4, x1)
  else
    (fX6_release fu x2.2 x1).bind fun x5 =>
    some ((0 : Int32), (0 : Int32), x5, x1)
def fX6_append (th : Int32) (mt : (Nat → Int32)) (ln : Int32) (p1 : Int32) : Option (Int32 × Int32 × (Nat → Int32) × Int32) :=
  (fX6_in p1 (0 : Int32) (127 : Int32)).bind fun x1 =>
  if (bI x1) = 0 then
    (fX6_fails (0 : Int32) (1 : Int32)).bind fun x3 =>
    some (x3.1, x3.2, mt, ln)
  else
    if ln = (120 : Int32) then
      (fX6_fails (0 : Int32) (2 : Int32)).bind fun x2 =>
      some (x2.1, x2.2, mt, ln)
    else
      if ¬ (ln < 0 ∨ 120 ≤ (ln).toNatClampNeg) then
        some ((ln + (1 : Int32)), (0 : Int32), (upd mt (ln).toNatClampNeg p1), (ln + (1 : Int32)))
      else none
def fX6_clearText (th : Int32) (ln : Int32) : Option (Int32 × Int32 × Int32) :=
  some (ln, (0 : Int32), (0 : Int32))
def fX6_here (mt : (Nat → Int32)) (ln : Int32) (nx : Int32) : Option (Int32) :=
  if ln ≤ nx then
    some ((-1 : Int32))
  else
    if ¬ (nx < 0 ∨ 120 ≤ (nx).toNatClampNeg) then
      some ((mt (nx).toNatClampNeg))
    else none
def fX6_isDigit (mt : (Nat → Int32)) (ln : Int32) (nx : Int32) : Option (Bool) :=
  (fX6_here mt ln nx).bind fun x1 =>
  (fX6_in x1 (48 : Int32) (57 : Int32)).bind fun x2 =>
  some (x2)
def fX6_takes (nx : Int32) (p1 : Bool) : Option (Bool × Int32) :=
  if (bI p1) = 0 then
    some (p1, (nx + (0 : Int32)))
  else
    some (p1, (nx + (1 : Int32)))
def fX6_readsDigit (mt : (Nat → Int32)) (ln : Int32) (nx : Int32) (dg : Int32) : Option (Bool × Int32 × Int32) :=
  (fX6_here mt ln nx).bind fun x1 =>
  (fX6_isDigit mt ln nx).bind fun x2 =>
  (fX6_takes nx x2).bind fun x3 =>
  some (x3.1, x3.2, (x1 - (48 : Int32)))
def fX6_readsPower_J26 (mt : (Nat → Int32)) (ln : Int32) (nx : Int32) (pw : Int32) (t0 : Bool) : Option (Bool × Int32 × Int32) :=
  (fX6_takes nx t0).bind fun x3 =>
  if (bI x3.1) = 0 then
    some (false, x3.2, pw)
  else
    (fX6_here mt ln x3.2).bind fun x4 =>
    (fX6_isDigit mt ln x3.2).bind fun x5 =>
    (fX6_takes x3.2 x5).bind fun x6 =>
    if (bI x6.1) = 0 then
      some (false, x6.2, (x4 - (48 : Int32)))
    else
      (fX6_isDigit mt ln x6.2).bind fun x7 =>
      if (bI x7) = 0 then
        some (true, x6.2, (x4 - (48 : Int32)))
      else
        (fX6_here mt ln x6.2).bind fun x8 =>
        some (true, (x6.2 + (1 : Int32)), ((((10 : Int32) * (x4 - (48 : Int32))) + x8) - (48 : Int32)))
def fX6_readsPower (mt : (Nat → Int32)) (ln : Int32) (nx : Int32) (pw : Int32) : Option (Bool × Int32 × Int32) :=
  (fX6_here mt ln nx).bind fun x1 =>
  (fX6_here mt ln nx).bind fun x2 =>
  if x2 = (44 : Int32) then
    fX6_readsPower_J26 mt ln nx (x1 - (48 : Int32)) true
  else
    fX6_readsPower_J26 mt ln nx (x1 - (48 : Int32)) false
def fX6_readsCommand_J132 (mt : (Nat → Int32)) (ln : Int32) (nx : Int32) (cd : Int32) (dg : Int32) (pw : Int32) (t0 : Bool) : Option (Bool × Int32 × Int32 × Int32 × Int32) :=
  if (bI t0) = 0 then
    some (false, nx, cd, dg, pw)
  else
    (fX6_here mt ln nx).bind fun x3 =>
    if x3 = (59 : Int32) then
      (fX6_takes nx true).bind fun x5 =>
      if (bI x5.1) = 0 then
        some (false, x5.2, cd, dg, pw)
      else
        some (true, x5.2, cd, dg, pw)
    else
      (fX6_takes nx false).bind fun x4 =>
      if (bI x4.1) = 0 then
        some (false, x4.2, cd, dg, pw)
      else
        some (true, x4.2, cd, dg, pw)
def fX6_readsCommand_J127 (mt : (Nat → Int32)) (ln : Int32) (nx : Int32) (cd : Int32) (dg : Int32) (pw : Int32) : Option (Bool × Int32 × Int32 × Int32 × Int32) :=
  fX6_readsCommand_J132 mt ln nx cd dg pw true
def fX6_readsCommand_J131 (mt : (Nat → Int32)) (ln : Int32) (nx : Int32) (cd : Int32) (dg : Int32) (pw : Int32) : Option (Bool × Int32 × Int32 × Int32 × Int32) :=
  fX6_readsCommand_J132 mt ln nx cd dg pw false
def fX6_readsCommand_J97 (mt : (Nat → Int32)) (ln : Int32) (nx : Int32) (cd : Int32) (dg : Int32) (pw : Int32) (v1 : Bool) (v2 : Bool) (t0 : Bool) : Option (Bool × Int32 × Int32 × Int32 × Int32) :=
  (fX6_takes nx t0).bind fun x2 =>
  if (bI x2.1) = 0 then
    some (false, x2.2, cd, dg, pw)
  else
    if (bI v1) = 0 then
      (fX6_readsDigit mt ln x2.2 dg).bind fun x6 =>
      if (bI x6.1) = 0 then
        fX6_readsCommand_J131 mt ln x6.2.1 cd x6.2.2 pw
      else
        if (bI v2) = 0 then
          fX6_readsCommand_J127 mt ln x6.2.1 cd x6.2.2 pw
        else
          (fX6_readsPower mt ln x6.2.1 pw).bind fun x7 =>
          if (bI x7.1) = 0 then
            fX6_readsCommand_J131 mt ln x7.2.1 cd x6.2.2 x7.2.2
          else
            fX6_readsCommand_J127 mt ln x7.2.1 cd x6.2.2 x7.2.2
    else
      fX6_readsCommand_J127 mt ln x2.2 cd dg pw
def fX6_readsCommand_J92 (mt : (Nat → Int32)) (ln : Int32) (nx : Int32) (cd : Int32) (dg : Int32) (pw : Int32) (v1 : Bool) (v2 : Bool) : Option (Bool × Int32 × Int32 × Int32 × Int32) :=
  fX6_readsCommand_J97 mt ln nx cd dg pw v1 v2 true
def fX6_readsCommand_J73 (mt : (Nat → Int32)) (ln : Int32) (nx : Int32) (cd : Int32) (dg : Int32) (pw : Int32) (v1 : Bool) (t0 : Bool) : Option (Bool × Int32 × Int32 × Int32 × Int32) :=
  if (bI v1) = 0 then
    if (bI t0) = 0 then
      if cd = (99 : Int32) then
        fX6_readsCommand_J92 mt ln nx cd dg pw v1 t0
      else
        fX6_readsCommand_J97 mt ln nx cd dg pw v1 t0 false
    else
      fX6_readsCommand_J92 mt ln nx cd dg pw v1 t0
  else
    fX6_readsCommand_J92 mt ln nx cd dg pw v1 t0
def fX6_readsCommand_J68 (mt : (Nat → Int32)) (ln : Int32) (nx : Int32) (cd : Int32) (dg : Int32) (pw : Int32) (v1 : Bool) : Option (Bool × Int32 × Int32 × Int32 × Int32) :=
  fX6_readsCommand_J73 mt ln nx cd dg pw v1 true
def fX6_readsCommand_J49 (mt : (Nat → Int32)) (ln : Int32) (nx : Int32) (cd : Int32) (dg : Int32) (pw : Int32) (t0 : Bool) : Option (Bool × Int32 × Int32 × Int32 × Int32) :=
  if cd = (115 : Int32) then
    fX6_readsCommand_J68 mt ln nx cd dg pw t0
  else
    if cd = (104 : Int32) then
      fX6_readsCommand_J68 mt ln nx cd dg pw t0
    else
      fX6_readsCommand_J73 mt ln nx cd dg pw t0 false
def fX6_readsCommand_J44 (mt : (Nat → Int32)) (ln : Int32) (nx : Int32) (cd : Int32) (dg : Int32) (pw : Int32) : Option (Bool × Int32 × Int32 × Int32 × Int32) :=
  fX6_readsCommand_J49 mt ln nx cd dg pw true
def fX6_readsCommand (mt : (Nat → Int32)) (ln : Int32) (nx : Int32) (cd : Int32) (dg : Int32) (pw : Int32) : Option (Bool × Int32 × Int32 × Int32 × Int32) :=
  (fX6_here mt ln nx).bind fun x1 =>
  if x1 = (110 : Int32) then
    fX6_readsCommand_J44 mt ln nx x1 dg pw
  else
    if x1 = (101 : Int32) then
      fX6_readsCommand_J44 mt ln nx x1 dg pw
    else
      if x1 = (100 : Int32) then
        fX6_readsCommand_J44 mt ln nx x1 dg pw
      else
        if x1 = (114 : Int32) then
          fX6_readsCommand_J44 mt ln nx x1 dg pw
        else
          fX6_readsCommand_J49 mt ln nx x1 dg pw false
def fX6_canDo (sa : (Nat → Int32)) (cd : Int32) (dg : Int32) (pw : Int32) : Option (Bool) :=
  if cd = 99 then
    (fX6_isFighter sa dg).bind fun x2 =>
    if (bI x2) = 0 then
      some (false)
    else
      (fX6_canComeIn sa dg).bind fun x3 =>
      if (bI x3) = 0 then
        some (false)
      else
        some (true)
  else
  if cd = 100 then
    (fX6_canDelay sa).bind fun x5 =>
    some (x5)
  else
  if cd = 101 then
    (fX6_canEnd sa).bind fun x7 =>
    some (x7)
  else
  if cd = 110 then
    if ¬ ((4 : Int32) < 0 ∨ 378 ≤ ((4 : Int32)).toNatClampNeg) then
      if (sa ((4 : Int32)).toNatClampNeg) = (-1 : Int32) then
        some (true)
      else
        some (false)
    else none
  else
  if cd = 114 then
    if ¬ ((8 : Int32) < 0 ∨ 378 ≤ ((8 : Int32)).toNatClampNeg) then
      if (sa ((8 : Int32)).toNatClampNeg) ≤ 0 then
        some (false)
      else
        some (true)
    else none
  else
  if ¬ ((4 : Int32) < 0 ∨ 378 ≤ ((4 : Int32)).toNatClampNeg) then
    if (sa ((4 : Int32)).toNatClampNeg) = (-1 : Int32) then
      some (false)
    else
      (fX6_isFighter sa dg).bind fun x10 =>
      if (bI x10) = 0 then
        some (false)
      else
        (fX6_in pw (1 : Int32) (60 : Int32)).bind fun x11 =>
        if (bI x11) = 0 then
          some (false)
        else
          if ¬ ((4 : Int32) < 0 ∨ 378 ≤ ((4 : Int32)).toNatClampNeg) then
            (fX6_canAct sa (sa ((4 : Int32)).toNatClampNeg) (0 : Int32)).bind fun x12 =>
            if (bI x12) = 0 then
              some (false)
            else
              some (true)
          else none
  else none
def fX6_does_J100 (fu : Nat) (cd : Int32) (dg : Int32) (pw : Int32) (sa : (Nat → Int32)) (t0 : Bool) : Option (Int32 × (Nat → Int32)) :=
  if ¬ ((4 : Int32) < 0 ∨ 378 ≤ ((4 : Int32)).toNatClampNeg) then
    (fX6_pushes sa (bI t0) (sa ((4 : Int32)).toNatClampNeg) dg pw (0 : Int32) (0 : Int32) (0 : Int32)).bind fun x11 =>
    some (x11.1, x11.2)
  else none
def fX6_does (fu : Nat) (sa : (Nat → Int32)) (cd : Int32) (dg : Int32) (pw : Int32) : Option (Int32 × (Nat → Int32)) :=
  if cd = 99 then
    (fX6_comesIn fu sa dg).bind fun x2 =>
    some (x2.1, x2.2)
  else
  if cd = 100 then
    (fX6_delays sa).bind fun x4 =>
    some (x4.1, x4.2)
  else
  if cd = 101 then
    (fX6_ends fu sa).bind fun x6 =>
    some (x6.1, x6.2)
  else
  if cd = 110 then
    (fX6_begins fu sa).bind fun x8 =>
    some (x8.1, x8.2)
  else
  if cd = 114 then
    (fX6_settles fu sa).bind fun x10 =>
    some (x10.1, x10.2)
  else
  if cd = (115 : Int32) then
    fX6_does_J100 fu cd dg pw sa false
  else
    fX6_does_J100 fu cd dg pw sa true
def fX6_exchange_L2 (fu : Nat)  : Nat → (Nat → Int32) → (Nat → Int32) → Int32 → Option ((Nat → Int32) × (Nat → Int32))
  | 0, _, _, _ => none
  | k + 1, sa, asd, v1 =>
    if (378 : Int32) ≤ v1 then
      some (sa, asd)
    else
      if ¬ (v1 < 0 ∨ 378 ≤ (v1).toNatClampNeg) then
        if ¬ (v1 < 0 ∨ 378 ≤ (v1).toNatClampNeg) then
          if ¬ (v1 < 0 ∨ 378 ≤ (v1).toNatClampNeg) then
            if ¬ (v1 < 0 ∨ 378 ≤ (v1).toNatClampNeg) then
              fX6_exchange_L2 fu k (upd sa (v1).toNatClampNeg (asd (v1).toNatClampNeg)) (upd asd (v1).toNatClampNeg (sa (v1).toNatClampNeg)) (v1 + 1)
            else none
          else none
        else none
      else none
def fX6_exchange (fu : Nat) (sa : (Nat → Int32)) (asd : (Nat → Int32)) : Option ((Nat → Int32) × (Nat → Int32)) :=
  fX6_exchange_L2 fu fu sa asd (0 : Int32)
def fX6_carryOut_L58 (fu : Nat) (mt : (Nat → Int32)) (ln : Int32) : Nat → Int32 → (Nat → Int32) → (Nat → Int32) → (Nat → Int32) → Int32 → Int32 → Int32 → Int32 → Int32 → Int32 → Option (Int32 × Int32 × (Nat → Int32) × (Nat → Int32) × (Nat → Int32) × Int32 × Int32 × Int32 × Int32 × Int32)
  | 0, _, _, _, _, _, _, _, _, _, _ => none
  | k + 1, th, sa, asd, sv, sm, nx, cd, dg, pw, v2 =>
    if ln ≤ nx then
      (fX6_exchange fu sa asd).bind fun x2 =>
      (fX6_save fu x2.1 sv sm).bind fun x3 =>
      (fX6_exchange fu x2.1 x2.2).bind fun x4 =>
      some (v2, th, x4.1, x4.2, x3.1, x3.2, nx, cd, dg, pw)
    else
      (fX6_readsCommand mt ln nx cd dg pw).bind fun x5 =>
      if (bI x5.1) = 0 then
        (fX6_release fu sa asd).bind fun x6 =>
        some (((-1000 : Int32) - v2), th, x6, asd, sv, sm, x5.2.1, x5.2.2.1, x5.2.2.2.1, x5.2.2.2.2)
      else
        (fX6_canDo sa x5.2.2.1 x5.2.2.2.1 x5.2.2.2.2).bind fun x7 =>
        if (bI x7) = 0 then
          (fX6_release fu sa asd).bind fun x8 =>
          some (((-1000 : Int32) - v2), th, x8, asd, sv, sm, x5.2.1, x5.2.2.1, x5.2.2.2.1, x5.2.2.2.2)
        else
          (fX6_does fu sa x5.2.2.1 x5.2.2.2.1 x5.2.2.2.2).bind fun x9 =>
          if (-1 : Int32) ≤ x9.1 then
            fX6_carryOut_L58 fu mt ln k th x9.2 asd sv sm x5.2.1 x5.2.2.1 x5.2.2.2.1 x5.2.2.2.2 (v2 + (1 : Int32))
          else
            fX6_carryOut_L58 fu mt ln k th x9.2 asd sv sm x5.2.1 x5.2.2.1 x5.2.2.2.1 x5.2.2.2.2 (v2 + (0 : Int32))
def fX6_carryOut_J35 (fu : Nat) (mt : (Nat → Int32)) (ln : Int32) (th : Int32) (sa : (Nat → Int32)) (asd : (Nat → Int32)) (sv : (Nat → Int32)) (sm : Int32) (nx : Int32) (cd : Int32) (dg : Int32) (pw : Int32) (v1 : Bool) : Option (Int32 × Int32 × (Nat → Int32) × (Nat → Int32) × (Nat → Int32) × Int32 × Int32 × Int32 × Int32 × Int32) :=
  if (bI v1) = 0 then
    some (((-10 : Int32) - nx), th, sa, asd, sv, sm, nx, cd, dg, pw)
  else
    (fX6_hold fu sa asd).bind fun x1 =>
    fX6_carryOut_L58 fu mt ln fu th sa x1 sv sm (0 : Int32) cd dg pw (0 : Int32)
def fX6_carryOut_L12 (fu : Nat) (mt : (Nat → Int32)) (ln : Int32) : Nat → Int32 → (Nat → Int32) → (Nat → Int32) → (Nat → Int32) → Int32 → Int32 → Int32 → Int32 → Int32 → Bool → Option (Int32 × Int32 × (Nat → Int32) × (Nat → Int32) × (Nat → Int32) × Int32 × Int32 × Int32 × Int32 × Int32)
  | 0, _, _, _, _, _, _, _, _, _, _ => none
  | k + 1, th, sa, asd, sv, sm, nx, cd, dg, pw, v1 =>
    if (bI v1) = 0 then
      fX6_carryOut_J35 fu mt ln th sa asd sv sm nx cd dg pw v1
    else
      if ln ≤ nx then
        fX6_carryOut_J35 fu mt ln th sa asd sv sm nx cd dg pw v1
      else
        (fX6_readsCommand mt ln nx cd dg pw).bind fun x10 =>
        fX6_carryOut_L12 fu mt ln k th sa asd sv sm x10.2.1 x10.2.2.1 x10.2.2.2.1 x10.2.2.2.2 x10.1
def fX6_carryOut (fu : Nat) (th : Int32) (sa : (Nat → Int32)) (asd : (Nat → Int32)) (sv : (Nat → Int32)) (sm : Int32) (mt : (Nat → Int32)) (ln : Int32) (nx : Int32) (cd : Int32) (dg : Int32) (pw : Int32) : Option (Int32 × Int32 × (Nat → Int32) × (Nat → Int32) × (Nat → Int32) × Int32 × Int32 × Int32 × Int32 × Int32) :=
  fX6_carryOut_L12 fu mt ln fu (0 : Int32) sa asd sv sm (0 : Int32) cd dg pw true
def fX6_undo_L30 (fu : Nat) (sv : (Nat → Int32)) : Nat → Int32 → (Nat → Int32) → Int32 → Int32 → Option (Int32 × Int32 × (Nat → Int32) × Int32)
  | 0, _, _, _, _ => none
  | k + 1, th, sa, sm, v1 =>
    if (378 : Int32) ≤ v1 then
      some (sm, th, sa, sm)
    else
      if ¬ ((((378 : Int32) * sm) + v1) < 0 ∨ 1512 ≤ ((((378 : Int32) * sm) + v1)).toNatClampNeg) then
        if ¬ (v1 < 0 ∨ 378 ≤ (v1).toNatClampNeg) then
          fX6_undo_L30 fu sv k th (upd sa (v1).toNatClampNeg (sv ((((378 : Int32) * sm) + v1)).toNatClampNeg)) sm (v1 + 1)
        else none
      else none
def fX6_undo (fu : Nat) (th : Int32) (sa : (Nat → Int32)) (sv : (Nat → Int32)) (sm : Int32) : Option (Int32 × Int32 × (Nat → Int32) × Int32) :=
  if sm = 0 then
    (fX6_fails (0 : Int32) (1 : Int32)).bind fun x1 =>
    some (x1.1, x1.2, sa, sm)
  else
    fX6_undo_L30 fu sv fu (0 : Int32) sa (sm - (1 : Int32)) (0 : Int32)
def fX6_take (hs : Int64) (p1 : Int32) : Option (Int64) :=
  some ((((31 : Int64) * hs) + ((p1).toInt64)))
def fX6_digest_L175 (fu : Nat) (sa : (Nat → Int32)) (sm : Int32) (ln : Int32) : Nat → Int32 → Int64 → Int32 → Int32 → Option (Int32 × Int64 × Int32)
  | 0, _, _, _, _ => none
  | k + 1, th, hs, v1, v2 =>
    if (4 : Int32) ≤ v2 then
      some (th, hs, v1)
    else
      (fX6_ofAct sa v1 v2).bind fun x3 =>
      (fX6_take hs x3).bind fun x4 =>
      fX6_digest_L175 fu sa sm ln k th x4 v1 (v2 + 1)
def fX6_digest_L169 (fu : Nat) (sa : (Nat → Int32)) (sm : Int32) (ln : Int32) : Nat → Int32 → Int64 → Int32 → Option (Int64 × Int32 × Int64)
  | 0, _, _, _ => none
  | k + 1, th, hs, v1 =>
    if v1 < 0 then
      (fX6_take hs sm).bind fun x2 =>
      some (x2, th, x2)
    else
      (fX6_digest_L175 fu sa sm ln fu th hs v1 (0 : Int32)).bind fun y5 =>
        fX6_digest_L169 fu sa sm ln k y5.1 y5.2.1 (y5.2.2 + (-1))
def fX6_digest_L129 (fu : Nat) (sa : (Nat → Int32)) (sm : Int32) (ln : Int32) : Nat → Int32 → Int64 → Int32 → Option (Int64 × Int32 × Int64)
  | 0, _, _, _ => none
  | k + 1, th, hs, v1 =>
    if ¬ ((6 : Int32) < 0 ∨ 378 ≤ ((6 : Int32)).toNatClampNeg) then
      if (sa ((6 : Int32)).toNatClampNeg) ≤ v1 then
        if ¬ ((8 : Int32) < 0 ∨ 378 ≤ ((8 : Int32)).toNatClampNeg) then
          fX6_digest_L169 fu sa sm ln fu th hs ((sa ((8 : Int32)).toNatClampNeg) - (1 : Int32))
        else none
      else
        if ¬ (((72 : Int32) + v1) < 0 ∨ 378 ≤ (((72 : Int32) + v1)).toNatClampNeg) then
          (fX6_take hs (sa (((72 : Int32) + v1)).toNatClampNeg)).bind fun x6 =>
          fX6_digest_L129 fu sa sm ln k th x6 (v1 + 1)
        else none
    else none
def fX6_digest_L99 (fu : Nat) (sa : (Nat → Int32)) (sm : Int32) (ln : Int32) : Nat → Int32 → Int64 → Int32 → Int32 → Option (Int32 × Int64 × Int32)
  | 0, _, _, _, _ => none
  | k + 1, th, hs, v1, v2 =>
    if (7 : Int32) ≤ v2 then
      some (th, hs, v1)
    else
      (fX6_ofEffect sa v1 v2).bind fun x7 =>
      (fX6_take hs x7).bind fun x8 =>
      fX6_digest_L99 fu sa sm ln k th x8 v1 (v2 + 1)
def fX6_digest_L87 (fu : Nat) (sa : (Nat → Int32)) (sm : Int32) (ln : Int32) : Nat → Int32 → Int64 → Int32 → Option (Int64 × Int32 × Int64)
  | 0, _, _, _ => none
  | k + 1, th, hs, v1 =>
    if ¬ ((1 : Int32) < 0 ∨ 378 ≤ ((1 : Int32)).toNatClampNeg) then
      if (sa ((1 : Int32)).toNatClampNeg) ≤ v1 then
        fX6_digest_L129 fu sa sm ln fu th hs (0 : Int32)
      else
        (fX6_digest_L99 fu sa sm ln fu th hs v1 (0 : Int32)).bind fun y9 =>
          fX6_digest_L87 fu sa sm ln k y9.1 y9.2.1 (y9.2.2 + 1)
    else none
def fX6_digest_L57 (fu : Nat) (sa : (Nat → Int32)) (sm : Int32) (ln : Int32) : Nat → Int32 → Int64 → Int32 → Int32 → Option (Int32 × Int64 × Int32)
  | 0, _, _, _, _ => none
  | k + 1, th, hs, v1, v2 =>
    if (9 : Int32) ≤ v2 then
      some (th, hs, v1)
    else
      (fX6_valueOfFighter fu sa v1 v2).bind fun x10 =>
      (fX6_take hs x10).bind fun x11 =>
      fX6_digest_L57 fu sa sm ln k th x11 v1 (v2 + 1)
def fX6_digest_L45 (fu : Nat) (sa : (Nat → Int32)) (sm : Int32) (ln : Int32) : Nat → Int32 → Int64 → Int32 → Option (Int64 × Int32 × Int64)
  | 0, _, _, _ => none
  | k + 1, th, hs, v1 =>
    if ¬ ((0 : Int32) < 0 ∨ 378 ≤ ((0 : Int32)).toNatClampNeg) then
      if (sa ((0 : Int32)).toNatClampNeg) ≤ v1 then
        fX6_digest_L87 fu sa sm ln fu th hs (0 : Int32)
      else
        (fX6_digest_L57 fu sa sm ln fu th hs v1 (0 : Int32)).bind fun y12 =>
          fX6_digest_L45 fu sa sm ln k y12.1 y12.2.1 (y12.2.2 + 1)
    else none
def fX6_digest_L22 (fu : Nat) (sa : (Nat → Int32)) (sm : Int32) (ln : Int32) : Nat → Int32 → Int64 → Int32 → Option (Int64 × Int32 × Int64)
  | 0, _, _, _ => none
  | k + 1, th, hs, v1 =>
    if (9 : Int32) ≤ v1 then
      fX6_digest_L45 fu sa sm ln fu th hs (0 : Int32)
    else
      (fX6_valueOf fu sa v1).bind fun x13 =>
      (fX6_take hs x13).bind fun x14 =>
      fX6_digest_L22 fu sa sm ln k th x14 (v1 + 1)
def fX6_digest (fu : Nat) (th : Int32) (sa : (Nat → Int32)) (sm : Int32) (ln : Int32) (hs : Int64) : Option (Int64 × Int32 × Int64) :=
  (fX6_take (3343 : Int64) ln).bind fun x1 =>
  fX6_digest_L22 fu sa sm ln fu (0 : Int32) x1 (0 : Int32)
