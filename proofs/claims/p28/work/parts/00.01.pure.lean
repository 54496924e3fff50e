/-! words that both layers use -/
/-- a truth value as an int -/
def bI (b : Bool) : Int32 := if b then 1 else 0
abbrev Tab : Type := Int32 × Nat × (Nat → Int32) × Int32
abbrev GV : Type := Tab × Tab × Int32 × Tab × Tab × Int32 × Int32 × Int32 × Bool × Int32 × Int32
def gInit : GV := (((4, 40, fun _ => 0, 0) : Tab), ((8, 240, fun _ => 0, 0) : Tab), 0, ((2, 20, fun _ => 0, 0) : Tab), ((7, 56, fun _ => 0, 0) : Tab), 0, (-1), (-1), false, 10, 0)
