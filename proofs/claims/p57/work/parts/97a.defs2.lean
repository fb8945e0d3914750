/-! The pure part of the reference's walk (whole, parts 20 to 44): what the class is held against there; here a ghost -/
def mfR (x : Int32) : Int32 := if inR x 1 60 = true then x else 61
def teB (f : Nat → Int32) (x : Int32) : Bool := (plF f x (nF f)).isSome
def teV (f : Nat → Int32) (x : Int32) (k : Nat) : Int32 := match plF f x (nF f) with
  | none => 0
  | some j => oF f j k
def miT (f : Nat → Int32) (x : Int32) : Int32 := if bI (!teB f x) ≤ 0 then (if teV f x 5 = 0 then 2 else 0) else 1
def laB (f : Nat → Int32) : Bool := !decide (f 6 ≤ 0)
def ppB (f : Nat → Int32) : Bool := !decide (clP f < 0)
