/-- whether byte k of a tape of t bytes lies between a and b -/
def isB (T : Nat → Int32) (t k : Nat) (a b : Int32) : Bool := if t ≤ k then false else inI (T k) a b
