/-! the reference: its face, what only asks -/
def wr (x y : Int32) (n : Nat) (bt : Bool) : Nat := if (inV x n && inV y n) = true then (if bt = true then 0 else 2) else 1
