/-- what is written for node k, its binder's name aside -/
def wNode (f g X uf wr : Nat → Int) (k : Nat) : Int × Int := if f k = 0 then (0, wr ((env f k).getD (g k).toNat 0)) else if f k = 7 then (0, uf (g k).toNat) else if f k = 2 then (if X (200 + k) = 3000 then 6 else 2, 0) else (f k, g k)
