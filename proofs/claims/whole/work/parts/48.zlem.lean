def pz (v : Int) : Int := if v < 0 then 0 else v
def mCnt (x z : Nat → Int) (w : Int) : Int := if w = 0 then x 1 else if w = 1 then x 0 else if w = 2 then pz (z 0) + pz (z 1) + pz (z 2) else if w = 3 then x 2 else if w = 4 then x 3 else -2000000002
