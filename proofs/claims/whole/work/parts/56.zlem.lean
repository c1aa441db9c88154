def shN (f : Nat → Int) : Nat → Nat → Int
  | 0 => f
  | k + 1 => uI (shN f k) (6 + k) (shN f k (12 + k))
def rSh (S : RS) : RS := (shN S.1 42, shN S.2.1 42, S.2.2)
