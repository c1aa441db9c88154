def kpS (u : Nat) (S : RS) : RS := if u < 8 then rC6 0 (6 + (6 * u)) S else rC6 0 48 (rSh S)
