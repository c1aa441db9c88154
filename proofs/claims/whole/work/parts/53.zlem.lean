def wN (f : Nat → Int) (p : Nat) : Int := f (2 * p) * f (2 * p) - f (2 * p) * f (2 * p + 1) + f (2 * p + 1) * f (2 * p + 1)
def mx9 (m n : Int) : Int := if m < n then n else m
theorem mx9_b {m n : Int} (hm : 0 ≤ m ∧ m ≤ 4000000000000000000) (hn : 0 ≤ n ∧ n ≤ 4000000000000000000) : 0 ≤ mx9 m n ∧ mx9 m n ≤ 4000000000000000000 := by unfold mx9; split <;> omega
theorem mx9_y {m n : Int} (h : m < n) : n = mx9 m n := (if_pos h).symm
theorem mx9_n {m n : Int} (h : ¬ m < n) : m = mx9 m n := (if_neg h).symm
