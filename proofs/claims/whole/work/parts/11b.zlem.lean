theorem isF_01 (x : Int) (w : FO) (d : Int) : isF x w d = 0 ∨ isF x w d = 1 := by unfold isF; split <;> simp
def flEq (a b c d : Int) (t : Nat → FO) : Int := if isF (flA a b c 0) (t 0) d = 1 ∧ isF (flB a b c 0) (t 1) d = 1 ∧ isF (flA a b c 1) (t 2) d = 1 ∧ isF (flB a b c 1) (t 3) d = 1 ∧ isF (flA a b c 2) (t 4) d = 1 ∧ isF (flB a b c 2) (t 5) d = 1 then 1 else 0
def flTl (a b c d i j k : Int) : Int := if j = 2 then tlF (flN a b c i) (d * d) k else if j = 0 then tlF (flA a b c i) d k else tlF (flB a b c i) d k
theorem exc_rng {k d : Int} (hk : 0 ≤ k ∧ k ≤ 999) (hd : 0 ≤ d ∧ d ≤ 12000) : 0 ≤ k * k * d * d ∧ k * k * d * d ≤ 200000000000000 := by
  have m1 := mul_bd (a := k) (b := k) 999 999 (by omega) (by omega)
  have m2 := mul_bd (a := k * k) (b := d) (999 * 999) 12000 (by omega) (by omega)
  have m3 := mul_bd (a := k * k * d) (b := d) (999 * 999 * 12000) 12000 (by omega) (by omega)
  have p := Int.mul_nonneg (Int.mul_nonneg (Int.mul_nonneg hk.1 hk.1) hd.1) hd.1
  omega
theorem sag_rng {v k d : Int} (hv : 1 ≤ v ∧ v ≤ 99) (hk : 0 ≤ k ∧ k ≤ 100) (hd : 0 ≤ d ∧ d ≤ 12000) : 0 ≤ v * v * k * k * d * d ∧ v * v * k * k * d * d ≤ 20000000000000000 := by
  have m1 := mul_bd (a := v) (b := v) 99 99 (by omega) (by omega)
  have m2 := mul_bd (a := v * v) (b := k) (99 * 99) 100 (by omega) (by omega)
  have m3 := mul_bd (a := v * v * k) (b := k) (99 * 99 * 100) 100 (by omega) (by omega)
  have m4 := mul_bd (a := v * v * k * k) (b := d) (99 * 99 * 100 * 100) 12000 (by omega) (by omega)
  have m5 := mul_bd (a := v * v * k * k * d) (b := d) (99 * 99 * 100 * 100 * 12000) 12000 (by omega) (by omega)
  have p := Int.mul_nonneg (Int.mul_nonneg (Int.mul_nonneg (Int.mul_nonneg (Int.mul_nonneg (show 0 ≤ v by omega) (show 0 ≤ v by omega)) hk.1) hk.1) hd.1) hd.1
  omega
theorem isF_rng {a d : Int} {w : FO} (ha : -9000000 ≤ a ∧ a ≤ 9000000) (hw : fok w) (hd : 0 ≤ d ∧ d ≤ 12000) : (-9223372036854775808 ≤ a * fB w ∧ a * fB w < 9223372036854775808) ∧ (-9223372036854775808 ≤ fA w * d ∧ fA w * d < 9223372036854775808) := by
  obtain ⟨b1, b2, b3, b4, -⟩ := hw
  have m1 := mul_bd (a := a) (b := fB w) 9000000 1000000000 (by omega) (by omega)
  have m2 := mul_bd (a := fA w) (b := d) 1000000000 12000 (by omega) (by omega)
  omega
theorem sq_rng {d : Int} (h1 : 1 ≤ d) (h2 : d ≤ 12000) : 1 ≤ d * d ∧ d * d ≤ 144000000 := by
  have m1 := mul_bd (a := d) (b := d) 12000 12000 (by omega) (by omega)
  have := Int.mul_pos (show 0 < d by omega) (show 0 < d by omega)
  omega
