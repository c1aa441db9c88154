def rT3 (S : RS) : RS := (uI S.1 74 1, uI S.2.1 74 3, S.2.2)
theorem rT3_01 {S : RS} (h : S.2.2 = 0 ∨ S.2.2 = 1) : (rT3 S).2.2 = 0 ∨ (rT3 S).2.2 = 1 := h
theorem rT3_rk {j : Nat} {S : RS} (h : j ≠ 74) (hr : S.2.2 = 0 → rk S j) (hz : (rT3 S).2.2 = 0) : rk (rT3 S) j := rk_e ⟨uI_n h, uI_n h⟩ (hr hz)
theorem rT3_r0 {S : RS} (_hz : (rT3 S).2.2 = 0) : rk (rT3 S) 74 := by
  unfold rk rT3
  dsimp only
  rw [uI_s, uI_s]
  decide
def rTh (to : Nat) (S : RS) : RS := rTm (to + 1) (to + 1) 74 (rTm to to 74 (rT3 S))
def rNm (to x : Nat) (S : RS) : RS := rPl to to 76 1 (rTm 76 (x + 1) (x + 1) (rPl to to 76 (-1) (rTm 76 x (x + 1) (rTm to x x S))))
def rTs (n : Nat) (S : RS) : RS := match n with
  | 0 => S
  | n + 1 => rTn 74 (rTs n S)
def rAt (x n : Nat) (S : RS) : RS := rAd 72 74 1 (rTs n (rCp 74 x S))
def ly0 (f : Nat → Int) (x : Nat) (v : Int) : Nat → Int := uI (uI f x v) (x + 1) v
def rL0 (x : Nat) (S : RS) : RS := (ly0 S.1 x 0, ly0 S.2.1 x 1, S.2.2)
def cpN (f : Nat → Int) (to x : Nat) : Nat → Nat → Int
  | 0 => f
  | k + 1 => uI (cpN f to x k) (to + k) (cpN f to x k (x + k))
def rC6 (x to : Nat) (S : RS) : RS := (cpN S.1 to x 6, cpN S.2.1 to x 6, S.2.2)
def rGt (x y : Nat) (S : RS) : Int := if S.1 y * S.2.1 x < S.1 x * S.2.1 y then 1 else 0
theorem rGt_01 (x y : Nat) (S : RS) : rGt x y S = 0 ∨ rGt x y S = 1 := by unfold rGt; split <;> simp
theorem rGt_b {x y : Nat} {S : RS} (hx : rk S x) (hy : rk S y) : (-9223372036854775808 ≤ S.1 x * S.2.1 y ∧ S.1 x * S.2.1 y < 9223372036854775808) := by
  obtain ⟨a1, a2, a3, a4⟩ := hx
  obtain ⟨b1, b2, b3, b4⟩ := hy
  have h1 := rk_mul (c := 0) (d := 0) (a := S.1 x) (b := S.2.1 y) (by omega) (by omega)
  omega
theorem rTh_rk {to j : Nat} {S : RS} (h : j ≠ to) (h1 : j ≠ to + 1) (h2 : j ≠ 74) (hr : S.2.2 = 0 → rk S j) (hz : (rTh to S).2.2 = 0) : rk (rTh to S) j := rTm_rk h1 (rTm_rk h (rT3_rk h2 hr)) hz
theorem rTh_01 {to : Nat} {S : RS} (h : S.2.2 = 0 ∨ S.2.2 = 1) : (rTh to S).2.2 = 0 ∨ (rTh to S).2.2 = 1 := rTm_01 (rTm_01 h)
theorem rTh_r0 {to : Nat} {S : RS} (h74 : to ≠ 74) (hr : S.2.2 = 0 → rk S to) (hz : (rTh to S).2.2 = 0) : rk (rTh to S) to := rTm_rk (by omega) (rTm_rt (rT3_rk h74 hr) rT3_r0) hz
theorem rTh_r1 {to : Nat} {S : RS} (h74 : to ≠ 74) (h73 : to + 1 ≠ 74) (hr : S.2.2 = 0 → rk S (to + 1)) (hz : (rTh to S).2.2 = 0) : rk (rTh to S) (to + 1) := rTm_rt (rTm_rk (by omega) (rT3_rk h73 hr)) (rTm_rk (Ne.symm h74) rT3_r0) hz
theorem rNm_01 {to x : Nat} {S : RS} (h : S.2.2 = 0 ∨ S.2.2 = 1) : (rNm to x S).2.2 = 0 ∨ (rNm to x S).2.2 = 1 := rPl_01 (rTm_01 (rPl_01 (rTm_01 (rTm_01 h))))
theorem rNm_rk {to x j : Nat} {S : RS} (h : j ≠ to) (h1 : j ≠ 76) (hr : S.2.2 = 0 → rk S j) (hz : (rNm to x S).2.2 = 0) : rk (rNm to x S) j := rPl_rk h (rTm_rk h1 (rPl_rk h (rTm_rk h1 (rTm_rk h hr)))) hz
theorem rNm_rt {to x : Nat} {S : RS} (ht : to ≠ 76) (h0 : to ≠ x) (h1 : to ≠ x + 1) (h2 : x ≠ 76) (h3 : x + 1 ≠ 76) (hx : S.2.2 = 0 → rk S x) (hy : S.2.2 = 0 → rk S (x + 1)) (hz : (rNm to x S).2.2 = 0) : rk (rNm to x S) to := by
  have x1 := rTm_rk (to := to) (x := x) (y := x) (Ne.symm h0) hx
  have y1 := rTm_rk (to := to) (x := x) (y := x) (Ne.symm h1) hy
  have t1 := rTm_rt (to := to) (x := x) (y := x) hx hx
  have y2 := rTm_rk (to := 76) (x := x) (y := x + 1) h3 y1
  have t2 := rTm_rk (to := 76) (x := x) (y := x + 1) ht t1
  have s2 := rTm_rt (to := 76) (x := x) (y := x + 1) x1 y1
  have t3 := rPl_rt (to := to) (k := -1) t2 s2
  have y3 := rPl_rk (to := to) (x := to) (y := 76) (k := -1) (Ne.symm h1) y2
  have t4 := rTm_rk (to := 76) (x := x + 1) (y := x + 1) ht t3
  have s4 := rTm_rt (to := 76) (x := x + 1) (y := x + 1) y3 y3
  exact rPl_rt t4 s4 hz
