def rZ0 (S : RS) : RS := (S.1, S.2.1, 0)
theorem rZ0_01 {S : RS} (_h : S.2.2 = 0 ∨ S.2.2 = 1) : (rZ0 S).2.2 = 0 ∨ (rZ0 S).2.2 = 1 := Or.inl rfl
theorem rZ0_r {S : RS} {j : Nat} (h : rk S j) (_hz : (rZ0 S).2.2 = 0) : rk (rZ0 S) j := h
theorem rTs_01 {S : RS} (h : S.2.2 = 0 ∨ S.2.2 = 1) : ∀ n, (rTs n S).2.2 = 0 ∨ (rTs n S).2.2 = 1
  | 0 => h
  | n + 1 => rTn_01 (rTs_01 h n)
theorem rTs_rk {S : RS} {j : Nat} (h : j ≠ 74) (h1 : j ≠ 75) (hr : S.2.2 = 0 → rk S j) : ∀ n, (rTs n S).2.2 = 0 → rk (rTs n S) j
  | 0 => hr
  | n + 1 => rTn_rk h h1 (rTs_rk h h1 hr n)
theorem rTs_r {S : RS} (h0 : S.2.2 = 0 → rk S 74) (h1 : S.2.2 = 0 → rk S 75) : ∀ n, ((rTs n S).2.2 = 0 → rk (rTs n S) 74) ∧ ((rTs n S).2.2 = 0 → rk (rTs n S) 75)
  | 0 => ⟨h0, h1⟩
  | n + 1 => ⟨rTn_r0 (rTs_r h0 h1 n).2, rTn_r1 (rTs_r h0 h1 n).1 (rTs_r h0 h1 n).2⟩
theorem rAt_01 {x n : Nat} {S : RS} (h : S.2.2 = 0 ∨ S.2.2 = 1) : (rAt x n S).2.2 = 0 ∨ (rAt x n S).2.2 = 1 := rAd_01 (rTs_01 (S := rCp 74 x S) h n)
theorem rAt_rk {x n j : Nat} {S : RS} (hj : j < 72) (hr : S.2.2 = 0 → rk S j) (hz : (rAt x n S).2.2 = 0) : rk (rAt x n S) j := rAd_rk (by omega) (by omega) (rTs_rk (by omega) (by omega) (rCp_rk (by omega) (by omega) hr) n) hz
theorem rAt_r0 {x n : Nat} {S : RS} (hx : x < 71) (h0 : S.2.2 = 0 → rk S x) (h1 : S.2.2 = 0 → rk S (x + 1)) (h2 : S.2.2 = 0 → rk S 72) (hz : (rAt x n S).2.2 = 0) : rk (rAt x n S) 72 := rAd_r0 (rTs_rk (by omega) (by omega) (rCp_rk (by omega) (by omega) h2) n) (rTs_r (rCp_r0 h0) (rCp_r1 (by omega) h1) n).1 hz
theorem rAt_r1 {x n : Nat} {S : RS} (hx : x < 71) (h0 : S.2.2 = 0 → rk S x) (h1 : S.2.2 = 0 → rk S (x + 1)) (h2 : S.2.2 = 0 → rk S 73) (hz : (rAt x n S).2.2 = 0) : rk (rAt x n S) 73 := rAd_r1 (to := 72) (x := 74) (by omega) (rTs_rk (by omega) (by omega) (rCp_rk (by omega) (by omega) h2) n) (rTs_r (rCp_r0 h0) (rCp_r1 (by omega) h1) n).2 hz
def rMx (o1 o2 : Nat) (th : Bool) (k : Nat) (S : RS) : RS := rCp (66 + 2 * k) 72 (if th then rTh 72 (rAt 4 o2 (rAt 2 o1 (rCp 72 0 S))) else rAt 4 o2 (rAt 2 o1 (rCp 72 0 S)))
