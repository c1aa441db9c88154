theorem rCp_01 {to x : Nat} {S : RS} (h : S.2.2 = 0 ∨ S.2.2 = 1) : (rCp to x S).2.2 = 0 ∨ (rCp to x S).2.2 = 1 := h
theorem rFd_01 {r x : Nat} {S : RS} (h : S.2.2 = 0 ∨ S.2.2 = 1) : (rFd r x S).2.2 = 0 ∨ (rFd r x S).2.2 = 1 := by
  unfold rFd
  split
  · exact rAd_01 h
  · split
    · exact rAd_01 (rTn_01 h)
    · split
      · split
        · exact rNm_01 (rNm_01 h)
        · exact rNm_01 (rNm_01 h)
      · exact rAd_01 h
theorem rFd_rk {r x j : Nat} {S : RS} (hj : j < 72) (hr : S.2.2 = 0 → rk S j) : (rFd r x S).2.2 = 0 → rk (rFd r x S) j := by
  unfold rFd
  split
  · exact rAd_rk (by omega) (by omega) hr
  · split
    · exact rAd_rk (by omega) (by omega) (rTn_rk (by omega) (by omega) hr)
    · split
      · split
        · exact rCp_rk (by omega) (by omega) (rNm_rk (by omega) (by omega) (rNm_rk (by omega) (by omega) hr))
        · exact rNm_rk (by omega) (by omega) (rNm_rk (by omega) (by omega) hr)
      · exact rAd_rk (by omega) (by omega) hr
theorem rFd_r0 {r x : Nat} {S : RS} (hx : x < 71) (h0 : S.2.2 = 0 → rk S 82) (h1 : S.2.2 = 0 → rk S 83) (h2 : S.2.2 = 0 → rk S x) (_h3 : S.2.2 = 0 → rk S (x + 1)) : (rFd r x S).2.2 = 0 → rk (rFd r x S) 82 := by
  unfold rFd
  split
  · exact rAd_r0 h0 h2
  · split
    · exact rAd_r0 (rTn_r0 h1) (rTn_rk (by omega) (by omega) h2)
    · split
      · split
        · exact rCp_r0 (rNm_rk (by omega) (by omega) (rNm_rk (by omega) (by omega) h2))
        · exact rNm_rk (by omega) (by omega) (rNm_rk (by omega) (by omega) h0)
      · exact rAd_r0 h0 h2
theorem rFd_r1 {r x : Nat} {S : RS} (hx : x < 71) (h0 : S.2.2 = 0 → rk S 82) (h1 : S.2.2 = 0 → rk S 83) (_h2 : S.2.2 = 0 → rk S x) (h3 : S.2.2 = 0 → rk S (x + 1)) : (rFd r x S).2.2 = 0 → rk (rFd r x S) 83 := by
  unfold rFd
  split
  · exact rAd_r1 (to := 82) (by omega) h1 h3
  · split
    · exact rAd_r1 (to := 82) (by omega) (rTn_r1 h0 h1) (rTn_rk (by omega) (by omega) h3)
    · split
      · split
        · exact rCp_r1 (to := 82) (by omega) (rNm_rk (by omega) (by omega) (rNm_rk (by omega) (by omega) h3))
        · exact rNm_rk (by omega) (by omega) (rNm_rk (by omega) (by omega) h1)
      · exact rAd_r1 (to := 82) (by omega) h1 h3
theorem rL0_01 {x : Nat} {S : RS} (h : S.2.2 = 0 ∨ S.2.2 = 1) : (rL0 x S).2.2 = 0 ∨ (rL0 x S).2.2 = 1 := h
theorem rL0_rk {x j : Nat} {S : RS} (h : j ≠ x) (h1 : j ≠ x + 1) (hr : S.2.2 = 0 → rk S j) (hz : (rL0 x S).2.2 = 0) : rk (rL0 x S) j := rk_e ⟨(uI_n h1).trans (uI_n h), (uI_n h1).trans (uI_n h)⟩ (hr hz)
theorem rL0_r0 {x : Nat} {S : RS} (_hz : (rL0 x S).2.2 = 0) : rk (rL0 x S) x := by
  have a : (rL0 x S).1 x = 0 := (uI_n (by omega)).trans uI_s
  have b : (rL0 x S).2.1 x = 1 := (uI_n (by omega)).trans uI_s
  unfold rk
  rw [a, b]
  decide
theorem rL0_r1 {x : Nat} {S : RS} (_hz : (rL0 x S).2.2 = 0) : rk (rL0 x S) (x + 1) := by
  have a : (rL0 x S).1 (x + 1) = 0 := uI_s
  have b : (rL0 x S).2.1 (x + 1) = 1 := uI_s
  unfold rk
  rw [a, b]
  decide
