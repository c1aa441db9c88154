theorem rMd_01 {to : Nat} {a b : Int} {S : RS} (h : S.2.2 = 0 ∨ S.2.2 = 1) : (rMd to a b S).2.2 = 0 ∨ (rMd to a b S).2.2 = 1 := by
  have := rBad_s a b
  show (if S.2.2 = 0 then rBad a b else 1) = 0 ∨ (if S.2.2 = 0 then rBad a b else 1) = 1
  split
  · exact this.1
  · exact Or.inr rfl
theorem rMd_n {to j : Nat} {a b : Int} {S : RS} (h : j ≠ to) : (rMd to a b S).1 j = S.1 j ∧ (rMd to a b S).2.1 j = S.2.1 j := ⟨uI_n h, uI_n h⟩
theorem rMd_t {to : Nat} {a b : Int} {S : RS} : (rMd to a b S).1 to = a / gd a b ∧ (rMd to a b S).2.1 to = b / gd a b := ⟨uI_s, uI_s⟩
theorem rMd_z {to : Nat} {a b : Int} {S : RS} (h : (rMd to a b S).2.2 = 0) : S.2.2 = 0 ∧ rBad a b = 0 := by
  have h : (if S.2.2 = 0 then rBad a b else 1) = 0 := h
  split at h
  · exact ⟨by assumption, h⟩
  · exact absurd h (by decide)
theorem rPl_01 {to x y : Nat} {k : Int} {S : RS} (h : S.2.2 = 0 ∨ S.2.2 = 1) : (rPl to x y k S).2.2 = 0 ∨ (rPl to x y k S).2.2 = 1 := by
  unfold rPl; split
  · exact rMd_01 h
  · exact h
theorem rTm_01 {to x y : Nat} {S : RS} (h : S.2.2 = 0 ∨ S.2.2 = 1) : (rTm to x y S).2.2 = 0 ∨ (rTm to x y S).2.2 = 1 := by
  unfold rTm; split
  · exact rMd_01 h
  · exact h
theorem rPl_n {to x y j : Nat} {k : Int} {S : RS} (h : j ≠ to) : (rPl to x y k S).1 j = S.1 j ∧ (rPl to x y k S).2.1 j = S.2.1 j := by
  unfold rPl; split
  · exact rMd_n h
  · exact ⟨rfl, rfl⟩
theorem rTm_n {to x y j : Nat} {S : RS} (h : j ≠ to) : (rTm to x y S).1 j = S.1 j ∧ (rTm to x y S).2.1 j = S.2.1 j := by
  unfold rTm; split
  · exact rMd_n h
  · exact ⟨rfl, rfl⟩
theorem rPl_z {to x y : Nat} {k : Int} {S : RS} (h : (rPl to x y k S).2.2 = 0) : S.2.2 = 0 := by
  unfold rPl at h; split at h
  · assumption
  · exact h
theorem rTm_z {to x y : Nat} {S : RS} (h : (rTm to x y S).2.2 = 0) : S.2.2 = 0 := by
  unfold rTm at h; split at h
  · assumption
  · exact h
theorem rk_e {S T : RS} {j : Nat} (h : T.1 j = S.1 j ∧ T.2.1 j = S.2.1 j) (k : rk S j) : rk T j := by unfold rk at *; rw [h.1, h.2]; exact k
theorem rPl_rk {to x y j : Nat} {k : Int} {S : RS} (h : j ≠ to) (hr : S.2.2 = 0 → rk S j) (hz : (rPl to x y k S).2.2 = 0) : rk (rPl to x y k S) j := rk_e (rPl_n h) (hr (rPl_z hz))
theorem rTm_rk {to x y j : Nat} {S : RS} (h : j ≠ to) (hr : S.2.2 = 0 → rk S j) (hz : (rTm to x y S).2.2 = 0) : rk (rTm to x y S) j := rk_e (rTm_n h) (hr (rTm_z hz))
theorem rMd_rt {to : Nat} {a b : Int} {S : RS} (hb : 1 ≤ b) (hz : (rMd to a b S).2.2 = 0) : rk (rMd to a b S) to := by
  have h1 := (rBad_s a b).2.1 (rMd_z hz).2
  have h2 := rMd_t (to := to) (a := a) (b := b) (S := S)
  have h3 := div_bd1 (gd_pos a b) hb (gd_dvd_r (x := a) (y := b) (by omega))
  unfold rk
  rw [h2.1, h2.2]
  exact ⟨h1.1, h1.2.1, h3.1, h1.2.2⟩
theorem rPl_rt {to x y : Nat} {k : Int} {S : RS} (hx : S.2.2 = 0 → rk S x) (hy : S.2.2 = 0 → rk S y) (hz : (rPl to x y k S).2.2 = 0) : rk (rPl to x y k S) to := by
  have h0 := rPl_z hz
  rw [rPl_0 h0] at hz ⊢
  exact rMd_rt (rk_pos ⟨(hx h0).2.2.1, (hx h0).2.2.2⟩ ⟨(hy h0).2.2.1, (hy h0).2.2.2⟩).1 hz
theorem rTm_rt {to x y : Nat} {S : RS} (hx : S.2.2 = 0 → rk S x) (hy : S.2.2 = 0 → rk S y) (hz : (rTm to x y S).2.2 = 0) : rk (rTm to x y S) to := by
  have h0 := rTm_z hz
  rw [rTm_0 h0] at hz ⊢
  exact rMd_rt (rk_pos ⟨(hx h0).2.2.1, (hx h0).2.2.2⟩ ⟨(hy h0).2.2.1, (hy h0).2.2.2⟩).1 hz
def cp2 (f : Nat → Int) (to x : Nat) : Nat → Int := uI (uI f to (f x)) (to + 1) ((uI f to (f x)) (x + 1))
def rCp (to x : Nat) (S : RS) : RS := (cp2 S.1 to x, cp2 S.2.1 to x, S.2.2)
theorem cp2_n {f : Nat → Int} {to x j : Nat} (h : j ≠ to) (h1 : j ≠ to + 1) : cp2 f to x j = f j := by unfold cp2; rw [uI_n h1, uI_n h]
theorem cp2_0 {f : Nat → Int} {to x : Nat} : cp2 f to x to = f x := by unfold cp2; rw [uI_n (by omega), uI_s]
theorem cp2_1 {f : Nat → Int} {to x : Nat} (h : x + 1 ≠ to) : cp2 f to x (to + 1) = f (x + 1) := by unfold cp2; rw [uI_s, uI_n h]
theorem rCp_rk {to x j : Nat} {S : RS} (h : j ≠ to) (h1 : j ≠ to + 1) (hr : S.2.2 = 0 → rk S j) (hz : (rCp to x S).2.2 = 0) : rk (rCp to x S) j := rk_e ⟨cp2_n h h1, cp2_n h h1⟩ (hr hz)
theorem rCp_r0 {to x : Nat} {S : RS} (hr : S.2.2 = 0 → rk S x) (hz : (rCp to x S).2.2 = 0) : rk (rCp to x S) to := by
  have := hr hz
  unfold rk at *
  rw [show (rCp to x S).1 to = S.1 x from cp2_0, show (rCp to x S).2.1 to = S.2.1 x from cp2_0]
  exact this
theorem rCp_r1 {to x : Nat} {S : RS} (h : x + 1 ≠ to) (hr : S.2.2 = 0 → rk S (x + 1)) (hz : (rCp to x S).2.2 = 0) : rk (rCp to x S) (to + 1) := by
  have := hr hz
  unfold rk at *
  rw [show (rCp to x S).1 (to + 1) = S.1 (x + 1) from cp2_1 h, show (rCp to x S).2.1 (to + 1) = S.2.1 (x + 1) from cp2_1 h]
  exact this
def rAd (to x : Nat) (k : Int) (S : RS) : RS := rPl (to + 1) (to + 1) (x + 1) k (rPl to to x k S)
theorem rAd_01 {to x : Nat} {k : Int} {S : RS} (h : S.2.2 = 0 ∨ S.2.2 = 1) : (rAd to x k S).2.2 = 0 ∨ (rAd to x k S).2.2 = 1 := rPl_01 (rPl_01 h)
theorem rAd_rk {to x j : Nat} {k : Int} {S : RS} (h : j ≠ to) (h1 : j ≠ to + 1) (hr : S.2.2 = 0 → rk S j) (hz : (rAd to x k S).2.2 = 0) : rk (rAd to x k S) j := rPl_rk h1 (rPl_rk h hr) hz
theorem rAd_r0 {to x : Nat} {k : Int} {S : RS} (h0 : S.2.2 = 0 → rk S to) (hx : S.2.2 = 0 → rk S x) (hz : (rAd to x k S).2.2 = 0) : rk (rAd to x k S) to := rPl_rk (by omega) (rPl_rt h0 hx) hz
theorem rAd_r1 {to x : Nat} {k : Int} {S : RS} (hn : x + 1 ≠ to) (h0 : S.2.2 = 0 → rk S (to + 1)) (hx : S.2.2 = 0 → rk S (x + 1)) (hz : (rAd to x k S).2.2 = 0) : rk (rAd to x k S) (to + 1) := rPl_rt (rPl_rk (by omega) h0) (rPl_rk hn hx) hz
def rTn (x : Nat) (S : RS) : RS := if S.2.2 = 0 then (uI (rPl (x + 1) x (x + 1) (-1) S).1 x (-(S.1 (x + 1))), uI (rPl (x + 1) x (x + 1) (-1) S).2.1 x (S.2.1 (x + 1)), (rPl (x + 1) x (x + 1) (-1) S).2.2) else S
theorem rTn_0 {x : Nat} {S : RS} (h : S.2.2 = 0) : rTn x S = (uI (rPl (x + 1) x (x + 1) (-1) S).1 x (-(S.1 (x + 1))), uI (rPl (x + 1) x (x + 1) (-1) S).2.1 x (S.2.1 (x + 1)), (rPl (x + 1) x (x + 1) (-1) S).2.2) := if_pos h
theorem rTn_1 {x : Nat} {S : RS} (h : ¬ S.2.2 = 0) : rTn x S = S := if_neg h
theorem rTn_01 {x : Nat} {S : RS} (h : S.2.2 = 0 ∨ S.2.2 = 1) : (rTn x S).2.2 = 0 ∨ (rTn x S).2.2 = 1 := by
  unfold rTn; split
  · exact rPl_01 h
  · exact h
theorem rTn_z {x : Nat} {S : RS} (h : (rTn x S).2.2 = 0) : S.2.2 = 0 ∧ (rPl (x + 1) x (x + 1) (-1) S).2.2 = 0 := by
  by_cases q : S.2.2 = 0
  · rw [rTn_0 q] at h; exact ⟨q, h⟩
  · rw [rTn_1 q] at h; exact absurd h q
theorem rTn_rk {x j : Nat} {S : RS} (h : j ≠ x) (h1 : j ≠ x + 1) (hr : S.2.2 = 0 → rk S j) (hz : (rTn x S).2.2 = 0) : rk (rTn x S) j := by
  obtain ⟨q, hq⟩ := rTn_z hz
  have e := rPl_n (to := x + 1) (x := x) (y := x + 1) (k := -1) (S := S) h1
  rw [rTn_0 q]
  exact rk_e (S := S) ⟨(uI_n h).trans e.1, (uI_n h).trans e.2⟩ (hr q)
theorem rTn_r0 {x : Nat} {S : RS} (hr : S.2.2 = 0 → rk S (x + 1)) (hz : (rTn x S).2.2 = 0) : rk (rTn x S) x := by
  obtain ⟨q, hq⟩ := rTn_z hz
  have e := hr q
  rw [rTn_0 q]
  unfold rk at *
  dsimp only at *
  rw [uI_s, uI_s]
  omega
theorem rTn_r1 {x : Nat} {S : RS} (h0 : S.2.2 = 0 → rk S x) (hr : S.2.2 = 0 → rk S (x + 1)) (hz : (rTn x S).2.2 = 0) : rk (rTn x S) (x + 1) := by
  obtain ⟨q, hq⟩ := rTn_z hz
  have e := rPl_rt (to := x + 1) (x := x) (y := x + 1) (k := -1) h0 hr hq
  rw [rTn_0 q]
  exact rk_e ⟨uI_n (by omega), uI_n (by omega)⟩ e
