theorem fok6 {a b c d e f : FO} (h0 : fok a) (h1 : fok b) (h2 : fok c) (h3 : fok d) (h4 : fok e) (h5 : fok f) : ∀ k, fok (lF [a, b, c, d, e, f] k) := by
  refine fok_lF (fun v hv => ?_)
  simp only [List.mem_cons, List.not_mem_nil, or_false] at hv
  rcases hv with rfl | rfl | rfl | rfl | rfl | rfl <;> assumption
theorem tS66 {a b c d e f : FO} {S : RS} (h0 : a = vS S 0) (h1 : b = vS S 1) (h2 : c = vS S 2) (h3 : d = vS S 3) (h4 : e = vS S 4) (h5 : f = vS S 5) : tS6 (lF [a, b, c, d, e, f]) S := by
  intro k hk
  match k, hk with
  | 0, _ => exact h0
  | 1, _ => exact h1
  | 2, _ => exact h2
  | 3, _ => exact h3
  | 4, _ => exact h4
  | 5, _ => exact h5
theorem turn_v {t : Nat → FO} {K : RS} (h : tS6 t K) : tS6 (lF [t 2, t 3, t 4, t 5, t 0, t 1]) (rCp 4 66 (rCp 2 70 (rCp 0 68 (rC6 0 66 K)))) := by
  have c : ∀ k, k < 6 → vS (rC6 0 66 K) (66 + k) = vS K k := fun k hk => by rw [c6_in (by decide) hk, Nat.zero_add]
  have e : ∀ k, k < 6 → t k = vS K k := h
  refine tS66 ?_ ?_ ?_ ?_ ?_ ?_
  · rw [cp_n (by decide) (by decide), cp_n (by decide) (by decide), cp_0, e 2 (by decide)]; exact (c 2 (by decide)).symm
  · rw [cp_n (by decide) (by decide), cp_n (by decide) (by decide), show (1 : Nat) = 0 + 1 from rfl, cp_1 (by decide), e 3 (by decide)]; exact (c 3 (by decide)).symm
  · rw [cp_n (by decide) (by decide), cp_0, cp_n (by decide) (by decide), e 4 (by decide)]; exact (c 4 (by decide)).symm
  · rw [cp_n (by decide) (by decide), show (3 : Nat) = 2 + 1 from rfl, cp_1 (by decide), cp_n (by decide) (by decide), e 5 (by decide)]; exact (c 5 (by decide)).symm
  · rw [cp_0, cp_n (by decide) (by decide), cp_n (by decide) (by decide), e 0 (by decide)]; exact (c 0 (by decide)).symm
  · rw [show (5 : Nat) = 4 + 1 from rfl, cp_1 (by decide), cp_n (by decide) (by decide), cp_n (by decide) (by decide), e 1 (by decide)]; exact (c 1 (by decide)).symm
theorem turn_n {K : RS} {j : Nat} (h : 6 ≤ j ∧ j < 66) : vS (rCp 4 66 (rCp 2 70 (rCp 0 68 (rC6 0 66 K)))) j = vS K j := by
  rw [cp_n (by omega) (by omega), cp_n (by omega) (by omega), cp_n (by omega) (by omega), c6_out (by decide) (by omega)]
theorem ld_v {w : Nat → Int} {a b c d M : Int} {K : RS} (hw : wq w a b c) (hb : flbd M a b c d) (hM : 0 ≤ M ∧ M ≤ 3000000) (hd : 0 < d) : tS6 (ldT a b c d) (ld6 w d K) := by
  have hk := wq_b hw hb hM
  obtain ⟨h0, h1, h2, h3, h4, h5⟩ := hw
  have hd2 := hb.2.2.2.2
  have q : ∀ k, k < 6 → fmk (w k) d = some (w k / gd (w k) d, d / gd (w k) d) := fun k h => fmk_small (by have := hk k h; omega) (by omega)
  unfold ldT ld6
  refine tS66 ?_ ?_ ?_ ?_ ?_ ?_
  · rw [ly_n (by decide), ly_n (by decide), ly_n (by decide), ly_n (by decide), ly_n (by decide), ly_t, ← h0]; exact q 0 (by decide)
  · rw [ly_n (by decide), ly_n (by decide), ly_n (by decide), ly_n (by decide), ly_t, ← h1]; exact q 1 (by decide)
  · rw [ly_n (by decide), ly_n (by decide), ly_n (by decide), ly_t, ← h2]; exact q 2 (by decide)
  · rw [ly_n (by decide), ly_n (by decide), ly_t, ← h3]; exact q 3 (by decide)
  · rw [ly_n (by decide), ly_t, ← h4]; exact q 4 (by decide)
  · rw [ly_t, ← h5]; exact q 5 (by decide)
theorem ld_n {w : Nat → Int} {d : Int} {K : RS} {j : Nat} (h : 6 ≤ j) : vS (ld6 w d K) j = vS K j := by
  unfold ld6
  rw [ly_n (by omega), ly_n (by omega), ly_n (by omega), ly_n (by omega), ly_n (by omega), ly_n (by omega)]
theorem ld_ok {a b c d : Int} (hd : 0 < d) : ∀ k, fok (ldT a b c d k) := fok6 (fok_fmk (by omega)) (fok_fmk (by omega)) (fok_fmk (by omega)) (fok_fmk (by omega)) (fok_fmk (by omega)) (fok_fmk (by omega))
theorem c6_0 {x : Nat} {S : RS} {k : Nat} (h : 6 ≤ x) (hk : k < 6) : vS (rC6 x 0 S) k = vS S (x + k) := by
  have e := c6_in (x := x) (to := 0) (S := S) (by omega) hk
  rw [Nat.zero_add] at e
  exact e
theorem ftell_v {S : RS} {k : Nat} {j : Int} : ftell (vS S k) j = (if j = 0 then S.1 k else S.2.1 k) := by
  unfold ftell
  rw [if_neg (by show ¬ (0 : Int) = 1; decide)]
  rfl
theorem told_w {t : Nat → FO} {S : RS} (h : tS6 t S) {p w : Nat} (hp : p < 3) (hw : w < 2) {j : Int} (hj : 0 ≤ j ∧ j ≤ 1) : (if j = 0 then S.1 (2 * p + w) else S.2.1 (2 * p + w)) = aTold t p w j := by
  rw [aTold_4 (by omega) (by omega) (by omega), Int.toNat_natCast]
  have e0 : t (2 * p) = vS S (2 * p) := h _ (by omega)
  have e1 : t (2 * p + 1) = vS S (2 * p + 1) := h _ (by omega)
  rcases (show w = 0 ∨ w = 1 by omega) with rfl | rfl
  · show _ = ftell (t (2 * p)) j
    rw [e0, ftell_v]; rfl
  · show _ = ftell (t (2 * p + 1)) j
    rw [e1, ftell_v]
theorem told_m {t : Nat → FO} {S : RS} (h : tS6 t S) {p : Nat} (hp : p < 3) {j : Int} (hj : 0 ≤ j ∧ j ≤ 1) : (if (rNm 78 (2 * p) (rZ0 S)).2.2 = 0 then (if j = 0 then (rNm 78 (2 * p) (rZ0 S)).1 78 else (rNm 78 (2 * p) (rZ0 S)).2.1 78) else -2000000004) = aTold t p 2 j := by
  rw [aTold_3 (by omega) (by omega) rfl, Int.toNat_natCast]
  exact told_n h hp j
theorem RSt_put1 {c : Nat} {tt : Int} {nn : Nat} {fa fb fp mz mkd mfa mfb : Nat → Int} {x y z : Int} (h : RSt c tt nn fa fb fp mz mkd mfa mfb) (ht : tt = 1) (hn : nn < 8) (hx : x = 0 ∨ x = 1) : RSt c tt (nn + 1) (uI fa nn y) (uI fb nn z) (uI fp nn x) (uI mz c (((nn + 1 : Nat) : Int))) (uI mkd (8 * c + nn) x) (uI mfa (8 * c + nn) y) (uI mfb (8 * c + nn) z) := by
  subst ht
  exact RSt_put h hn hx
theorem RSt_take1 {c : Nat} {tt : Int} {nn : Nat} {fa fb fp mz mkd mfa mfb : Nat → Int} (h : RSt c tt nn fa fb fp mz mkd mfa mfb) (ht : tt = 1) : RSt c tt (nn - 1) fa fb fp (uI mz c (((nn - 1 : Nat) : Int))) mkd mfa mfb := by
  subst ht
  exact RSt_take h
theorem pz_e {c : Nat} {tt : Int} {nn : Nat} {fa fb fp mz mkd mfa mfb : Nat → Int} (h : RSt c tt nn fa fb fp mz mkd mfa mfb) : pz (mz c) = (nn : Int) := by
  obtain ⟨⟨a1, a2, a3⟩, h2, h3, h4, h5⟩ := h
  unfold pz
  rcases a1 with q | q
  · rw [h3 q, if_pos (by decide), h2 q]; rfl
  · rw [h4 q, if_neg (by omega)]
theorem cnt_e {v : Int} {b n0 n1 n2 sz n : Nat} {x z : Nat → Int} {w : Int} (h0 : x 0 = v) (h1 : x 1 = (b : Int)) (h2 : x 2 = (sz : Int)) (h3 : x 3 = (n : Int)) (p0 : pz (z 0) = (n0 : Int)) (p1 : pz (z 1) = (n1 : Int)) (p2 : pz (z 2) = (n2 : Int)) : mCnt x z w = aCnt v b n0 n1 n2 sz n w := by
  unfold mCnt aCnt
  rw [h0, h1, h2, h3, p0, p1, p2]
theorem sum_e {c nn : Nat} {tt : Int} {fa fb fp mz mkd mfa mfb : Nat → Int} {w : Int} (h : RSt c tt nn fa fb fp mz mkd mfa mfb) : tot nn (if w = 2 then (fun j => mkd (8 * c + j)) else if w = 0 then (fun j => mfa (8 * c + j)) else (fun j => mfb (8 * c + j))) = tot nn (if w = 2 then fp else if w = 0 then fa else fb) := by
  refine tot_c nn (fun i hi => ?_)
  have e := h.2.2.2.2 i hi
  split
  · exact e.1
  · split
    · exact e.2.1
    · exact e.2.2
