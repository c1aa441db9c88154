/-! rows of registers -/
theorem cpN_s {f : Nat → Int} {to x j : Nat} : ∀ k, (x + k ≤ to ∨ to + k ≤ x) → cpN f to x k j = if to ≤ j ∧ j < to + k then f (x + (j - to)) else f j
  | 0, _ => by rw [cpN, if_neg (by omega)]
  | k + 1, h => by
    have h1 := cpN_s (f := f) (to := to) (x := x) (j := j) k (by omega)
    have h2 := cpN_s (f := f) (to := to) (x := x) (j := x + k) k (by omega)
    rw [if_neg (by omega)] at h2
    rw [cpN, h2]
    by_cases q : j = to + k
    · rw [q, uI_s, if_pos (by omega), show x + (to + k - to) = x + k by omega]
    · rw [uI_n q, h1]
      by_cases z : to ≤ j ∧ j < to + k
      · rw [if_pos z, if_pos (by omega)]
      · rw [if_neg z, if_neg (by omega)]
theorem c6_in {x to : Nat} {S : RS} {k : Nat} (h : x + 6 ≤ to ∨ to + 6 ≤ x) (hk : k < 6) : vS (rC6 x to S) (to + k) = vS S (x + k) := by
  show some (cpN S.1 to x 6 (to + k), cpN S.2.1 to x 6 (to + k)) = _
  rw [cpN_s 6 h, cpN_s 6 h, if_pos (by omega), if_pos (by omega), show to + k - to = k by omega]
  rfl
theorem c6_out {x to : Nat} {S : RS} {j : Nat} (h : x + 6 ≤ to ∨ to + 6 ≤ x) (hj : j < to ∨ to + 6 ≤ j) : vS (rC6 x to S) j = vS S j := by
  show some (cpN S.1 to x 6 j, cpN S.2.1 to x 6 j) = _
  rw [cpN_s 6 h, cpN_s 6 h, if_neg (by omega), if_neg (by omega)]
  rfl
theorem shN_s {f : Nat → Int} {j : Nat} : ∀ k, shN f k j = if 6 ≤ j ∧ j < 6 + k then f (j + 6) else f j
  | 0 => by rw [shN, if_neg (by omega)]
  | k + 1 => by
    have h1 := shN_s (f := f) (j := j) k
    have h2 := shN_s (f := f) (j := 12 + k) k
    rw [if_neg (by omega)] at h2
    rw [shN, h2]
    by_cases q : j = 6 + k
    · rw [q, uI_s, if_pos (by omega), show 6 + k + 6 = 12 + k by omega]
    · rw [uI_n q, h1]
      by_cases z : 6 ≤ j ∧ j < 6 + k
      · rw [if_pos z, if_pos (by omega)]
      · rw [if_neg z, if_neg (by omega)]
theorem sh_in {S : RS} {j : Nat} (h : 6 ≤ j ∧ j < 48) : vS (rSh S) j = vS S (j + 6) := by
  show some (shN S.1 42 j, shN S.2.1 42 j) = _
  rw [shN_s, shN_s, if_pos (by omega), if_pos (by omega)]
  rfl
theorem sh_out {S : RS} {j : Nat} (h : j < 6 ∨ 48 ≤ j) : vS (rSh S) j = vS S j := by
  show some (shN S.1 42 j, shN S.2.1 42 j) = _
  rw [shN_s, shN_s, if_neg (by omega), if_neg (by omega)]
  rfl
theorem kpS_y {u : Nat} {S : RS} (h : u < 8) : kpS u S = rC6 0 (6 + (6 * u)) S := if_pos h
theorem kpS_8 {u : Nat} {S : RS} (h : ¬ u < 8) : kpS u S = rC6 0 48 (rSh S) := if_neg h
theorem kp_out {u : Nat} {S : RS} {j : Nat} (hu : u ≤ 8) (hj : j < 6 ∨ 54 ≤ j) : vS (kpS u S) j = vS S j := by
  by_cases h : u < 8
  · rw [kpS_y h, c6_out (by omega) (by omega)]
  · rw [kpS_8 h, c6_out (by omega) (by omega), sh_out (by omega)]
def RNo (sz nx : Nat) (T : Nat → Nat → FO) (S : RS) : Prop := sz ≤ 8 ∧ nx < 8 ∧ (∀ i k, fok (T i k)) ∧ ∀ i k, i < sz → k < 6 → T ((nx + 8 - sz + i) % 8) k = vS S (6 + 6 * i + k)
theorem RNo_ext {sz nx : Nat} {T : Nat → Nat → FO} {S S' : RS} (h : RNo sz nx T S) (e : ∀ j, 6 ≤ j → j < 54 → vS S' j = vS S j) : RNo sz nx T S' := ⟨h.1, h.2.1, h.2.2.1, fun i k hi hk => by rw [h.2.2.2 i k hi hk, e _ (by omega) (by have := h.1; omega)]⟩
theorem upT_s {T : Nat → Nat → FO} {i : Nat} {t : Nat → FO} : upT T i t i = t := if_pos rfl
theorem upT_n {T : Nat → Nat → FO} {i j : Nat} {t : Nat → FO} (h : j ≠ i) : upT T i t j = T j := if_neg h
theorem RNo_add {sz nx : Nat} {T : Nat → Nat → FO} {S : RS} {t : Nat → FO} (ht : ∀ k, fok (t k)) (hp : tS6 t S) (h : RNo sz nx T S) : RNo (min (sz + 1) 8) ((nx + 1) % 8) (upT T nx t) (kpS sz S) := by
  obtain ⟨h1, h2, h3, h4⟩ := h
  refine ⟨by omega, by omega, fun i k => ?_, fun i k hi hk => ?_⟩
  · by_cases q : i = nx
    · rw [q, upT_s]; exact ht k
    · rw [upT_n q]; exact h3 i k
  · by_cases hs : sz < 8
    · rw [kpS_y hs]
      by_cases hl : i = sz
      · subst hl
        rw [show ((nx + 1) % 8 + 8 - min (i + 1) 8 + i) % 8 = nx by omega, upT_s, c6_in (by omega) hk]
        rw [Nat.zero_add]
        exact hp k hk
      · rw [show ((nx + 1) % 8 + 8 - min (sz + 1) 8 + i) % 8 = (nx + 8 - sz + i) % 8 by omega, upT_n (by omega), c6_out (by omega) (by omega)]
        exact h4 i k (by omega) hk
    · rw [kpS_8 hs]
      by_cases hl : i = 7
      · subst hl
        rw [show ((nx + 1) % 8 + 8 - min (sz + 1) 8 + 7) % 8 = nx by omega, upT_s, show 6 + 6 * 7 + k = 48 + k by omega, c6_in (by omega) hk, sh_out (by omega), Nat.zero_add]
        exact hp k hk
      · rw [show ((nx + 1) % 8 + 8 - min (sz + 1) 8 + i) % 8 = (nx + 8 - sz + (i + 1)) % 8 by omega, upT_n (by omega), c6_out (by omega) (by omega), sh_in (by omega), show 6 + 6 * i + k + 6 = 6 + 6 * (i + 1) + k by omega]
        exact h4 (i + 1) k (by omega) hk
theorem RNo_undo {sz nx : Nat} {T : Nat → Nat → FO} {S : RS} (h : RNo sz nx T S) (hs : 1 ≤ sz) : RNo (sz - 1) ((nx + 7) % 8) T S ∧ ∀ k, k < 6 → T ((nx + 7) % 8) k = vS S (6 + 6 * (sz - 1) + k) := by
  obtain ⟨h1, h2, h3, h4⟩ := h
  refine ⟨⟨by omega, by omega, h3, fun i k hi hk => ?_⟩, fun k hk => ?_⟩
  · rw [show ((nx + 7) % 8 + 8 - (sz - 1) + i) % 8 = (nx + 8 - sz + i) % 8 by omega]
    exact h4 i k (by omega) hk
  · rw [← h4 (sz - 1) k (by omega) hk, show (nx + 8 - sz + (sz - 1)) % 8 = (nx + 7) % 8 by omega]
theorem RNo_0 {sz nx : Nat} {T : Nat → Nat → FO} {S S' : RS} (h : RNo sz nx T S) : RNo 0 nx T S' := ⟨by omega, h.2.1, h.2.2.1, fun i k hi _ => absurd hi (Nat.not_lt_zero i)⟩
def RKe (fk : Nat → Int) (T0 T1 : Nat → FO) (mk : Nat → Int) (S : RS) : Prop := (fk 0 = 0 ∨ fk 0 = 1) ∧ (fk 1 = 0 ∨ fk 1 = 1) ∧ mk 0 = fk 0 ∧ mk 1 = fk 1 ∧ (∀ k, fok (T0 k)) ∧ (∀ k, fok (T1 k)) ∧ (fk 0 = 1 → ∀ k, k < 6 → T0 k = vS S (54 + k)) ∧ (fk 1 = 1 → ∀ k, k < 6 → T1 k = vS S (60 + k))
theorem RKe_ext {fk : Nat → Int} {T0 T1 : Nat → FO} {mk : Nat → Int} {S S' : RS} (h : RKe fk T0 T1 mk S) (e : ∀ j, 54 ≤ j → j < 66 → vS S' j = vS S j) : RKe fk T0 T1 mk S' := ⟨h.1, h.2.1, h.2.2.1, h.2.2.2.1, h.2.2.2.2.1, h.2.2.2.2.2.1, fun q k hk => by rw [h.2.2.2.2.2.2.1 q k hk, e _ (by omega) (by omega)], fun q k hk => by rw [h.2.2.2.2.2.2.2 q k hk, e _ (by omega) (by omega)]⟩
theorem e66_v {S T : RS} (h : e66 S T) {j : Nat} (hj : j < 66) : vS T j = vS S j := by unfold vS; rw [(h j hj).1, (h j hj).2]
theorem ly_t {to : Nat} {a b : Int} {S : RS} : vS (rLy to a b S) to = some (a / gd a b, b / gd a b) := by
  show some (uI _ to _ to, uI _ to _ to) = _
  rw [uI_s, uI_s]
theorem ly_n {to j : Nat} {a b : Int} {S : RS} (h : j ≠ to) : vS (rLy to a b S) j = vS S j := by
  show some (uI _ to _ j, uI _ to _ j) = _
  rw [uI_n h, uI_n h]; rfl
theorem cp_0 {to x : Nat} {S : RS} : vS (rCp to x S) to = vS S x := by
  show some (cp2 _ to x to, cp2 _ to x to) = _
  rw [cp2_0, cp2_0]; rfl
theorem cp_1 {to x : Nat} {S : RS} (h : x + 1 ≠ to) : vS (rCp to x S) (to + 1) = vS S (x + 1) := by
  show some (cp2 _ to x (to + 1), cp2 _ to x (to + 1)) = _
  rw [cp2_1 h, cp2_1 h]; rfl
theorem cp_n {to x j : Nat} {S : RS} (h : j ≠ to) (h1 : j ≠ to + 1) : vS (rCp to x S) j = vS S j := by
  show some (cp2 _ to x j, cp2 _ to x j) = _
  rw [cp2_n h h1, cp2_n h h1]; rfl
theorem fmk_small {a b : Int} (ha : -1000000000 ≤ a ∧ a ≤ 1000000000) (hb : 1 ≤ b ∧ b ≤ 1000000000) : fmk a b = some (a / gd a b, b / gd a b) := by
  have hg := gd_pos a b
  have h1 := div_bd hg (gd_dvd_l (x := a) (y := b) (by omega))
  have h2 := div_bd1 hg hb.1 (gd_dvd_r (x := a) (y := b) (by omega))
  exact fmk_some ⟨by omega, by omega, by omega⟩
/-! ways of a net: bus 0 has none above -/
theorem zS_c {h g o : Nat → Int} {d : Nat} (e : ∀ i, 1 ≤ i → h i = g i) : ∀ n w, zS h o d n w = zS g o d n w
  | 0, w => rfl
  | n + 1, w => by
    rw [zS, zS]
    by_cases q : w = 0
    · rw [if_pos q, if_pos q]
    · rw [if_neg q, if_neg q, e w (by omega), zS_c e n]
theorem zUp_c {h g o : Nat → Int} (e : ∀ i, 1 ≤ i → h i = g i) : zUp h o = zUp g o := by
  funext d i
  unfold zUp
  rw [zS_c e]
theorem zL_c {h g : Nat → Int} (e : ∀ i, 1 ≤ i → h i = g i) : ∀ n w, zL h n w = zL g n w
  | 0, w => rfl
  | n + 1, w => by
    rw [zL, zL]
    by_cases q : w = 0
    · rw [if_pos q, if_pos q]
    · rw [if_neg q, if_neg q, e w (by omega), zL_c e n]
theorem zM_c' {h g : Nat → Int} (e : ∀ i, 1 ≤ i → h i = g i) : ∀ n x y, zM h n x y = zM g n x y
  | 0, x, y => rfl
  | n + 1, x, y => by
    rw [zM, zM]
    by_cases q : x = y
    · rw [if_pos q, if_pos q]
    · rw [if_neg q, if_neg q]
      by_cases z : y < x
      · rw [if_pos z, if_pos z, e x (by omega), zM_c' e n]
      · rw [if_neg z, if_neg z, e y (by omega), zM_c' e n]
theorem zM_c {h g : Nat → Int} (e : ∀ i, 1 ≤ i → h i = g i) : zM h = zM g := by
  funext n x y
  exact zM_c' e n x y
theorem trB_c {h g p : Nat → Int} (e : ∀ i, 1 ≤ i → h i = g i) : ∀ n w a, trB h p n w a = trB g p n w a
  | 0, w, a => rfl
  | n + 1, w, a => by
    rw [trB, trB]
    by_cases q : w = 0
    · rw [if_pos q, if_pos q]
    · rw [if_neg q, if_neg q, e w (by omega), trB_c e n]
section
variable {v : Int} {b : Nat} {h g o k : Nat → Int} {s i f p w j a : Int} {t : Nat → FO}
theorem cB_c (e : ∀ i, 1 ≤ i → h i = g i) : cB h o = cB g o := by funext s i f; unfold cB; rw [zUp_c e]
theorem cP0_c (e : ∀ i, 1 ≤ i → h i = g i) : cP0 v h o = cP0 v g o := by funext s i f; unfold cP0; rw [zUp_c e]
theorem cP1_c (e : ∀ i, 1 ≤ i → h i = g i) : cP1 v h o = cP1 v g o := by funext s i f; unfold cP1; rw [zUp_c e]
theorem cP2_c (e : ∀ i, 1 ≤ i → h i = g i) : cP2 v h o = cP2 v g o := by funext s i f; unfold cP2; rw [zUp_c e]
theorem vP0_c (e : ∀ i, 1 ≤ i → h i = g i) : vP0 v h o = vP0 v g o := by funext s i f c; unfold vP0; rw [zUp_c e, cP0_c e]
theorem vP1_c (e : ∀ i, 1 ≤ i → h i = g i) : vP1 v h o = vP1 v g o := by funext s i f c; unfold vP1; rw [zUp_c e, cP1_c e, cB_c e]
theorem vP2_c (e : ∀ i, 1 ≤ i → h i = g i) : vP2 v h o = vP2 v g o := by funext s i f c; unfold vP2; rw [zUp_c e, cP2_c e]
theorem aAsk_c (e : ∀ i, 1 ≤ i → h i = g i) : aAsk v b h o = aAsk v b g o := by funext s i f z; unfold aAsk; rw [zUp_c e]
theorem aCur_c (e : ∀ i, 1 ≤ i → h i = g i) : aCur v b h o = aCur v b g o := by funext s i f p w j; unfold aCur; rw [aAsk_c e, cP0_c e, cP1_c e, cP2_c e, cB_c e]
theorem aVol_c (e : ∀ i, 1 ≤ i → h i = g i) : aVol v b h o = aVol v b g o := by funext s i f a p w j; unfold aVol; rw [aAsk_c e, vP0_c e, vP1_c e, vP2_c e, cB_c e, zM_c e]
theorem gNm_c (e : ∀ i, 1 ≤ i → h i = g i) : gNm v h o = gNm v g o := by funext s i f; unfold gNm; rw [cP0_c e, cP1_c e, cP2_c e]
theorem sgI_c (e : ∀ i, 1 ≤ i → h i = g i) : sgI v h o = sgI v g o := by funext s i f p a; unfold sgI; rw [vP0_c e, vP1_c e, vP2_c e, cB_c e, zM_c e]
theorem aSag_c (e : ∀ i, 1 ≤ i → h i = g i) : aSag v b h o = aSag v b g o := by funext s i f p; unfold aSag; rw [aAsk_c e, sgI_c e]
theorem trI_c (e : ∀ i, 1 ≤ i → h i = g i) : trI v h o k = trI v g o k := by funext s i f w; unfold trI; rw [cB_c e, gNm_c e]
theorem aTrp_c (e : ∀ i, 1 ≤ i → h i = g i) : aTrp v b h o k = aTrp v b g o k := by funext s i f; unfold aTrp; rw [aAsk_c e, trI_c e, trB_c e]
theorem wsT_c (e : ∀ i, 1 ≤ i → h i = g i) : ∀ n, wsT v h o s f n = wsT v g o s f n
  | 0 => rfl
  | n + 1 => by rw [wsT, wsT, wsT_c e n, cB_c e, gNm_c e]
theorem aWst_c (e : ∀ i, 1 ≤ i → h i = g i) : aWst v b h o = aWst v b g o := by funext s f; unfold aWst; rw [wsT_c e]
theorem mHit_c (e : ∀ i, 1 ≤ i → h i = g i) : mHit v h o t = mHit v g o t := by funext s i f; unfold mHit; rw [cP0_c e, cP1_c e, cP2_c e, cB_c e]
theorem mSt_c (e : ∀ i, 1 ≤ i → h i = g i) : mSt v h o t = mSt v g o t := by funext s i f x; unfold mSt; rw [mHit_c e]
theorem mI_c (e : ∀ i, 1 ≤ i → h i = g i) {s i : Nat} : ∀ n x, mI v h o t s i n x = mI v g o t s i n x
  | 0, x => rfl
  | n + 1, x => by rw [mI, mI, mI_c e n, mSt_c e]
theorem mJ_c (e : ∀ i, 1 ≤ i → h i = g i) {s : Nat} : ∀ n x, mJ v h o t s n x = mJ v g o t s n x
  | 0, x => rfl
  | n + 1, x => by rw [mJ, mJ, mJ_c e n, mI_c e]
theorem mK_c (e : ∀ i, 1 ≤ i → h i = g i) : ∀ n, mK v b h o t n = mK v b g o t n
  | 0 => rfl
  | n + 1 => by rw [mK, mK, mK_c e n, mJ_c e]
theorem aMat_c (e : ∀ i, 1 ≤ i → h i = g i) : aMat v b h o t = aMat v b g o t := by funext w; unfold aMat; rw [mK_c e]
theorem mBus_c (e : ∀ i, 1 ≤ i → h i = g i) (h0 : g 0 = -1) (k0 : k 0 = 0) : mBus b h o k i w = aBus v b g o k i w := by
  unfold mBus aBus
  rw [zUp_c e, zL_c e]
  by_cases hi : 0 ≤ i ∧ i ≤ (b : Int) - 1
  · rw [if_pos hi, if_pos hi]
    by_cases z : i.toNat = 0
    · rw [z, if_pos rfl, if_pos rfl, h0, k0]
    · rw [if_neg z, if_neg z, e _ (by omega)]
  · rw [if_neg hi, if_neg hi]
end
/-! stores -/
def RSt (c : Nat) (tt : Int) (nn : Nat) (fa fb fp mz mkd mfa mfb : Nat → Int) : Prop := sok tt nn fp ∧ (tt = 0 → nn = 0) ∧ (tt = 0 → mz c = -1) ∧ (tt = 1 → mz c = (nn : Int)) ∧ ∀ i, i < nn → mkd (8 * c + i) = fp i ∧ mfa (8 * c + i) = fa i ∧ mfb (8 * c + i) = fb i
theorem RSt_z {c : Nat} {tt : Int} {nn : Nat} {fa fb fp mz mz' mkd mfa mfb : Nat → Int} (h : RSt c tt nn fa fb fp mz mkd mfa mfb) (e : mz' c = mz c) : RSt c tt nn fa fb fp mz' mkd mfa mfb := ⟨h.1, h.2.1, fun q => e.trans (h.2.2.1 q), fun q => e.trans (h.2.2.2.1 q), h.2.2.2.2⟩
theorem RSt_u {c d : Nat} {tt : Int} {nn n : Nat} {fa fb fp mz mz' mkd mfa mfb : Nat → Int} {x y z : Int} (h : RSt c tt nn fa fb fp mz mkd mfa mfb) (e : mz' c = mz c) (hcd : c ≠ d) (hn : n < 8) : RSt c tt nn fa fb fp mz' (uI mkd (8 * d + n) x) (uI mfa (8 * d + n) y) (uI mfb (8 * d + n) z) := ⟨h.1, h.2.1, fun q => e.trans (h.2.2.1 q), fun q => e.trans (h.2.2.2.1 q), fun i hi => by
  have h8 := h.1.2.1
  rw [uI_n (by omega), uI_n (by omega), uI_n (by omega)]
  exact h.2.2.2.2 i hi⟩
theorem RSt_put {c : Nat} {nn : Nat} {fa fb fp mz mkd mfa mfb : Nat → Int} {x y z : Int} (h : RSt c 1 nn fa fb fp mz mkd mfa mfb) (hn : nn < 8) (hx : x = 0 ∨ x = 1) : RSt c 1 (nn + 1) (uI fa nn y) (uI fb nn z) (uI fp nn x) (uI mz c (((nn + 1 : Nat) : Int))) (uI mkd (8 * c + nn) x) (uI mfa (8 * c + nn) y) (uI mfb (8 * c + nn) z) := by
  obtain ⟨⟨a1, a2, a3⟩, h2, h3, h4, h5⟩ := h
  refine ⟨⟨a1, by omega, fun k => ?_⟩, fun q => absurd q (by decide), fun q => absurd q (by decide), fun _ => uI_s, fun i hi => ?_⟩
  · by_cases q : k = nn
    · rw [q, uI_s]; exact hx
    · rw [uI_n q]; exact a3 k
  · by_cases q : i = nn
    · rw [q, uI_s, uI_s, uI_s, uI_s, uI_s, uI_s]; exact ⟨rfl, rfl, rfl⟩
    · have e1 : 8 * c + i ≠ 8 * c + nn := by omega
      rw [uI_n e1, uI_n e1, uI_n e1, uI_n q, uI_n q, uI_n q]
      exact h5 i (by omega)
theorem RSt_take {c : Nat} {nn : Nat} {fa fb fp mz mkd mfa mfb : Nat → Int} (h : RSt c 1 nn fa fb fp mz mkd mfa mfb) : RSt c 1 (nn - 1) fa fb fp (uI mz c (((nn - 1 : Nat) : Int))) mkd mfa mfb := by
  obtain ⟨⟨a1, a2, a3⟩, h2, h3, h4, h5⟩ := h
  exact ⟨⟨a1, by omega, a3⟩, fun q => absurd q (by decide), fun q => absurd q (by decide), fun _ => uI_s, fun i hi => h5 i (by omega)⟩
theorem RSt_new {c : Nat} {tt : Int} {nn : Nat} {fa fb fp mz mkd mfa mfb : Nat → Int} (h : RSt c tt nn fa fb fp mz mkd mfa mfb) : RSt c 1 0 fa fb fp (uI mz c 0) mkd mfa mfb := by
  obtain ⟨⟨a1, a2, a3⟩, h2, h3, h4, h5⟩ := h
  exact ⟨⟨Or.inr rfl, by omega, a3⟩, fun q => absurd q (by decide), fun q => absurd q (by decide), fun _ => uI_s, fun i hi => absurd hi (Nat.not_lt_zero i)⟩
theorem RSt_gone {c : Nat} {tt : Int} {nn : Nat} {fa fb fp mz mz' mkd mfa mfb : Nat → Int} (h : RSt c tt nn fa fb fp mz mkd mfa mfb) (e : mz' c = -1) : RSt c 0 0 fa fb fp mz' mkd mfa mfb := by
  obtain ⟨⟨a1, a2, a3⟩, h2, h3, h4, h5⟩ := h
  exact ⟨⟨Or.inl rfl, by omega, a3⟩, fun _ => rfl, fun _ => e, fun q => absurd q (by decide), fun i hi => absurd hi (Nat.not_lt_zero i)⟩
theorem tot_c {f g : Nat → Int} : ∀ n, (∀ i, i < n → f i = g i) → tot n f = tot n g
  | 0, _ => rfl
  | n + 1, h => by rw [tot, tot, tot_c n (fun i hi => h i (by omega)), h n (by omega)]
