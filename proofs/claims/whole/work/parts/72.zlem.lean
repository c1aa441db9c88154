def kp78 (S T : RS) : Prop := (∀ j, j ≠ 78 → T.1 j = S.1 j ∧ T.2.1 j = S.2.1 j) ∧ T.2.2 = S.2.2
theorem kp78_r (S : RS) : kp78 S S := ⟨fun _ _ => ⟨rfl, rfl⟩, rfl⟩
theorem kp78_l {S T : RS} {a b : Int} (h : kp78 S T) : kp78 S (rLy 78 a b T) := ⟨fun j hj => ⟨(uI_n hj).trans (h.1 j hj).1, (uI_n hj).trans (h.1 j hj).2⟩, h.2⟩
def kx10 (x y : Nat → Int) : Prop := ∀ j, j ≠ 10 → y j = x j
theorem kx10_r (x : Nat → Int) : kx10 x x := fun _ _ => rfl
theorem kx10_u {x y : Nat → Int} {v : Int} (h : kx10 x y) : kx10 x (uI y 10 v) := fun j hj => (uI_n hj).trans (h j hj)
def wq (w : Nat → Int) (a b c : Int) : Prop := w 0 = flA a b c 0 ∧ w 1 = flB a b c 0 ∧ w 2 = flA a b c 1 ∧ w 3 = flB a b c 1 ∧ w 4 = flA a b c 2 ∧ w 5 = flB a b c 2
theorem wq_of {p w : Nat → Int} {a b c : Int} (hp : p 0 = a ∧ p 1 = b ∧ p 2 = c) (hw : w 0 = p 0 + p 1 + p 2 ∧ w 1 = 0 ∧ w 2 = p 0 - p 1 ∧ w 3 = p 2 - p 1 ∧ w 4 = p 0 - p 2 ∧ w 5 = p 1 - p 2) : wq w a b c := by
  obtain ⟨rfl, rfl, rfl⟩ := hp
  exact hw
theorem wq_N {w : Nat → Int} {a b c : Int} (h : wq w a b c) : wN w 0 = flN a b c 0 ∧ wN w 1 = flN a b c 1 ∧ wN w 2 = flN a b c 2 := by
  obtain ⟨h0, h1, h2, h3, h4, h5⟩ := h
  refine ⟨?_, ?_, ?_⟩
  · show w 0 * w 0 - w 0 * w 1 + w 1 * w 1 = _
    rw [h0, h1]; rfl
  · show w 2 * w 2 - w 2 * w 3 + w 3 * w 3 = _
    rw [h2, h3]; rfl
  · show w 4 * w 4 - w 4 * w 5 + w 5 * w 5 = _
    rw [h4, h5]; rfl
theorem wq_b {w : Nat → Int} {a b c d M : Int} (h : wq w a b c) (hb : flbd M a b c d) (hM : 0 ≤ M ∧ M ≤ 3000000) : ∀ k, k < 6 → -9000000 ≤ w k ∧ w k ≤ 9000000 := by
  obtain ⟨h0, h1, h2, h3, h4, h5⟩ := h
  have a0 := flA_bd hb 0
  have a1 := flA_bd hb 1
  have a2 := flA_bd hb 2
  have b0 := flB_bd hb 0
  have b1 := flB_bd hb 1
  have b2 := flB_bd hb 2
  intro k hk
  match k, hk with
  | 0, _ => omega
  | 1, _ => omega
  | 2, _ => omega
  | 3, _ => omega
  | 4, _ => omega
  | 5, _ => omega
theorem wN_b {w : Nat → Int} (h : ∀ k, k < 6 → -9000000 ≤ w k ∧ w k ≤ 9000000) : ∀ k, k < 3 → 0 ≤ wN w k ∧ wN w k ≤ 243000000000000 := by
  intro k hk
  have h1 := h (2 * k) (by omega)
  have h2 := h (2 * k + 1) (by omega)
  have m1 := mul_bd 9000000 9000000 h1 h1
  have m2 := mul_bd 9000000 9000000 h1 h2
  have m3 := mul_bd 9000000 9000000 h2 h2
  have h3 := nrm_nn (w (2 * k)) (w (2 * k + 1))
  unfold wN
  omega
def mEqN (S : RS) (w : Nat → Int) (d : Int) : Nat → Int
  | 0 => if d = 0 then 0 else 1
  | k + 1 => if mEqN S w d k = 1 ∧ w k / gd (w k) d = S.1 k ∧ d / gd (w k) d = S.2.1 k then 1 else 0
theorem mEqN_01 (S : RS) (w : Nat → Int) (d : Int) (k : Nat) : mEqN S w d k = 0 ∨ mEqN S w d k = 1 := by
  cases k with
  | zero => rw [mEqN]; split <;> simp
  | succ k => rw [mEqN]; split <;> simp
theorem mEqN_s (S : RS) (w : Nat → Int) (d : Int) (k : Nat) : mEqN S w d (k + 1) = 1 ↔ (mEqN S w d k = 1 ∧ w k / gd (w k) d = S.1 k ∧ d / gd (w k) d = S.2.1 k) := by
  rw [mEqN]; split
  · rename_i h; exact ⟨fun _ => h, fun _ => rfl⟩
  · rename_i h; exact ⟨fun q => absurd q (by decide), fun q => absurd q h⟩
theorem mEqN_up {S : RS} {w : Nat → Int} {d : Int} {k : Nat} (h : mEqN S w d k = 0) : ∀ n, mEqN S w d (k + n) = 0
  | 0 => h
  | n + 1 => by
    have h1 := mEqN_up h n
    have h2 := mEqN_s S w d (k + n)
    have h3 := mEqN_01 S w d (k + n + 1)
    show mEqN S w d (k + n + 1) = 0
    omega
theorem mEqN_6 {S : RS} {w : Nat → Int} {d : Int} {k : Nat} (hk : k ≤ 6) (h : mEqN S w d k = 0) : mEqN S w d 6 = 0 := by
  have := mEqN_up h (6 - k)
  rwa [show k + (6 - k) = 6 by omega] at this
theorem mEqN_d {S : RS} {w : Nat → Int} {d : Int} : ∀ k, mEqN S w d k = 1 → d ≠ 0
  | 0, h => by
    intro q
    rw [mEqN, if_pos q] at h
    exact absurd h (by decide)
  | k + 1, h => mEqN_d k ((mEqN_s S w d k).mp h).1
def ld6 (w : Nat → Int) (d : Int) (S : RS) : RS := rLy 5 (w 5) d (rLy 4 (w 4) d (rLy 3 (w 3) d (rLy 2 (w 2) d (rLy 1 (w 1) d (rLy 0 (w 0) d S)))))
theorem tl_0 {w : Nat → Int} {a b c d p j : Int} (h : wq w a b c) (hp : 0 ≤ p ∧ p ≤ 2) : tlF (w (2 * p.toNat + 0)) d j = flTl a b c d p 0 j := by
  obtain ⟨h0, h1, h2, h3, h4, h5⟩ := h
  unfold flTl
  rw [if_neg (by decide), if_pos rfl]
  rcases (show p = 0 ∨ p = 1 ∨ p = 2 by omega) with rfl | rfl | rfl
  · rw [← h0]; rfl
  · rw [← h2]; rfl
  · rw [← h4]; rfl
theorem tl_1 {w : Nat → Int} {a b c d p j : Int} (h : wq w a b c) (hp : 0 ≤ p ∧ p ≤ 2) : tlF (w (2 * p.toNat + 1)) d j = flTl a b c d p 1 j := by
  obtain ⟨h0, h1, h2, h3, h4, h5⟩ := h
  unfold flTl
  rw [if_neg (by decide), if_neg (by decide)]
  rcases (show p = 0 ∨ p = 1 ∨ p = 2 by omega) with rfl | rfl | rfl
  · rw [← h1]; rfl
  · rw [← h3]; rfl
  · rw [← h5]; rfl
theorem tl_2 {w : Nat → Int} {a b c d p j : Int} (h : wq w a b c) (hp : 0 ≤ p ∧ p ≤ 2) : tlF (wN w p.toNat) (d * d) j = flTl a b c d p 2 j := by
  obtain ⟨h0, h1, h2⟩ := wq_N h
  unfold flTl
  rw [if_pos rfl]
  rcases (show p = 0 ∨ p = 1 ∨ p = 2 by omega) with rfl | rfl | rfl
  · rw [← h0]; rfl
  · rw [← h1]; rfl
  · rw [← h2]; rfl
theorem zb_0 {w j : Int} (h : 0 ≤ w ∧ w ≤ 2) (hj : 0 ≤ j ∧ j ≤ 1) : zb w j = 0 := by
  unfold zb
  rw [show oU w 0 2 = 0 from if_pos h, show oU j 0 1 = 0 from if_pos hj]
  decide
theorem zb_1 {w j : Int} (h : ¬ ((0 ≤ w ∧ w ≤ 2) ∧ (0 ≤ j ∧ j ≤ 1))) : zb w j ≠ 0 := by
  have h1 := oU_s w 0 2
  have h2 := oU_s j 0 1
  unfold zb
  have h3 := or1_s (oU w 0 2) (oU j 0 1)
  omega
theorem zM_comm {h : Nat → Int} (hh : ∀ i : Nat, 1 ≤ i → i < 6 → 0 ≤ h i ∧ h i < i) : ∀ (n x y : Nat), x < 6 → y < 6 → x + y ≤ n → zM h n x y = zM h n y x
  | 0, x, y, _, _, hn => by
    obtain rfl : x = y := by omega
    rfl
  | n + 1, x, y, hx, hy, hn => by
    rcases Nat.lt_trichotomy x y with q | q | q
    · have h1 := hh y (by omega) hy
      rw [zM_y (by omega) q, zM_x (by omega) q]
      exact zM_comm hh n x (h y).toNat hx (by omega) (by omega)
    · rw [q]
    · have h1 := hh x (by omega) hx
      rw [zM_x (by omega) q, zM_y (by omega) q]
      exact zM_comm hh n (h x).toNat y (by omega) hy (by omega)
section
variable {v : Int} {b : Nat} {h o : Nat → Int} {s i f p w j a : Int}
theorem aAsk_k {z : Int} (hi : 0 ≤ i ∧ i ≤ (b : Int) - 1) (ho : (0 ≤ s ∧ s ≤ 3) ∧ (0 ≤ f ∧ f ≤ 9)) (hz : z = 0) (hc : 0 < cB h o s i.toNat f) : aAsk v b h o s i f z = 0 := ((aAsk_s v b h o s i f z).2.2 hi ⟨ho.1, ho.2, hz⟩).1 hc
theorem aAsk_n {z : Int} (hi : 0 ≤ i ∧ i ≤ (b : Int) - 1) (ho : (0 ≤ s ∧ s ≤ 3) ∧ (0 ≤ f ∧ f ≤ 9)) (hz : z = 0) (hc : ¬ 0 < cB h o s i.toNat f) : aAsk v b h o s i f z = -2000000003 := ((aAsk_s v b h o s i f z).2.2 hi ⟨ho.1, ho.2, hz⟩).2 hc
theorem aAsk_o {z : Int} (hi : 0 ≤ i ∧ i ≤ (b : Int) - 1) (ho : ¬ (((0 ≤ s ∧ s ≤ 3) ∧ (0 ≤ f ∧ f ≤ 9)) ∧ z = 0)) : aAsk v b h o s i f z = -2000000002 := (aAsk_s v b h o s i f z).2.1 hi (fun q => ho ⟨⟨q.1, q.2.1⟩, q.2.2⟩)
theorem aAsk_u {z : Int} (hi : ¬ (0 ≤ i ∧ i ≤ (b : Int) - 1)) : aAsk v b h o s i f z = -2000000001 := (aAsk_s v b h o s i f z).1 hi
theorem zb_n {s f : Int} (h : ¬ (((0 ≤ s ∧ s ≤ 3) ∧ (0 ≤ f ∧ f ≤ 9)) ∧ (0 ≤ w ∧ w ≤ 2) ∧ (0 ≤ j ∧ j ≤ 1))) : ¬ (((0 ≤ s ∧ s ≤ 3) ∧ (0 ≤ f ∧ f ≤ 9)) ∧ zb w j = 0) := by
  intro q
  exact h ⟨q.1, Decidable.byContradiction (fun z => zb_1 z q.2)⟩
theorem aCur_1 (hn : ¬ ((0 ≤ i ∧ i ≤ (b : Int) - 1) ∧ (0 ≤ p ∧ p ≤ 2))) : aCur v b h o s i f p w j = -2000000001 := by
  unfold aCur
  by_cases hp : 0 ≤ p ∧ p ≤ 2
  · have h1 := aAsk_u (v := v) (b := b) (h := h) (o := o) (s := s) (i := i) (f := f) (z := zb w j) (fun q => hn ⟨q, hp⟩)
    rw [if_pos hp, if_neg (by rw [h1]; decide), h1]
  · rw [if_neg hp]
theorem aCur_2 (hi : 0 ≤ i ∧ i ≤ (b : Int) - 1) (hp : 0 ≤ p ∧ p ≤ 2) (ho : ¬ (((0 ≤ s ∧ s ≤ 3) ∧ (0 ≤ f ∧ f ≤ 9)) ∧ (0 ≤ w ∧ w ≤ 2) ∧ (0 ≤ j ∧ j ≤ 1))) : aCur v b h o s i f p w j = -2000000002 := by
  have h1 := aAsk_o (v := v) (b := b) (h := h) (o := o) (s := s) (i := i) (f := f) (z := zb w j) hi (zb_n ho)
  unfold aCur
  rw [if_pos hp, if_neg (by rw [h1]; decide), h1]
theorem aCur_3 (hi : 0 ≤ i ∧ i ≤ (b : Int) - 1) (hp : 0 ≤ p ∧ p ≤ 2) (ho : ((0 ≤ s ∧ s ≤ 3) ∧ (0 ≤ f ∧ f ≤ 9)) ∧ (0 ≤ w ∧ w ≤ 2) ∧ (0 ≤ j ∧ j ≤ 1)) (hc : ¬ 0 < cB h o s i.toNat f) : aCur v b h o s i f p w j = -2000000003 := by
  have h1 := aAsk_n (v := v) (b := b) (h := h) (o := o) (s := s) (i := i) (f := f) (z := zb w j) hi ho.1 (zb_0 ho.2.1 ho.2.2) hc
  unfold aCur
  rw [if_pos hp, if_neg (by rw [h1]; decide), h1]
theorem aCur_4 (hi : 0 ≤ i ∧ i ≤ (b : Int) - 1) (hp : 0 ≤ p ∧ p ≤ 2) (ho : ((0 ≤ s ∧ s ≤ 3) ∧ (0 ≤ f ∧ f ≤ 9)) ∧ (0 ≤ w ∧ w ≤ 2) ∧ (0 ≤ j ∧ j ≤ 1)) (hc : 0 < cB h o s i.toNat f) : aCur v b h o s i f p w j = flTl (cP0 v h o s i.toNat f) (cP1 v h o s i.toNat f) (cP2 v h o s i.toNat f) (cB h o s i.toNat f) p w j := by
  have h1 := aAsk_k (v := v) (b := b) (h := h) (o := o) (s := s) (i := i) (f := f) (z := zb w j) hi ho.1 (zb_0 ho.2.1 ho.2.2) hc
  unfold aCur
  rw [if_pos hp, if_pos h1]
theorem aVol_1 (hn : ¬ ((0 ≤ i ∧ i ≤ (b : Int) - 1) ∧ (0 ≤ a ∧ a ≤ (b : Int) - 1) ∧ (0 ≤ p ∧ p ≤ 2))) : aVol v b h o s i f a p w j = -2000000001 := by
  unfold aVol
  by_cases hp : (0 ≤ a ∧ a ≤ (b : Int) - 1) ∧ (0 ≤ p ∧ p ≤ 2)
  · have h1 := aAsk_u (v := v) (b := b) (h := h) (o := o) (s := s) (i := i) (f := f) (z := zb w j) (fun q => hn ⟨q, hp⟩)
    rw [if_pos hp, if_neg (by rw [h1]; decide), h1]
  · rw [if_neg hp]
theorem aVol_2 (hi : 0 ≤ i ∧ i ≤ (b : Int) - 1) (hp : (0 ≤ a ∧ a ≤ (b : Int) - 1) ∧ (0 ≤ p ∧ p ≤ 2)) (ho : ¬ (((0 ≤ s ∧ s ≤ 3) ∧ (0 ≤ f ∧ f ≤ 9)) ∧ (0 ≤ w ∧ w ≤ 2) ∧ (0 ≤ j ∧ j ≤ 1))) : aVol v b h o s i f a p w j = -2000000002 := by
  have h1 := aAsk_o (v := v) (b := b) (h := h) (o := o) (s := s) (i := i) (f := f) (z := zb w j) hi (zb_n ho)
  unfold aVol
  rw [if_pos hp, if_neg (by rw [h1]; decide), h1]
theorem aVol_3 (hi : 0 ≤ i ∧ i ≤ (b : Int) - 1) (hp : (0 ≤ a ∧ a ≤ (b : Int) - 1) ∧ (0 ≤ p ∧ p ≤ 2)) (ho : ((0 ≤ s ∧ s ≤ 3) ∧ (0 ≤ f ∧ f ≤ 9)) ∧ (0 ≤ w ∧ w ≤ 2) ∧ (0 ≤ j ∧ j ≤ 1)) (hc : ¬ 0 < cB h o s i.toNat f) : aVol v b h o s i f a p w j = -2000000003 := by
  have h1 := aAsk_n (v := v) (b := b) (h := h) (o := o) (s := s) (i := i) (f := f) (z := zb w j) hi ho.1 (zb_0 ho.2.1 ho.2.2) hc
  unfold aVol
  rw [if_pos hp, if_neg (by rw [h1]; decide), h1]
theorem aVol_4 (hh : ∀ i : Nat, 1 ≤ i → i < 6 → 0 ≤ h i ∧ h i < i) (hb : b ≤ 6) (hi : 0 ≤ i ∧ i ≤ (b : Int) - 1) (hp : (0 ≤ a ∧ a ≤ (b : Int) - 1) ∧ (0 ≤ p ∧ p ≤ 2)) (ho : ((0 ≤ s ∧ s ≤ 3) ∧ (0 ≤ f ∧ f ≤ 9)) ∧ (0 ≤ w ∧ w ≤ 2) ∧ (0 ≤ j ∧ j ≤ 1)) (hc : 0 < cB h o s i.toNat f) : aVol v b h o s i f a p w j = flTl (vP0 v h o s i.toNat f (zM h 12 i.toNat a.toNat)) (vP1 v h o s i.toNat f (zM h 12 i.toNat a.toNat)) (vP2 v h o s i.toNat f (zM h 12 i.toNat a.toNat)) (cB h o s i.toNat f) p w j := by
  have h1 := aAsk_k (v := v) (b := b) (h := h) (o := o) (s := s) (i := i) (f := f) (z := zb w j) hi ho.1 (zb_0 ho.2.1 ho.2.2) hc
  unfold aVol
  rw [if_pos hp, if_pos h1, zM_comm hh 12 a.toNat i.toNat (by omega) (by omega) (by omega)]
end
theorem vq_of {v : Int} {h o : Nat → Int} {s : Int} {i c : Nat} {f : Int} {p p2 : Nat → Int} {d : Int} {v' : Int} (hp : p 0 = cP0 v h o s i f ∧ p 1 = cP1 v h o s i f ∧ p 2 = cP2 v h o s i f) (hv : v' = v) (hd : d = cB h o s i f) (hw : p2 0 = (-(zUp h o 0 c)) * p 0 ∧ p2 1 = v' * d - zUp h o 1 c * p 1 ∧ p2 2 = (-(zUp h o 2 c)) * p 2) : p2 0 = vP0 v h o s i f c ∧ p2 1 = vP1 v h o s i f c ∧ p2 2 = vP2 v h o s i f c := by
  obtain ⟨h0, h1, h2⟩ := hp
  obtain ⟨g0, g1, g2⟩ := hw
  subst hv hd
  refine ⟨?_, ?_, ?_⟩
  · rw [g0, h0]; rfl
  · rw [g1, h1]; rfl
  · rw [g2, h2]; rfl
