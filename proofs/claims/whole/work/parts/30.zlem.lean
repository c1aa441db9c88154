def fdA (t : Nat → FO) (r : Int) : FO := if r = 0 then (fadd 1 (fadd 1 (fadd 1 (some (0, 1)) (t 0)) (t 2)) (t 4)) else if r = 1 then (fadd 1 (fneg (fadd 1 (fadd (-1) (fadd 1 (fneg (some (0, 1))) (t 0)) (fadd 1 (fadd (-1) (some (0, 1)) (some (0, 1))) (t 1))) (t 3))) (t 4)) else if r = 2 then (gmA (gmA (gmA (some (0, 1)) (some (0, 1)) (t 0) (t 1)) (gmB (some (0, 1)) (some (0, 1)) (t 0) (t 1)) (t 2) (t 3)) (gmB (gmA (some (0, 1)) (some (0, 1)) (t 0) (t 1)) (gmB (some (0, 1)) (some (0, 1)) (t 0) (t 1)) (t 2) (t 3)) (t 4) (t 5)) else (fadd (-1) (fadd (-1) (fadd (-1) (some (0, 1)) (t 0)) (t 2)) (t 4))
def fdB (t : Nat → FO) (r : Int) : FO := if r = 0 then (fadd 1 (fadd 1 (fadd 1 (some (0, 1)) (t 1)) (t 3)) (t 5)) else if r = 1 then (fadd 1 (fadd (-1) (fadd 1 (fneg (fadd 1 (fadd (-1) (some (0, 1)) (some (0, 1))) (t 1))) (t 2)) (fadd 1 (fadd (-1) (fadd 1 (fneg (some (0, 1))) (t 0)) (fadd 1 (fadd (-1) (some (0, 1)) (some (0, 1))) (t 1))) (t 3))) (t 5)) else if r = 2 then (gmB (gmA (gmA (some (0, 1)) (some (0, 1)) (t 0) (t 1)) (gmB (some (0, 1)) (some (0, 1)) (t 0) (t 1)) (t 2) (t 3)) (gmB (gmA (some (0, 1)) (some (0, 1)) (t 0) (t 1)) (gmB (some (0, 1)) (some (0, 1)) (t 0) (t 1)) (t 2) (t 3)) (t 4) (t 5)) else (fadd (-1) (fadd (-1) (fadd (-1) (some (0, 1)) (t 1)) (t 3)) (t 5))
def aTold (t : Nat → FO) (p w j : Int) : Int := if 0 ≤ p ∧ p ≤ 2 then (if (0 ≤ w ∧ w ≤ 2) ∧ (0 ≤ j ∧ j ≤ 1) then (if w = 2 then ftell (pNm (t (2 * p.toNat)) (t (2 * p.toNat + 1))) j else if w = 0 then ftell (t (2 * p.toNat)) j else ftell (t (2 * p.toNat + 1)) j) else -2000000002) else -2000000001
def aFold (t : Nat → FO) (r w j : Int) : Int := if (0 ≤ r ∧ r ≤ 3) ∧ (0 ≤ w ∧ w ≤ 1) ∧ (0 ≤ j ∧ j ≤ 1) then (if nOv (fdA t r) (fdB t r) = 0 then (if w = 0 then ftell (fdA t r) j else ftell (fdB t r) j) else -2000000004) else -2000000002
def aMost (t : Nat → FO) (w : Int) : Int := if w = 0 then gOf (pNm (t 0) (t 1)) (pNm (t 2) (t 3)) (pNm (t 4) (t 5)) else if w = 1 then gAl (pNm (t 0) (t 1)) (pNm (t 2) (t 3)) (pNm (t 4) (t 5)) else if w = 2 then (if nOv (fdA t 0) (fdB t 0) = 0 then nNo (fdA t 0) (fdB t 0) else -2000000004) else -2000000002
def ldT (a b c d : Int) : Nat → FO := lF [fmk (flA a b c 0) d, fmk (flB a b c 0) d, fmk (flA a b c 1) d, fmk (flB a b c 1) d, fmk (flA a b c 2) d, fmk (flB a b c 2) d]
theorem fok_ldT {a b c d : Int} (hd : 1 ≤ d) : ∀ k, fok (ldT a b c d k) := by
  refine fok_lF (fun v hv => ?_)
  simp only [List.mem_cons, List.not_mem_nil, or_false] at hv
  rcases hv with rfl | rfl | rfl | rfl | rfl | rfl <;> exact fok_fmk hd
theorem flbd_mono {M M' a b c d : Int} (h : flbd M a b c d) (hM : M ≤ M') : flbd M' a b c d := by
  obtain ⟨h1, h2, h3, h4⟩ := h
  exact ⟨by omega, by omega, by omega, h4⟩
theorem zM_lt {h : Nat → Int} (hh : ∀ i : Nat, 1 ≤ i → i < 6 → 0 ≤ h i ∧ h i < i) : ∀ (n x y : Nat), x < 6 → y < 6 → zM h n x y < 6
  | 0, x, y, hx, _ => by rw [zM]; exact hx
  | n + 1, x, y, hx, hy => by
    rw [zM]
    split
    · exact hx
    · split
      · have := hh x (by omega) hx
        exact zM_lt hh n _ y (by omega) hy
      · have := hh y (by omega) hy
        exact zM_lt hh n x _ hx (by omega)
theorem vol_bd {v z0 z1 z2 a b c d : Int} (hv : 1 ≤ v ∧ v ≤ 99) (h0 : 0 ≤ z0 ∧ z0 ≤ 54) (h1 : 0 ≤ z1 ∧ z1 ≤ 54) (h2 : 0 ≤ z2 ∧ z2 ≤ 54) (h : flbd 14000 a b c d) : flbd 2000000 ((-z0) * a) (v * d - z1 * b) ((-z2) * c) d := by
  obtain ⟨a1, a2, a3, a4, a5⟩ := h
  have m1 := mul_bd (a := -z0) (b := a) 54 14000 (by omega) (by omega)
  have m2 := mul_bd (a := v) (b := d) 99 12000 (by omega) (by omega)
  have m3 := mul_bd (a := z1) (b := b) 54 14000 (by omega) (by omega)
  have m4 := mul_bd (a := -z2) (b := c) 54 14000 (by omega) (by omega)
  exact ⟨by omega, by omega, by omega, a4, a5⟩
def zb (w j : Int) : Int := or1 (oU w 0 2) (oU j 0 1)
def cP0 (v : Int) (h o : Nat → Int) (s : Int) (i : Nat) (f : Int) : Int := fP0 s v (zUp h o 0 i) (zUp h o 1 i) (zUp h o 2 i) f
def cP1 (v : Int) (h o : Nat → Int) (s : Int) (i : Nat) (f : Int) : Int := fP1 s v (zUp h o 0 i) (zUp h o 1 i) (zUp h o 2 i) f
def cP2 (v : Int) (h o : Nat → Int) (s : Int) (i : Nat) (f : Int) : Int := fP2 s v (zUp h o 0 i) (zUp h o 1 i) (zUp h o 2 i) f
def cB (h o : Nat → Int) (s : Int) (i : Nat) (f : Int) : Int := fBl s (zUp h o 0 i) (zUp h o 1 i) (zUp h o 2 i) f
theorem cur_bd {v : Int} {b : Nat} {h o k : Nat → Int} (hn : nok v b h o k) (s : Int) {i : Nat} (hi : i < 6) {f : Int} (hf : 0 ≤ f ∧ f ≤ 9) : flbd 14000 (cP0 v h o s i f) (cP1 v h o s i f) (cP2 v h o s i f) (cB h o s i f) := flt_bd ⟨hn.1, hn.2.1⟩ (zUp_54 hn 0 hi) (zUp_54 hn 1 hi) (zUp_54 hn 2 hi) hf
def aCur (v : Int) (b : Nat) (h o : Nat → Int) (s i f p w j : Int) : Int := if 0 ≤ p ∧ p ≤ 2 then (if aAsk v b h o s i f (zb w j) = 0 then flTl (cP0 v h o s i.toNat f) (cP1 v h o s i.toNat f) (cP2 v h o s i.toNat f) (cB h o s i.toNat f) p w j else aAsk v b h o s i f (zb w j)) else -2000000001
def vP0 (v : Int) (h o : Nat → Int) (s : Int) (i : Nat) (f : Int) (c : Nat) : Int := (-(zUp h o 0 c)) * cP0 v h o s i f
def vP1 (v : Int) (h o : Nat → Int) (s : Int) (i : Nat) (f : Int) (c : Nat) : Int := v * cB h o s i f - zUp h o 1 c * cP1 v h o s i f
def vP2 (v : Int) (h o : Nat → Int) (s : Int) (i : Nat) (f : Int) (c : Nat) : Int := (-(zUp h o 2 c)) * cP2 v h o s i f
def aVol (v : Int) (b : Nat) (h o : Nat → Int) (s i f a p w j : Int) : Int := if (0 ≤ a ∧ a ≤ (b : Int) - 1) ∧ (0 ≤ p ∧ p ≤ 2) then (if aAsk v b h o s i f (zb w j) = 0 then flTl (vP0 v h o s i.toNat f (zM h 12 a.toNat i.toNat)) (vP1 v h o s i.toNat f (zM h 12 a.toNat i.toNat)) (vP2 v h o s i.toNat f (zM h 12 a.toNat i.toNat)) (cB h o s i.toNat f) p w j else aAsk v b h o s i f (zb w j)) else -2000000001
theorem vlt_bd {v : Int} {b : Nat} {h o k : Nat → Int} (hn : nok v b h o k) (s : Int) {i c : Nat} (hi : i < 6) (hc : c < 6) {f : Int} (hf : 0 ≤ f ∧ f ≤ 9) : flbd 2000000 (vP0 v h o s i f c) (vP1 v h o s i f c) (vP2 v h o s i f c) (cB h o s i f) := vol_bd ⟨hn.1, hn.2.1⟩ (zUp_54 hn 0 hc) (zUp_54 hn 1 hc) (zUp_54 hn 2 hc) (cur_bd hn s hi hf)
def zT0 : Nat → FO := lF [some (0, 1), some (0, 1), some (0, 1), some (0, 1), some (0, 1), some (0, 1)]
theorem nNo_01 (v w : FO) : nNo v w = 0 ∨ nNo v w = 1 := by unfold nNo; split <;> simp
theorem aTold_1 {t : Nat → FO} {p w j : Int} (h : ¬ (0 ≤ p ∧ p ≤ 2)) : aTold t p w j = -2000000001 := if_neg h
theorem aTold_2 {t : Nat → FO} {p w j : Int} (h : 0 ≤ p ∧ p ≤ 2) (h2 : ¬ ((0 ≤ w ∧ w ≤ 2) ∧ (0 ≤ j ∧ j ≤ 1))) : aTold t p w j = -2000000002 := by unfold aTold; rw [if_pos h, if_neg h2]
theorem aTold_3 {t : Nat → FO} {p w j : Int} (h : 0 ≤ p ∧ p ≤ 2) (h2 : (0 ≤ w ∧ w ≤ 2) ∧ (0 ≤ j ∧ j ≤ 1)) (h3 : w = 2) : aTold t p w j = ftell (pNm (t (2 * p.toNat)) (t (2 * p.toNat + 1))) j := by unfold aTold; rw [if_pos h, if_pos h2, if_pos h3]
theorem aTold_4 {t : Nat → FO} {p w j : Int} (h : 0 ≤ p ∧ p ≤ 2) (h2 : (0 ≤ w ∧ w ≤ 2) ∧ (0 ≤ j ∧ j ≤ 1)) (h3 : ¬ w = 2) : aTold t p w j = (if w = 0 then ftell (t (2 * p.toNat)) j else ftell (t (2 * p.toNat + 1)) j) := by unfold aTold; rw [if_pos h, if_pos h2, if_neg h3]
theorem aFold_1 {t : Nat → FO} {r w j : Int} (h : ¬ ((0 ≤ r ∧ r ≤ 3) ∧ (0 ≤ w ∧ w ≤ 1) ∧ (0 ≤ j ∧ j ≤ 1))) : aFold t r w j = -2000000002 := if_neg h
theorem aFold_2 {t : Nat → FO} {r w j : Int} (h : (0 ≤ r ∧ r ≤ 3) ∧ (0 ≤ w ∧ w ≤ 1) ∧ (0 ≤ j ∧ j ≤ 1)) (h2 : ¬ nOv (fdA t r) (fdB t r) = 0) : aFold t r w j = -2000000004 := by unfold aFold; rw [if_pos h, if_neg h2]
theorem aFold_3 {t : Nat → FO} {r w j : Int} (h : (0 ≤ r ∧ r ≤ 3) ∧ (0 ≤ w ∧ w ≤ 1) ∧ (0 ≤ j ∧ j ≤ 1)) (h2 : nOv (fdA t r) (fdB t r) = 0) : aFold t r w j = (if w = 0 then ftell (fdA t r) j else ftell (fdB t r) j) := by unfold aFold; rw [if_pos h, if_pos h2]
