abbrev flw (q : Nat) (a b c d : Int) : Nat × va_E := (q, .inr (0, [vL a, vL b, vL c, vL d]))
def storeW (g : zG) (q : Nat) (x : Nat → Nat) (t : Int) (n : Nat) (fa fb fp : Nat → Int) : va_W := [(q, .inr (6, [vI t, vI (n : Int), .ref (x 0), .ref (x 1), .ref (x 2)])), (x 0, .inl (g.2 0, 8, .inl (aI fa))), (x 1, .inl (g.2 0, 8, .inl (aI fb))), (x 2, .inl (g.2 2, 8, .inl (aI fp)))]
def sok (t : Int) (n : Nat) (fp : Nat → Int) : Prop := (t = 0 ∨ t = 1) ∧ n ≤ 8 ∧ ∀ k, fp k = 0 ∨ fp k = 1
def fP0 (s v z0 z1 z2 f : Int) : Int := if s = 0 then v else if s = 1 then 0 else if s = 2 then (-v) * z2 else 0
def fP1 (s v z0 z1 z2 f : Int) : Int := if s = 0 then v else if s = 1 then v else if s = 2 then v * (z2 + (z0 + 3 * f)) else v
def fP2 (s v z0 z1 z2 f : Int) : Int := if s = 0 then v else if s = 1 then -v else if s = 2 then (-v) * (z0 + 3 * f) else 0
def fBl (s z0 z1 z2 f : Int) : Int := if s = 0 then z0 + z1 + z2 + 3 * f else if s = 1 then z1 + z2 + f else if s = 2 then z1 * z2 + z1 * (z0 + 3 * f) + z2 * (z0 + 3 * f) else z1 + f
def flA (a b c i : Int) : Int := if i = 0 then a + b + c else if i = 1 then a - b else a - c
def flB (a b c i : Int) : Int := if i = 0 then 0 else if i = 1 then c - b else b - c
def flN (a b c i : Int) : Int := flA a b c i * flA a b c i - flA a b c i * flB a b c i + flB a b c i * flB a b c i
def isF (x : Int) (w : FO) (d : Int) : Int := if x * fB w = fA w * d then 1 else 0
def tlF (x y i : Int) : Int := if i = 0 then x / gd x y else y / gd x y
def flbd (M a b c d : Int) : Prop := (-M ≤ a ∧ a ≤ M) ∧ (-M ≤ b ∧ b ≤ M) ∧ (-M ≤ c ∧ c ≤ M) ∧ 0 ≤ d ∧ d ≤ 12000
theorem zS_rng {h o : Nat → Int} {d : Nat} (ho : ∀ i, 0 ≤ o i ∧ o i ≤ 9) : ∀ n w : Nat, 0 ≤ zS h o d n w ∧ zS h o d n w ≤ 9 * (n : Int)
  | 0, w => by simp [zS]
  | n + 1, w => by
    rw [zS]
    split
    · omega
    · have h1 := ho (w * 3 + d)
      have h2 := zS_rng (h := h) (d := d) ho n (h w).toNat
      omega
theorem zUp_rng {v : Int} {b : Nat} {h o k : Nat → Int} (hn : nok v b h o k) (d i : Nat) : 0 ≤ zUp h o d i ∧ zUp h o d i ≤ 63 := by
  have h1 := zS_rng (h := h) (d := d) hn.2.2.2.2.2.1 6 i
  have h2 := hn.2.2.2.2.2.1 d
  unfold zUp
  omega
theorem zS_tight {h o : Nat → Int} {d : Nat} (ho : ∀ i, 0 ≤ o i ∧ o i ≤ 9) (hh : ∀ i : Nat, 1 ≤ i → i < 6 → 0 ≤ h i ∧ h i < i) : ∀ n w : Nat, w < 6 → zS h o d n w ≤ 9 * (w : Int)
  | 0, w, _ => by simp [zS]; omega
  | n + 1, w, hw => by
    rw [zS]
    split
    · omega
    · have h1 := ho (w * 3 + d)
      have h3 := hh w (by omega) hw
      have h2 := zS_tight (h := h) (d := d) ho hh n (h w).toNat (by omega)
      omega
theorem zUp_54 {v : Int} {b : Nat} {h o k : Nat → Int} (hn : nok v b h o k) (d : Nat) {i : Nat} (hi : i < 6) : 0 ≤ zUp h o d i ∧ zUp h o d i ≤ 54 := by
  have h1 := zS_rng (h := h) (d := d) hn.2.2.2.2.2.1 6 i
  have h4 := zS_tight (h := h) (d := d) hn.2.2.2.2.2.1 hn.2.2.2.2.1 6 i hi
  have h2 := hn.2.2.2.2.2.1 d
  unfold zUp
  omega
theorem flt_bd {s v z0 z1 z2 f : Int} (hv : 1 ≤ v ∧ v ≤ 99) (h0 : 0 ≤ z0 ∧ z0 ≤ 54) (h1 : 0 ≤ z1 ∧ z1 ≤ 54) (h2 : 0 ≤ z2 ∧ z2 ≤ 54) (hf : 0 ≤ f ∧ f ≤ 9) : flbd 14000 (fP0 s v z0 z1 z2 f) (fP1 s v z0 z1 z2 f) (fP2 s v z0 z1 z2 f) (fBl s z0 z1 z2 f) := by
  have m1 := mul_bd (a := -v) (b := z2) 99 54 (by omega) (by omega)
  have m2 := mul_bd (a := v) (b := z2 + (z0 + 3 * f)) 99 135 (by omega) (by omega)
  have m3 := mul_bd (a := -v) (b := z0 + 3 * f) 99 81 (by omega) (by omega)
  have m4 := mul_bd (a := z1) (b := z2) 54 54 (by omega) (by omega)
  have m5 := mul_bd (a := z1) (b := z0 + 3 * f) 54 81 (by omega) (by omega)
  have m6 := mul_bd (a := z2) (b := z0 + 3 * f) 54 81 (by omega) (by omega)
  have p4 := Int.mul_nonneg h1.1 h2.1
  have p5 := Int.mul_nonneg h1.1 (show 0 ≤ z0 + 3 * f by omega)
  have p6 := Int.mul_nonneg h2.1 (show 0 ≤ z0 + 3 * f by omega)
  unfold flbd fP0 fP1 fP2 fBl
  by_cases s0 : s = 0
  · simp only [s0, if_true]; omega
  · by_cases s1 : s = 1
    · simp only [s1]; simp; omega
    · by_cases s2 : s = 2
      · simp only [s2]; simp; omega
      · simp only [s0, s1, s2, if_false]; omega
theorem flA_bd {M a b c d : Int} (h : flbd M a b c d) (i : Int) : -(3 * M) ≤ flA a b c i ∧ flA a b c i ≤ 3 * M := by
  obtain ⟨h1, h2, h3, h4⟩ := h
  unfold flA
  split
  · omega
  · split <;> omega
theorem flB_bd {M a b c d : Int} (h : flbd M a b c d) (i : Int) : -(3 * M) ≤ flB a b c i ∧ flB a b c i ≤ 3 * M := by
  obtain ⟨h1, h2, h3, h4⟩ := h
  unfold flB
  split
  · omega
  · split <;> omega
theorem sq_nn (a : Int) : 0 ≤ a * a := by
  rcases Int.le_total 0 a with h | h
  · exact Int.mul_nonneg h h
  · exact Int.mul_nonneg_of_nonpos_of_nonpos h h
theorem nrm_nn (a b : Int) : 0 ≤ a * a - a * b + b * b := by
  have h1 := sq_nn (a - b)
  have h2 := sq_nn a
  have h3 := sq_nn b
  rw [Int.sub_mul, Int.mul_sub, Int.mul_sub, Int.mul_comm b a] at h1
  omega
theorem flN_bd {M a b c d : Int} (h : flbd M a b c d) (i : Int) : 0 ≤ flN a b c i ∧ flN a b c i ≤ 27 * (M * M) := by
  have h1 := flA_bd h i
  have h2 := flB_bd h i
  have m1 := mul_bd (3 * M) (3 * M) h1 h1
  have m2 := mul_bd (3 * M) (3 * M) h1 h2
  have m3 := mul_bd (3 * M) (3 * M) h2 h2
  have e : 3 * M * (3 * M) = 9 * (M * M) := by
    rw [Int.mul_assoc, Int.mul_left_comm M 3 M, ← Int.mul_assoc]
    rfl
  have h3 := nrm_nn (flA a b c i) (flB a b c i)
  unfold flN
  omega
