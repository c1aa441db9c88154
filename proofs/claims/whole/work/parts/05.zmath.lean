/-! fractions, as the desk holds them: none is 'over' -/
abbrev FO : Type := Option (Int × Int)
def fA : FO → Int
  | none => 0
  | some x => x.1
def fB : FO → Int
  | none => 1
  | some x => x.2
def fZ : FO → Int
  | none => 1
  | some _ => 0
def fok (v : FO) : Prop := -1000000000 ≤ fA v ∧ fA v ≤ 1000000000 ∧ 1 ≤ fB v ∧ fB v ≤ 1000000000 ∧ (fA v).gcd (fB v) = 1 ∧ (fZ v = 0 ∨ fZ v = 1) ∧ (fZ v = 1 → v = none)
abbrev fr (q : Nat) (v : FO) : Nat × va_E := (q, .inr (1, [vL (fA v), vL (fB v), vI (fZ v)]))
def gd (x y : Int) : Int := ((if x.gcd y = 0 then 1 else x.gcd y : Nat) : Int)
def fmk (n d : Int) : FO := if -1000000000 ≤ n / gd n d ∧ n / gd n d ≤ 1000000000 ∧ d / gd n d ≤ 1000000000 then some (n / gd n d, d / gd n d) else none
def fadd (k : Int) (v w : FO) : FO := match v, w with
  | some x, some y => fmk (x.1 * y.2 + k * y.1 * x.2) (x.2 * y.2)
  | _, _ => none
def fmul (v w : FO) : FO := match v, w with
  | some x, some y => fmk (x.1 * y.1) (x.2 * y.2)
  | _, _ => none
def fthird (v : FO) : FO := match v with
  | some x => fmk x.1 (x.2 * 3)
  | none => none
def fneg (v : FO) : FO := match v with
  | some x => some (-x.1, x.2)
  | none => none
/-! Euclid: how many steps -/
def eul : Nat → Nat → Nat → Prop
  | 0, _, b => b = 0
  | n + 1, a, b => b = 0 ∨ eul n b (a % b)
def fb : Nat → Nat × Nat
  | 0 => (0, 1)
  | n + 1 => ((fb n).2, (fb n).1 + (fb n).2)
theorem eul_fib : ∀ (n a b : Nat), b < a → b < (fb n).2 → eul n a b
  | 0, a, b, _, h => by simp [fb] at h; exact h
  | 1, a, b, _, h => by simp [fb] at h; exact Or.inl h
  | n + 2, a, b, hab, h => by
    by_cases hb : b = 0
    · exact Or.inl hb
    · refine Or.inr ?_
      have hr : a % b < b := Nat.mod_lt _ (Nat.pos_of_ne_zero hb)
      by_cases h1 : a % b < (fb (n + 1)).2
      · exact eul_fib (n + 1) b (a % b) hr h1
      · refine Or.inr ?_
        have h2 : (fb (n + 2)).2 = (fb (n + 1)).2 + (fb n).2 + (fb n).1 - (fb n).1 := by simp [fb]; omega
        have h3 : (fb (n + 1)).2 = (fb n).1 + (fb n).2 := rfl
        have h4 : (fb (n + 2)).2 = (fb (n + 1)).1 + (fb (n + 1)).2 := rfl
        have h5 : (fb (n + 1)).1 = (fb n).2 := rfl
        have hp : 0 < a % b := by
          rcases Nat.eq_zero_or_pos (a % b) with hz | hz
          · rw [hz] at h1
            have : 0 < (fb n).2 := by
              cases n with
              | zero => decide
              | succ k => by_cases hk : (fb (k + 1)).2 = 0
                          · exfalso; rw [hz] at hr; omega
                          · omega
            omega
          · exact hz
        have h6 : b % (a % b) < a % b := Nat.mod_lt _ hp
        have h7 : b % (a % b) ≤ b - a % b := by
          rw [Nat.mod_eq_sub_mod (Nat.le_of_lt hr)]
          exact Nat.mod_le _ _
        exact eul_fib n (a % b) (b % (a % b)) h6 (by omega)
theorem fb93 : 9223372036854775808 ≤ (fb 93).2 := by decide +kernel
theorem eul_94 {a b : Nat} (hb : b < 9223372036854775808) : eul 94 a b := by
  by_cases h0 : b = 0
  · exact Or.inl h0
  · refine Or.inr (eul_fib 93 b (a % b) (Nat.mod_lt _ (Nat.pos_of_ne_zero h0)) ?_)
    have := Nat.mod_lt a (Nat.pos_of_ne_zero h0)
    have := fb93
    omega
theorem eul_up : ∀ (n a b : Nat), eul n a b → eul (n + 1) a b
  | 0, _, _, h => Or.inl h
  | n + 1, a, b, h => h.elim Or.inl (fun q => Or.inr (eul_up n b (a % b) q))
theorem eul_100 {a b : Nat} (hb : b < 9223372036854775808) : eul 100 a b := eul_up _ _ _ (eul_up _ _ _ (eul_up _ _ _ (eul_up _ _ _ (eul_up _ _ _ (eul_up _ _ _ (eul_94 hb))))))
theorem gd_pos (x y : Int) : 1 ≤ gd x y := by
  unfold gd; split <;> omega
theorem gd_eq {x y : Int} (h : y ≠ 0) : gd x y = (x.gcd y : Nat) := by
  unfold gd
  rw [if_neg]
  intro h0
  exact h (Int.eq_zero_of_gcd_eq_zero_right h0)
theorem gd_dvd_l {x y : Int} (h : y ≠ 0) : gd x y ∣ x := by rw [gd_eq h]; exact Int.gcd_dvd_left _ _
theorem gd_dvd_r {x y : Int} (h : y ≠ 0) : gd x y ∣ y := by rw [gd_eq h]; exact Int.gcd_dvd_right _ _
theorem gd_le {x y : Int} (h : 1 ≤ y) : gd x y ≤ y := Int.le_of_dvd (by omega) (gd_dvd_r (by omega))
theorem gd_tdl {x y : Int} (h : y ≠ 0) : x.tdiv (gd x y) = x / gd x y := Int.tdiv_eq_ediv_of_dvd (gd_dvd_l h)
theorem gd_tdr {x y : Int} (h : y ≠ 0) : y.tdiv (gd x y) = y / gd x y := Int.tdiv_eq_ediv_of_dvd (gd_dvd_r h)
theorem fok_some {a b : Int} : fok (some (a, b)) ↔ -1000000000 ≤ a ∧ a ≤ 1000000000 ∧ 1 ≤ b ∧ b ≤ 1000000000 ∧ a.gcd b = 1 := by
  simp [fok, fA, fB, fZ]
theorem fok_none : fok none := by simp [fok, fA, fB, fZ]
theorem fok_fmk {n d : Int} (hd : 1 ≤ d) : fok (fmk n d) := by
  unfold fmk
  have hg := gd_pos n d
  split
  · rename_i h
    rw [fok_some]
    have h1 : d / gd n d * gd n d = d := Int.ediv_mul_cancel (gd_dvd_r (by omega))
    refine ⟨h.1, h.2.1, ?_, h.2.2, ?_⟩
    · rcases Int.lt_or_le 0 (d / gd n d) with q | q
      · omega
      · have := Int.mul_nonpos_of_nonpos_of_nonneg q (show 0 ≤ gd n d by omega)
        omega
    · rw [gd_eq (by omega)]
      exact Int.gcd_ediv_gcd_ediv_gcd (by rcases Nat.eq_zero_or_pos (n.gcd d) with q | q; exact absurd (Int.eq_zero_of_gcd_eq_zero_right q) (by omega); exact q)
  · exact fok_none
theorem fok_fadd {k : Int} {v w : FO} (hv : fok v) (hw : fok w) : fok (fadd k v w) := by
  unfold fadd
  split
  · rename_i x y
    obtain ⟨a, b⟩ := x; obtain ⟨c, d⟩ := y
    rw [fok_some] at hv hw
    exact fok_fmk (by have := Int.mul_pos (show 0 < b by omega) (show 0 < d by omega); simp only; omega)
  · exact fok_none
theorem fok_fmul {v w : FO} (hv : fok v) (hw : fok w) : fok (fmul v w) := by
  unfold fmul
  split
  · rename_i x y
    obtain ⟨a, b⟩ := x; obtain ⟨c, d⟩ := y
    rw [fok_some] at hv hw
    exact fok_fmk (by have := Int.mul_pos (show 0 < b by omega) (show 0 < d by omega); simp only; omega)
  · exact fok_none
theorem fok_fthird {v : FO} (hv : fok v) : fok (fthird v) := by
  unfold fthird
  split
  · rename_i x
    obtain ⟨a, b⟩ := x
    rw [fok_some] at hv
    exact fok_fmk (by simp only; omega)
  · exact fok_none
theorem fok_fneg {v : FO} (hv : fok v) : fok (fneg v) := by
  unfold fneg
  split
  · rename_i x
    obtain ⟨a, b⟩ := x
    rw [fok_some] at hv
    rw [fok_some]
    refine ⟨by simp only; omega, by simp only; omega, by simp only; omega, by simp only; omega, ?_⟩
    simp only [Int.neg_gcd]
    exact hv.2.2.2.2
  · exact fok_none
/-! what the steps of the desk come to -/
theorem gd_scale {n d k : Int} (hk : 1 ≤ k) (hd : 1 ≤ d) : gd (n * k) (d * k) = gd n d * k := by
  have h1 : 1 ≤ d * k := by have := Int.mul_pos (show 0 < d by omega) (show 0 < k by omega); omega
  rw [gd_eq (by omega), gd_eq (by omega), Int.gcd_mul_right]
  have : ((k.natAbs : Nat) : Int) = k := by omega
  rw [Int.natCast_mul, this]
theorem fmk_scale {n d k : Int} (hk : 1 ≤ k) (hd : 1 ≤ d) : fmk (n * k) (d * k) = fmk n d := by
  unfold fmk
  rw [gd_scale hk hd, Int.mul_ediv_mul_of_pos_left _ _ (by omega), Int.mul_ediv_mul_of_pos_left _ _ (by omega)]
theorem fmk_some {n d : Int} (h : -1000000000 ≤ n / gd n d ∧ n / gd n d ≤ 1000000000 ∧ d / gd n d ≤ 1000000000) : fmk n d = some (n / gd n d, d / gd n d) := if_pos h
theorem fmk_none {n d : Int} (h : ¬ (-1000000000 ≤ n / gd n d ∧ n / gd n d ≤ 1000000000 ∧ d / gd n d ≤ 1000000000)) : fmk n d = none := if_neg h
theorem mul_bd {a b : Int} (A B : Int) (h1 : -A ≤ a ∧ a ≤ A) (h2 : -B ≤ b ∧ b ≤ B) : -(A * B) ≤ a * b ∧ a * b ≤ A * B := by
  have hA : 0 ≤ A := by omega
  have hB : 0 ≤ B := by omega
  have h3 : (a * b).natAbs ≤ (A * B).natAbs := by
    rw [Int.natAbs_mul, Int.natAbs_mul]
    exact Nat.mul_le_mul (by omega) (by omega)
  have h4 : 0 ≤ A * B := Int.mul_nonneg hA hB
  omega
theorem div_bd {n k : Int} (hk : 1 ≤ k) (hd : k ∣ n) : (-n ≤ n / k ∨ n ≤ n / k) ∧ (n / k ≤ n ∨ n / k ≤ -n) := by
  obtain ⟨c, rfl⟩ := hd
  rw [Int.mul_ediv_cancel_left _ (by omega)]
  have h1 : c.natAbs ≤ (k * c).natAbs := by
    rw [Int.natAbs_mul]
    exact Nat.le_mul_of_pos_left _ (by omega)
  omega
theorem div_bd1 {n k : Int} (hk : 1 ≤ k) (hn : 1 ≤ n) (hd : k ∣ n) : 1 ≤ n / k ∧ n / k ≤ n := by
  obtain ⟨c, rfl⟩ := hd
  rw [Int.mul_ediv_cancel_left _ (by omega)]
  have h1 : c.natAbs ≤ (k * c).natAbs := by
    rw [Int.natAbs_mul]
    exact Nat.le_mul_of_pos_left _ (by omega)
  have h2 : 0 < c := by
    rcases Int.lt_or_le 0 c with q | q
    · exact q
    · have := Int.mul_nonpos_of_nonneg_of_nonpos (show 0 ≤ k by omega) q
      omega
  omega
theorem fZ_none {v : FO} (h : ¬ fZ v = 0) : v = none := by
  cases v with
  | none => rfl
  | some x => exact absurd rfl h
theorem fZ_some {v : FO} (h : fZ v = 0) : v = some (fA v, fB v) := by
  cases v with
  | none => exact absurd h (by decide)
  | some x => rfl
theorem fadd_l {k : Int} {v w : FO} (h : ¬ fZ v = 0) : fadd k v w = none := by rw [fZ_none h]; rfl
theorem fadd_r {k : Int} {v w : FO} (h : ¬ fZ w = 0) : fadd k v w = none := by rw [fZ_none h]; cases v <;> rfl
theorem fmul_l {v w : FO} (h : ¬ fZ v = 0) : fmul v w = none := by rw [fZ_none h]; rfl
theorem fmul_r {v w : FO} (h : ¬ fZ w = 0) : fmul v w = none := by rw [fZ_none h]; cases v <;> rfl
theorem fthird_l {v : FO} (h : ¬ fZ v = 0) : fthird v = none := by rw [fZ_none h]; rfl
theorem fadd_mk {k : Int} {v w : FO} (hv : fok v) (hw : fok w) (h1 : fZ v = 0) (h2 : fZ w = 0) (hk : k = 1 ∨ k = -1) :
    (-9223372036854775808 < fA v * (fB w / gd (fB v) (fB w)) + k * fA w * (fB v / gd (fB v) (fB w)) ∧ fA v * (fB w / gd (fB v) (fB w)) + k * fA w * (fB v / gd (fB v) (fB w)) < 9223372036854775808) ∧ (1 ≤ fB v * (fB w / gd (fB v) (fB w)) ∧ fB v * (fB w / gd (fB v) (fB w)) < 9223372036854775808) ∧
    fmk (fA v * (fB w / gd (fB v) (fB w)) + k * fA w * (fB v / gd (fB v) (fB w))) (fB v * (fB w / gd (fB v) (fB w))) = fadd k v w := by
  have e1 := fZ_some h1
  have e2 := fZ_some h2
  have e3 : fadd k v w = fmk (fA v * fB w + k * fA w * fB v) (fB v * fB w) := by rw [e1, e2]; rfl
  rw [e3]
  obtain ⟨a1, a2, a3, a4, -⟩ := hv
  obtain ⟨b1, b2, b3, b4, -⟩ := hw
  generalize fA v = a at *
  generalize fB v = b at *
  generalize fA w = c at *
  generalize fB w = d at *
  have hg := gd_pos b d
  have g1 := div_bd1 hg b3 (gd_dvd_r (x := b) (y := d) (by omega))
  have g2 := div_bd1 hg a3 (gd_dvd_l (x := b) (y := d) (by omega))
  have g3 : d / gd b d * gd b d = d := Int.ediv_mul_cancel (gd_dvd_r (by omega))
  have g4 : b / gd b d * gd b d = b := Int.ediv_mul_cancel (gd_dvd_l (by omega))
  generalize gd b d = G at *
  generalize d / G = D at *
  generalize b / G = B at *
  have m1 := mul_bd 1000000000 1000000000 (show -1000000000 ≤ a ∧ a ≤ 1000000000 by omega) (show -1000000000 ≤ D ∧ D ≤ 1000000000 by omega)
  have m2 := mul_bd 1000000000 1000000000 (show -1000000000 ≤ k * c ∧ k * c ≤ 1000000000 by rcases hk with rfl | rfl <;> omega) (show -1000000000 ≤ B ∧ B ≤ 1000000000 by omega)
  have m3 := mul_bd 1000000000 1000000000 (show -1000000000 ≤ b ∧ b ≤ 1000000000 by omega) (show -1000000000 ≤ D ∧ D ≤ 1000000000 by omega)
  have m4 : 0 < b * D := Int.mul_pos (by omega) (by omega)
  refine ⟨by omega, by omega, ?_⟩
  rw [← fmk_scale (k := G) hg (show 1 ≤ b * D by omega)]
  congr 1
  · rw [Int.add_mul, Int.mul_assoc a, g3, Int.mul_assoc (k * c), g4]
  · rw [Int.mul_assoc b, g3]
theorem fmul_mk {v w : FO} (hv : fok v) (hw : fok w) (h1 : fZ v = 0) (h2 : fZ w = 0) :
    (-9223372036854775808 < fA v * fA w ∧ fA v * fA w < 9223372036854775808) ∧ (1 ≤ fB v * fB w ∧ fB v * fB w < 9223372036854775808) ∧ fmk (fA v * fA w) (fB v * fB w) = fmul v w := by
  have e3 : fmul v w = fmk (fA v * fA w) (fB v * fB w) := by
    have e1 := fZ_some h1
    have e2 := fZ_some h2
    rw [e1, e2]; rfl
  rw [e3]
  obtain ⟨a1, a2, a3, a4, -⟩ := hv
  obtain ⟨b1, b2, b3, b4, -⟩ := hw
  have m1 := mul_bd 1000000000 1000000000 (show -1000000000 ≤ fA v ∧ fA v ≤ 1000000000 by omega) (show -1000000000 ≤ fA w ∧ fA w ≤ 1000000000 by omega)
  have m2 := mul_bd 1000000000 1000000000 (show -1000000000 ≤ fB v ∧ fB v ≤ 1000000000 by omega) (show -1000000000 ≤ fB w ∧ fB w ≤ 1000000000 by omega)
  have m4 : 0 < fB v * fB w := Int.mul_pos (by omega) (by omega)
  exact ⟨by omega, by omega, rfl⟩
theorem fthird_mk {v : FO} (h1 : fZ v = 0) : fmk (fA v) (fB v * 3) = fthird v := by rw [fZ_some h1]; rfl
theorem fneg_A (v : FO) : fA (fneg v) = -fA v := by cases v <;> rfl
theorem fneg_B (v : FO) : fB (fneg v) = fB v := by cases v <;> rfl
theorem fneg_Z (v : FO) : fZ (fneg v) = fZ v := by cases v <;> rfl
def fgt (v w : FO) : Int := if fA w * fB v < fA v * fB w then 1 else 0
def feq (v w : FO) : Int := if fA v = fA w ∧ fB v = fB w then 1 else 0
def ftell (v : FO) (i : Int) : Int := if fZ v = 1 then -2000000004 else if i = 0 then fA v else fB v
theorem fgt_rng {v w : FO} (hv : fok v) (hw : fok w) : -9223372036854775808 ≤ fA v * fB w ∧ fA v * fB w < 9223372036854775808 := by
  obtain ⟨a1, a2, a3, a4, -⟩ := hv
  obtain ⟨b1, b2, b3, b4, -⟩ := hw
  have m1 := mul_bd 1000000000 1000000000 (show -1000000000 ≤ fA v ∧ fA v ≤ 1000000000 by omega) (show -1000000000 ≤ fB w ∧ fB w ≤ 1000000000 by omega)
  omega
