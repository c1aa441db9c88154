/-! the reference: its cell, and its registers -/
abbrev mdl (q : Nat) (a : Nat → Nat) (x : Nat → Int) : Nat × va_E := (q, .inr (10, [.ref (a 0), .ref (a 1), vI (x 0), vI (x 1), .ref (a 2), .ref (a 3), .ref (a 4), vI (x 2), .ref (a 5), .ref (a 6), vI (x 3), .ref (a 7), .ref (a 8), .ref (a 9), .ref (a 10), vI (x 4), vI (x 5), vI (x 6), vI (x 7), vI (x 8), .ref (a 11), .ref (a 12), vI (x 9), vL (x 10), .ref (a 13), .ref (a 14)]))
abbrev RS : Type := (Nat → Int) × (Nat → Int) × Int
def rLy (to : Nat) (a b : Int) (S : RS) : RS := (uI S.1 to (a / gd a b), uI S.2.1 to (b / gd a b), S.2.2)
def rBad (a b : Int) : Int := if -1000000000 ≤ a / gd a b ∧ a / gd a b ≤ 1000000000 ∧ b / gd a b ≤ 1000000000 then 0 else 1
def rMd (to : Nat) (a b : Int) (S : RS) : RS := (uI S.1 to (a / gd a b), uI S.2.1 to (b / gd a b), if S.2.2 = 0 then rBad a b else 1)
def rPl (to x y : Nat) (k : Int) (S : RS) : RS := if S.2.2 = 0 then rMd to (S.1 x * S.2.1 y + k * S.1 y * S.2.1 x) (S.2.1 x * S.2.1 y) S else S
def rTm (to x y : Nat) (S : RS) : RS := if S.2.2 = 0 then rMd to (S.1 x * S.1 y) (S.2.1 x * S.2.1 y) S else S
def rk (S : RS) (k : Nat) : Prop := -1000000000 ≤ S.1 k ∧ S.1 k ≤ 1000000000 ∧ 1 ≤ S.2.1 k ∧ S.2.1 k ≤ 1000000000
theorem rPl_0 {to x y : Nat} {k : Int} {S : RS} (h : S.2.2 = 0) : rPl to x y k S = rMd to (S.1 x * S.2.1 y + k * S.1 y * S.2.1 x) (S.2.1 x * S.2.1 y) S := if_pos h
theorem rPl_1 {to x y : Nat} {k : Int} {S : RS} (h : ¬ S.2.2 = 0) : rPl to x y k S = S := if_neg h
theorem rTm_0 {to x y : Nat} {S : RS} (h : S.2.2 = 0) : rTm to x y S = rMd to (S.1 x * S.1 y) (S.2.1 x * S.2.1 y) S := if_pos h
theorem rTm_1 {to x y : Nat} {S : RS} (h : ¬ S.2.2 = 0) : rTm to x y S = S := if_neg h
theorem rk_mul {a b c d : Int} (ha : -1000000000 ≤ a ∧ a ≤ 1000000000) (hb : -1000000000 ≤ b ∧ b ≤ 1000000000) : -1000000000000000000 ≤ a * b ∧ a * b ≤ 1000000000000000000 := by
  have h : (a * b).natAbs ≤ 1000000000000000000 := by
    rw [Int.natAbs_mul]
    exact Nat.mul_le_mul (by omega : a.natAbs ≤ 1000000000) (by omega : b.natAbs ≤ 1000000000)
  omega
theorem rk_pos {a b : Int} (ha : 1 ≤ a ∧ a ≤ 1000000000) (hb : 1 ≤ b ∧ b ≤ 1000000000) : 1 ≤ a * b ∧ a * b ≤ 1000000000000000000 := by
  have h1 := Int.mul_le_mul ha.1 hb.1 (by decide) (by omega)
  have h2 := Int.mul_le_mul ha.2 hb.2 (by omega) (by decide)
  omega
theorem rPl_b {x y : Nat} {k : Int} {S : RS} (hk : k = 1 ∨ k = -1) (h : rk S x ∧ rk S y) : (-9223372036854775808 < S.1 x * S.2.1 y + k * S.1 y * S.2.1 x ∧ S.1 x * S.2.1 y + k * S.1 y * S.2.1 x < 9223372036854775808) ∧ (1 ≤ S.2.1 x * S.2.1 y ∧ S.2.1 x * S.2.1 y < 9223372036854775808) := by
  obtain ⟨⟨a1, a2, a3, a4⟩, b1, b2, b3, b4⟩ := h
  have h1 := rk_mul (c := 0) (d := 0) (a := S.1 x) (b := S.2.1 y) (by omega) (by omega)
  have h2 := rk_mul (c := 0) (d := 0) (a := S.1 y) (b := S.2.1 x) (by omega) (by omega)
  have h3 := rk_pos (a := S.2.1 x) (b := S.2.1 y) (by omega) (by omega)
  rcases hk with rfl | rfl
  · rw [Int.one_mul]; omega
  · rw [Int.neg_mul, Int.one_mul, Int.neg_mul]; omega
theorem rTm_b {x y : Nat} {S : RS} (h : rk S x ∧ rk S y) : (-9223372036854775808 < S.1 x * S.1 y ∧ S.1 x * S.1 y < 9223372036854775808) ∧ (1 ≤ S.2.1 x * S.2.1 y ∧ S.2.1 x * S.2.1 y < 9223372036854775808) := by
  obtain ⟨⟨a1, a2, a3, a4⟩, b1, b2, b3, b4⟩ := h
  have h1 := rk_mul (c := 0) (d := 0) (a := S.1 x) (b := S.1 y) (by omega) (by omega)
  have h3 := rk_pos (a := S.2.1 x) (b := S.2.1 y) (by omega) (by omega)
  omega
def inI (v a b : Int) : Int := if a ≤ v ∧ v ≤ b then 1 else 0
theorem inI_s (v a b : Int) : (inI v a b = 0 ∨ inI v a b = 1) ∧ (inI v a b = 1 ↔ (a ≤ v ∧ v ≤ b)) := by unfold inI; split <;> simp_all
theorem rBad_s (a b : Int) : (rBad a b = 0 ∨ rBad a b = 1) ∧ (rBad a b = 0 ↔ (-1000000000 ≤ a / gd a b ∧ a / gd a b ≤ 1000000000 ∧ b / gd a b ≤ 1000000000)) := by unfold rBad; split <;> simp_all
