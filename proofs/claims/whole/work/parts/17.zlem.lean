def textW (g : zG) (q : Nat) (x : Nat → Nat) (n c k s e : Nat) (f m : Nat → Int) : va_W := [(q, .inr (7, [.ref (x 0), vI (n : Int), vI (c : Int), vI (k : Int), vI (s : Int), vI (e : Int), .ref (x 1)])), (x 0, .inl (g.2 0, 200, .inl (aI f))), (x 1, .inl (g.2 0, 4, .inl (aI m)))]
def kdO (a : Int) : Nat := if 97 ≤ a ∧ a ≤ 122 then 1 else if 48 ≤ a ∧ a ≤ 57 then 2 else 3
theorem kdO_s (a : Int) : (97 ≤ a ∧ a ≤ 122 → kdO a = 1) ∧ (48 ≤ a ∧ a ≤ 57 → kdO a = 2) ∧ (¬ (97 ≤ a ∧ a ≤ 122) ∧ ¬ (48 ≤ a ∧ a ≤ 57) → kdO a = 3) ∧ 1 ≤ kdO a ∧ kdO a ≤ 3 := by
  unfold kdO
  split
  · omega
  · split <;> omega
def skp (f : Nat → Int) (n : Nat) : Nat → Nat → Nat
  | 0, i => i
  | m + 1, i => if i < n ∧ f i = 32 then skp f n m (i + 1) else i
def tS (f : Nat → Int) (n i : Nat) : Nat := skp f n (n - i) i
theorem tS_go {f : Nat → Int} {n i : Nat} (h : i < n) (h2 : f i = 32) : tS f n i = tS f n (i + 1) := by
  unfold tS
  obtain ⟨k, hk⟩ : ∃ k, n - i = k + 1 := ⟨n - i - 1, by omega⟩
  rw [hk, skp, if_pos ⟨h, h2⟩, show n - (i + 1) = k by omega]
theorem tS_stop {f : Nat → Int} {n i : Nat} (h : n ≤ i ∨ ¬ f i = 32) : tS f n i = i := by
  unfold tS
  cases hk : n - i with
  | zero => rfl
  | succ k => rw [skp, if_neg (by omega)]
theorem skp_s {f : Nat → Int} {n : Nat} : ∀ (m i : Nat), i ≤ n → i ≤ skp f n m i ∧ skp f n m i ≤ n
  | 0, i, h => ⟨Nat.le_refl _, h⟩
  | m + 1, i, h => by
    rw [skp]
    split
    · have := skp_s (f := f) (n := n) m (i + 1) (by omega)
      omega
    · omega
theorem tS_s {f : Nat → Int} {n i : Nat} (h : i ≤ n) : i ≤ tS f n i ∧ tS f n i ≤ n := skp_s _ _ h
def kdA (f : Nat → Int) (n s : Nat) : Nat := if s < n then kdO (f s) else 0
theorem kdA_s (f : Nat → Int) (n s : Nat) : (s < n → kdA f n s = kdO (f s)) ∧ (¬ s < n → kdA f n s = 0) ∧ kdA f n s ≤ 3 ∧ (kdA f n s = 0 → ¬ s < n) := by
  unfold kdA
  have := kdO_s (f s)
  split <;> omega
def rn (f : Nat → Int) (n k : Nat) : Nat → Nat → Nat
  | 0, i => i
  | m + 1, i => if i < n ∧ kdO (f i) = k then rn f n k m (i + 1) else i
def tR (f : Nat → Int) (n k i : Nat) : Nat := rn f n k (n - i) i
theorem tR_go {f : Nat → Int} {n k i : Nat} (h : i < n) (h2 : kdO (f i) = k) : tR f n k i = tR f n k (i + 1) := by
  unfold tR
  obtain ⟨j, hj⟩ : ∃ j, n - i = j + 1 := ⟨n - i - 1, by omega⟩
  rw [hj, rn, if_pos ⟨h, h2⟩, show n - (i + 1) = j by omega]
theorem tR_stop {f : Nat → Int} {n k i : Nat} (h : n ≤ i ∨ ¬ kdO (f i) = k) : tR f n k i = i := by
  unfold tR
  cases hj : n - i with
  | zero => rfl
  | succ j => rw [rn, if_neg (by omega)]
theorem rn_s {f : Nat → Int} {n k : Nat} : ∀ (m i : Nat), i ≤ n → i ≤ rn f n k m i ∧ rn f n k m i ≤ n
  | 0, i, h => ⟨Nat.le_refl _, h⟩
  | m + 1, i, h => by
    rw [rn]
    split
    · have := rn_s (f := f) (n := n) (k := k) m (i + 1) (by omega)
      omega
    · omega
def tE (f : Nat → Int) (n s : Nat) : Nat := if kdA f n s = 3 then s + 1 else tR f n (kdA f n s) s
theorem tE_s (f : Nat → Int) (n s : Nat) : (kdA f n s = 3 → tE f n s = s + 1) ∧ (¬ kdA f n s = 3 → tE f n s = tR f n (kdA f n s) s) := by
  unfold tE
  exact ⟨fun h => if_pos h, fun h => if_neg h⟩
theorem tok_s (f : Nat → Int) {n e : Nat} (he : e ≤ n) : (e ≤ tS f n e ∧ tS f n e ≤ n) ∧ (tS f n e ≤ tE f n (tS f n e) ∧ tE f n (tS f n e) ≤ n) ∧ kdA f n (tS f n e) ≤ 3 ∧ (kdA f n (tS f n e) = 0 ↔ tS f n e = n) ∧ (tS f n e < n → tS f n e < tE f n (tS f n e)) := by
  have h1 := tS_s (f := f) he
  have h2 := tE_s f n (tS f n e)
  have h3 := rn_s (f := f) (n := n) (k := kdA f n (tS f n e)) (n - tS f n e) (tS f n e) h1.2
  have h4 := kdA_s f n (tS f n e)
  have h6 := kdO_s (f (tS f n e))
  have h5 : tR f n (kdA f n (tS f n e)) (tS f n e) = rn f n (kdA f n (tS f n e)) (n - tS f n e) (tS f n e) := rfl
  have h7 : tS f n e < n → ¬ kdA f n (tS f n e) = 3 → tS f n e < tR f n (kdA f n (tS f n e)) (tS f n e) := by
    intro hl _
    have h8 := rn_s (f := f) (n := n) (k := kdA f n (tS f n e)) (n - (tS f n e + 1)) (tS f n e + 1) (by omega)
    rw [tR_go hl (by omega)]
    unfold tR
    omega
  refine ⟨h1, ?_, h4.2.2.1, ?_, ?_⟩
  · by_cases hk : kdA f n (tS f n e) = 3
    · have := h2.1 hk
      omega
    · have := h2.2 hk
      omega
  · omega
  · intro hl
    by_cases hk : kdA f n (tS f n e) = 3
    · have := h2.1 hk
      omega
    · have := h2.2 hk
      have := h7 hl hk
      omega
def smc (f : Nat → Int) (k s : Nat) : Int := if k = 3 ∧ f s = 59 then 1 else 0
theorem smc_s (f : Nat → Int) (k s : Nat) : (smc f k s = 0 ∨ smc f k s = 1) ∧ (smc f k s = 1 ↔ (k = 3 ∧ f s = 59)) := by unfold smc; split <;> simp_all
def vl (f : Nat → Int) (s : Nat) : Nat → Int
  | 0 => 0
  | j + 1 => 10 * vl f s j + f (s + j) - 48
def nVl (f : Nat → Int) (n e : Nat) : Int := vl f (tS f n e) (tE f n (tS f n e) - tS f n e)
def nEn (f : Nat → Int) (n e : Nat) : Nat := tE f n (tS f n e)
def nOk (f : Nat → Int) (n e : Nat) (a b : Int) : Int := if kdA f n (tS f n e) = 2 ∧ tE f n (tS f n e) - tS f n e ≤ 3 ∧ a ≤ vl f (tS f n e) (tE f n (tS f n e) - tS f n e) ∧ vl f (tS f n e) (tE f n (tS f n e) - tS f n e) ≤ b then 1 else 0
theorem nOk_s (f : Nat → Int) (n e : Nat) (a b : Int) : (nOk f n e a b = 0 ∨ nOk f n e a b = 1) ∧ (nOk f n e a b = 1 ↔ (kdA f n (tS f n e) = 2 ∧ tE f n (tS f n e) - tS f n e ≤ 3 ∧ a ≤ vl f (tS f n e) (tE f n (tS f n e) - tS f n e) ∧ vl f (tS f n e) (tE f n (tS f n e) - tS f n e) ≤ b)) := by unfold nOk; split <;> simp_all
def oOk (f : Nat → Int) (n e : Nat) : Int := if nOk f n e 0 9 = 1 ∧ nOk f n (nEn f n e) 0 9 = 1 ∧ nOk f n (nEn f n (nEn f n e)) 0 9 = 1 then 1 else 0
theorem oOk_s (f : Nat → Int) (n e : Nat) : (oOk f n e = 0 ∨ oOk f n e = 1) ∧ (oOk f n e = 1 ↔ (nOk f n e 0 9 = 1 ∧ nOk f n (nEn f n e) 0 9 = 1 ∧ nOk f n (nEn f n (nEn f n e)) 0 9 = 1)) := by unfold oOk; split <;> simp_all
def oPs (f : Nat → Int) (n e : Nat) : Nat := if nOk f n e 0 9 = 1 then (if nOk f n (nEn f n e) 0 9 = 1 then (if nOk f n (nEn f n (nEn f n e)) 0 9 = 1 then nEn f n (nEn f n (nEn f n e)) else tS f n (nEn f n (nEn f n e))) else tS f n (nEn f n e)) else tS f n e
def oV0 (f : Nat → Int) (n e : Nat) : Int := nVl f n e
def oV1 (f : Nat → Int) (n e : Nat) : Int := nVl f n (nEn f n e)
def oV2 (f : Nat → Int) (n e : Nat) : Int := nVl f n (nEn f n (nEn f n e))
theorem nEn_le (f : Nat → Int) {n e : Nat} (he : e ≤ n) : e ≤ nEn f n e ∧ nEn f n e ≤ n := by
  have := tok_s f he
  unfold nEn
  omega
