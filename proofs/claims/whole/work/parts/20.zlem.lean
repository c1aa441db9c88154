theorem ch_and (k : Fin 128) : Int32.ofInt (k.val : Int) &&& Int32.ofInt 255 = Int32.ofInt (k.val : Int) := by revert k; decide +kernel
theorem ch_c (k : Fin 128) : ((Int32.ofInt (k.val : Int)).toUInt32 % 65536).toInt32 = Int32.ofInt (k.val : Int) := by revert k; decide +kernel
theorem ch_n (k : Fin 128) : narrow .char (vI (k.val : Int)) = vI (k.val : Int) := by
  have h : ∀ k : Fin 128, vp_nar .char (Int32.ofInt (k.val : Int)) = Int32.ofInt (k.val : Int) := by decide +kernel
  have h1 := h k
  unfold vp_nar at h1
  revert h1
  cases hn : narrow .char (.int (Int32.ofInt (k.val : Int))) <;> intro h1
  all_goals first | (simp only at h1; rw [h1]) | (exact absurd hn (by simp [narrow]))
def wdN (f : Nat → Int) (k s e : Nat) : Int := if k = 1 ∧ e = s + 3 ∧ f s = 110 ∧ f (s + 1) = 101 ∧ f (s + 2) = 116 then 1 else 0
def wdS (f : Nat → Int) (k s e : Nat) : Int := if k = 1 ∧ e = s + 6 ∧ f s = 115 ∧ f (s + 1) = 111 ∧ f (s + 2) = 117 ∧ f (s + 3) = 114 ∧ f (s + 4) = 99 ∧ f (s + 5) = 101 then 1 else 0
def wdB (f : Nat → Int) (k s e : Nat) : Int := if k = 1 ∧ e = s + 3 ∧ f s = 98 ∧ f (s + 1) = 117 ∧ f (s + 2) = 115 then 1 else 0
def wdR (f : Nat → Int) (k s e : Nat) : Int := if k = 1 ∧ e = s + 5 ∧ f s = 114 ∧ f (s + 1) = 101 ∧ f (s + 2) = 108 ∧ f (s + 3) = 97 ∧ f (s + 4) = 121 then 1 else 0
theorem wdN_s (f : Nat → Int) (k s e : Nat) : (wdN f k s e = 0 ∨ wdN f k s e = 1) ∧ (wdN f k s e = 1 ↔ (k = 1 ∧ e = s + 3 ∧ f s = 110 ∧ f (s + 1) = 101 ∧ f (s + 2) = 116)) := by unfold wdN; split <;> simp_all
theorem wdS_s (f : Nat → Int) (k s e : Nat) : (wdS f k s e = 0 ∨ wdS f k s e = 1) ∧ (wdS f k s e = 1 ↔ (k = 1 ∧ e = s + 6 ∧ f s = 115 ∧ f (s + 1) = 111 ∧ f (s + 2) = 117 ∧ f (s + 3) = 114 ∧ f (s + 4) = 99 ∧ f (s + 5) = 101)) := by unfold wdS; split <;> simp_all
theorem wdB_s (f : Nat → Int) (k s e : Nat) : (wdB f k s e = 0 ∨ wdB f k s e = 1) ∧ (wdB f k s e = 1 ↔ (k = 1 ∧ e = s + 3 ∧ f s = 98 ∧ f (s + 1) = 117 ∧ f (s + 2) = 115)) := by unfold wdB; split <;> simp_all
theorem wdR_s (f : Nat → Int) (k s e : Nat) : (wdR f k s e = 0 ∨ wdR f k s e = 1) ∧ (wdR f k s e = 1 ↔ (k = 1 ∧ e = s + 5 ∧ f s = 114 ∧ f (s + 1) = 101 ∧ f (s + 2) = 108 ∧ f (s + 3) = 97 ∧ f (s + 4) = 121)) := by unfold wdR; split <;> simp_all
