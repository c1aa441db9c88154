def mBst (T : RS) : Int := if rGt 79 78 T = 1 then (if rGt 80 79 T = 1 then 2 else 1) else (if rGt 80 78 T = 1 then 2 else 0)
def mAlk (T : RS) : Int := if rGt 78 79 T = 1 ∨ rGt 79 78 T = 1 ∨ rGt 78 80 T = 1 ∨ rGt 80 78 T = 1 then 0 else 1
theorem mBst_s (T : RS) : (rGt 79 78 T = 1 → rGt 80 79 T = 1 → mBst T = 2) ∧ (rGt 79 78 T = 1 → ¬ rGt 80 79 T = 1 → mBst T = 1) ∧ (¬ rGt 79 78 T = 1 → rGt 80 78 T = 1 → mBst T = 2) ∧ (¬ rGt 79 78 T = 1 → ¬ rGt 80 78 T = 1 → mBst T = 0) := by
  unfold mBst
  refine ⟨fun a b => ?_, fun a b => ?_, fun a b => ?_, fun a b => ?_⟩
  · rw [if_pos a, if_pos b]
  · rw [if_pos a, if_neg b]
  · rw [if_neg a, if_pos b]
  · rw [if_neg a, if_neg b]
theorem mAlk_s (T : RS) : ((rGt 78 79 T = 1 ∨ rGt 79 78 T = 1 ∨ rGt 78 80 T = 1 ∨ rGt 80 78 T = 1) → mAlk T = 0) ∧ (¬ (rGt 78 79 T = 1 ∨ rGt 79 78 T = 1 ∨ rGt 78 80 T = 1 ∨ rGt 80 78 T = 1) → mAlk T = 1) := ⟨fun h => if_pos h, fun h => if_neg h⟩
