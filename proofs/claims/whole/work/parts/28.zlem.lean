def aBus (v : Int) (b : Nat) (h o k : Nat → Int) (i w : Int) : Int := if 0 ≤ i ∧ i ≤ (b : Int) - 1 then (if w = 0 then h i.toNat else if w = 1 then o (i.toNat * 3 + 0) else if w = 2 then o (i.toNat * 3 + 1) else if w = 3 then o (i.toNat * 3 + 2) else if w = 4 then k i.toNat else if w = 5 then zUp h o 0 i.toNat else if w = 6 then zUp h o 1 i.toNat else if w = 7 then zUp h o 2 i.toNat else if w = 8 then (zL h 6 i.toNat : Int) else -2000000002) else -2000000001
theorem aBus_in {v : Int} {b : Nat} {h o k : Nat → Int} {i w : Int} (hi : 0 ≤ i ∧ i ≤ (b : Int) - 1) : aBus v b h o k i w = (if w = 0 then h i.toNat else if w = 1 then o (i.toNat * 3 + 0) else if w = 2 then o (i.toNat * 3 + 1) else if w = 3 then o (i.toNat * 3 + 2) else if w = 4 then k i.toNat else if w = 5 then zUp h o 0 i.toNat else if w = 6 then zUp h o 1 i.toNat else if w = 7 then zUp h o 2 i.toNat else if w = 8 then (zL h 6 i.toNat : Int) else -2000000002) := if_pos hi
theorem aBus_no {v : Int} {b : Nat} {h o k : Nat → Int} {i w : Int} (hi : ¬ (0 ≤ i ∧ i ≤ (b : Int) - 1)) : aBus v b h o k i w = -2000000001 := if_neg hi
theorem aBus_out {v : Int} {b : Nat} {h o k : Nat → Int} {i w : Int} (hi : 0 ≤ i ∧ i ≤ (b : Int) - 1) (hw : w < 0 ∨ 8 < w) : aBus v b h o k i w = -2000000002 := by
  rw [aBus_in hi, if_neg (by omega), if_neg (by omega), if_neg (by omega), if_neg (by omega), if_neg (by omega), if_neg (by omega), if_neg (by omega), if_neg (by omega), if_neg (by omega)]
def thT (u : Nat → FO) : Nat → FO := lF [fthird (u 0), fthird (u 1), fthird (u 2), fthird (u 3), fthird (u 4), fthird (u 5)]
theorem fok_thT {u : Nat → FO} (hu : ∀ k, fok (u k)) : ∀ k, fok (thT u k) := by
  refine fok_lF (fun v hv => ?_)
  simp only [List.mem_cons, List.not_mem_nil, or_false] at hv
  rcases hv with rfl | rfl | rfl | rfl | rfl | rfl <;> exact fok_fthird (hu _)
def zXP (nm : String) (tr : Nat) (f : Nat → Value) : zX := fun A U => va_Z "FaultDesk" nm "[I" (.ref tr) A U U.heap ∧ zXT tr f A U
def aAsk (v : Int) (b : Nat) (h o : Nat → Int) (s i f z : Int) : Int := if 0 ≤ i ∧ i ≤ (b : Int) - 1 then (if (0 ≤ s ∧ s ≤ 3) ∧ (0 ≤ f ∧ f ≤ 9) ∧ z = 0 then (if 0 < fBl s (zUp h o 0 i.toNat) (zUp h o 1 i.toNat) (zUp h o 2 i.toNat) f then 0 else -2000000003) else -2000000002) else -2000000001
theorem aAsk_s (v : Int) (b : Nat) (h o : Nat → Int) (s i f z : Int) : (¬ (0 ≤ i ∧ i ≤ (b : Int) - 1) → aAsk v b h o s i f z = -2000000001) ∧ ((0 ≤ i ∧ i ≤ (b : Int) - 1) → ¬ ((0 ≤ s ∧ s ≤ 3) ∧ (0 ≤ f ∧ f ≤ 9) ∧ z = 0) → aAsk v b h o s i f z = -2000000002) ∧ ((0 ≤ i ∧ i ≤ (b : Int) - 1) → ((0 ≤ s ∧ s ≤ 3) ∧ (0 ≤ f ∧ f ≤ 9) ∧ z = 0) → (0 < fBl s (zUp h o 0 i.toNat) (zUp h o 1 i.toNat) (zUp h o 2 i.toNat) f → aAsk v b h o s i f z = 0) ∧ (¬ 0 < fBl s (zUp h o 0 i.toNat) (zUp h o 1 i.toNat) (zUp h o 2 i.toNat) f → aAsk v b h o s i f z = -2000000003)) := by
  unfold aAsk
  refine ⟨fun q => if_neg q, fun q q1 => by rw [if_pos q, if_neg q1], fun q q1 => ⟨fun q2 => by rw [if_pos q, if_pos q1, if_pos q2], fun q2 => by rw [if_pos q, if_pos q1, if_neg q2]⟩⟩
theorem aAsk_0 {v : Int} {b : Nat} {h o : Nat → Int} {s i f z : Int} (q : aAsk v b h o s i f z = 0) : (0 ≤ i ∧ i ≤ (b : Int) - 1) ∧ (0 ≤ s ∧ s ≤ 3) ∧ (0 ≤ f ∧ f ≤ 9) ∧ z = 0 ∧ 0 < fBl s (zUp h o 0 i.toNat) (zUp h o 1 i.toNat) (zUp h o 2 i.toNat) f := by
  have h1 := aAsk_s v b h o s i f z
  by_cases a1 : 0 ≤ i ∧ i ≤ (b : Int) - 1
  · by_cases a2 : (0 ≤ s ∧ s ≤ 3) ∧ (0 ≤ f ∧ f ≤ 9) ∧ z = 0
    · by_cases a3 : 0 < fBl s (zUp h o 0 i.toNat) (zUp h o 1 i.toNat) (zUp h o 2 i.toNat) f
      · exact ⟨a1, a2.1, a2.2.1, a2.2.2, a3⟩
      · have := (h1.2.2 a1 a2).2 a3
        omega
    · have := h1.2.1 a1 a2
      omega
  · have := h1.1 a1
    omega
theorem aAsk_rng (v : Int) (b : Nat) (h o : Nat → Int) (s i f z : Int) : -2000000003 ≤ aAsk v b h o s i f z ∧ aAsk v b h o s i f z ≤ 0 := by
  unfold aAsk
  split
  · split
    · split <;> omega
    · omega
  · omega
abbrev one (p : Prop) [Decidable p] : Int := if p then 1 else 0
theorem one_s (p : Prop) [Decidable p] : (one p = 0 ∨ one p = 1) ∧ (one p = 1 ↔ p) := by unfold one; split <;> simp_all
