def oU (n a b : Int) : Int := if a ≤ n ∧ n ≤ b then 0 else 1
theorem oU_s (n a b : Int) : (oU n a b = 0 ∨ oU n a b = 1) ∧ (oU n a b = 0 ↔ (a ≤ n ∧ n ≤ b)) := by unfold oU; split <;> simp_all
def gBest (n0 n1 n2 : FO) : Int := if fgt n1 n0 = 1 then (if fgt n2 n1 = 1 then 2 else 1) else (if fgt n2 n0 = 1 then 2 else 0)
def gOf (n0 n1 n2 : FO) : Int := if fZ n0 = 0 ∧ fZ n1 = 0 ∧ fZ n2 = 0 then gBest n0 n1 n2 else -2000000004
def gAl (n0 n1 n2 : FO) : Int := if fZ n0 = 0 ∧ fZ n1 = 0 ∧ fZ n2 = 0 then (if feq n1 n0 = 1 ∧ feq n2 n0 = 1 then 1 else 0) else -2000000004
def rotN : Nat → FO × FO → FO × FO
  | 0, p => p
  | n + 1, p => rotN n (fneg p.2, fadd (-1) p.1 p.2)
def cmb (t : Nat → FO) (k j : Nat) : FO × FO := (fadd 1 (fadd 1 (t 0) (rotN k (t 2, t 3)).1) (rotN j (t 4, t 5)).1, fadd 1 (fadd 1 (t 1) (rotN k (t 2, t 3)).2) (rotN j (t 4, t 5)).2)
def mixT (t : Nat → FO) (k1 j1 k2 j2 k3 j3 : Nat) : Nat → FO := lF [(cmb t k1 j1).1, (cmb t k1 j1).2, (cmb t k2 j2).1, (cmb t k2 j2).2, (cmb t k3 j3).1, (cmb t k3 j3).2]
theorem fok_rotN : ∀ (n : Nat) (p : FO × FO), fok p.1 → fok p.2 → fok (rotN n p).1 ∧ fok (rotN n p).2
  | 0, _, h1, h2 => ⟨h1, h2⟩
  | n + 1, _, h1, h2 => fok_rotN n _ (fok_fneg h2) (fok_fadd h1 h2)
theorem fok_cmb {t : Nat → FO} (ht : ∀ k, fok (t k)) (k j : Nat) : fok (cmb t k j).1 ∧ fok (cmb t k j).2 := by
  have h1 := fok_rotN k (t 2, t 3) (ht _) (ht _)
  have h2 := fok_rotN j (t 4, t 5) (ht _) (ht _)
  exact ⟨fok_fadd (fok_fadd (ht _) h1.1) h2.1, fok_fadd (fok_fadd (ht _) h1.2) h2.2⟩
theorem fok_mixT {t : Nat → FO} (ht : ∀ k, fok (t k)) (k1 j1 k2 j2 k3 j3 : Nat) : ∀ k, fok (mixT t k1 j1 k2 j2 k3 j3 k) := by
  refine fok_lF (fun v hv => ?_)
  have h1 := fok_cmb ht k1 j1
  have h2 := fok_cmb ht k2 j2
  have h3 := fok_cmb ht k3 j3
  simp only [List.mem_cons, List.not_mem_nil, or_false] at hv
  rcases hv with rfl | rfl | rfl | rfl | rfl | rfl
  · exact h1.1
  · exact h1.2
  · exact h2.1
  · exact h2.2
  · exact h3.1
  · exact h3.2
def tnS : Nat → Value := fun k => vI ([0, 0, 1, 2, 2, 1].getD k 0)
def tnJ : Nat → Value := fun k => vI ([0, 0, 2, 1, 1, 2].getD k 0)
def zXT (t : Nat) (f : Nat → Value) : zX := fun A U => va_T .int t 6 f A U U.heap
theorem gOf_s (n0 n1 n2 : FO) : ((fZ n0 = 0 ∧ fZ n1 = 0 ∧ fZ n2 = 0) → (fgt n1 n0 = 1 ∧ fgt n2 n1 = 1 → gOf n0 n1 n2 = 2) ∧ (fgt n1 n0 = 1 ∧ ¬ fgt n2 n1 = 1 → gOf n0 n1 n2 = 1) ∧ (¬ fgt n1 n0 = 1 ∧ fgt n2 n0 = 1 → gOf n0 n1 n2 = 2) ∧ (¬ fgt n1 n0 = 1 ∧ ¬ fgt n2 n0 = 1 → gOf n0 n1 n2 = 0)) ∧ (¬ (fZ n0 = 0 ∧ fZ n1 = 0 ∧ fZ n2 = 0) → gOf n0 n1 n2 = -2000000004) := by
  unfold gOf gBest
  refine ⟨fun h => ?_, fun h => if_neg h⟩
  rw [if_pos h]
  refine ⟨fun q => ?_, fun q => ?_, fun q => ?_, fun q => ?_⟩
  · rw [if_pos q.1, if_pos q.2]
  · rw [if_pos q.1, if_neg q.2]
  · rw [if_neg q.1, if_pos q.2]
  · rw [if_neg q.1, if_neg q.2]
theorem gAl_s (n0 n1 n2 : FO) : ((fZ n0 = 0 ∧ fZ n1 = 0 ∧ fZ n2 = 0) → (feq n1 n0 = 1 ∧ feq n2 n0 = 1 → gAl n0 n1 n2 = 1) ∧ (¬ (feq n1 n0 = 1 ∧ feq n2 n0 = 1) → gAl n0 n1 n2 = 0)) ∧ (¬ (fZ n0 = 0 ∧ fZ n1 = 0 ∧ fZ n2 = 0) → gAl n0 n1 n2 = -2000000004) := by
  unfold gAl
  refine ⟨fun h => ?_, fun h => if_neg h⟩
  rw [if_pos h]
  exact ⟨fun q => if_pos q, fun q => if_neg q⟩
