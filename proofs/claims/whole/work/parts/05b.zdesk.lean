def rA (l : List Nat) : Nat → Option Nat := fun k => l[k]?
def lA (l : List Nat) : Nat → Nat := fun k => l.getD k 0
def lF (l : List FO) : Nat → FO := fun k => l.getD k none
theorem fmk01 : fmk 0 1 = some (0, 1) := by decide +kernel
abbrev numW (n a b : Nat) (v w : FO) : va_W := [(n, .inr (4, [.ref a, .ref b])), fr a v, fr b w]
def threeW (g : zG) (q : Nat) (x : Nat → Nat) (t : Nat → FO) : va_W := [(q, .inr (8, [.ref (x 0)])), (x 0, .inl (g.2 3, 3, .inr (.inr (.inr (.inr (rA [x 1, x 4, x 7])))))), (x 1, .inr (4, [.ref (x 2), .ref (x 3)])), fr (x 2) (t 0), fr (x 3) (t 1), (x 4, .inr (4, [.ref (x 5), .ref (x 6)])), fr (x 5) (t 2), fr (x 6) (t 3), (x 7, .inr (4, [.ref (x 8), .ref (x 9)])), fr (x 8) (t 4), fr (x 9) (t 5)]
theorem rA3_rot (a b c : Nat) : (va_up (va_up (va_up (rA [a, b, c]) 0 (some b)) 1 (some c)) 2 (some a)) = rA [b, c, a] := by
  funext k
  match k with
  | 0 => rfl
  | 1 => rfl
  | 2 => rfl
  | k + 3 => simp [va_up, rA]
def nOv (v w : FO) : Int := if fZ v = 0 ∧ fZ w = 0 then 0 else 1
def nNo (v w : FO) : Int := if fA v = 0 ∧ fA w = 0 then 1 else 0
def tOv (t : Nat → FO) : Int := if nOv (t 0) (t 1) = 0 ∧ nOv (t 2) (t 3) = 0 ∧ nOv (t 4) (t 5) = 0 then 0 else 1
theorem nOv_rng (v w : FO) : -2147483648 ≤ nOv v w ∧ nOv v w < 2147483648 := by unfold nOv; split <;> omega
theorem fok_lF {l : List FO} (h : ∀ v ∈ l, fok v) (k : Nat) : fok (lF l k) := by
  unfold lF
  rw [List.getD_eq_getElem?_getD]
  cases hk : l[k]? with
  | none => exact fok_none
  | some v => exact h v (List.mem_of_getElem? hk)
def recW (g : zG) (q : Nat) (x : Nat → Nat) (t : Nat → FO) : va_W := [(q, .inr (5, [.ref (x 0), .ref (x 3), .ref (x 6), .ref (x 7), .ref (x 8)])), (x 0, .inr (4, [.ref (x 1), .ref (x 2)])), fr (x 1) (t 0), fr (x 2) (t 1), (x 3, .inr (4, [.ref (x 4), .ref (x 5)])), fr (x 4) (t 2), fr (x 5) (t 3), fr (x 6) (t 4), fr (x 7) (t 5), fr (x 8) (t 6)]
def pNm (v w : FO) : FO := fadd 1 (fadd (-1) (fmul v v) (fmul v w)) (fmul w w)
theorem fok_pNm {v w : FO} (hv : fok v) (hw : fok w) : fok (pNm v w) := fok_fadd (fok_fadd (fok_fmul hv hv) (fok_fmul hv hw)) (fok_fmul hw hw)
theorem fgt_01 (v w : FO) : fgt v w = 0 ∨ fgt v w = 1 := by unfold fgt; split <;> simp
theorem feq_01 (v w : FO) : feq v w = 0 ∨ feq v w = 1 := by unfold feq; split <;> simp
def gmA (v0 v1 w0 w1 : FO) : FO := if ¬ (fZ (pNm v0 v1) = 0 ∧ fZ (pNm w0 w1) = 0) then none else if fgt (pNm w0 w1) (pNm v0 v1) = 1 then w0 else v0
def gmB (v0 v1 w0 w1 : FO) : FO := if ¬ (fZ (pNm v0 v1) = 0 ∧ fZ (pNm w0 w1) = 0) then v1 else if fgt (pNm w0 w1) (pNm v0 v1) = 1 then w1 else v1
theorem fok_01 : fok (some (0, 1)) := by rw [fok_some]; decide
theorem fok_gmA {v0 v1 w0 w1 : FO} (h0 : fok v0) (_ : fok v1) (h2 : fok w0) (_ : fok w1) : fok (gmA v0 v1 w0 w1) := by
  unfold gmA; split
  · exact fok_none
  · split
    · exact h2
    · exact h0
theorem fok_gmB {v0 v1 w0 w1 : FO} (_ : fok v0) (h1 : fok v1) (_ : fok w0) (h3 : fok w1) : fok (gmB v0 v1 w0 w1) := by
  unfold gmB; split
  · exact h1
  · split
    · exact h3
    · exact h1
theorem gm_over {v0 v1 w0 w1 : FO} (h : ¬ (fZ (pNm v0 v1) = 0 ∧ fZ (pNm w0 w1) = 0)) : gmA v0 v1 w0 w1 = none ∧ gmB v0 v1 w0 w1 = v1 := ⟨if_pos h, if_pos h⟩
theorem gm_gt {v0 v1 w0 w1 : FO} (h : fZ (pNm v0 v1) = 0 ∧ fZ (pNm w0 w1) = 0) (h2 : fgt (pNm w0 w1) (pNm v0 v1) = 1) : gmA v0 v1 w0 w1 = w0 ∧ gmB v0 v1 w0 w1 = w1 := by
  simp [gmA, gmB, h.1, h.2, h2]
theorem gm_le {v0 v1 w0 w1 : FO} (h : fZ (pNm v0 v1) = 0 ∧ fZ (pNm w0 w1) = 0) (h2 : ¬ fgt (pNm w0 w1) (pNm v0 v1) = 1) : gmA v0 v1 w0 w1 = v0 ∧ gmB v0 v1 w0 w1 = v1 := by
  simp [gmA, gmB, h.1, h.2, h2]
