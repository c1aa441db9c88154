def rs3 (o : Nat → Int) (i : Nat) (a b c : Int) : Nat → Int := uI (uI (uI o (i * 3) a) (i * 3 + 1) b) (i * 3 + 2) c
def netW (g : zG) (q : Nat) (x : Nat → Nat) (v : Int) (b : Nat) (h o k : Nat → Int) : va_W := [(q, .inr (2, [vI v, vI (b : Int), .ref (x 0), .ref (x 1), .ref (x 2)])), (x 0, .inl (g.2 0, 6, .inl (aI h))), (x 1, .inl (g.2 0, 18, .inl (aI o))), (x 2, .inl (g.2 0, 6, .inl (aI k)))]
def nok (v : Int) (b : Nat) (h o k : Nat → Int) : Prop := 1 ≤ v ∧ v ≤ 99 ∧ 1 ≤ b ∧ b ≤ 6 ∧ (∀ i : Nat, 1 ≤ i → i < 6 → 0 ≤ h i ∧ h i < i) ∧ (∀ i : Nat, 0 ≤ o i ∧ o i ≤ 9) ∧ (∀ i : Nat, 0 ≤ k i ∧ k i ≤ 999)
def zS (h o : Nat → Int) (d : Nat) : Nat → Nat → Int
  | 0, _ => 0
  | n + 1, w => if w = 0 then 0 else o (w * 3 + d) + zS h o d n (h w).toNat
def zUp (h o : Nat → Int) (d i : Nat) : Int := o d + zS h o d 6 i
def zL (h : Nat → Int) : Nat → Nat → Nat
  | 0, _ => 0
  | n + 1, w => if w = 0 then 0 else 1 + zL h n (h w).toNat
def zM (h : Nat → Int) : Nat → Nat → Nat → Nat
  | 0, w, _ => w
  | n + 1, w, w1 => if w = w1 then w else if w1 < w then zM h n (h w).toNat w1 else zM h n w (h w1).toNat
theorem zS_step {h o : Nat → Int} {d n w : Nat} (hn : 1 ≤ n) (hw : 1 ≤ w) : zS h o d n w = o (w * 3 + d) + zS h o d (n - 1) (h w).toNat := by
  obtain ⟨k, rfl⟩ : ∃ k, n = k + 1 := ⟨n - 1, by omega⟩
  rw [zS, if_neg (by omega)]
  rfl
theorem zS_0 {h o : Nat → Int} {d n : Nat} : zS h o d n 0 = 0 := by cases n <;> simp [zS]
theorem zL_step {h : Nat → Int} {n w : Nat} (hn : 1 ≤ n) (hw : 1 ≤ w) : zL h n w = 1 + zL h (n - 1) (h w).toNat := by
  obtain ⟨k, rfl⟩ : ∃ k, n = k + 1 := ⟨n - 1, by omega⟩
  rw [zL, if_neg (by omega)]
  rfl
theorem zL_0 {h : Nat → Int} {n : Nat} : zL h n 0 = 0 := by cases n <;> simp [zL]
theorem zM_x {h : Nat → Int} {n w w1 : Nat} (hn : 1 ≤ n) (hw : w1 < w) : zM h n w w1 = zM h (n - 1) (h w).toNat w1 := by
  obtain ⟨k, rfl⟩ : ∃ k, n = k + 1 := ⟨n - 1, by omega⟩
  rw [zM, if_neg (by omega), if_pos hw]
  rfl
theorem zM_y {h : Nat → Int} {n w w1 : Nat} (hn : 1 ≤ n) (hw : w < w1) : zM h n w w1 = zM h (n - 1) w (h w1).toNat := by
  obtain ⟨k, rfl⟩ : ∃ k, n = k + 1 := ⟨n - 1, by omega⟩
  rw [zM, if_neg (by omega), if_neg (by omega)]
  rfl
theorem zM_e {h : Nat → Int} {n w : Nat} (_ : 1 ≤ n) : zM h n w w = w := by cases n <;> simp [zM]
