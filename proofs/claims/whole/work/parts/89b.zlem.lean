theorem uI_255 {f : Nat → Int} {n : Nat} {a : Int} (h : ∀ i, 0 ≤ f i ∧ f i ≤ 255) (ha : 0 ≤ a ∧ a ≤ 255) : ∀ i, 0 ≤ uI f n a i ∧ uI f n a i ≤ 255 := by
  intro i
  unfold uI
  split
  · exact ha
  · exact h i
theorem uI_m1 {f : Nat → Int} {n : Nat} (h : ∀ i, -1 ≤ f i ∧ f i ≤ 8) : ∀ i, -1 ≤ uI f n (-1) i ∧ uI f n (-1) i ≤ 8 := by
  intro i
  unfold uI
  split
  · omega
  · exact h i
theorem uI_z8 {f : Nat → Int} {n : Nat} {a : Int} (h : ∀ i, -1 ≤ f i ∧ f i ≤ 8) (ha : -1 ≤ a ∧ a ≤ 8) : ∀ i, -1 ≤ uI f n a i ∧ uI f n a i ≤ 8 := by
  intro i
  unfold uI
  split
  · exact ha
  · exact h i
theorem uI_01 {f : Nat → Int} {n : Nat} {a : Int} (h : ∀ i, 0 ≤ f i ∧ f i ≤ 1) (ha : 0 ≤ a ∧ a ≤ 1) : ∀ i, 0 ≤ uI f n a i ∧ uI f n a i ≤ 1 := by
  intro i
  unfold uI
  split
  · exact ha
  · exact h i
theorem fok_zT0 : ∀ k, fok (zT0 k) := by
  refine fok_lF (fun v hv => ?_)
  simp only [List.mem_cons, List.not_mem_nil, or_false, or_self] at hv
  rw [hv]
  exact fok_01
theorem tS6_cl {u l : Nat → Int} {x : Int} : tS6 zT0 ((cl6 u 0, cl6 l 1, x) : RS) := by
  intro k hk
  match k, hk with
  | 0, _ => rfl
  | 1, _ => rfl
  | 2, _ => rfl
  | 3, _ => rfl
  | 4, _ => rfl
  | 5, _ => rfl
theorem oPs_le {f : Nat → Int} {n e : Nat} (he : e ≤ n) : oPs f n e ≤ n := by
  have h1 := nEn_s f he
  have h2 := nEn_s f h1.2.2
  have h3 := nEn_s f h2.2.2
  unfold oPs
  split
  · split
    · split <;> omega
    · omega
  · omega
theorem cPs_le {f : Nat → Int} {n e b : Nat} (he : e ≤ n) : cPs f n e b ≤ n := by
  have h1 := nEn_s f he
  have h2 := nEn_s f h1.2.2
  have h3 := nEn_s f h2.2.2
  have h4 := oPs_le (f := f) h1.2.2
  have h5 := oPs_le (f := f) h2.2.2
  have hw := cWd_le f n e
  unfold cPs
  rcases (show cWd f n e = 0 ∨ cWd f n e = 1 ∨ cWd f n e = 2 ∨ cWd f n e = 3 ∨ cWd f n e = 4 by omega) with w | w | w | w | w
  · rw [w]; show (if _ then _ else _) ≤ n; split <;> omega
  · rw [w]; exact h4
  · rw [w]; show (if _ then _ else if _ then _ else _) ≤ n
    split
    · omega
    · split <;> omega
  · rw [w]; show (if _ then (if _ then _ else _) else _) ≤ n
    split
    · split <;> omega
    · omega
  · rw [w]; show tS f n e ≤ n; omega
theorem pA_b {f : Nat → Int} {n : Nat} : ∀ (m e : Nat) (x : NT5) (c : Nat), e ≤ n → -1 ≤ (pA f n m e x c).1 ∧ (pA f n m e x c).1 ≤ n
  | 0, _, _, _, _ => by rw [pA]; show (-1 : Int) ≤ 0 ∧ (0 : Int) ≤ n; omega
  | m + 1, e, x, c, he => by
    have h1 := cPs_le (f := f) (b := x.2.1) he
    have h2 := nEn_s f h1
    rw [pA]
    split
    · split
      · exact pA_b m _ _ _ h2.2.2
      · dsimp only
        split <;> omega
    · dsimp only
      omega
theorem pA_r {f : Nat → Int} {n : Nat} {x : NT5} (hn : n ≤ 200) (_ : ∀ i, 0 ≤ f i ∧ f i ≤ 255) : -2147483648 ≤ ((pA f n 24 0 x 0).1) ∧ ((pA f n 24 0 x 0).1) < 2147483648 := by
  have := pA_b (f := f) (n := n) 24 0 x 0 (by omega)
  omega
theorem eff_h0 {f : Nat → Int} {n e : Nat} {x : NT5} (hx : nok5 x) (h : x.2.2.1 0 = -1) : (eff f n e x).2.2.1 0 = -1 := by
  have hb := hx.2.2.1
  have hw := cWd_le f n e
  show eHW (cWd f n e) f n e x.2.1 x.2.2.1 0 = -1
  rcases (show cWd f n e = 0 ∨ cWd f n e = 1 ∨ cWd f n e = 2 ∨ cWd f n e = 3 ∨ cWd f n e = 4 by omega) with w | w | w | w | w
  · rw [w]; exact uI_s
  · rw [w]; exact h
  · rw [w]; exact (uI_n (by omega)).trans h
  · rw [w]; exact h
  · rw [w]; exact h
theorem pA_h0 {f : Nat → Int} {n : Nat} : ∀ (m e : Nat) (x : NT5) (c : Nat), nok5 x → x.2.2.1 0 = -1 → (pA f n m e x c).2.1.2.2.1 0 = -1
  | 0, _, _, _, _, h => h
  | m + 1, e, x, c, hn, h => by
    rw [pA]
    split
    · rename_i h1
      split
      · exact pA_h0 m _ _ _ (nok_eff hn h1) (eff_h0 hn h)
      · exact eff_h0 hn h
    · exact h
