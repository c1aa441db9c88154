abbrev NT5 : Type := Int × Nat × (Nat → Int) × (Nat → Int) × (Nat → Int)
def eff (f : Nat → Int) (n e : Nat) (x : NT5) : NT5 := (eVW (cWd f n e) f n e x.1, eBW (cWd f n e) x.2.1, eHW (cWd f n e) f n e x.2.1 x.2.2.1, eOW (cWd f n e) f n e x.2.1 x.2.2.2.1, eLW (cWd f n e) f n e x.2.1 x.2.2.2.2)
def pA (f : Nat → Int) (n : Nat) : Nat → Nat → NT5 → Nat → Int × NT5 × Nat
  | 0, _, x, c => (0, x, c)
  | m + 1, e, x, c => if cOk f n e x.2.1 = 1 then
      (if smc f (kdA f n (tS f n (cPs f n e x.2.1))) (tS f n (cPs f n e x.2.1)) = 1 ∧ m ≠ 0 then pA f n m (nEn f n (cPs f n e x.2.1)) (eff f n e x) (c + 1)
       else ((if kdA f n (tS f n (cPs f n e x.2.1)) = 0 then -1 else (tS f n (cPs f n e x.2.1) : Int)), eff f n e x, c + 1))
    else ((cPs f n e x.2.1 : Int), x, c)
theorem pA_bad {f : Nat → Int} {n m e c : Nat} {x : NT5} (hm : m ≠ 0) (h : ¬ cOk f n e x.2.1 = 1) : pA f n m e x c = ((cPs f n e x.2.1 : Int), x, c) := by
  obtain ⟨k, rfl⟩ : ∃ k, m = k + 1 := ⟨m - 1, by omega⟩
  rw [pA, if_neg h]
theorem pA_go {f : Nat → Int} {n m e c : Nat} {x : NT5} (hm : m ≠ 0) (h : cOk f n e x.2.1 = 1) (h1 : smc f (kdA f n (tS f n (cPs f n e x.2.1))) (tS f n (cPs f n e x.2.1)) = 1) (h2 : m - 1 ≠ 0) : pA f n m e x c = pA f n (m - 1) (nEn f n (cPs f n e x.2.1)) (eff f n e x) (c + 1) := by
  obtain ⟨k, rfl⟩ : ∃ k, m = k + 1 := ⟨m - 1, by omega⟩
  rw [pA, if_pos h, if_pos ⟨h1, by omega⟩]
  rfl
theorem pA_end {f : Nat → Int} {n m e c : Nat} {x : NT5} (hm : m ≠ 0) (h : cOk f n e x.2.1 = 1) (h1 : ¬ (smc f (kdA f n (tS f n (cPs f n e x.2.1))) (tS f n (cPs f n e x.2.1)) = 1 ∧ m - 1 ≠ 0)) : pA f n m e x c = ((if kdA f n (tS f n (cPs f n e x.2.1)) = 0 then -1 else (tS f n (cPs f n e x.2.1) : Int)), eff f n e x, c + 1) := by
  obtain ⟨k, rfl⟩ : ∃ k, m = k + 1 := ⟨m - 1, by omega⟩
  rw [pA, if_pos h, if_neg (by simpa using h1)]
theorem oV_b {f : Nat → Int} {n e : Nat} (h : oOk f n e = 1) : (0 ≤ oV0 f n e ∧ oV0 f n e ≤ 9) ∧ (0 ≤ oV1 f n e ∧ oV1 f n e ≤ 9) ∧ (0 ≤ oV2 f n e ∧ oV2 f n e ≤ 9) := by
  have h1 := (oOk_s f n e).2.mp h
  exact ⟨nOk_v h1.1, nOk_v h1.2.1, nOk_v h1.2.2⟩
theorem rs3_b {o : Nat → Int} {i : Nat} {a b c : Int} (ho : ∀ k, 0 ≤ o k ∧ o k ≤ 9) (ha : 0 ≤ a ∧ a ≤ 9) (hb : 0 ≤ b ∧ b ≤ 9) (hc : 0 ≤ c ∧ c ≤ 9) : ∀ k, 0 ≤ rs3 o i a b c k ∧ rs3 o i a b c k ≤ 9 := by
  intro k
  unfold rs3 uI
  split
  · exact hc
  · split
    · exact hb
    · split
      · exact ha
      · exact ho k
theorem uI_b {l : Nat → Int} {i : Nat} {a : Int} (hl : ∀ k, 0 ≤ l k ∧ l k ≤ 999) (ha : 0 ≤ a ∧ a ≤ 999) : ∀ k, 0 ≤ uI l i a k ∧ uI l i a k ≤ 999 := by
  intro k
  unfold uI
  split
  · exact ha
  · exact hl k
theorem cWd_le (f : Nat → Int) (n e : Nat) : cWd f n e ≤ 4 := by
  unfold cWd
  split
  · omega
  · split
    · omega
    · split
      · omega
      · split <;> omega
def nok5 (x : NT5) : Prop := nok x.1 x.2.1 x.2.2.1 x.2.2.2.1 x.2.2.2.2
theorem nok_eff {f : Nat → Int} {n e : Nat} {x : NT5} (hx : nok5 x) (h : cOk f n e x.2.1 = 1) : nok5 (eff f n e x) := by
  obtain ⟨v, b, h_, o, l⟩ := x
  unfold nok5 at hx
  obtain ⟨n1, n2, n3, n4, n5, n6, n7⟩ := hx
  simp only at n1 n2 n3 n4 n5 n6 n7
  have hw := cWd_le f n e
  unfold cOk at h
  unfold nok5 eff nok
  rcases (show cWd f n e = 0 ∨ cWd f n e = 1 ∨ cWd f n e = 2 ∨ cWd f n e = 3 ∨ cWd f n e = 4 by omega) with w | w | w | w | w
  · rw [w] at h ⊢
    have h1 := nOk_v (show nOk f n (nEn f n e) 1 99 = 1 from h)
    refine ⟨h1.1, h1.2, by show 1 ≤ 1; omega, by show 1 ≤ 6; omega, fun i i1 i2 => ?_, rs3_b n6 (by omega) (by omega) (by omega), uI_b n7 (by omega)⟩
    show 0 ≤ uI h_ 0 (-1) i ∧ uI h_ 0 (-1) i < i
    rw [uI_n (by omega)]
    exact n5 i i1 i2
  · rw [w] at h ⊢
    have h1 := oV_b (show oOk f n (nEn f n e) = 1 from h)
    exact ⟨n1, n2, n3, n4, n5, rs3_b n6 h1.1 h1.2.1 h1.2.2, n7⟩
  · rw [w] at h ⊢
    have h0 : (if b = 6 then (0 : Int) else if nOk f n (nEn f n e) 0 ((b : Int) - 1) = 1 then oOk f n (nEn f n (nEn f n e)) else 0) = 1 := h
    by_cases hb : b = 6
    · rw [if_pos hb] at h0; omega
    · rw [if_neg hb] at h0
      by_cases hq : nOk f n (nEn f n e) 0 ((b : Int) - 1) = 1
      · rw [if_pos hq] at h0
        have h1 := oV_b h0
        have h2 := nOk_v hq
        refine ⟨n1, n2, by show 1 ≤ b + 1; omega, by show b + 1 ≤ 6; omega, fun i i1 i2 => ?_, rs3_b n6 h1.1 h1.2.1 h1.2.2, uI_b n7 (by omega)⟩
        show 0 ≤ uI h_ b (nVl f n (nEn f n e)) i ∧ uI h_ b (nVl f n (nEn f n e)) i < i
        by_cases hi : i = b
        · subst hi; rw [uI_s]; omega
        · rw [uI_n hi]; exact n5 i i1 i2
      · rw [if_neg hq] at h0; omega
  · rw [w] at h ⊢
    have h0 : (if nOk f n (nEn f n e) 1 ((b : Int) - 1) = 1 then nOk f n (nEn f n (nEn f n e)) 0 999 else 0) = 1 := h
    by_cases hq : nOk f n (nEn f n e) 1 ((b : Int) - 1) = 1
    · rw [if_pos hq] at h0
      exact ⟨n1, n2, n3, n4, n5, n6, uI_b n7 (nOk_v h0)⟩
    · rw [if_neg hq] at h0; omega
  · rw [w] at h
    exact absurd (show (0 : Int) = 1 from h) (by decide)
theorem nok_pA {f : Nat → Int} {n : Nat} : ∀ (m e : Nat) (x : NT5) (c : Nat), nok5 x → nok5 (pA f n m e x c).2.1
  | 0, _, _, _, h => h
  | m + 1, e, x, c, h => by
    rw [pA]
    split
    · rename_i h1
      split
      · exact nok_pA m _ _ _ (nok_eff h h1)
      · exact nok_eff h h1
    · exact h
