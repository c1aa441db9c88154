def wds (k : Nat) : Int := [110, 101, 116, 0, 0, 0, 115, 111, 117, 114, 99, 101, 98, 117, 115, 0, 0, 0, 114, 101, 108, 97, 121, 0].getD k 0
def wch (f : Nat → Int) (s t k : Nat) : Int := if s + k < t then f (s + k) else 0
def wEq (wd f : Nat → Int) (s t w : Nat) : Nat → Int
  | 0 => if s < t ∧ t < s + 7 then 1 else 0
  | k + 1 => if wEq wd f s t w k = 1 ∧ wd (6 * w + k) = wch f s t k then 1 else 0
theorem wEq_01 (wd f : Nat → Int) (s t w k : Nat) : wEq wd f s t w k = 0 ∨ wEq wd f s t w k = 1 := by
  cases k with
  | zero => rw [wEq]; split <;> simp
  | succ k => rw [wEq]; split <;> simp
theorem wEq_s (wd f : Nat → Int) (s t w k : Nat) : wEq wd f s t w (k + 1) = 1 ↔ (wEq wd f s t w k = 1 ∧ wd (6 * w + k) = wch f s t k) := by
  rw [wEq]; split
  · rename_i h; exact ⟨fun _ => h, fun _ => rfl⟩
  · rename_i h; exact ⟨fun q => absurd q (by decide), fun q => absurd q h⟩
theorem wEq_z (wd f : Nat → Int) (s t w : Nat) : wEq wd f s t w 0 = 1 ↔ (s < t ∧ t < s + 7) := by
  rw [wEq]; split
  · rename_i h; exact ⟨fun _ => h, fun _ => rfl⟩
  · rename_i h; exact ⟨fun q => absurd q (by decide), fun q => absurd q h⟩
theorem wEq_up {wd f : Nat → Int} {s t w k : Nat} (h : wEq wd f s t w k = 0) : ∀ n, wEq wd f s t w (k + n) = 0
  | 0 => h
  | n + 1 => by
    have h1 := wEq_up h n
    have h2 := wEq_s wd f s t w (k + n)
    have h3 := wEq_01 wd f s t w (k + n + 1)
    show wEq wd f s t w (k + n + 1) = 0
    omega
theorem wEq_6 {wd f : Nat → Int} {s t w k : Nat} (hk : k ≤ 6) (h : wEq wd f s t w k = 0) : wEq wd f s t w 6 = 0 := by
  have := wEq_up h (6 - k)
  rwa [show k + (6 - k) = 6 by omega] at this
def wR (wd f : Nat → Int) (s t : Nat) : Int := if wEq wd f s t 0 6 = 1 then 0 else if wEq wd f s t 1 6 = 1 then 1 else if wEq wd f s t 2 6 = 1 then 2 else if wEq wd f s t 3 6 = 1 then 3 else -1
theorem wR_at {wd f : Nat → Int} {s t w : Nat} (hn : ∀ j, j < w → wEq wd f s t j 6 = 0) (h : wEq wd f s t w 6 = 1) (hw : w < 4) : ((w : Nat) : Int) = wR wd f s t := by
  unfold wR
  match w, hw with
  | 0, _ => rw [if_pos h]; rfl
  | 1, _ => rw [if_neg (by rw [hn 0 (by decide)]; decide), if_pos h]; rfl
  | 2, _ => rw [if_neg (by rw [hn 0 (by decide)]; decide), if_neg (by rw [hn 1 (by decide)]; decide), if_pos h]; rfl
  | 3, _ => rw [if_neg (by rw [hn 0 (by decide)]; decide), if_neg (by rw [hn 1 (by decide)]; decide), if_neg (by rw [hn 2 (by decide)]; decide), if_pos h]; rfl
theorem wR_no {wd f : Nat → Int} {s t : Nat} (hn : ∀ j, j < 4 → wEq wd f s t j 6 = 0) : (-1 : Int) = wR wd f s t := by
  unfold wR
  rw [if_neg (by rw [hn 0 (by decide)]; decide), if_neg (by rw [hn 1 (by decide)]; decide), if_neg (by rw [hn 2 (by decide)]; decide), if_neg (by rw [hn 3 (by decide)]; decide)]
theorem wch_y {f : Nat → Int} {s t k : Nat} (h : s + k < t) : wch f s t k = f (s + k) := if_pos h
theorem wch_n {f : Nat → Int} {s t k : Nat} (h : ¬ s + k < t) : wch f s t k = 0 := if_neg h
theorem rn_kd {f : Nat → Int} {n k : Nat} : ∀ (m i j : Nat), i ≤ j → j < rn f n k m i → kdO (f j) = k
  | 0, i, j, h1, h2 => by rw [rn] at h2; omega
  | m + 1, i, j, h1, h2 => by
    rw [rn] at h2
    split at h2
    · rename_i q
      by_cases hj : j = i
      · rw [hj]; exact q.2
      · exact rn_kd m (i + 1) j (by omega) h2
    · omega
theorem tok_kd {f : Nat → Int} {n e : Nat} (he : e ≤ n) : (kdA f n (tS f n e) = 1 → ∀ j, tS f n e ≤ j → j < nEn f n e → 97 ≤ f j ∧ f j ≤ 122) ∧ (tS f n e < n → ¬ kdA f n (tS f n e) = 1 → ¬ (97 ≤ f (tS f n e) ∧ f (tS f n e) ≤ 122)) ∧ (tS f n e < nEn f n e → tS f n e < n) := by
  have h4 := kdA_s f n (tS f n e)
  have h5 := kdO_s (f (tS f n e))
  have h6 := nEn_s f he
  refine ⟨fun h j h1 h2 => ?_, fun h1 h2 => by omega, fun h => by omega⟩
  have h3 : nEn f n e = tR f n 1 (tS f n e) := by
    show tE f n (tS f n e) = _
    rw [(tE_s f n (tS f n e)).2 (by omega), h]
  rw [h3] at h2
  have h7 := rn_kd (f := f) (n := n) (k := 1) (n - tS f n e) (tS f n e) j h1 h2
  have h8 := kdO_s (f j)
  omega
theorem wEq_all {wd f : Nat → Int} {s t w : Nat} : wEq wd f s t w 6 = 1 ↔ ((s < t ∧ t < s + 7) ∧ wd (6 * w + 0) = wch f s t 0 ∧ wd (6 * w + 1) = wch f s t 1 ∧ wd (6 * w + 2) = wch f s t 2 ∧ wd (6 * w + 3) = wch f s t 3 ∧ wd (6 * w + 4) = wch f s t 4 ∧ wd (6 * w + 5) = wch f s t 5) := by
  rw [wEq_s, wEq_s, wEq_s, wEq_s, wEq_s, wEq_s, wEq_z]
  constructor
  · rintro ⟨⟨⟨⟨⟨⟨a, b⟩, c⟩, d⟩, e⟩, f⟩, g⟩
    exact ⟨a, b, c, d, e, f, g⟩
  · rintro ⟨a, b, c, d, e, f, g⟩
    exact ⟨⟨⟨⟨⟨⟨a, b⟩, c⟩, d⟩, e⟩, f⟩, g⟩
theorem wch_s (f : Nat → Int) (s t k : Nat) : (s + k < t → wch f s t k = f (s + k)) ∧ (¬ s + k < t → wch f s t k = 0) := ⟨wch_y, wch_n⟩
section
variable {wd f : Nat → Int} {n e : Nat}
theorem wEq_f (he : e ≤ n) : ∀ k, tS f n e + k < nEn f n e → (kdA f n (tS f n e) = 1 → 97 ≤ f (tS f n e + k) ∧ f (tS f n e + k) ≤ 122) := fun k hk h => (tok_kd he).1 h _ (by omega) hk
theorem wEq_N (he : e ≤ n) (hwd : ∀ k, k < 24 → wd k = wds k) : wEq wd f (tS f n e) (nEn f n e) 0 6 = 1 ↔ wdN f (kdA f n (tS f n e)) (tS f n e) (nEn f n e) = 1 := by
  have t0 := tok_kd (f := f) he
  have l := wEq_f (f := f) he
  rw [wEq_all, (wdN_s f _ _ _).2, hwd _ (by decide), hwd _ (by decide), hwd _ (by decide), hwd _ (by decide), hwd _ (by decide), hwd _ (by decide)]
  show (_ ∧ 110 = _ ∧ 101 = _ ∧ 116 = _ ∧ (0 : Int) = _ ∧ (0 : Int) = _ ∧ (0 : Int) = _) ↔ _
  have c0 := wch_s f (tS f n e) (nEn f n e) 0
  have c1 := wch_s f (tS f n e) (nEn f n e) 1
  have c2 := wch_s f (tS f n e) (nEn f n e) 2
  have c3 := wch_s f (tS f n e) (nEn f n e) 3
  have c4 := wch_s f (tS f n e) (nEn f n e) 4
  have c5 := wch_s f (tS f n e) (nEn f n e) 5
  have l3 := l 3
  rw [Nat.add_zero] at c0
  generalize f (tS f n e) = a0 at *
  generalize f (tS f n e + 1) = a1 at *
  generalize f (tS f n e + 2) = a2 at *
  generalize f (tS f n e + 3) = a3 at *
  omega
theorem wEq_S (he : e ≤ n) (hwd : ∀ k, k < 24 → wd k = wds k) : wEq wd f (tS f n e) (nEn f n e) 1 6 = 1 ↔ wdS f (kdA f n (tS f n e)) (tS f n e) (nEn f n e) = 1 := by
  have t0 := tok_kd (f := f) he
  rw [wEq_all, (wdS_s f _ _ _).2, hwd _ (by decide), hwd _ (by decide), hwd _ (by decide), hwd _ (by decide), hwd _ (by decide), hwd _ (by decide)]
  show (_ ∧ 115 = _ ∧ 111 = _ ∧ 117 = _ ∧ 114 = _ ∧ 99 = _ ∧ 101 = _) ↔ _
  have c0 := wch_s f (tS f n e) (nEn f n e) 0
  have c1 := wch_s f (tS f n e) (nEn f n e) 1
  have c2 := wch_s f (tS f n e) (nEn f n e) 2
  have c3 := wch_s f (tS f n e) (nEn f n e) 3
  have c4 := wch_s f (tS f n e) (nEn f n e) 4
  have c5 := wch_s f (tS f n e) (nEn f n e) 5
  rw [Nat.add_zero] at c0
  generalize f (tS f n e) = a0 at *
  generalize f (tS f n e + 1) = a1 at *
  generalize f (tS f n e + 2) = a2 at *
  generalize f (tS f n e + 3) = a3 at *
  generalize f (tS f n e + 4) = a4 at *
  generalize f (tS f n e + 5) = a5 at *
  omega
theorem wEq_B (he : e ≤ n) (hwd : ∀ k, k < 24 → wd k = wds k) : wEq wd f (tS f n e) (nEn f n e) 2 6 = 1 ↔ wdB f (kdA f n (tS f n e)) (tS f n e) (nEn f n e) = 1 := by
  have t0 := tok_kd (f := f) he
  have l := wEq_f (f := f) he
  rw [wEq_all, (wdB_s f _ _ _).2, hwd _ (by decide), hwd _ (by decide), hwd _ (by decide), hwd _ (by decide), hwd _ (by decide), hwd _ (by decide)]
  show (_ ∧ 98 = _ ∧ 117 = _ ∧ 115 = _ ∧ (0 : Int) = _ ∧ (0 : Int) = _ ∧ (0 : Int) = _) ↔ _
  have c0 := wch_s f (tS f n e) (nEn f n e) 0
  have c1 := wch_s f (tS f n e) (nEn f n e) 1
  have c2 := wch_s f (tS f n e) (nEn f n e) 2
  have c3 := wch_s f (tS f n e) (nEn f n e) 3
  have c4 := wch_s f (tS f n e) (nEn f n e) 4
  have c5 := wch_s f (tS f n e) (nEn f n e) 5
  have l3 := l 3
  rw [Nat.add_zero] at c0
  generalize f (tS f n e) = a0 at *
  generalize f (tS f n e + 1) = a1 at *
  generalize f (tS f n e + 2) = a2 at *
  generalize f (tS f n e + 3) = a3 at *
  omega
theorem wEq_R (he : e ≤ n) (hwd : ∀ k, k < 24 → wd k = wds k) : wEq wd f (tS f n e) (nEn f n e) 3 6 = 1 ↔ wdR f (kdA f n (tS f n e)) (tS f n e) (nEn f n e) = 1 := by
  have t0 := tok_kd (f := f) he
  have l := wEq_f (f := f) he
  rw [wEq_all, (wdR_s f _ _ _).2, hwd _ (by decide), hwd _ (by decide), hwd _ (by decide), hwd _ (by decide), hwd _ (by decide), hwd _ (by decide)]
  show (_ ∧ 114 = _ ∧ 101 = _ ∧ 108 = _ ∧ 97 = _ ∧ 121 = _ ∧ (0 : Int) = _) ↔ _
  have c0 := wch_s f (tS f n e) (nEn f n e) 0
  have c1 := wch_s f (tS f n e) (nEn f n e) 1
  have c2 := wch_s f (tS f n e) (nEn f n e) 2
  have c3 := wch_s f (tS f n e) (nEn f n e) 3
  have c4 := wch_s f (tS f n e) (nEn f n e) 4
  have c5 := wch_s f (tS f n e) (nEn f n e) 5
  have l5 := l 5
  rw [Nat.add_zero] at c0
  generalize f (tS f n e) = a0 at *
  generalize f (tS f n e + 1) = a1 at *
  generalize f (tS f n e + 2) = a2 at *
  generalize f (tS f n e + 3) = a3 at *
  generalize f (tS f n e + 4) = a4 at *
  generalize f (tS f n e + 5) = a5 at *
  omega
theorem wR_c (he : e ≤ n) (hwd : ∀ k, k < 24 → wd k = wds k) : wR wd f (tS f n e) (nEn f n e) = (if cWd f n e = 4 then -1 else ((cWd f n e : Nat) : Int)) := by
  have a0 := wEq_N (wd := wd) (f := f) he hwd
  have a1 := wEq_S (wd := wd) (f := f) he hwd
  have a2 := wEq_B (wd := wd) (f := f) he hwd
  have a3 := wEq_R (wd := wd) (f := f) he hwd
  unfold wR
  by_cases h0 : wdN f (kdA f n (tS f n e)) (tS f n e) (nEn f n e) = 1
  · rw [if_pos (a0.mpr h0), cWd_0 h0]; rfl
  · rw [if_neg (fun q => h0 (a0.mp q))]
    by_cases h1 : wdS f (kdA f n (tS f n e)) (tS f n e) (nEn f n e) = 1
    · rw [if_pos (a1.mpr h1), cWd_1 h0 h1]; rfl
    · rw [if_neg (fun q => h1 (a1.mp q))]
      by_cases h2 : wdB f (kdA f n (tS f n e)) (tS f n e) (nEn f n e) = 1
      · rw [if_pos (a2.mpr h2), cWd_2 h0 h1 h2]; rfl
      · rw [if_neg (fun q => h2 (a2.mp q))]
        by_cases h3 : wdR f (kdA f n (tS f n e)) (tS f n e) (nEn f n e) = 1
        · rw [if_pos (a3.mpr h3), cWd_3 h0 h1 h2 h3]; rfl
        · rw [if_neg (fun q => h3 (a3.mp q)), cWd_4 h0 h1 h2 h3]; rfl
end
theorem wds_b (k : Nat) : 0 ≤ wds k ∧ wds k ≤ 122 := by
  unfold wds
  match k with
  | 0 | 1 | 2 | 3 | 4 | 5 | 6 | 7 | 8 | 9 | 10 | 11 | 12 | 13 | 14 | 15 | 16 | 17 | 18 | 19 | 20 | 21 | 22 | 23 => decide
  | k + 24 => simp
