theorem fmk_id {a b : Int} (h : fok (some (a, b))) : fmk a b = some (a, b) := by
  rw [fok_some] at h
  have hg : gd a b = 1 := by rw [gd_eq (by omega), h.2.2.2.2]; rfl
  rw [fmk_some (by rw [hg, Int.ediv_one, Int.ediv_one]; exact ⟨h.1, h.2.1, h.2.2.2.1⟩), hg, Int.ediv_one, Int.ediv_one]
theorem fadd_0 {v : FO} (h : fok v) : fadd 1 (some (0, 1)) v = v := by
  cases v with
  | none => rfl
  | some x =>
    show fmk (0 * x.2 + 1 * x.1 * 1) (1 * x.2) = some x
    rw [Int.zero_mul, Int.zero_add, Int.one_mul, Int.mul_one, Int.one_mul]
    exact fmk_id h
theorem most_2 {t : Nat → FO} {S : RS} (ht : ∀ k, fok (t k)) (h : tS6 t S) : (if (rAd 82 4 1 (rAd 82 2 1 (rCp 82 0 (rZ0 S)))).2.2 = 0 then (if (rAd 82 4 1 (rAd 82 2 1 (rCp 82 0 (rZ0 S)))).1 82 = 0 ∧ (rAd 82 4 1 (rAd 82 2 1 (rCp 82 0 (rZ0 S)))).1 83 = 0 then 1 else 0) else -2000000004) = aMost t 2 := by
  have a0 := Tr_p (L' := (0, t 0) :: (1, t 1) :: (0, t 0) :: (1, t 1) :: (2, t 2) :: (3, t 3) :: (4, t 4) :: (5, t 5) :: []) (Tr_0 h) (by grind)
  have a1 := Tr_cp (to := 82) a0 (by decide) (by grind)
  have a2 := Tr_p (L' := (82, t 0) :: (83, t 1) :: (2, t 2) :: (3, t 3) :: (0, t 0) :: (1, t 1) :: (2, t 2) :: (3, t 3) :: (4, t 4) :: (5, t 5) :: []) a1 (by grind)
  have a3 := Tr_ad (to := 82) (k := 1) a2 (by decide) (by grind)
  have a4 := Tr_p (L' := (82, fadd 1 (t 0) (t 2)) :: (83, fadd 1 (t 1) (t 3)) :: (4, t 4) :: (5, t 5) :: (0, t 0) :: (1, t 1) :: (2, t 2) :: (3, t 3) :: (4, t 4) :: (5, t 5) :: []) a3 (by grind)
  have a5 := Tr_ad (to := 82) (k := 1) a4 (by decide) (by grind)
  have a6 := Tr_two (fun k hk => tS6_ne h hk) a5
  have eA : fdA t 0 = fadd 1 (fadd 1 (t 0) (t 2)) (t 4) := by
    show fadd 1 (fadd 1 (fadd 1 (some (0, 1)) (t 0)) (t 2)) (t 4) = _
    rw [fadd_0 (ht 0)]
  have eB : fdB t 0 = fadd 1 (fadd 1 (t 1) (t 3)) (t 5) := by
    show fadd 1 (fadd 1 (fadd 1 (some (0, 1)) (t 1)) (t 3)) (t 5) = _
    rw [fadd_0 (ht 1)]
  have eM : aMost t 2 = (if nOv (fdA t 0) (fdB t 0) = 0 then nNo (fdA t 0) (fdB t 0) else -2000000004) := by
    unfold aMost
    rw [if_neg (by decide), if_neg (by decide), if_pos rfl]
  rw [eM, eA, eB]
  rcases a6 with ⟨h0, h1, h2⟩ | ⟨h0, h1⟩
  · rw [if_pos h0, if_pos (nOv_y (by rw [h1]; simp [vS]) (by rw [h2]; simp [vS])), h1, h2]
    rfl
  · rw [if_neg (by omega), if_neg (nOv_n h1)]
def mNm (S : RS) : RS := rNm 80 4 (rNm 79 2 (rNm 78 0 (rZ0 S)))
theorem Tr_norms {t : Nat → FO} {S : RS} (h : tS6 t S) : ((mNm S).2.2 = 0 ∧ pNm (t 0) (t 1) = vS (mNm S) 78 ∧ pNm (t 2) (t 3) = vS (mNm S) 79 ∧ pNm (t 4) (t 5) = vS (mNm S) 80) ∨ ((mNm S).2.2 = 1 ∧ (pNm (t 0) (t 1) = none ∨ pNm (t 2) (t 3) = none ∨ pNm (t 4) (t 5) = none)) := by
  have a0 := Tr_p (L' := (0, t 0) :: (1, t 1) :: (0, t 0) :: (1, t 1) :: (2, t 2) :: (3, t 3) :: (4, t 4) :: (5, t 5) :: []) (Tr_0 h) (by grind)
  have a1 := Tr_nm (to := 78) (x := 0) a0 (by decide) (by decide) (by grind)
  have a2 := Tr_p (L' := (2, t 2) :: (3, t 3) :: (78, pNm (t 0) (t 1)) :: (0, t 0) :: (1, t 1) :: (2, t 2) :: (3, t 3) :: (4, t 4) :: (5, t 5) :: []) a1 (by grind)
  have a3 := Tr_nm (to := 79) (x := 2) a2 (by decide) (by decide) (by grind)
  have a4 := Tr_p (L' := (4, t 4) :: (5, t 5) :: (79, pNm (t 2) (t 3)) :: (78, pNm (t 0) (t 1)) :: (0, t 0) :: (1, t 1) :: (2, t 2) :: (3, t 3) :: (4, t 4) :: (5, t 5) :: []) a3 (by grind)
  have a5 : Tr (mNm S) ((80, pNm (t 4) (t 5)) :: (79, pNm (t 2) (t 3)) :: (78, pNm (t 0) (t 1)) :: (0, t 0) :: (1, t 1) :: (2, t 2) :: (3, t 3) :: (4, t 4) :: (5, t 5) :: []) := Tr_nm (to := 80) (x := 4) a4 (by decide) (by decide) (by simp)
  rcases a5 with ⟨h0, h1⟩ | ⟨h0, q, hq, hn⟩
  · exact Or.inl ⟨h0, h1 (78, pNm (t 0) (t 1)) (by simp), h1 (79, pNm (t 2) (t 3)) (by simp), h1 (80, pNm (t 4) (t 5)) (by simp)⟩
  · refine Or.inr ⟨h0, ?_⟩
    simp only [List.mem_cons, List.not_mem_nil, or_false] at hq
    rcases hq with rfl | rfl | rfl | rfl | rfl | rfl | rfl | rfl | rfl
    · exact Or.inr (Or.inr hn)
    · exact Or.inr (Or.inl hn)
    · exact Or.inl hn
    all_goals exact absurd hn (tS6_ne h (by decide))
theorem nn3 {a b c : FO} (h : a = none ∨ b = none ∨ c = none) : ¬ (fZ a = 0 ∧ fZ b = 0 ∧ fZ c = 0) := by
  rintro ⟨x, y, z⟩
  rcases h with rfl | rfl | rfl
  · exact absurd x (by decide)
  · exact absurd y (by decide)
  · exact absurd z (by decide)
theorem most_0 {t : Nat → FO} {S : RS} (h : tS6 t S) : (if (mNm S).2.2 = 0 then mBst (mNm S) else -2000000004) = aMost t 0 := by
  have eM : aMost t 0 = gOf (pNm (t 0) (t 1)) (pNm (t 2) (t 3)) (pNm (t 4) (t 5)) := if_pos rfl
  rw [eM]
  unfold gOf
  rcases Tr_norms h with ⟨h0, h1, h2, h3⟩ | ⟨h0, h1⟩
  · rw [if_pos h0, h1, h2, h3, if_pos ⟨rfl, rfl, rfl⟩]
    rfl
  · rw [if_neg (by omega), if_neg (nn3 h1)]
theorem cross_eq {a b c d : Int} (h1 : fok (some (a, b))) (h2 : fok (some (c, d))) : a * d = c * b ↔ (a = c ∧ b = d) := by
  rw [fok_some] at h1 h2
  constructor
  · intro h
    have h3 := (fr_eq (x := a) (d := b) (A := c) (B := d) (by omega) (by omega) h2.2.2.2.2).mp h
    have hg : gd a b = 1 := by rw [gd_eq (by omega), h1.2.2.2.2]; rfl
    rw [hg, Int.ediv_one, Int.ediv_one] at h3
    exact h3
  · rintro ⟨rfl, rfl⟩; rfl
theorem alk1 {T : RS} {x y : Nat} {a b : FO} (ha : a = vS T x) (hb : b = vS T y) (oa : fok a) (ob : fok b) : (¬ rGt x y T = 1 ∧ ¬ rGt y x T = 1) ↔ feq b a = 1 := by
  subst ha hb
  have h := cross_eq oa ob
  have e1 : rGt x y T = 1 ↔ T.1 y * T.2.1 x < T.1 x * T.2.1 y := by unfold rGt; split <;> simp_all
  have e2 : rGt y x T = 1 ↔ T.1 x * T.2.1 y < T.1 y * T.2.1 x := by unfold rGt; split <;> simp_all
  have e3 : feq (vS T y) (vS T x) = 1 ↔ (T.1 y = T.1 x ∧ T.2.1 y = T.2.1 x) := by
    show (if T.1 y = T.1 x ∧ T.2.1 y = T.2.1 x then (1 : Int) else 0) = 1 ↔ _
    split <;> simp_all
  rw [e1, e2, e3]
  constructor
  · rintro ⟨p, q⟩
    have := h.mp (by omega)
    exact ⟨this.1.symm, this.2.symm⟩
  · rintro ⟨p, q⟩
    have := h.mpr ⟨p.symm, q.symm⟩
    omega
theorem most_1 {t : Nat → FO} {S : RS} (ht : ∀ k, fok (t k)) (h : tS6 t S) : (if (mNm S).2.2 = 0 then mAlk (mNm S) else -2000000004) = aMost t 1 := by
  have eM : aMost t 1 = gAl (pNm (t 0) (t 1)) (pNm (t 2) (t 3)) (pNm (t 4) (t 5)) := by
    unfold aMost
    rw [if_neg (by decide), if_pos rfl]
  rw [eM]
  unfold gAl
  have o0 := fok_pNm (ht 0) (ht 1)
  have o1 := fok_pNm (ht 2) (ht 3)
  have o2 := fok_pNm (ht 4) (ht 5)
  rcases Tr_norms h with ⟨h0, h1, h2, h3⟩ | ⟨h0, h1⟩
  · have k1 := alk1 h1 h2 o0 o1
    have k2 := alk1 h1 h3 o0 o2
    rw [if_pos h0, if_pos (by rw [h1, h2, h3]; exact ⟨rfl, rfl, rfl⟩)]
    unfold mAlk
    by_cases c : feq (pNm (t 2) (t 3)) (pNm (t 0) (t 1)) = 1 ∧ feq (pNm (t 4) (t 5)) (pNm (t 0) (t 1)) = 1
    · have c1 := k1.mpr c.1
      have c2 := k2.mpr c.2
      rw [if_pos c, if_neg (by rintro (q | q | q | q); exact c1.1 q; exact c1.2 q; exact c2.1 q; exact c2.2 q)]
    · rw [if_neg c, if_pos]
      apply Decidable.byContradiction
      intro q
      apply c
      exact ⟨k1.mp ⟨fun z => q (Or.inl z), fun z => q (Or.inr (Or.inl z))⟩, k2.mp ⟨fun z => q (Or.inr (Or.inr (Or.inl z))), fun z => q (Or.inr (Or.inr (Or.inr z)))⟩⟩
  · rw [if_neg (by omega), if_neg (nn3 h1)]
def mMx (o1 p1 o2 p2 : Nat) (th : Bool) (S : RS) : RS := rMx o2 p2 th 2 (rMx o1 p1 th 1 (rMx 0 0 th 0 (rZ0 S)))
def thI (th : Bool) (v : FO) : FO := if th then fthird v else v
def mxI (th : Bool) (t : Nat → FO) (o1 p1 o2 p2 : Nat) : Nat → FO := lF [thI th (cmb t 0 0).1, thI th (cmb t 0 0).2, thI th (cmb t o1 p1).1, thI th (cmb t o1 p1).2, thI th (cmb t o2 p2).1, thI th (cmb t o2 p2).2]
theorem Tr_mix {t : Nat → FO} {S : RS} (h : tS6 t S) (o1 p1 o2 p2 : Nat) (th : Bool) : ((mMx o1 p1 o2 p2 th S).2.2 = 0 ∧ ∀ k, k < 6 → mxI th t o1 p1 o2 p2 k = vS (mMx o1 p1 o2 p2 th S) (66 + k)) ∨ ((mMx o1 p1 o2 p2 th S).2.2 = 1 ∧ ∃ k, k < 6 ∧ mxI th t o1 p1 o2 p2 k = none) := by
  have a1 := Tr_mx (k := 0) (o1 := 0) (o2 := 0) (th := th) (by decide) (Tr_0 h) (by simp)
  have a2 := Tr_mx (k := 1) (o1 := o1) (o2 := p1) (th := th) (by decide) a1 (by simp)
  have a3 := Tr_mx (k := 2) (o1 := o2) (o2 := p2) (th := th) (by decide) a2 (by simp)
  have a6 : Tr (mMx o1 p1 o2 p2 th S) ((0, t 0) :: (1, t 1) :: (2, t 2) :: (3, t 3) :: (4, t 4) :: (5, t 5) :: (70, thI th (cmb t o2 p2).1) :: (71, thI th (cmb t o2 p2).2) :: (68, thI th (cmb t o1 p1).1) :: (69, thI th (cmb t o1 p1).2) :: (66, thI th (cmb t 0 0).1) :: (67, thI th (cmb t 0 0).2) :: []) := a3
  rcases a6 with ⟨h0, h1⟩ | ⟨h0, q, hq, hn⟩
  · refine Or.inl ⟨h0, fun k hk => ?_⟩
    match k, hk with
    | 0, _ => exact h1 (66, thI th (cmb t 0 0).1) (by simp)
    | 1, _ => exact h1 (67, thI th (cmb t 0 0).2) (by simp)
    | 2, _ => exact h1 (68, thI th (cmb t o1 p1).1) (by simp)
    | 3, _ => exact h1 (69, thI th (cmb t o1 p1).2) (by simp)
    | 4, _ => exact h1 (70, thI th (cmb t o2 p2).1) (by simp)
    | 5, _ => exact h1 (71, thI th (cmb t o2 p2).2) (by simp)
  · refine Or.inr ⟨h0, ?_⟩
    simp only [List.mem_cons, List.not_mem_nil, or_false] at hq
    rcases hq with rfl | rfl | rfl | rfl | rfl | rfl | rfl | rfl | rfl | rfl | rfl | rfl
    · exact absurd hn (tS6_ne h (by decide))
    · exact absurd hn (tS6_ne h (by decide))
    · exact absurd hn (tS6_ne h (by decide))
    · exact absurd hn (tS6_ne h (by decide))
    · exact absurd hn (tS6_ne h (by decide))
    · exact absurd hn (tS6_ne h (by decide))
    · exact ⟨4, by decide, hn⟩
    · exact ⟨5, by decide, hn⟩
    · exact ⟨2, by decide, hn⟩
    · exact ⟨3, by decide, hn⟩
    · exact ⟨0, by decide, hn⟩
    · exact ⟨1, by decide, hn⟩
theorem tOv_y {u : Nat → FO} (h : ∀ k, k < 6 → u k ≠ none) : tOv u = 0 := by
  unfold tOv
  rw [if_pos ⟨nOv_y (h 0 (by decide)) (h 1 (by decide)), nOv_y (h 2 (by decide)) (h 3 (by decide)), nOv_y (h 4 (by decide)) (h 5 (by decide))⟩]
theorem tOv_n {u : Nat → FO} {k : Nat} (hk : k < 6) (h : u k = none) : tOv u = 1 := by
  unfold tOv
  rw [if_neg]
  rintro ⟨a, b, c⟩
  match k, hk, h with
  | 0, _, h => exact nOv_n (Or.inl h) a
  | 1, _, h => exact nOv_n (Or.inr h) a
  | 2, _, h => exact nOv_n (Or.inl h) b
  | 3, _, h => exact nOv_n (Or.inr h) b
  | 4, _, h => exact nOv_n (Or.inl h) c
  | 5, _, h => exact nOv_n (Or.inr h) c
theorem mix_o {t : Nat → FO} {S : RS} (h : tS6 t S) (o1 p1 o2 p2 : Nat) (th : Bool) : ((mMx o1 p1 o2 p2 th S).2.2 = 0 ∧ tOv (mxI th t o1 p1 o2 p2) = 0 ∧ ∀ k, k < 6 → mxI th t o1 p1 o2 p2 k = vS (mMx o1 p1 o2 p2 th S) (66 + k)) ∨ ((mMx o1 p1 o2 p2 th S).2.2 = 1 ∧ tOv (mxI th t o1 p1 o2 p2) = 1) := by
  rcases Tr_mix h o1 p1 o2 p2 th with ⟨h0, h1⟩ | ⟨h0, k, hk, h1⟩
  · exact Or.inl ⟨h0, tOv_y (fun k hk => by rw [h1 k hk]; simp [vS]), h1⟩
  · exact Or.inr ⟨h0, tOv_n hk h1⟩
theorem mixS_t (t : Nat → FO) : thT (mixT t 0 0 1 2 2 1) = mxI true t 1 2 2 1 := rfl
theorem mixJ_t (t : Nat → FO) : mixT t 0 0 2 1 1 2 = mxI false t 2 1 1 2 := rfl
theorem e66_mix {o1 p1 o2 p2 : Nat} {th : Bool} {S : RS} : e66 S (mMx o1 p1 o2 p2 th S) := e66_t e66_z0 (e66_t e66_mx (e66_t e66_mx e66_mx))
