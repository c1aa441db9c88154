def fdS (r : Nat) (a b c d : FO) : FO × FO := if r = 0 then (fadd 1 a c, fadd 1 b d) else if r = 1 then (fadd 1 (fneg b) c, fadd 1 (fadd (-1) a b) d) else if r = 2 then (gmA a b c d, gmB a b c d) else (fadd (-1) a c, fadd (-1) b d)
theorem pNm_l {w : FO} : pNm none w = none := rfl
theorem pNm_r {v : FO} : pNm v none = none := by unfold pNm; rw [fmul_none_r, fadd_none_r]; rfl
theorem fZ_n : fZ none = 1 := rfl
theorem Tr_fd {S : RS} {r x : Nat} {a b c d : FO} {R : List (Nat × FO)} (h : Tr S ((82, a) :: (83, b) :: (x, c) :: (x + 1, d) :: R)) (hx : x < 71) (hR : ∀ q ∈ R, q.1 < 72) : Tr (rFd r x S) ((82, (fdS r a b c d).1) :: (83, (fdS r a b c d).2) :: (x, c) :: (x + 1, d) :: R) := by
  have hd : Tr S ((82, a) :: (83, b) :: (x, c) :: (x + 1, d) :: (x, c) :: (x + 1, d) :: R) := Tr_p h (by grind)
  unfold rFd fdS
  by_cases r0 : r = 0
  · rw [if_pos r0, if_pos r0]
    exact Tr_ad (to := 82) (k := 1) hd (by omega) (by grind)
  · rw [if_neg r0, if_neg r0]
    by_cases r1 : r = 1
    · rw [if_pos r1, if_pos r1]
      exact Tr_ad (to := 82) (k := 1) (Tr_tn (x := 82) hd (by grind)) (by omega) (by grind)
    · rw [if_neg r1, if_neg r1]
      by_cases r2 : r = 2
      · rw [if_pos r2, if_pos r2]
        have a0 : Tr S ((82, a) :: (83, b) :: (82, a) :: (83, b) :: (x, c) :: (x + 1, d) :: R) := Tr_p h (by grind)
        have a1 := Tr_nm (to := 78) (x := 82) a0 (by decide) (by decide) (by grind)
        have a2 := Tr_p (L' := (x, c) :: (x + 1, d) :: (78, pNm a b) :: (82, a) :: (83, b) :: (x, c) :: (x + 1, d) :: R) a1 (by grind)
        have a3 := Tr_nm (to := 79) (x := x) a2 (by omega) (by omega) (by grind)
        generalize rNm 79 x (rNm 78 82 S) = T at a3 ⊢
        rcases a3 with ⟨h0, h1⟩ | ⟨h0, q, hq, hn⟩
        · have e0 : pNm a b = vS T 78 := h1 (78, pNm a b) (by grind)
          have e1 : pNm c d = vS T 79 := h1 (79, pNm c d) (by grind)
          have e2 : fgt (pNm c d) (pNm a b) = rGt 79 78 T := by rw [e0, e1]; rfl
          have ez : ¬ ¬ (fZ (pNm a b) = 0 ∧ fZ (pNm c d) = 0) := by rw [e0, e1]; exact fun z => z ⟨rfl, rfl⟩
          unfold gmA gmB
          rw [if_neg ez, if_neg ez, e2]
          by_cases hg : rGt 79 78 T = 1
          · rw [if_pos ⟨h0, hg⟩, if_pos hg, if_pos hg]
            have b1 : Tr T ((x, c) :: (x + 1, d) :: (x, c) :: (x + 1, d) :: R) := Or.inl ⟨h0, fun q hq => h1 q (by grind)⟩
            exact Tr_cp (to := 82) b1 (by omega) (by grind)
          · rw [if_neg (fun z => hg z.2), if_neg hg, if_neg hg]
            exact Or.inl ⟨h0, fun q hq => h1 q (by grind)⟩
        · rw [if_neg (fun z => by omega)]
          refine Or.inr ⟨h0, ?_⟩
          have hgm : (pNm c d = none ∨ pNm a b = none) → gmA a b c d = none := by
            intro z
            unfold gmA
            rw [if_pos]
            intro w
            rcases z with z | z
            · rw [z] at w; exact absurd w.2 (by decide)
            · rw [z] at w; exact absurd w.1 (by decide)
          have hA : gmA a b c d = none → ∃ q ∈ ((82, gmA a b c d) :: (83, gmB a b c d) :: (x, c) :: (x + 1, d) :: R), q.2 = none := fun z => ⟨_, List.mem_cons_self, z⟩
          simp only [List.mem_cons] at hq
          rcases hq with rfl | rfl | rfl | rfl | hq
          · exact hA (hgm (Or.inl hn))
          · exact hA (hgm (Or.inr hn))
          · exact hA (hgm (Or.inr (by dsimp only at hn; rw [hn]; rfl)))
          · exact hA (hgm (Or.inr (by dsimp only at hn; rw [hn]; exact pNm_r)))
          · exact ⟨q, by grind, hn⟩
      · rw [if_neg r2, if_neg r2]
        exact Tr_ad (to := 82) (k := -1) hd (by omega) (by grind)
/-! what a calculation leaves as it was -/
def e66 (S T : RS) : Prop := ∀ j, j < 66 → T.1 j = S.1 j ∧ T.2.1 j = S.2.1 j
theorem e66_r (S : RS) : e66 S S := fun _ _ => ⟨rfl, rfl⟩
theorem e66_t {S T U : RS} (h : e66 S T) (g : e66 T U) : e66 S U := fun j hj => ⟨(g j hj).1.trans (h j hj).1, (g j hj).2.trans (h j hj).2⟩
theorem e66_pl {to x y : Nat} {k : Int} {S : RS} (h : 66 ≤ to) : e66 S (rPl to x y k S) := fun j hj => rPl_n (by omega)
theorem e66_tm {to x y : Nat} {S : RS} (h : 66 ≤ to) : e66 S (rTm to x y S) := fun j hj => rTm_n (by omega)
theorem e66_cp {to x : Nat} {S : RS} (h : 66 ≤ to) : e66 S (rCp to x S) := fun j hj => ⟨cp2_n (by omega) (by omega), cp2_n (by omega) (by omega)⟩
theorem e66_ad {to x : Nat} {k : Int} {S : RS} (h : 66 ≤ to) : e66 S (rAd to x k S) := e66_t (e66_pl h) (e66_pl (by omega))
theorem e66_tn {x : Nat} {S : RS} (h : 66 ≤ x) : e66 S (rTn x S) := fun j hj => by
  unfold rTn
  split
  · have e := rPl_n (to := x + 1) (x := x) (y := x + 1) (k := -1) (S := S) (show j ≠ x + 1 by omega)
    exact ⟨(uI_n (by omega)).trans e.1, (uI_n (by omega)).trans e.2⟩
  · exact ⟨rfl, rfl⟩
theorem e66_t3 {S : RS} : e66 S (rT3 S) := fun j hj => ⟨uI_n (by omega), uI_n (by omega)⟩
theorem e66_th {to : Nat} {S : RS} (h : 66 ≤ to) : e66 S (rTh to S) := e66_t e66_t3 (e66_t (e66_tm h) (e66_tm (by omega)))
theorem e66_nm {to x : Nat} {S : RS} (h : 66 ≤ to) : e66 S (rNm to x S) := e66_t (e66_tm h) (e66_t (e66_tm (by decide)) (e66_t (e66_pl h) (e66_t (e66_tm (by decide)) (e66_pl h))))
theorem e66_ts {S : RS} : ∀ n, e66 S (rTs n S)
  | 0 => e66_r S
  | n + 1 => e66_t (e66_ts n) (e66_tn (by decide))
theorem e66_at {x n : Nat} {S : RS} : e66 S (rAt x n S) := e66_t (e66_cp (by decide)) (e66_t (e66_ts n) (e66_ad (by decide)))
theorem e66_z0 {S : RS} : e66 S (rZ0 S) := fun _ _ => ⟨rfl, rfl⟩
theorem e66_l0 {x : Nat} {S : RS} (h : 66 ≤ x) : e66 S (rL0 x S) := fun j hj => ⟨(uI_n (by omega)).trans (uI_n (by omega)), (uI_n (by omega)).trans (uI_n (by omega))⟩
theorem e66_mx {o1 o2 k : Nat} {th : Bool} {S : RS} : e66 S (rMx o1 o2 th k S) := by
  unfold rMx
  refine e66_t ?_ (e66_cp (by omega))
  have h1 : e66 S (rAt 4 o2 (rAt 2 o1 (rCp 72 0 S))) := e66_t (e66_cp (by decide)) (e66_t e66_at e66_at)
  cases th with
  | true => exact e66_t h1 (e66_th (by decide))
  | false => exact h1
theorem e66_fd {r x : Nat} {S : RS} : e66 S (rFd r x S) := by
  unfold rFd
  split
  · exact e66_ad (by decide)
  · split
    · exact e66_t (e66_tn (by decide)) (e66_ad (by decide))
    · split
      · split
        · exact e66_t (e66_t (e66_nm (by decide)) (e66_nm (by decide))) (e66_cp (by decide))
        · exact e66_t (e66_nm (by decide)) (e66_nm (by decide))
      · exact e66_ad (by decide)
theorem e66_78 {S T : RS} (h : kp78 S T) : e66 S T := fun j hj => h.1 j (by omega)
/-! the answers -/
theorem tS6_v {t : Nat → FO} {S : RS} (h : tS6 t S) : ∀ k, k < 6 → t k = vS S k := h
theorem tS6_e {t : Nat → FO} {S T : RS} (h : tS6 t S) (e : e66 S T) : tS6 t T := fun k hk => by rw [h k hk, (e k (by omega)).1, (e k (by omega)).2]
theorem Tr_0 {t : Nat → FO} {S : RS} (h : tS6 t S) : Tr (rZ0 S) [(0, t 0), (1, t 1), (2, t 2), (3, t 3), (4, t 4), (5, t 5)] := by
  refine Or.inl ⟨rfl, fun q hq => ?_⟩
  simp only [List.mem_cons, List.not_mem_nil, or_false] at hq
  rcases hq with rfl | rfl | rfl | rfl | rfl | rfl <;> exact h _ (by decide)
theorem Tr_tell {M : RS} {k : Nat} {v : FO} {j : Int} (h : (M.2.2 = 0 ∧ v = vS M k) ∨ (M.2.2 = 1 ∧ v = none)) : (if M.2.2 = 0 then (if j = 0 then M.1 k else M.2.1 k) else -2000000004) = ftell v j := by
  unfold ftell
  rcases h with ⟨h0, h1⟩ | ⟨h0, h1⟩
  · rw [if_pos h0, h1]
    exact (if_neg (show ¬ fZ (vS M k) = 1 by show ¬ (0 : Int) = 1; decide)).symm
  · rw [if_neg (by omega), h1]
    exact (if_pos (show fZ none = 1 from rfl)).symm
theorem told_n {t : Nat → FO} {S : RS} (h : tS6 t S) {p : Nat} (hp : p < 3) (j : Int) : (if (rNm 78 (2 * p) (rZ0 S)).2.2 = 0 then (if j = 0 then (rNm 78 (2 * p) (rZ0 S)).1 78 else (rNm 78 (2 * p) (rZ0 S)).2.1 78) else -2000000004) = ftell (pNm (t (2 * p)) (t (2 * p + 1))) j := by
  have a : Tr (rZ0 S) ((2 * p, t (2 * p)) :: (2 * p + 1, t (2 * p + 1)) :: []) := Or.inl ⟨rfl, fun q hq => by
    simp only [List.mem_cons, List.not_mem_nil, or_false] at hq
    rcases hq with rfl | rfl <;> exact h _ (by first | omega | (dsimp only; omega))⟩
  have b := Tr_nm (to := 78) a (by omega) (by omega) (by simp)
  refine Tr_tell ?_
  rcases b with ⟨h0, h1⟩ | ⟨h0, q, hq, hn⟩
  · exact Or.inl ⟨h0, h1 _ List.mem_cons_self⟩
  · simp only [List.mem_cons, List.not_mem_nil, or_false] at hq
    subst hq
    exact Or.inr ⟨h0, hn⟩
theorem tS6_ne {t : Nat → FO} {S : RS} (h : tS6 t S) {k : Nat} (hk : k < 6) : t k ≠ none := by rw [h k hk]; simp
def mFd (r : Nat) (S : RS) : RS := rFd r 4 (rFd r 2 (rFd r 0 (rL0 82 (rZ0 S))))
theorem Tr_fold {t : Nat → FO} {S : RS} (h : tS6 t S) (r : Nat) : Tr (mFd r S) [(82, (fdS r (fdS r (fdS r (some (0, 1)) (some (0, 1)) (t 0) (t 1)).1 (fdS r (some (0, 1)) (some (0, 1)) (t 0) (t 1)).2 (t 2) (t 3)).1 (fdS r (fdS r (some (0, 1)) (some (0, 1)) (t 0) (t 1)).1 (fdS r (some (0, 1)) (some (0, 1)) (t 0) (t 1)).2 (t 2) (t 3)).2 (t 4) (t 5)).1), (83, (fdS r (fdS r (fdS r (some (0, 1)) (some (0, 1)) (t 0) (t 1)).1 (fdS r (some (0, 1)) (some (0, 1)) (t 0) (t 1)).2 (t 2) (t 3)).1 (fdS r (fdS r (some (0, 1)) (some (0, 1)) (t 0) (t 1)).1 (fdS r (some (0, 1)) (some (0, 1)) (t 0) (t 1)).2 (t 2) (t 3)).2 (t 4) (t 5)).2), (0, t 0), (1, t 1), (2, t 2), (3, t 3), (4, t 4), (5, t 5)] := by
  have a0 : Tr (rL0 82 (rZ0 S)) ((82, some (0, 1)) :: (83, some (0, 1)) :: (0, t 0) :: (1, t 1) :: (2, t 2) :: (3, t 3) :: (4, t 4) :: (5, t 5) :: []) := Or.inl ⟨rfl, fun q hq => by
    simp only [List.mem_cons, List.not_mem_nil, or_false] at hq
    rcases hq with rfl | rfl | rfl | rfl | rfl | rfl | rfl | rfl
    · rfl
    · rfl
    all_goals exact h _ (by decide)⟩
  have a1 := Tr_fd (r := r) (x := 0) a0 (by decide) (by grind)
  have a2 := Tr_p (L' := (82, (fdS r (some (0, 1)) (some (0, 1)) (t 0) (t 1)).1) :: (83, (fdS r (some (0, 1)) (some (0, 1)) (t 0) (t 1)).2) :: (2, t 2) :: (3, t 3) :: (0, t 0) :: (1, t 1) :: (4, t 4) :: (5, t 5) :: []) a1 (by grind)
  have a3 := Tr_fd (r := r) (x := 2) a2 (by decide) (by grind)
  have a4 := Tr_p (L' := (82, (fdS r (fdS r (some (0, 1)) (some (0, 1)) (t 0) (t 1)).1 (fdS r (some (0, 1)) (some (0, 1)) (t 0) (t 1)).2 (t 2) (t 3)).1) :: (83, (fdS r (fdS r (some (0, 1)) (some (0, 1)) (t 0) (t 1)).1 (fdS r (some (0, 1)) (some (0, 1)) (t 0) (t 1)).2 (t 2) (t 3)).2) :: (4, t 4) :: (5, t 5) :: (0, t 0) :: (1, t 1) :: (2, t 2) :: (3, t 3) :: []) a3 (by grind)
  have a5 := Tr_fd (r := r) (x := 4) a4 (by decide) (by grind)
  exact Tr_p a5 (by grind)
theorem Tr_two {M : RS} {t : Nat → FO} {x y : Nat} {A B : FO} (hne : ∀ k, k < 6 → t k ≠ none) (h : Tr M [(x, A), (y, B), (0, t 0), (1, t 1), (2, t 2), (3, t 3), (4, t 4), (5, t 5)]) : (M.2.2 = 0 ∧ A = vS M x ∧ B = vS M y) ∨ (M.2.2 = 1 ∧ (A = none ∨ B = none)) := by
  rcases h with ⟨h0, h1⟩ | ⟨h0, q, hq, hn⟩
  · exact Or.inl ⟨h0, h1 (x, A) (by simp), h1 (y, B) (by simp)⟩
  · simp only [List.mem_cons, List.not_mem_nil, or_false] at hq
    rcases hq with rfl | rfl | rfl | rfl | rfl | rfl | rfl | rfl
    · exact Or.inr ⟨h0, Or.inl hn⟩
    · exact Or.inr ⟨h0, Or.inr hn⟩
    all_goals exact absurd hn (hne _ (by decide))
theorem nOv_y {v w : FO} (hv : v ≠ none) (hw : w ≠ none) : nOv v w = 0 := by
  unfold nOv
  cases v with
  | none => exact absurd rfl hv
  | some x => cases w with
    | none => exact absurd rfl hw
    | some y => rfl
theorem nOv_n {v w : FO} (h : v = none ∨ w = none) : ¬ nOv v w = 0 := by
  unfold nOv
  rw [if_neg]
  · decide
  · rintro ⟨a, b⟩
    rcases h with rfl | rfl
    · exact absurd a (by decide)
    · exact absurd b (by decide)
theorem fold_e {M : RS} {A B : FO} {w : Nat} {j : Int} (hw : w < 2) (h : (M.2.2 = 0 ∧ A = vS M 82 ∧ B = vS M 83) ∨ (M.2.2 = 1 ∧ (A = none ∨ B = none))) : (if M.2.2 = 0 then (if j = 0 then M.1 (82 + w) else M.2.1 (82 + w)) else -2000000004) = (if nOv A B = 0 then (if (w : Int) = 0 then ftell A j else ftell B j) else -2000000004) := by
  rcases h with ⟨h0, h1, h2⟩ | ⟨h0, h1⟩
  · rw [if_pos h0, if_pos (nOv_y (by rw [h1]; simp [vS]) (by rw [h2]; simp [vS])), h1, h2]
    rcases (show w = 0 ∨ w = 1 by omega) with rfl | rfl
    · rfl
    · rfl
  · rw [if_neg (by omega), if_neg (nOv_n h1)]
theorem fdS_0 (a b c d : FO) : fdS 0 a b c d = (fadd 1 a c, fadd 1 b d) := rfl
theorem fdS_1 (a b c d : FO) : fdS 1 a b c d = (fadd 1 (fneg b) c, fadd 1 (fadd (-1) a b) d) := rfl
theorem fdS_2 (a b c d : FO) : fdS 2 a b c d = (gmA a b c d, gmB a b c d) := rfl
theorem fdS_3 (a b c d : FO) : fdS 3 a b c d = (fadd (-1) a c, fadd (-1) b d) := rfl
theorem fold_0 (t : Nat → FO) : (fdS 0 (fdS 0 (fdS 0 (some (0, 1)) (some (0, 1)) (t 0) (t 1)).1 (fdS 0 (some (0, 1)) (some (0, 1)) (t 0) (t 1)).2 (t 2) (t 3)).1 (fdS 0 (fdS 0 (some (0, 1)) (some (0, 1)) (t 0) (t 1)).1 (fdS 0 (some (0, 1)) (some (0, 1)) (t 0) (t 1)).2 (t 2) (t 3)).2 (t 4) (t 5)) = (fdA t 0, fdB t 0) := by
  simp only [fdS_0]
  unfold fdA fdB
  rw [if_pos rfl, if_pos rfl]
theorem fold_1 (t : Nat → FO) : (fdS 1 (fdS 1 (fdS 1 (some (0, 1)) (some (0, 1)) (t 0) (t 1)).1 (fdS 1 (some (0, 1)) (some (0, 1)) (t 0) (t 1)).2 (t 2) (t 3)).1 (fdS 1 (fdS 1 (some (0, 1)) (some (0, 1)) (t 0) (t 1)).1 (fdS 1 (some (0, 1)) (some (0, 1)) (t 0) (t 1)).2 (t 2) (t 3)).2 (t 4) (t 5)) = (fdA t 1, fdB t 1) := by
  simp only [fdS_1]
  unfold fdA fdB
  rw [if_neg (by decide), if_pos rfl, if_neg (by decide), if_pos rfl]
theorem fold_2 (t : Nat → FO) : (fdS 2 (fdS 2 (fdS 2 (some (0, 1)) (some (0, 1)) (t 0) (t 1)).1 (fdS 2 (some (0, 1)) (some (0, 1)) (t 0) (t 1)).2 (t 2) (t 3)).1 (fdS 2 (fdS 2 (some (0, 1)) (some (0, 1)) (t 0) (t 1)).1 (fdS 2 (some (0, 1)) (some (0, 1)) (t 0) (t 1)).2 (t 2) (t 3)).2 (t 4) (t 5)) = (fdA t 2, fdB t 2) := by
  simp only [fdS_2]
  unfold fdA fdB
  rw [if_neg (by decide), if_neg (by decide), if_pos rfl, if_neg (by decide), if_neg (by decide), if_pos rfl]
theorem fold_3 (t : Nat → FO) : (fdS 3 (fdS 3 (fdS 3 (some (0, 1)) (some (0, 1)) (t 0) (t 1)).1 (fdS 3 (some (0, 1)) (some (0, 1)) (t 0) (t 1)).2 (t 2) (t 3)).1 (fdS 3 (fdS 3 (some (0, 1)) (some (0, 1)) (t 0) (t 1)).1 (fdS 3 (some (0, 1)) (some (0, 1)) (t 0) (t 1)).2 (t 2) (t 3)).2 (t 4) (t 5)) = (fdA t 3, fdB t 3) := by
  simp only [fdS_3]
  unfold fdA fdB
  rw [if_neg (by decide), if_neg (by decide), if_neg (by decide), if_neg (by decide), if_neg (by decide), if_neg (by decide)]
theorem fold_z {t : Nat → FO} {S : RS} (h : tS6 t S) {r w : Nat} (hr : r < 4) (hw : w < 2) {j : Int} (hj : 0 ≤ j ∧ j ≤ 1) : (if (mFd r S).2.2 = 0 then (if j = 0 then (mFd r S).1 (82 + w) else (mFd r S).2.1 (82 + w)) else -2000000004) = aFold t r w j := by
  have a := Tr_two (fun k hk => tS6_ne h hk) (Tr_fold h r)
  rw [fold_e hw a]
  have hc : (0 ≤ (r : Int) ∧ (r : Int) ≤ 3) ∧ (0 ≤ (w : Int) ∧ (w : Int) ≤ 1) ∧ (0 ≤ j ∧ j ≤ 1) := by omega
  unfold aFold
  rw [if_pos hc]
  rcases (show r = 0 ∨ r = 1 ∨ r = 2 ∨ r = 3 by omega) with rfl | rfl | rfl | rfl
  · rw [fold_0]; rfl
  · rw [fold_1]; rfl
  · rw [fold_2]; rfl
  · rw [fold_3]; rfl
