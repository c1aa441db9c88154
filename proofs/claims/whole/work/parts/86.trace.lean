/-! registers, traced by what the desk reckons -/
def vS (S : RS) (k : Nat) : FO := some (S.1 k, S.2.1 k)
def Tr (S : RS) (L : List (Nat × FO)) : Prop := (S.2.2 = 0 ∧ ∀ q ∈ L, q.2 = vS S q.1) ∨ (S.2.2 = 1 ∧ ∃ q ∈ L, q.2 = none)
theorem Tr_p {S : RS} {L L' : List (Nat × FO)} (h : Tr S L) (e : ∀ q, q ∈ L' ↔ q ∈ L) : Tr S L' := by
  rcases h with ⟨h0, h1⟩ | ⟨h0, q, hq, hn⟩
  · exact Or.inl ⟨h0, fun q hq => h1 q ((e q).mp hq)⟩
  · exact Or.inr ⟨h0, q, (e q).mpr hq, hn⟩
theorem fadd_none_l {k : Int} {w : FO} : fadd k none w = none := rfl
theorem fadd_none_r {k : Int} {v : FO} : fadd k v none = none := by cases v <;> rfl
theorem fmul_none_l {w : FO} : fmul none w = none := rfl
theorem fmul_none_r {v : FO} : fmul v none = none := by cases v <;> rfl
theorem Tr_md {S : RS} {to : Nat} {n d : Int} {v : FO} {L : List (Nat × FO)} (h0 : S.2.2 = 0) (hv : v = fmk n d) (h1 : ∀ q ∈ L, q.2 = vS S q.1) (hL : ∀ q ∈ L, q.1 ≠ to) : Tr (rMd to n d S) ((to, v) :: L) := by
  have hb := rBad_s n d
  have hz : (rMd to n d S).2.2 = rBad n d := by
    show (if S.2.2 = 0 then rBad n d else 1) = _
    rw [if_pos h0]
  by_cases c : -1000000000 ≤ n / gd n d ∧ n / gd n d ≤ 1000000000 ∧ d / gd n d ≤ 1000000000
  · refine Or.inl ⟨hz.trans (hb.2.mpr c), fun q hq => ?_⟩
    rcases List.mem_cons.mp hq with rfl | hq
    · show v = vS _ to
      rw [hv, fmk_some c]
      unfold vS
      rw [rMd_t.1, rMd_t.2]
    · rw [h1 q hq]
      unfold vS
      rw [(rMd_n (hL q hq)).1, (rMd_n (hL q hq)).2]
  · refine Or.inr ⟨?_, (to, v), List.mem_cons_self, hv.trans (fmk_none c)⟩
    rw [hz]
    rcases hb.1 with q | q
    · exact absurd (hb.2.mp q) c
    · exact q
theorem Tr_pl {S : RS} {to x y : Nat} {k : Int} {v w : FO} {L : List (Nat × FO)} (h : Tr S ((x, v) :: (y, w) :: L)) (hL : ∀ q ∈ L, q.1 ≠ to) : Tr (rPl to x y k S) ((to, fadd k v w) :: L) := by
  rcases h with ⟨h0, h1⟩ | ⟨h0, q, hq, hn⟩
  · rw [rPl_0 h0]
    have ev : v = vS S x := h1 (x, v) List.mem_cons_self
    have ew : w = vS S y := h1 (y, w) (List.mem_cons_of_mem _ List.mem_cons_self)
    exact Tr_md h0 (by rw [ev, ew]; rfl) (fun q hq => h1 q (List.mem_cons_of_mem _ (List.mem_cons_of_mem _ hq))) hL
  · rw [rPl_1 (by omega)]
    rcases List.mem_cons.mp hq with rfl | hq
    · exact Or.inr ⟨h0, _, List.mem_cons_self, by dsimp only at hn ⊢; rw [hn]; rfl⟩
    · rcases List.mem_cons.mp hq with rfl | hq
      · exact Or.inr ⟨h0, _, List.mem_cons_self, by dsimp only at hn ⊢; rw [hn, fadd_none_r]⟩
      · exact Or.inr ⟨h0, q, List.mem_cons_of_mem _ hq, hn⟩
theorem Tr_tm {S : RS} {to x y : Nat} {v w : FO} {L : List (Nat × FO)} (h : Tr S ((x, v) :: (y, w) :: L)) (hL : ∀ q ∈ L, q.1 ≠ to) : Tr (rTm to x y S) ((to, fmul v w) :: L) := by
  rcases h with ⟨h0, h1⟩ | ⟨h0, q, hq, hn⟩
  · rw [rTm_0 h0]
    have ev : v = vS S x := h1 (x, v) List.mem_cons_self
    have ew : w = vS S y := h1 (y, w) (List.mem_cons_of_mem _ List.mem_cons_self)
    exact Tr_md h0 (by rw [ev, ew]; rfl) (fun q hq => h1 q (List.mem_cons_of_mem _ (List.mem_cons_of_mem _ hq))) hL
  · rw [rTm_1 (by omega)]
    rcases List.mem_cons.mp hq with rfl | hq
    · exact Or.inr ⟨h0, _, List.mem_cons_self, by dsimp only at hn ⊢; rw [hn]; rfl⟩
    · rcases List.mem_cons.mp hq with rfl | hq
      · exact Or.inr ⟨h0, _, List.mem_cons_self, by dsimp only at hn ⊢; rw [hn, fmul_none_r]⟩
      · exact Or.inr ⟨h0, q, List.mem_cons_of_mem _ hq, hn⟩
theorem Tr_nm {S : RS} {to x : Nat} {v w : FO} {R : List (Nat × FO)} (h : Tr S ((x, v) :: (x + 1, w) :: R)) (hto : to ≠ 76 ∧ to ≠ x ∧ to ≠ x + 1) (hx : x ≠ 76 ∧ x + 1 ≠ 76) (hR : ∀ q ∈ R, q.1 ≠ to ∧ q.1 ≠ 76) : Tr (rNm to x S) ((to, pNm v w) :: R) := by
  have a1 : Tr S ((x, v) :: (x, v) :: (x, v) :: (x + 1, w) :: R) := Tr_p h (by grind)
  have a2 := Tr_tm (to := to) a1 (by grind)
  have a3 : Tr (rTm to x x S) ((x, v) :: (x + 1, w) :: (to, fmul v v) :: (x + 1, w) :: R) := Tr_p a2 (by grind)
  have a4 := Tr_tm (to := 76) a3 (by grind)
  have a5 : Tr (rTm 76 x (x + 1) (rTm to x x S)) ((to, fmul v v) :: (76, fmul v w) :: (x + 1, w) :: R) := Tr_p a4 (by grind)
  have a6 := Tr_pl (to := to) (k := -1) a5 (by grind)
  have a7 : Tr (rPl to to 76 (-1) (rTm 76 x (x + 1) (rTm to x x S))) ((x + 1, w) :: (x + 1, w) :: (to, fadd (-1) (fmul v v) (fmul v w)) :: R) := Tr_p a6 (by grind)
  have a8 := Tr_tm (to := 76) a7 (by grind)
  have a9 : Tr (rTm 76 (x + 1) (x + 1) (rPl to to 76 (-1) (rTm 76 x (x + 1) (rTm to x x S)))) ((to, fadd (-1) (fmul v v) (fmul v w)) :: (76, fmul w w) :: R) := Tr_p a8 (by grind)
  exact Tr_pl (to := to) (k := 1) a9 (by grind)
theorem Tr_ad {S : RS} {to x : Nat} {k : Int} {a b c d : FO} {R : List (Nat × FO)} (h : Tr S ((to, a) :: (to + 1, b) :: (x, c) :: (x + 1, d) :: R)) (hx : x ≠ to ∧ x + 1 ≠ to ∧ x ≠ to + 1) (hR : ∀ q ∈ R, q.1 ≠ to ∧ q.1 ≠ to + 1) : Tr (rAd to x k S) ((to, fadd k a c) :: (to + 1, fadd k b d) :: R) := by
  have a1 : Tr S ((to, a) :: (x, c) :: (to + 1, b) :: (x + 1, d) :: R) := Tr_p h (by grind)
  have a2 := Tr_pl (to := to) (k := k) a1 (by grind)
  have a3 : Tr (rPl to to x k S) ((to + 1, b) :: (x + 1, d) :: (to, fadd k a c) :: R) := Tr_p a2 (by grind)
  have a4 := Tr_pl (to := to + 1) (k := k) a3 (by grind)
  exact Tr_p a4 (by grind)
theorem Tr_cp {S : RS} {to x : Nat} {c d : FO} {R : List (Nat × FO)} (h : Tr S ((x, c) :: (x + 1, d) :: R)) (hx : x + 1 ≠ to) (hR : ∀ q ∈ R, q.1 ≠ to ∧ q.1 ≠ to + 1) : Tr (rCp to x S) ((to, c) :: (to + 1, d) :: R) := by
  rcases h with ⟨h0, h1⟩ | ⟨h0, q, hq, hn⟩
  · refine Or.inl ⟨h0, fun q hq => ?_⟩
    rcases List.mem_cons.mp hq with rfl | hq
    · rw [show c = vS S x from h1 (x, c) List.mem_cons_self]
      show vS S x = some (cp2 S.1 to x to, cp2 S.2.1 to x to)
      rw [cp2_0, cp2_0]; rfl
    · rcases List.mem_cons.mp hq with rfl | hq
      · rw [show d = vS S (x + 1) from h1 (x + 1, d) (List.mem_cons_of_mem _ List.mem_cons_self)]
        show vS S (x + 1) = some (cp2 S.1 to x (to + 1), cp2 S.2.1 to x (to + 1))
        rw [cp2_1 hx, cp2_1 hx]; rfl
      · rw [h1 q (List.mem_cons_of_mem _ (List.mem_cons_of_mem _ hq))]
        show vS S q.1 = some (cp2 S.1 to x q.1, cp2 S.2.1 to x q.1)
        rw [cp2_n (hR q hq).1 (hR q hq).2, cp2_n (hR q hq).1 (hR q hq).2]; rfl
  · refine Or.inr ⟨h0, ?_⟩
    rcases List.mem_cons.mp hq with rfl | hq
    · exact ⟨(to, c), List.mem_cons_self, hn⟩
    · rcases List.mem_cons.mp hq with rfl | hq
      · exact ⟨(to + 1, d), List.mem_cons_of_mem _ List.mem_cons_self, hn⟩
      · exact ⟨q, List.mem_cons_of_mem _ (List.mem_cons_of_mem _ hq), hn⟩
theorem fneg_none : fneg none = none := rfl
theorem Tr_tn {S : RS} {x : Nat} {c d : FO} {R : List (Nat × FO)} (h : Tr S ((x, c) :: (x + 1, d) :: R)) (hR : ∀ q ∈ R, q.1 ≠ x ∧ q.1 ≠ x + 1) : Tr (rTn x S) ((x, fneg d) :: (x + 1, fadd (-1) c d) :: R) := by
  rcases h with ⟨h0, h1⟩ | ⟨h0, q, hq, hn⟩
  · have a1 : Tr S ((x, c) :: (x + 1, d) :: R) := Or.inl ⟨h0, h1⟩
    have a2 := Tr_pl (to := x + 1) (k := -1) a1 (by grind)
    have ed : d = vS S (x + 1) := h1 (x + 1, d) (List.mem_cons_of_mem _ List.mem_cons_self)
    rw [rTn_0 h0]
    rcases a2 with ⟨b0, b1⟩ | ⟨b0, q, hq, hn⟩
    · refine Or.inl ⟨b0, fun q hq => ?_⟩
      rcases List.mem_cons.mp hq with rfl | hq
      · rw [ed]
        show fneg (vS S (x + 1)) = some (uI _ x _ x, uI _ x _ x)
        rw [uI_s, uI_s]; rfl
      · have b2 := b1 q hq
        have b3 : q.1 ≠ x := by grind
        rw [b2]
        show vS _ q.1 = some (uI _ x _ q.1, uI _ x _ q.1)
        rw [uI_n b3, uI_n b3]; rfl
    · exact Or.inr ⟨b0, q, List.mem_cons_of_mem _ hq, hn⟩
  · rw [rTn_1 (by omega)]
    refine Or.inr ⟨h0, ?_⟩
    rcases List.mem_cons.mp hq with rfl | hq
    · exact ⟨(x + 1, fadd (-1) c d), List.mem_cons_of_mem _ List.mem_cons_self, by dsimp only at hn ⊢; rw [hn]; rfl⟩
    · rcases List.mem_cons.mp hq with rfl | hq
      · exact ⟨(x, fneg d), List.mem_cons_self, by dsimp only at hn ⊢; rw [hn]; rfl⟩
      · exact ⟨q, List.mem_cons_of_mem _ (List.mem_cons_of_mem _ hq), hn⟩
theorem fthird_m (v : FO) : fmul v (some (1, 3)) = fthird v := by
  cases v with
  | none => rfl
  | some x =>
    show fmk (x.1 * 1) (x.2 * 3) = fmk x.1 (x.2 * 3)
    rw [Int.mul_one]
theorem Tr_th {S : RS} {to : Nat} {c d : FO} {R : List (Nat × FO)} (h : Tr S ((to, c) :: (to + 1, d) :: R)) (ht : to ≠ 74 ∧ to + 1 ≠ 74) (hR : ∀ q ∈ R, q.1 ≠ to ∧ q.1 ≠ to + 1 ∧ q.1 ≠ 74) : Tr (rTh to S) ((to, fthird c) :: (to + 1, fthird d) :: R) := by
  have a0 : Tr (rT3 S) ((74, some (1, 3)) :: (to, c) :: (to + 1, d) :: R) := by
    rcases h with ⟨h0, h1⟩ | ⟨h0, q, hq, hn⟩
    · refine Or.inl ⟨h0, fun q hq => ?_⟩
      rcases List.mem_cons.mp hq with rfl | hq
      · show some (1, 3) = some (uI S.1 74 1 74, uI S.2.1 74 3 74)
        rw [uI_s, uI_s]
      · have b3 : q.1 ≠ 74 := by grind
        rw [h1 q hq]
        show vS S q.1 = some (uI _ 74 _ q.1, uI _ 74 _ q.1)
        rw [uI_n b3, uI_n b3]; rfl
    · exact Or.inr ⟨h0, q, List.mem_cons_of_mem _ hq, hn⟩
  have a1 : Tr (rT3 S) ((to, c) :: (74, some (1, 3)) :: (74, some (1, 3)) :: (to + 1, d) :: R) := Tr_p a0 (by grind)
  have a2 := Tr_tm (to := to) a1 (by grind)
  have a3 : Tr (rTm to to 74 (rT3 S)) ((to + 1, d) :: (74, some (1, 3)) :: (to, fmul c (some (1, 3))) :: R) := Tr_p a2 (by grind)
  have a4 := Tr_tm (to := to + 1) a3 (by grind)
  have a5 := Tr_p (L' := (to, fmul c (some (1, 3))) :: (to + 1, fmul d (some (1, 3))) :: R) a4 (by grind)
  rw [fthird_m, fthird_m] at a5
  exact a5
theorem Tr_ts {S : RS} {R : List (Nat × FO)} (hR : ∀ q ∈ R, q.1 ≠ 74 ∧ q.1 ≠ 75) : ∀ (n : Nat) (c d : FO), Tr S ((74, c) :: (75, d) :: R) → Tr (rTs n S) ((74, (rotN n (c, d)).1) :: (75, (rotN n (c, d)).2) :: R) := by
  intro n
  have key : ∀ (n : Nat) (p : FO × FO), rotN (n + 1) p = (fneg (rotN n p).2, fadd (-1) (rotN n p).1 (rotN n p).2) := by
    intro n
    induction n with
    | zero => intro p; rfl
    | succ n ih => intro p; rw [rotN, ih]; rfl
  induction n with
  | zero => intro c d h; exact h
  | succ n ih =>
    intro c d h
    have h1 := Tr_tn (x := 74) (ih c d h) hR
    rw [key]
    exact h1
theorem Tr_at {S : RS} {x n : Nat} {a b c d : FO} {R : List (Nat × FO)} (h : Tr S ((72, a) :: (73, b) :: (x, c) :: (x + 1, d) :: R)) (hx : x < 71) (hR : ∀ q ∈ R, q.1 < 72) : Tr (rAt x n S) ((72, fadd 1 a (rotN n (c, d)).1) :: (73, fadd 1 b (rotN n (c, d)).2) :: (x, c) :: (x + 1, d) :: R) := by
  have a1 : Tr S ((x, c) :: (x + 1, d) :: (72, a) :: (73, b) :: (x, c) :: (x + 1, d) :: R) := Tr_p h (by grind)
  have a2 := Tr_cp (to := 74) a1 (by omega) (by grind)
  have a3 := Tr_ts (by grind) n c d a2
  have a4 := Tr_p (L' := (72, a) :: (73, b) :: (74, (rotN n (c, d)).1) :: (75, (rotN n (c, d)).2) :: (x, c) :: (x + 1, d) :: R) a3 (by grind)
  exact Tr_ad (to := 72) (x := 74) (k := 1) a4 (by decide) (by grind)
theorem Tr_mx {S : RS} {o1 o2 k : Nat} {th : Bool} {t : Nat → FO} {R : List (Nat × FO)} (hk : k < 3) (h : Tr S ((0, t 0) :: (1, t 1) :: (2, t 2) :: (3, t 3) :: (4, t 4) :: (5, t 5) :: R)) (hR : ∀ q ∈ R, q.1 < 66 + 2 * k ∨ (66 + 2 * k + 1 < q.1 ∧ q.1 < 72)) : Tr (rMx o1 o2 th k S) ((0, t 0) :: (1, t 1) :: (2, t 2) :: (3, t 3) :: (4, t 4) :: (5, t 5) :: (66 + 2 * k, if th then fthird (cmb t o1 o2).1 else (cmb t o1 o2).1) :: (66 + 2 * k + 1, if th then fthird (cmb t o1 o2).2 else (cmb t o1 o2).2) :: R) := by
  have a1 : Tr S ((0, t 0) :: (1, t 1) :: (0, t 0) :: (1, t 1) :: (2, t 2) :: (3, t 3) :: (4, t 4) :: (5, t 5) :: R) := Tr_p h (by grind)
  have a2 := Tr_cp (to := 72) a1 (by decide) (by grind)
  have a3 := Tr_p (L' := (72, t 0) :: (73, t 1) :: (2, t 2) :: (3, t 3) :: (0, t 0) :: (1, t 1) :: (4, t 4) :: (5, t 5) :: R) a2 (by grind)
  have a4 := Tr_at (n := o1) a3 (by decide) (by grind)
  have a5 := Tr_p (L' := (72, fadd 1 (t 0) (rotN o1 (t 2, t 3)).1) :: (73, fadd 1 (t 1) (rotN o1 (t 2, t 3)).2) :: (4, t 4) :: (5, t 5) :: (2, t 2) :: (3, t 3) :: (0, t 0) :: (1, t 1) :: R) a4 (by grind)
  have a6 := Tr_at (n := o2) a5 (by decide) (by grind)
  have a7 : Tr (if th then rTh 72 (rAt 4 o2 (rAt 2 o1 (rCp 72 0 S))) else rAt 4 o2 (rAt 2 o1 (rCp 72 0 S))) ((72, if th then fthird (cmb t o1 o2).1 else (cmb t o1 o2).1) :: (73, if th then fthird (cmb t o1 o2).2 else (cmb t o1 o2).2) :: (4, t 4) :: (5, t 5) :: (2, t 2) :: (3, t 3) :: (0, t 0) :: (1, t 1) :: R) := by
    cases th with
    | true => exact Tr_th (to := 72) a6 (by decide) (by grind)
    | false => exact a6
  have a8 := Tr_cp (to := 66 + 2 * k) a7 (by omega) (by grind)
  exact Tr_p a8 (by grind)
