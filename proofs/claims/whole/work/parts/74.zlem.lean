def bt9 (n s : Int) (k : Nat) : Nat := if n < s then 2 ^ k else 0
theorem bt9_y {n s : Int} {k : Nat} (h : n < s) : ((2 ^ k : Nat) : Int) = ((bt9 n s k : Nat) : Int) := by unfold bt9; rw [if_pos h]
theorem bt9_n {n s : Int} {k : Nat} (h : ¬ n < s) : (0 : Int) = ((bt9 n s k : Nat) : Int) := by unfold bt9; rw [if_neg h]; rfl
theorem bt9_lt {n s : Int} {k : Nat} (h : k < 6) : bt9 n s k < 64 := by
  unfold bt9; split
  · exact p2_lt h
  · decide
theorem or_ii (a b : Nat) : a ||| b ||| b = a ||| b := by rw [Nat.or_assoc, Nat.or_self]
theorem sg3 {p : Nat → Int} {a k : Nat} {n0 n1 n2 s : Int} (ha : a = sgB p k) (hp : p k = (if min n0 (min n1 n2) * 10000 < s then 1 else 0)) : ((a ||| bt9 (n0 * 10000) s k) ||| bt9 (n1 * 10000) s k) ||| bt9 (n2 * 10000) s k = sgB p (k + 1) := by
  by_cases h : min n0 (min n1 n2) * 10000 < s
  · rw [if_pos h] at hp
    rw [sgB_y hp, ← ha]
    unfold bt9
    by_cases h0 : n0 * 10000 < s <;> by_cases h1 : n1 * 10000 < s <;> by_cases h2 : n2 * 10000 < s <;> simp only [h0, h1, h2, if_true, if_false, Nat.or_zero, or_ii]
    omega
  · rw [if_neg h] at hp
    rw [sgB_n (by rw [hp]; decide), ← ha]
    unfold bt9
    rw [if_neg (by omega), if_neg (by omega), if_neg (by omega), Nat.or_zero, Nat.or_zero, Nat.or_zero]
theorem sgI_m {v : Int} {h o : Nat → Int} {s : Int} {i : Nat} {f p : Int} {a : Nat} (hh : ∀ i : Nat, 1 ≤ i → i < 6 → 0 ≤ h i ∧ h i < i) (hi : i < 6) (ha : a < 6) {w : Nat → Int} (hw : wq w (vP0 v h o s i f (zM h 12 i a)) (vP1 v h o s i f (zM h 12 i a)) (vP2 v h o s i f (zM h 12 i a))) : sgI v h o s i f p a = (if min (wN w 0) (min (wN w 1) (wN w 2)) * 10000 < v * v * p * p * cB h o s i f * cB h o s i f then 1 else 0) := by
  obtain ⟨h0, h1, h2⟩ := wq_N hw
  unfold sgI
  rw [zM_comm hh 12 a i ha hi (by omega), h0, h1, h2]
section
variable {v : Int} {b : Nat} {h o k : Nat → Int} {s i f p : Int}
theorem aSag_1 (hn : ¬ (0 ≤ i ∧ i ≤ (b : Int) - 1)) : aSag v b h o s i f p = -2000000001 := by
  have h1 := aAsk_u (v := v) (b := b) (h := h) (o := o) (s := s) (i := i) (f := f) (z := oU p 0 100) hn
  unfold aSag; rw [if_neg (by rw [h1]; decide), h1]
theorem aSag_2 (hi : 0 ≤ i ∧ i ≤ (b : Int) - 1) (ho : ¬ (((0 ≤ s ∧ s ≤ 3) ∧ (0 ≤ f ∧ f ≤ 9)) ∧ (0 ≤ p ∧ p ≤ 100))) : aSag v b h o s i f p = -2000000002 := by
  have h1 := aAsk_o (v := v) (b := b) (h := h) (o := o) (s := s) (i := i) (f := f) (z := oU p 0 100) hi (fun q => ho ⟨q.1, (oU_s p 0 100).2.mp q.2⟩)
  unfold aSag; rw [if_neg (by rw [h1]; decide), h1]
theorem aSag_3 (hi : 0 ≤ i ∧ i ≤ (b : Int) - 1) (ho : ((0 ≤ s ∧ s ≤ 3) ∧ (0 ≤ f ∧ f ≤ 9)) ∧ (0 ≤ p ∧ p ≤ 100)) (hc : ¬ 0 < cB h o s i.toNat f) : aSag v b h o s i f p = -2000000003 := by
  have h1 := aAsk_n (v := v) (b := b) (h := h) (o := o) (s := s) (i := i) (f := f) (z := oU p 0 100) hi ho.1 ((oU_s p 0 100).2.mpr ho.2) hc
  unfold aSag; rw [if_neg (by rw [h1]; decide), h1]
theorem aSag_4 (hi : 0 ≤ i ∧ i ≤ (b : Int) - 1) (ho : ((0 ≤ s ∧ s ≤ 3) ∧ (0 ≤ f ∧ f ≤ 9)) ∧ (0 ≤ p ∧ p ≤ 100)) (hc : 0 < cB h o s i.toNat f) : aSag v b h o s i f p = (sgB (sgI v h o s i.toNat f p) b : Int) := by
  have h1 := aAsk_k (v := v) (b := b) (h := h) (o := o) (s := s) (i := i) (f := f) (z := oU p 0 100) hi ho.1 ((oU_s p 0 100).2.mpr ho.2) hc
  unfold aSag; rw [if_pos h1]
theorem aTrp_1 (hn : ¬ (0 ≤ i ∧ i ≤ (b : Int) - 1)) : aTrp v b h o k s i f = -2000000001 := by
  have h1 := aAsk_u (v := v) (b := b) (h := h) (o := o) (s := s) (i := i) (f := f) (z := 0) hn
  unfold aTrp; rw [if_neg (by rw [h1]; decide), h1]
theorem aTrp_2 (hi : 0 ≤ i ∧ i ≤ (b : Int) - 1) (ho : ¬ ((0 ≤ s ∧ s ≤ 3) ∧ (0 ≤ f ∧ f ≤ 9))) : aTrp v b h o k s i f = -2000000002 := by
  have h1 := aAsk_o (v := v) (b := b) (h := h) (o := o) (s := s) (i := i) (f := f) (z := 0) hi (fun q => ho q.1)
  unfold aTrp; rw [if_neg (by rw [h1]; decide), h1]
theorem aTrp_3 (hi : 0 ≤ i ∧ i ≤ (b : Int) - 1) (ho : (0 ≤ s ∧ s ≤ 3) ∧ (0 ≤ f ∧ f ≤ 9)) (hc : ¬ 0 < cB h o s i.toNat f) : aTrp v b h o k s i f = -2000000003 := by
  have h1 := aAsk_n (v := v) (b := b) (h := h) (o := o) (s := s) (i := i) (f := f) (z := 0) hi ho rfl hc
  unfold aTrp; rw [if_neg (by rw [h1]; decide), h1]
theorem aTrp_4 (hi : 0 ≤ i ∧ i ≤ (b : Int) - 1) (ho : (0 ≤ s ∧ s ≤ 3) ∧ (0 ≤ f ∧ f ≤ 9)) (hc : 0 < cB h o s i.toNat f) : aTrp v b h o k s i f = (trB h (trI v h o k s i.toNat f) 6 i.toNat 0 : Int) := by
  have h1 := aAsk_k (v := v) (b := b) (h := h) (o := o) (s := s) (i := i) (f := f) (z := 0) hi ho rfl hc
  unfold aTrp; rw [if_pos h1]
end
theorem gn_e {v : Int} {h o : Nat → Int} {s : Int} {i : Nat} {f : Int} {w : Nat → Int} (hw : wq w (cP0 v h o s i f) (cP1 v h o s i f) (cP2 v h o s i f)) (hn : ∀ k, k < 3 → 0 ≤ wN w k ∧ wN w k ≤ 243000000000000) : mx9 (mx9 (mx9 0 (wN w 0)) (wN w 1)) (wN w 2) = gNm v h o s i f := by
  obtain ⟨h0, h1, h2⟩ := wq_N hw
  have n0 := hn 0 (by decide)
  unfold gNm
  rw [← h0, ← h1, ← h2]
  unfold mx9
  by_cases a : 0 < wN w 0
  · rw [if_pos a]; split <;> split <;> omega
  · rw [if_neg a]; split <;> split <;> omega
theorem gn_h {w : Nat → Int} (hn : ∀ k, k < 3 → 0 ≤ wN w k ∧ wN w k ≤ 243000000000000) : ∀ k, k < 3 → 0 ≤ wN w k ∧ wN w k ≤ 4000000000000000000 := fun k hk => ⟨(hn k hk).1, Int.le_trans (hn k hk).2 (by decide)⟩
theorem sq4 (a c : Int) : (a * c) * (a * c) = a * a * c * c := by
  rw [Int.mul_assoc, Int.mul_left_comm c a c, ← Int.mul_assoc, ← Int.mul_assoc]
def bt8 (z : Int) (k : Nat) : Nat := if z = 1 then 2 ^ k else 0
theorem bt8_y {z : Int} {k : Nat} (h : z = 1) : ((2 ^ k : Nat) : Int) = ((bt8 z k : Nat) : Int) := by unfold bt8; rw [if_pos h]
theorem bt8_n {z : Int} {k : Nat} (h : ¬ z = 1) : (0 : Int) = ((bt8 z k : Nat) : Int) := by unfold bt8; rw [if_neg h]; rfl
theorem bt8_lt {z : Int} {k : Nat} (h : k < 6) : bt8 z k < 64 := by
  unfold bt8; split
  · exact p2_lt h
  · decide
theorem trB_m {h p : Nat → Int} {n w a : Nat} (hn : 1 ≤ n) (hw : 1 ≤ w) : trB h p n w a = trB h p (n - 1) (h w).toNat (a ||| bt8 (p w) w) := by
  by_cases q : p w = 1
  · rw [trB_y hn hw q]; unfold bt8; rw [if_pos q]
  · rw [trB_n hn hw q]; unfold bt8; rw [if_neg q, Nat.or_zero]
theorem trI_s {v : Int} {h o k : Nat → Int} {s : Int} {i : Nat} {f : Int} {w : Nat} : (0 < k w → k w * k w * cB h o s i f * cB h o s i f < gNm v h o s i f → trI v h o k s i f w = 1) ∧ (¬ 0 < k w → ¬ trI v h o k s i f w = 1) ∧ (¬ k w * k w * cB h o s i f * cB h o s i f < gNm v h o s i f → ¬ trI v h o k s i f w = 1) := by
  unfold trI
  refine ⟨fun a b => if_pos ⟨a, b⟩, fun a => ?_, fun a => ?_⟩
  · rw [if_neg (fun q => a q.1)]; decide
  · rw [if_neg (fun q => a q.2)]; decide
theorem fr_eq {x d A B : Int} (hd : 1 ≤ d) (hB : 1 ≤ B) (hg : A.gcd B = 1) : x * B = A * d ↔ (x / gd x d = A ∧ d / gd x d = B) := by
  have hp := gd_pos x d
  have e1 : x / gd x d * gd x d = x := Int.ediv_mul_cancel (gd_dvd_l (by omega))
  have e2 : d / gd x d * gd x d = d := Int.ediv_mul_cancel (gd_dvd_r (by omega))
  constructor
  · intro h
    have hc : ((x / gd x d).gcd (d / gd x d)) = 1 := by
      rw [gd_eq (by omega)]
      exact Int.gcd_ediv_gcd_ediv_gcd (by rcases Nat.eq_zero_or_pos (x.gcd d) with q | q; exact absurd (Int.eq_zero_of_gcd_eq_zero_right q) (by omega); exact q)
    have hD : 1 ≤ d / gd x d := (div_bd1 hp hd (gd_dvd_r (x := x) (y := d) (by omega))).1
    generalize x / gd x d = X at *
    generalize d / gd x d = D at *
    have h1 : X * B = A * D := by
      have : X * B * gd x d = A * D * gd x d := by
        rw [Int.mul_right_comm, e1, Int.mul_assoc, e2, h]
      exact Int.eq_of_mul_eq_mul_right (by omega) this
    have d1 : D ∣ B := by
      have q : D ∣ X * B := ⟨A, by rw [h1, Int.mul_comm]⟩
      have q2 := Int.dvd_gcd_mul_iff_dvd_mul.mpr q
      rw [Int.gcd_comm, hc] at q2
      simpa using q2
    have d2 : B ∣ D := by
      have q : B ∣ A * D := ⟨X, by rw [← h1, Int.mul_comm]⟩
      have q2 := Int.dvd_gcd_mul_iff_dvd_mul.mpr q
      rw [Int.gcd_comm, hg] at q2
      simpa using q2
    have l1 := Int.le_of_dvd (by omega) d1
    have l2 := Int.le_of_dvd (by omega) d2
    have hDB : D = B := by omega
    subst hDB
    exact ⟨Int.eq_of_mul_eq_mul_right (by omega) h1, rfl⟩
  · rintro ⟨rfl, rfl⟩
    have : x * (d / gd x d) * gd x d = (x / gd x d) * d * gd x d := by
      rw [Int.mul_assoc, e2, Int.mul_right_comm, e1]
    exact Int.eq_of_mul_eq_mul_right (by omega) this
def tS6 (t : Nat → FO) (S : RS) : Prop := ∀ k, k < 6 → t k = some (S.1 k, S.2.1 k)
theorem tS6_k {t : Nat → FO} {S T : RS} (h : tS6 t S) (hT : kp78 S T) : tS6 t T := fun k hk => by rw [h k hk, (hT.1 k (by omega)).1, (hT.1 k (by omega)).2]
theorem tS6_rk {t : Nat → FO} {S : RS} (h : tS6 t S) (ht : ∀ k, fok (t k)) : ∀ k, k < 6 → rk S k := fun k hk => by
  have h1 := ht k
  rw [h k hk, fok_some] at h1
  exact ⟨h1.1, h1.2.1, h1.2.2.1, h1.2.2.2.1⟩
theorem isF_e {t : Nat → FO} {S : RS} {k : Nat} {x d : Int} (h : tS6 t S) (ht : ∀ k, fok (t k)) (hk : k < 6) (hd : 1 ≤ d) : isF x (t k) d = 1 ↔ (x / gd x d = S.1 k ∧ d / gd x d = S.2.1 k) := by
  have h1 := ht k
  rw [h k hk, fok_some] at h1
  rw [h k hk, ← fr_eq hd h1.2.2.1 h1.2.2.2.2]
  unfold isF fA fB
  dsimp only
  split
  · rename_i q; exact ⟨fun _ => q, fun _ => rfl⟩
  · rename_i q; exact ⟨fun r => absurd r (by decide), fun r => absurd r q⟩
theorem mHit_e {v : Int} {h o : Nat → Int} {t : Nat → FO} {s i f : Nat} {S : RS} {w : Nat → Int} (hS : tS6 t S) (ht : ∀ k, fok (t k)) (hw : wq w (cP0 v h o (s : Int) i (f : Int)) (cP1 v h o (s : Int) i (f : Int)) (cP2 v h o (s : Int) i (f : Int))) (hd : 0 ≤ cB h o (s : Int) i (f : Int)) : mEqN S w (cB h o (s : Int) i (f : Int)) 6 = mHit v h o t s i f := by
  have e0 := mEqN_s S w (cB h o (s : Int) i (f : Int)) 0
  have e1 := mEqN_s S w (cB h o (s : Int) i (f : Int)) 1
  have e2 := mEqN_s S w (cB h o (s : Int) i (f : Int)) 2
  have e3 := mEqN_s S w (cB h o (s : Int) i (f : Int)) 3
  have e4 := mEqN_s S w (cB h o (s : Int) i (f : Int)) 4
  have e5 := mEqN_s S w (cB h o (s : Int) i (f : Int)) 5
  have e6 := mEqN_01 S w (cB h o (s : Int) i (f : Int)) 6
  have ez : mEqN S w (cB h o (s : Int) i (f : Int)) 0 = 1 ↔ cB h o (s : Int) i (f : Int) ≠ 0 := by
    rw [mEqN]; split <;> simp_all
  by_cases hc : 0 < cB h o (s : Int) i (f : Int)
  · obtain ⟨h0, h1, h2, h3, h4, h5⟩ := hw
    have i0 := isF_e (k := 0) (x := w 0) (d := cB h o (s : Int) i (f : Int)) hS ht (by decide) (by omega)
    have i1 := isF_e (k := 1) (x := w 1) (d := cB h o (s : Int) i (f : Int)) hS ht (by decide) (by omega)
    have i2 := isF_e (k := 2) (x := w 2) (d := cB h o (s : Int) i (f : Int)) hS ht (by decide) (by omega)
    have i3 := isF_e (k := 3) (x := w 3) (d := cB h o (s : Int) i (f : Int)) hS ht (by decide) (by omega)
    have i4 := isF_e (k := 4) (x := w 4) (d := cB h o (s : Int) i (f : Int)) hS ht (by decide) (by omega)
    have i5 := isF_e (k := 5) (x := w 5) (d := cB h o (s : Int) i (f : Int)) hS ht (by decide) (by omega)
    by_cases hq : flEq (cP0 v h o (s : Int) i (f : Int)) (cP1 v h o (s : Int) i (f : Int)) (cP2 v h o (s : Int) i (f : Int)) (cB h o (s : Int) i (f : Int)) t = 1
    · rw [mHit_y hc hq]
      have hq2 : isF (w 0) (t 0) (cB h o (s : Int) i (f : Int)) = 1 ∧ isF (w 1) (t 1) (cB h o (s : Int) i (f : Int)) = 1 ∧ isF (w 2) (t 2) (cB h o (s : Int) i (f : Int)) = 1 ∧ isF (w 3) (t 3) (cB h o (s : Int) i (f : Int)) = 1 ∧ isF (w 4) (t 4) (cB h o (s : Int) i (f : Int)) = 1 ∧ isF (w 5) (t 5) (cB h o (s : Int) i (f : Int)) = 1 := by
        rw [h0, h1, h2, h3, h4, h5]
        unfold flEq at hq
        split at hq
        · assumption
        · exact absurd hq (by decide)
      obtain ⟨q0, q1, q2, q3, q4, q5⟩ := hq2
      exact e5.mpr ⟨e4.mpr ⟨e3.mpr ⟨e2.mpr ⟨e1.mpr ⟨e0.mpr ⟨ez.mpr (by omega), i0.mp q0⟩, i1.mp q1⟩, i2.mp q2⟩, i3.mp q3⟩, i4.mp q4⟩, i5.mp q5⟩
    · have hn := mHit_m hq
      have hz : mHit v h o t s i f = 0 := by
        unfold mHit at hn ⊢
        split
        · rename_i q; rw [if_pos q] at hn; exact absurd rfl hn
        · rfl
      rw [hz]
      rcases e6 with q | q
      · exact q
      · exfalso
        obtain ⟨q4, r5⟩ := e5.mp q
        obtain ⟨q3, r4⟩ := e4.mp q4
        obtain ⟨q2, r3⟩ := e3.mp q3
        obtain ⟨q1, r2⟩ := e2.mp q2
        obtain ⟨q0, r1⟩ := e1.mp q1
        obtain ⟨_, r0⟩ := e0.mp q0
        apply hq
        unfold flEq
        rw [← h0, ← h1, ← h2, ← h3, ← h4, ← h5]
        exact if_pos ⟨i0.mpr r0, i1.mpr r1, i2.mpr r2, i3.mpr r3, i4.mpr r4, i5.mpr r5⟩
  · have hz : mHit v h o t s i f = 0 := by
      unfold mHit
      rw [if_neg (fun q => hc q.1)]
    rw [hz]
    rcases e6 with q | q
    · exact q
    · exact absurd (mEqN_d 6 q) (by omega)
def mF (v : Int) (h o : Nat → Int) (t : Nat → FO) (s : Nat) (x : Int × Int) (k : Nat) : Int × Int := mI v h o t s (k / 10) (k % 10) (mJ v h o t s (k / 10) x)
theorem mF_s {v : Int} {h o : Nat → Int} {t : Nat → FO} {s : Nat} {x : Int × Int} {k : Nat} : mF v h o t s x (k + 1) = mSt v h o t s (k / 10) (k % 10) (mF v h o t s x k) := by
  unfold mF
  by_cases q : k % 10 = 9
  · rw [show (k + 1) / 10 = k / 10 + 1 by omega, show (k + 1) % 10 = 0 by omega]
    show mJ v h o t s (k / 10 + 1) x = _
    rw [mJ, q]
    rfl
  · rw [show (k + 1) / 10 = k / 10 by omega, show (k + 1) % 10 = k % 10 + 1 by omega]
    rfl
theorem mF_y {v : Int} {h o : Nat → Int} {t : Nat → FO} {s k : Nat} {x : Int × Int} {a b : Int} (q : (a, b) = mF v h o t s x k) (m : mHit v h o t s (k / 10) (k % 10) = 1) : (a + 1, if b = -1 then 10000 * (s : Int) + 100 * ((k / 10 : Nat) : Int) + ((k % 10 : Nat) : Int) else b) = mF v h o t s x (k + 1) := by rw [mF_s, ← q, mSt, if_pos m]
theorem mF_n {v : Int} {h o : Nat → Int} {t : Nat → FO} {s k : Nat} {x : Int × Int} {a b : Int} (q : (a, b) = mF v h o t s x k) (m : ¬ mHit v h o t s (k / 10) (k % 10) = 1) : (a, b) = mF v h o t s x (k + 1) := by rw [mF_s, ← q, mSt, if_neg m]
theorem mF_e {v : Int} {b : Nat} {h o : Nat → Int} {t : Nat → FO} {s k : Nat} {z : Int × Int} (q : z = mF v h o t s (mK v b h o t s) k) (hk : k = 10 * b) : z = mK v b h o t (s + 1) := by
  subst hk
  rw [q]
  unfold mF
  rw [show 10 * b / 10 = b by omega, show 10 * b % 10 = 0 by omega]
  rfl
theorem kp78_t {S T U : RS} (h : kp78 S T) (g : kp78 T U) : kp78 S U := ⟨fun j hj => ⟨(g.1 j hj).1.trans (h.1 j hj).1, (g.1 j hj).2.trans (h.1 j hj).2⟩, g.2.trans h.2⟩
theorem mHit_01 (v : Int) (h o : Nat → Int) (t : Nat → FO) (s i f : Nat) : mHit v h o t s i f = 0 ∨ mHit v h o t s i f = 1 := by unfold mHit; split <;> simp
