theorem mat_e {v : Int} {b : Nat} {h o : Nat → Int} {t : Nat → FO} {w x y : Int} {k : Nat} (q : (x, y) = mK v b h o t k) (hk : k = 4) (hw : 0 ≤ w ∧ w ≤ 1) : (if w = 0 then x else y) = aMat v b h o t w := by
  subst hk
  unfold aMat
  rw [if_pos hw, ← q]
theorem mJ_s {v : Int} {h o : Nat → Int} {t : Nat → FO} {s i k : Nat} {x z : Int × Int} (q : z = mI v h o t s i k (mJ v h o t s i x)) (hk : k = 10) : z = mJ v h o t s (i + 1) x := by
  subst hk
  exact q
theorem mK_s {v : Int} {b : Nat} {h o : Nat → Int} {t : Nat → FO} {s k : Nat} {z : Int × Int} (q : z = mJ v h o t s k (mK v b h o t s)) (hk : k = b) : z = mK v b h o t (s + 1) := by
  subst hk
  exact q
theorem sq_bd {a : Int} (h : 0 ≤ a ∧ a ≤ 12000) : 0 ≤ a * a ∧ a * a ≤ 144000000 := ⟨Int.mul_nonneg h.1 h.1, Int.mul_le_mul h.2 h.2 h.1 (by decide)⟩
theorem wst_e {v : Int} {h o : Nat → Int} {s f : Int} {x : Int × Int × Int} {k b : Nat} (q : x = wsT v h o s f k) (hk : k = b) (hs : (0 ≤ s ∧ s ≤ 3) ∧ (0 ≤ f ∧ f ≤ 9)) : x.1 = aWst v b h o s f := by
  subst hk
  unfold aWst
  rw [if_pos hs, q]
