section
variable {p : Program} {l : Launch} {e : Env} {R : Room} {s : State} {m : MethodId} {args : Array Value} {below : List Frame} {meth : Method} {c : Code} {H : Heap} {locs : List Loc} {cells slots : Nat} {Q : State → Prop}
variable {cc : ByteArray} {pc : Nat} {ls : Array Slot} {rest : List Value}
theorem z_shl1 (hx : p.tables.exec = Jvm.exec) (hb : c.code = cc) {k : Nat} (hk : k < 6) (hdg : decode cc pc = .ok (.ishl, 1)) (q : W p l e R s m args below meth c H locs cells slots Q (F0 m (pc + 1) ls (vI ((2 ^ k : Nat) : Int) :: rest))) : W p l e R s m args below meth c H locs cells slots Q (F0 m pc ls (vI (k : Int) :: vI 1 :: rest)) := lv_ishl hx hb hdg (by rw [shlN hk]; exact q)
theorem z_orN (hx : p.tables.exec = Jvm.exec) (hb : c.code = cc) {a b : Nat} (ha : a < 64) (hq : b < 64) (hdg : decode cc pc = .ok (.ior, 1)) (q : W p l e R s m args below meth c H locs cells slots Q (F0 m (pc + 1) ls (vI ((a ||| b : Nat) : Int) :: rest))) : W p l e R s m args below meth c H locs cells slots Q (F0 m pc ls (vI (b : Int) :: vI (a : Int) :: rest)) := lv_ior hx hb hdg (by rw [orN ha hq]; exact q)
end
theorem sgI_01 (v : Int) (h o : Nat → Int) (s : Int) (i : Nat) (f p : Int) (a : Nat) : sgI v h o s i f p a = 0 ∨ sgI v h o s i f p a = 1 := by unfold sgI; split <;> simp
theorem trI_01 (v : Int) (h o k : Nat → Int) (s : Int) (i : Nat) (f : Int) (w : Nat) : trI v h o k s i f w = 0 ∨ trI v h o k s i f w = 1 := by unfold trI; split <;> simp
theorem sgB_y {p : Nat → Int} {k : Nat} (h : p k = 1) : sgB p (k + 1) = sgB p k ||| 2 ^ k := by rw [sgB, if_pos h]
theorem sgB_n {p : Nat → Int} {k : Nat} (h : ¬ p k = 1) : sgB p (k + 1) = sgB p k := by rw [sgB, if_neg h]
theorem trI_n {v : Int} {h o k : Nat → Int} {s : Int} {i : Nat} {f : Int} {w : Nat} (q : ¬ 0 < k w) : trI v h o k s i f w = 0 := by unfold trI; rw [if_neg (fun x => q x.1)]
theorem trI_q {v : Int} {h o k : Nat → Int} {s : Int} {i : Nat} {f : Int} {w : Nat} (q : 0 < k w) : trI v h o k s i f w = (if k w * k w * cB h o s i f * cB h o s i f < gNm v h o s i f then 1 else 0) := by
  unfold trI
  by_cases z : k w * k w * cB h o s i f * cB h o s i f < gNm v h o s i f
  · rw [if_pos ⟨q, z⟩, if_pos z]
  · rw [if_neg (fun x => z x.2), if_neg z]
theorem trB_y {h p : Nat → Int} {n w a : Nat} (hn : 1 ≤ n) (hw : 1 ≤ w) (q : p w = 1) : trB h p n w a = trB h p (n - 1) (h w).toNat (a ||| 2 ^ w) := by rw [trB_go hn hw, if_pos q]
theorem trB_n {h p : Nat → Int} {n w a : Nat} (hn : 1 ≤ n) (hw : 1 ≤ w) (q : ¬ p w = 1) : trB h p n w a = trB h p (n - 1) (h w).toNat a := by rw [trB_go hn hw, if_neg q]
theorem wsT_y {v : Int} {h o : Nat → Int} {s f : Int} {k : Nat} (q : 0 < cB h o s k f) (r : (wsT v h o s f k).1 = -1 ∨ (wsT v h o s f k).2.1 * (cB h o s k f * cB h o s k f) < gNm v h o s k f * (wsT v h o s f k).2.2) : wsT v h o s f (k + 1) = ((k : Int), gNm v h o s k f, cB h o s k f * cB h o s k f) := by rw [wsT, if_pos ⟨q, r⟩]
theorem wsT_n {v : Int} {h o : Nat → Int} {s f : Int} {k : Nat} (q : ¬ 0 < cB h o s k f) : wsT v h o s f (k + 1) = wsT v h o s f k := by rw [wsT, if_neg (fun x => q x.1)]
theorem wsT_l {v : Int} {h o : Nat → Int} {s f : Int} {k : Nat} (q : (wsT v h o s f k).1 ≠ -1) (r : ¬ (wsT v h o s f k).2.1 * (cB h o s k f * cB h o s k f) < gNm v h o s k f * (wsT v h o s f k).2.2) : wsT v h o s f (k + 1) = wsT v h o s f k := by rw [wsT, if_neg (fun x => x.2.elim q r)]
theorem wsT_bd {v : Int} {b : Nat} {h o y : Nat → Int} (hn : nok v b h o y) (s : Int) {f : Int} (hf : 0 ≤ f ∧ f ≤ 9) : ∀ k, k ≤ 6 → (-1 ≤ (wsT v h o s f k).1 ∧ (wsT v h o s f k).1 < 6) ∧ (0 ≤ (wsT v h o s f k).2.1 ∧ (wsT v h o s f k).2.1 ≤ 5292000000) ∧ (0 ≤ (wsT v h o s f k).2.2 ∧ (wsT v h o s f k).2.2 ≤ 144000000)
  | 0, _ => by simp [wsT]
  | k + 1, hk => by
    have ih := wsT_bd hn s hf k (by omega)
    have h1 := gNm_bd hn s (i := k) (by omega) hf
    have h2 := (cur_bd hn s (i := k) (by omega) hf).2.2.2
    rw [wsT]
    split
    · refine ⟨⟨show (-1 : Int) ≤ (k : Int) by omega, show (k : Int) < 6 by omega⟩, h1, Int.mul_nonneg h2.1 h2.1, ?_⟩
      have := Int.mul_le_mul h2.2 h2.2 h2.1 (by decide)
      simpa using this
    · exact ih
theorem ws_rng {a b : Int} (ha : 0 ≤ a ∧ a ≤ 5292000000) (hb : 0 ≤ b ∧ b ≤ 144000000) : -9223372036854775808 ≤ a * b ∧ a * b < 9223372036854775808 := by
  have h1 := Int.mul_nonneg ha.1 hb.1
  have h2 := Int.mul_le_mul ha.2 hb.2 hb.1 (by decide)
  have h3 : (5292000000 : Int) * 144000000 = 762048000000000000 := by decide
  omega
theorem mHit_y {v : Int} {h o : Nat → Int} {t : Nat → FO} {s i f : Nat} (a : 0 < cB h o (s : Int) i (f : Int)) (b : flEq (cP0 v h o (s : Int) i (f : Int)) (cP1 v h o (s : Int) i (f : Int)) (cP2 v h o (s : Int) i (f : Int)) (cB h o (s : Int) i (f : Int)) t = 1) : mHit v h o t s i f = 1 := if_pos ⟨a, b⟩
theorem mHit_n {v : Int} {h o : Nat → Int} {t : Nat → FO} {s i f : Nat} (a : ¬ 0 < cB h o (s : Int) i (f : Int)) : ¬ mHit v h o t s i f = 1 := by unfold mHit; rw [if_neg (fun x => a x.1)]; decide
theorem mHit_m {v : Int} {h o : Nat → Int} {t : Nat → FO} {s i f : Nat} (b : ¬ flEq (cP0 v h o (s : Int) i (f : Int)) (cP1 v h o (s : Int) i (f : Int)) (cP2 v h o (s : Int) i (f : Int)) (cB h o (s : Int) i (f : Int)) t = 1) : ¬ mHit v h o t s i f = 1 := by unfold mHit; rw [if_neg (fun x => b x.2)]; decide
theorem mI_y {v : Int} {h o : Nat → Int} {t : Nat → FO} {s i k : Nat} {x : Int × Int} {a b : Int} (q : (a, b) = mI v h o t s i k x) (m : mHit v h o t s i k = 1) : (a + 1, if b = -1 then 10000 * (s : Int) + 100 * (i : Int) + (k : Int) else b) = mI v h o t s i (k + 1) x := by rw [mI, ← q, mSt, if_pos m]
theorem mI_n {v : Int} {h o : Nat → Int} {t : Nat → FO} {s i k : Nat} {x : Int × Int} {a b : Int} (q : (a, b) = mI v h o t s i k x) (m : ¬ mHit v h o t s i k = 1) : (a, b) = mI v h o t s i (k + 1) x := by rw [mI, ← q, mSt, if_neg m]
theorem flEq_01 (a b c d : Int) (t : Nat → FO) : flEq a b c d t = 0 ∨ flEq a b c d t = 1 := by unfold flEq; split <;> simp
