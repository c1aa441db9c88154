theorem or64 (a b : Fin 64) : Int32.ofInt (a.val : Int) ||| Int32.ofInt (b.val : Int) = Int32.ofInt ((a.val ||| b.val : Nat) : Int) := by
  have h : ∀ a b : Fin 64, Int32.ofInt (a.val : Int) ||| Int32.ofInt (b.val : Int) = Int32.ofInt ((a.val ||| b.val : Nat) : Int) := by decide +kernel
  exact h a b
theorem orN {a b : Nat} (ha : a < 64) (hb : b < 64) : Int32.ofInt (a : Int) ||| Int32.ofInt (b : Int) = Int32.ofInt ((a ||| b : Nat) : Int) := or64 ⟨a, ha⟩ ⟨b, hb⟩
theorem shl6 (k : Fin 6) : Int32.ofInt 1 <<< (Int32.ofInt (k.val : Int) &&& 31) = Int32.ofInt ((2 ^ k.val : Nat) : Int) := by
  have h : ∀ k : Fin 6, Int32.ofInt 1 <<< (Int32.ofInt (k.val : Int) &&& 31) = Int32.ofInt ((2 ^ k.val : Nat) : Int) := by decide +kernel
  exact h k
theorem shlN {k : Nat} (hk : k < 6) : Int32.ofInt 1 <<< (Int32.ofInt (k : Int) &&& 31) = Int32.ofInt ((2 ^ k : Nat) : Int) := shl6 ⟨k, hk⟩
theorem or_lt {a b : Nat} (ha : a < 64) (hb : b < 64) : a ||| b < 64 := Nat.or_lt_two_pow (n := 6) ha hb
theorem p2_lt {k : Nat} (hk : k < 6) : 2 ^ k < 64 := by
  have : 2 ^ k ≤ 2 ^ 5 := Nat.pow_le_pow_right (by decide) (by omega)
  omega
def sgB (p : Nat → Int) : Nat → Nat
  | 0 => 0
  | k + 1 => if p k = 1 then sgB p k ||| 2 ^ k else sgB p k
theorem sgB_lt {p : Nat → Int} : ∀ k, k ≤ 6 → sgB p k < 64
  | 0, _ => Nat.le_of_ble_eq_true rfl
  | k + 1, h => by
    rw [sgB]
    have h1 := sgB_lt (p := p) k (by omega)
    split
    · exact or_lt h1 (p2_lt (by omega))
    · exact h1
def trB (h p : Nat → Int) : Nat → Nat → Nat → Nat
  | 0, _, a => a
  | n + 1, w, a => if w = 0 then a else trB h p n (h w).toNat (if p w = 1 then a ||| 2 ^ w else a)
theorem trB_0 {h p : Nat → Int} {n a : Nat} : trB h p n 0 a = a := by cases n <;> simp [trB]
theorem trB_go {h p : Nat → Int} {n w a : Nat} (hn : 1 ≤ n) (hw : 1 ≤ w) : trB h p n w a = trB h p (n - 1) (h w).toNat (if p w = 1 then a ||| 2 ^ w else a) := by
  obtain ⟨k, rfl⟩ : ∃ k, n = k + 1 := ⟨n - 1, by omega⟩
  rw [trB, if_neg (by omega)]
  rfl
def sgI (v : Int) (h o : Nat → Int) (s : Int) (i : Nat) (f p : Int) (a : Nat) : Int := if min (flN (vP0 v h o s i f (zM h 12 a i)) (vP1 v h o s i f (zM h 12 a i)) (vP2 v h o s i f (zM h 12 a i)) 0) (min (flN (vP0 v h o s i f (zM h 12 a i)) (vP1 v h o s i f (zM h 12 a i)) (vP2 v h o s i f (zM h 12 a i)) 1) (flN (vP0 v h o s i f (zM h 12 a i)) (vP1 v h o s i f (zM h 12 a i)) (vP2 v h o s i f (zM h 12 a i)) 2)) * 10000 < v * v * p * p * cB h o s i f * cB h o s i f then 1 else 0
def gNm (v : Int) (h o : Nat → Int) (s : Int) (i : Nat) (f : Int) : Int := max (flN (cP0 v h o s i f) (cP1 v h o s i f) (cP2 v h o s i f) 0) (max (flN (cP0 v h o s i f) (cP1 v h o s i f) (cP2 v h o s i f) 1) (flN (cP0 v h o s i f) (cP1 v h o s i f) (cP2 v h o s i f) 2))
def trI (v : Int) (h o k : Nat → Int) (s : Int) (i : Nat) (f : Int) (w : Nat) : Int := if 0 < k w ∧ k w * k w * cB h o s i f * cB h o s i f < gNm v h o s i f then 1 else 0
def aSag (v : Int) (b : Nat) (h o : Nat → Int) (s i f p : Int) : Int := if aAsk v b h o s i f (oU p 0 100) = 0 then (sgB (sgI v h o s i.toNat f p) b : Int) else aAsk v b h o s i f (oU p 0 100)
def aTrp (v : Int) (b : Nat) (h o k : Nat → Int) (s i f : Int) : Int := if aAsk v b h o s i f 0 = 0 then (trB h (trI v h o k s i.toNat f) 6 i.toNat 0 : Int) else aAsk v b h o s i f 0
def wsT (v : Int) (h o : Nat → Int) (s f : Int) : Nat → Int × Int × Int
  | 0 => (-1, 0, 1)
  | k + 1 => if 0 < cB h o s k f ∧ ((wsT v h o s f k).1 = -1 ∨ (wsT v h o s f k).2.1 * (cB h o s k f * cB h o s k f) < gNm v h o s k f * (wsT v h o s f k).2.2) then ((k : Int), gNm v h o s k f, cB h o s k f * cB h o s k f) else wsT v h o s f k
def aWst (v : Int) (b : Nat) (h o : Nat → Int) (s f : Int) : Int := if (0 ≤ s ∧ s ≤ 3) ∧ (0 ≤ f ∧ f ≤ 9) then (wsT v h o s f b).1 else -2000000002
def mHit (v : Int) (h o : Nat → Int) (t : Nat → FO) (s i f : Nat) : Int := if 0 < cB h o (s : Int) i (f : Int) ∧ flEq (cP0 v h o (s : Int) i (f : Int)) (cP1 v h o (s : Int) i (f : Int)) (cP2 v h o (s : Int) i (f : Int)) (cB h o (s : Int) i (f : Int)) t = 1 then 1 else 0
def mSt (v : Int) (h o : Nat → Int) (t : Nat → FO) (s i f : Nat) (x : Int × Int) : Int × Int := if mHit v h o t s i f = 1 then (x.1 + 1, if x.2 = -1 then 10000 * (s : Int) + 100 * (i : Int) + (f : Int) else x.2) else x
def mI (v : Int) (h o : Nat → Int) (t : Nat → FO) (s i : Nat) : Nat → Int × Int → Int × Int
  | 0, x => x
  | k + 1, x => mSt v h o t s i k (mI v h o t s i k x)
def mJ (v : Int) (h o : Nat → Int) (t : Nat → FO) (s : Nat) : Nat → Int × Int → Int × Int
  | 0, x => x
  | k + 1, x => mI v h o t s k 10 (mJ v h o t s k x)
def mK (v : Int) (b : Nat) (h o : Nat → Int) (t : Nat → FO) : Nat → Int × Int
  | 0 => (0, -1)
  | k + 1 => mJ v h o t k b (mK v b h o t k)
def aMat (v : Int) (b : Nat) (h o : Nat → Int) (t : Nat → FO) (w : Int) : Int := if 0 ≤ w ∧ w ≤ 1 then (if w = 0 then (mK v b h o t 4).1 else (mK v b h o t 4).2) else -2000000002
theorem gNm_bd {v : Int} {b : Nat} {h o k : Nat → Int} (hn : nok v b h o k) (s : Int) {i : Nat} (hi : i < 6) {f : Int} (hf : 0 ≤ f ∧ f ≤ 9) : 0 ≤ gNm v h o s i f ∧ gNm v h o s i f ≤ 5292000000 := by
  have hb := cur_bd hn s hi hf
  have h0 := flN_bd hb 0
  have h1 := flN_bd hb 1
  have h2 := flN_bd hb 2
  unfold gNm
  omega
def aCnt (v : Int) (b n0 n1 n2 sz n : Nat) (w : Int) : Int := if w = 0 then (b : Int) else if w = 1 then v else if w = 2 then (n0 : Int) + (n1 : Int) + (n2 : Int) else if w = 3 then (sz : Int) else if w = 4 then (n : Int) else -2000000002
