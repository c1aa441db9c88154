abbrev vI (a : Int) : Value := .int (Int32.ofInt a)
abbrev vL (a : Int) : Value := .long (Int64.ofInt a)
def aI (f : Nat → Int) : Nat → Int32 := fun k => Int32.ofInt (f k)
def aL (f : Nat → Int) : Nat → Int64 := fun k => Int64.ofInt (f k)
def uI (f : Nat → Int) (k : Nat) (v : Int) : Nat → Int := fun j => if j = k then v else f j
theorem uI_s {f : Nat → Int} {k : Nat} {v : Int} : uI f k v k = v := by simp [uI]
theorem uI_n {f : Nat → Int} {k j : Nat} {v : Int} (h : j ≠ k) : uI f k v j = f j := by simp [uI, h]
theorem upd_aI (f : Nat → Int) (k : Nat) (v : Int) : upd (aI f) k (Int32.ofInt v) = aI (uI f k v) := by
  funext j; unfold upd aI uI; by_cases h : j = k <;> simp [h]
theorem updL_aL (f : Nat → Int) (k : Nat) (v : Int) : vp_updL (aL f) k (Int64.ofInt v) = aL (uI f k v) := by
  funext j; unfold vp_updL aL uI; by_cases h : j = k <;> simp [h]
theorem i_toInt {a : Int} (ha : -2147483648 ≤ a ∧ a < 2147483648) : (Int32.ofInt a).toInt = a := Int32.toInt_ofInt_of_le (by omega) (by omega)
theorem l_toInt {a : Int} (ha : -9223372036854775808 ≤ a ∧ a < 9223372036854775808) : (Int64.ofInt a).toInt = a := Int64.toInt_ofInt_of_le (by omega) (by omega)
theorem i_lt {a b : Int} (ha : -2147483648 ≤ a ∧ a < 2147483648) (hb : -2147483648 ≤ b ∧ b < 2147483648) : Int32.ofInt a < Int32.ofInt b ↔ a < b := by rw [Int32.lt_iff_toInt_lt, i_toInt ha, i_toInt hb]
theorem i_le {a b : Int} (ha : -2147483648 ≤ a ∧ a < 2147483648) (hb : -2147483648 ≤ b ∧ b < 2147483648) : Int32.ofInt a ≤ Int32.ofInt b ↔ a ≤ b := by rw [Int32.le_iff_toInt_le, i_toInt ha, i_toInt hb]
theorem i_eq {a b : Int} (ha : -2147483648 ≤ a ∧ a < 2147483648) (hb : -2147483648 ≤ b ∧ b < 2147483648) : Int32.ofInt a = Int32.ofInt b ↔ a = b := by rw [← Int32.toInt_inj, i_toInt ha, i_toInt hb]
theorem l_lt {a b : Int} (ha : -9223372036854775808 ≤ a ∧ a < 9223372036854775808) (hb : -9223372036854775808 ≤ b ∧ b < 9223372036854775808) : Int64.ofInt a < Int64.ofInt b ↔ a < b := by rw [Int64.lt_iff_toInt_lt, l_toInt ha, l_toInt hb]
theorem l_le {a b : Int} (ha : -9223372036854775808 ≤ a ∧ a < 9223372036854775808) (hb : -9223372036854775808 ≤ b ∧ b < 9223372036854775808) : Int64.ofInt a ≤ Int64.ofInt b ↔ a ≤ b := by rw [Int64.le_iff_toInt_le, l_toInt ha, l_toInt hb]
theorem l_eq {a b : Int} (ha : -9223372036854775808 ≤ a ∧ a < 9223372036854775808) (hb : -9223372036854775808 ≤ b ∧ b < 9223372036854775808) : Int64.ofInt a = Int64.ofInt b ↔ a = b := by rw [← Int64.toInt_inj, l_toInt ha, l_toInt hb]
theorem i_0 : (0 : Int32) = Int32.ofInt 0 := rfl
theorem l_0 : (0 : Int64) = Int64.ofInt 0 := rfl
theorem i_ofToInt (x : Int32) : Int32.ofInt x.toInt = x := Int32.ofInt_toInt x
theorem i_rng (x : Int32) : -2147483648 ≤ x.toInt ∧ x.toInt < 2147483648 := ⟨Int32.le_toInt x, Int32.toInt_lt x⟩
theorem i_i2l {a : Int} (ha : -2147483648 ≤ a ∧ a < 2147483648) : (Int32.ofInt a).toInt64 = Int64.ofInt a := by
  rw [← Int64.toInt_inj, l_toInt (by omega), Int32.toInt_toInt64, i_toInt ha]
theorem i_nat {a : Int} (ha : 0 ≤ a ∧ a < 2147483648) : (Int32.ofInt a).toNatClampNeg = a.toNat := by
  unfold Int32.toNatClampNeg; rw [i_toInt (by omega)]
theorem i_in {a : Int} {n : Nat} (hn : n ≤ 1000000) (ha : 0 ≤ a ∧ a < n) : vp_in (Int32.ofInt a) n := by
  unfold vp_in
  rw [i_nat (by omega), i_0, i_lt (by omega) (by omega)]
  omega
theorem l_div {a b : Int} (ha : -9223372036854775808 ≤ a ∧ a < 9223372036854775808) (hb : -9223372036854775808 ≤ b ∧ b < 9223372036854775808) (hne : b ≠ -1) : Int64.ofInt a / Int64.ofInt b = Int64.ofInt (a.tdiv b) := by
  rw [← Int64.toInt_inj, Int64.toInt_div_of_ne_right _ _ (fun h => hne (by have := congrArg Int64.toInt h; rw [l_toInt hb] at this; exact this)), l_toInt ha, l_toInt hb]
  have h1 := Int.natAbs_tdiv_le_natAbs a b
  rw [l_toInt ?_]
  by_cases h0 : a = -9223372036854775808
  · by_cases hb0 : b = 0
    · subst hb0; simp
    · by_cases hb1 : b = 1
      · subst hb1; simp; omega
      · have h2 : (a.tdiv b).natAbs < a.natAbs := by
          rw [Int.natAbs_tdiv]
          exact Nat.div_lt_self (by omega) (by omega)
        omega
  · omega
theorem l_rem {a b : Int} (ha : -9223372036854775808 ≤ a ∧ a < 9223372036854775808) (hb : -9223372036854775808 ≤ b ∧ b < 9223372036854775808) (hne : b ≠ -1) : Int64.ofInt a - Int64.ofInt a / Int64.ofInt b * Int64.ofInt b = Int64.ofInt (a.tmod b) := by
  rw [l_div ha hb hne, ← Int64.ofInt_mul, ← Int64.ofInt_sub]
  congr 1
  have := Int.tmod_add_mul_tdiv a b
  rw [Int.mul_comm] at this
  omega
theorem i_div {a b : Int} (ha : 0 ≤ a ∧ a < 2147483648) (hb : 0 < b ∧ b < 2147483648) : Int32.ofInt a / Int32.ofInt b = Int32.ofInt (a / b) := by
  have h3 : 0 ≤ a / b := Int.ediv_nonneg ha.1 (by omega)
  have h4 : a / b ≤ a := Int.ediv_le_self _ ha.1
  rw [← Int32.toInt_inj, Int32.toInt_div_of_ne_right _ _ (fun h => by have := congrArg Int32.toInt h; rw [i_toInt (by omega)] at this; have h5 : (-1 : Int32).toInt = -1 := rfl; omega), i_toInt (by omega), i_toInt (by omega), i_toInt (by omega), Int.tdiv_eq_ediv_of_nonneg ha.1]
theorem i_rem {a b : Int} (ha : 0 ≤ a ∧ a < 2147483648) (hb : 0 < b ∧ b < 2147483648) : Int32.ofInt a - Int32.ofInt a / Int32.ofInt b * Int32.ofInt b = Int32.ofInt (a % b) := by
  rw [i_div ha hb, ← Int32.ofInt_mul, ← Int32.ofInt_sub]
  congr 1
  have := Int.emod_add_mul_ediv a b
  rw [Int.mul_comm] at this
  omega

theorem i_min {a b : Int} (ha : -2147483648 ≤ a ∧ a < 2147483648) (hb : -2147483648 ≤ b ∧ b < 2147483648) : (if Int32.ofInt b < Int32.ofInt a then Int32.ofInt b else Int32.ofInt a) = Int32.ofInt (min a b) := by
  by_cases h : b < a
  · rw [if_pos ((i_lt hb ha).mpr h)]; congr 1; omega
  · rw [if_neg (fun q => h ((i_lt hb ha).mp q))]; congr 1; omega
theorem l_min {a b : Int} (ha : -9223372036854775808 ≤ a ∧ a < 9223372036854775808) (hb : -9223372036854775808 ≤ b ∧ b < 9223372036854775808) : (if Int64.ofInt b < Int64.ofInt a then Int64.ofInt b else Int64.ofInt a) = Int64.ofInt (min a b) := by
  by_cases h : b < a
  · rw [if_pos ((l_lt hb ha).mpr h)]; congr 1; omega
  · rw [if_neg (fun q => h ((l_lt hb ha).mp q))]; congr 1; omega
theorem l_max {a b : Int} (ha : -9223372036854775808 ≤ a ∧ a < 9223372036854775808) (hb : -9223372036854775808 ≤ b ∧ b < 9223372036854775808) : (if Int64.ofInt b < Int64.ofInt a then Int64.ofInt a else Int64.ofInt b) = Int64.ofInt (max a b) := by
  by_cases h : b < a
  · rw [if_pos ((l_lt hb ha).mpr h)]; congr 1; omega
  · rw [if_neg (fun q => h ((l_lt hb ha).mp q))]; congr 1; omega
section ZI
variable {p : Program} {l : Launch} {e : Env} {R : Room} {s : State} {m : MethodId} {args : Array Value} {below : List Frame} {meth : Method} {c : Code} {H : Heap} {locs : List Loc} {cells slots : Nat} {Q : State → Prop}
variable {cc : ByteArray} {pc : Nat} {ls : Array Slot} {rest : List Value}
theorem z_iconst (hx : p.tables.exec = Jvm.exec) (hb : c.code = cc) {n r : Int} (hdg : decode cc pc = .ok (.iconst n, 1)) (hr : n = r := by rfl) (k : W p l e R s m args below meth c H locs cells slots Q (F0 m (pc + 1) ls (vI r :: rest))) : W p l e R s m args below meth c H locs cells slots Q (F0 m pc ls (rest)) := by subst hr; exact lv_iconst hx hb hdg rfl k
theorem z_bipush (hx : p.tables.exec = Jvm.exec) (hb : c.code = cc) {n : Int} (r : Int) (hdg : decode cc pc = .ok (.bipush n, 2)) (hr : (Int8.ofInt n).toInt32 = Int32.ofInt r) (k : W p l e R s m args below meth c H locs cells slots Q (F0 m (pc + 2) ls (vI r :: rest))) : W p l e R s m args below meth c H locs cells slots Q (F0 m pc ls (rest)) := lv_bipush hx hb hdg hr k
theorem z_sipush (hx : p.tables.exec = Jvm.exec) (hb : c.code = cc) {n : Int} (r : Int) (hdg : decode cc pc = .ok (.sipush n, 3)) (hr : (Int16.ofInt n).toInt32 = Int32.ofInt r) (k : W p l e R s m args below meth c H locs cells slots Q (F0 m (pc + 3) ls (vI r :: rest))) : W p l e R s m args below meth c H locs cells slots Q (F0 m pc ls (rest)) := lv_sipush hx hb hdg hr k
theorem z_lconst (hx : p.tables.exec = Jvm.exec) (hb : c.code = cc) {n : Fin 2} (r : Int) (hdg : decode cc pc = .ok (.lconst n, 1)) (hr : Int64.ofNat (n : Nat) = Int64.ofInt r) (k : W p l e R s m args below meth c H locs cells slots Q (F0 m (pc + 1) ls (vL r :: rest))) : W p l e R s m args below meth c H locs cells slots Q (F0 m pc ls (rest)) := lv_lconst hx hb hdg hr k
theorem z_ldc (hx : p.tables.exec = Jvm.exec) (hb : c.code = cc) {own : String} {index : Nat} {v : Int32} (r : Int) (hown : s.vm.findClass own = some m.cls) (hc : (Jvm.Cond.constant own index v).before args s = true) (hr : v = Int32.ofInt r) (hdg : decode cc pc = .ok (.ldc index, 2)) (k : W p l e R s m args below meth c H locs cells slots Q (F0 m (pc + 2) ls (vI r :: rest))) : W p l e R s m args below meth c H locs cells slots Q (F0 m pc ls (rest)) := by subst hr; exact lv_ldc hx hb hown hc hdg k
theorem z_ldcw (hx : p.tables.exec = Jvm.exec) (hb : c.code = cc) {own : String} {index : Nat} {v : Int32} (r : Int) (hown : s.vm.findClass own = some m.cls) (hc : (Jvm.Cond.constant own index v).before args s = true) (hr : v = Int32.ofInt r) (hdg : decode cc pc = .ok (.ldc_w index, 3)) (k : W p l e R s m args below meth c H locs cells slots Q (F0 m (pc + 3) ls (vI r :: rest))) : W p l e R s m args below meth c H locs cells slots Q (F0 m pc ls (rest)) := by subst hr; exact lv_ldcw hx hb hown hc hdg k
theorem z_ldc2 (hx : p.tables.exec = Jvm.exec) (hb : c.code = cc) {own : String} {index : Nat} {v : Int64} (r : Int) (hown : s.vm.findClass own = some m.cls) (hc : (Jvm.Cond.constantLong own index v).before args s = true) (hr : v = Int64.ofInt r) (hdg : decode cc pc = .ok (.ldc2_w index, 3)) (k : W p l e R s m args below meth c H locs cells slots Q (F0 m (pc + 3) ls (vL r :: rest))) : W p l e R s m args below meth c H locs cells slots Q (F0 m pc ls (rest)) := by subst hr; exact lv_ldc2 hx hb hown hc hdg k
theorem z_iadd (hx : p.tables.exec = Jvm.exec) (hb : c.code = cc) {a b : Int} (r : Int) (hr : a + b = r) (hdg : decode cc pc = .ok (.iadd, 1)) (k : W p l e R s m args below meth c H locs cells slots Q (F0 m (pc + 1) ls (vI r :: rest))) : W p l e R s m args below meth c H locs cells slots Q (F0 m pc ls (vI b :: vI a :: rest)) := lv_iadd hx hb hdg (by rw [← Int32.ofInt_add, hr]; exact k)
theorem z_ladd (hx : p.tables.exec = Jvm.exec) (hb : c.code = cc) {a b : Int} (r : Int) (hr : a + b = r) (hdg : decode cc pc = .ok (.ladd, 1)) (k : W p l e R s m args below meth c H locs cells slots Q (F0 m (pc + 1) ls (vL r :: rest))) : W p l e R s m args below meth c H locs cells slots Q (F0 m pc ls (vL b :: vL a :: rest)) := lv_ladd hx hb hdg (by rw [← Int64.ofInt_add, hr]; exact k)
theorem z_isub (hx : p.tables.exec = Jvm.exec) (hb : c.code = cc) {a b : Int} (r : Int) (hr : a - b = r) (hdg : decode cc pc = .ok (.isub, 1)) (k : W p l e R s m args below meth c H locs cells slots Q (F0 m (pc + 1) ls (vI r :: rest))) : W p l e R s m args below meth c H locs cells slots Q (F0 m pc ls (vI b :: vI a :: rest)) := lv_isub hx hb hdg (by rw [← Int32.ofInt_sub, hr]; exact k)
theorem z_lsub (hx : p.tables.exec = Jvm.exec) (hb : c.code = cc) {a b : Int} (r : Int) (hr : a - b = r) (hdg : decode cc pc = .ok (.lsub, 1)) (k : W p l e R s m args below meth c H locs cells slots Q (F0 m (pc + 1) ls (vL r :: rest))) : W p l e R s m args below meth c H locs cells slots Q (F0 m pc ls (vL b :: vL a :: rest)) := lv_lsub hx hb hdg (by rw [← Int64.ofInt_sub, hr]; exact k)
theorem z_imul (hx : p.tables.exec = Jvm.exec) (hb : c.code = cc) {a b : Int} (r : Int) (hr : a * b = r) (hdg : decode cc pc = .ok (.imul, 1)) (k : W p l e R s m args below meth c H locs cells slots Q (F0 m (pc + 1) ls (vI r :: rest))) : W p l e R s m args below meth c H locs cells slots Q (F0 m pc ls (vI b :: vI a :: rest)) := lv_imul hx hb hdg (by rw [← Int32.ofInt_mul, hr]; exact k)
theorem z_lmul (hx : p.tables.exec = Jvm.exec) (hb : c.code = cc) {a b : Int} (r : Int) (hr : a * b = r) (hdg : decode cc pc = .ok (.lmul, 1)) (k : W p l e R s m args below meth c H locs cells slots Q (F0 m (pc + 1) ls (vL r :: rest))) : W p l e R s m args below meth c H locs cells slots Q (F0 m pc ls (vL b :: vL a :: rest)) := lv_lmul hx hb hdg (by rw [← Int64.ofInt_mul, hr]; exact k)
theorem z_ineg (hx : p.tables.exec = Jvm.exec) (hb : c.code = cc) {a : Int} (r : Int) (hr : -a = r) (hdg : decode cc pc = .ok (.ineg, 1)) (k : W p l e R s m args below meth c H locs cells slots Q (F0 m (pc + 1) ls (vI r :: rest))) : W p l e R s m args below meth c H locs cells slots Q (F0 m pc ls (vI a :: rest)) := lv_ineg hx hb hdg (by rw [← Int32.ofInt_neg, hr]; exact k)
theorem z_lneg (hx : p.tables.exec = Jvm.exec) (hb : c.code = cc) {a : Int} (r : Int) (hr : -a = r) (hdg : decode cc pc = .ok (.lneg, 1)) (k : W p l e R s m args below meth c H locs cells slots Q (F0 m (pc + 1) ls (vL r :: rest))) : W p l e R s m args below meth c H locs cells slots Q (F0 m pc ls (vL a :: rest)) := lv_lneg hx hb hdg (by rw [← Int64.ofInt_neg, hr]; exact k)
theorem z_idiv (hx : p.tables.exec = Jvm.exec) (hb : c.code = cc) {a b : Int} (r : Int) (ha : 0 ≤ a ∧ a < 2147483648) (hq : 0 < b ∧ b < 2147483648) (hr : a / b = r) (hdg : decode cc pc = .ok (.idiv, 1)) (k : W p l e R s m args below meth c H locs cells slots Q (F0 m (pc + 1) ls (vI r :: rest))) : W p l e R s m args below meth c H locs cells slots Q (F0 m pc ls (vI b :: vI a :: rest)) := lv_idiv hx hb hdg (by rw [i_0, i_eq (by omega) (by omega)]; omega) (by rw [i_div ha hq, hr]; exact k)
theorem z_irem (hx : p.tables.exec = Jvm.exec) (hb : c.code = cc) {a b : Int} (r : Int) (ha : 0 ≤ a ∧ a < 2147483648) (hq : 0 < b ∧ b < 2147483648) (hr : a % b = r) (hdg : decode cc pc = .ok (.irem, 1)) (k : W p l e R s m args below meth c H locs cells slots Q (F0 m (pc + 1) ls (vI r :: rest))) : W p l e R s m args below meth c H locs cells slots Q (F0 m pc ls (vI b :: vI a :: rest)) := lv_irem hx hb hdg (by rw [i_0, i_eq (by omega) (by omega)]; omega) (by rw [i_rem ha hq, hr]; exact k)
theorem z_ldiv (hx : p.tables.exec = Jvm.exec) (hb : c.code = cc) {a b : Int} (r : Int) (ha : -9223372036854775808 ≤ a ∧ a < 9223372036854775808) (hq : 0 < b ∧ b < 9223372036854775808) (hr : a.tdiv b = r) (hdg : decode cc pc = .ok (.ldiv, 1)) (k : W p l e R s m args below meth c H locs cells slots Q (F0 m (pc + 1) ls (vL r :: rest))) : W p l e R s m args below meth c H locs cells slots Q (F0 m pc ls (vL b :: vL a :: rest)) := lv_ldiv hx hb hdg (by rw [l_0, l_eq (by omega) (by omega)]; omega) (by rw [l_div ha (by omega) (by omega), hr]; exact k)
theorem z_lrem (hx : p.tables.exec = Jvm.exec) (hb : c.code = cc) {a b : Int} (r : Int) (ha : -9223372036854775808 ≤ a ∧ a < 9223372036854775808) (hq : 0 < b ∧ b < 9223372036854775808) (hr : a.tmod b = r) (hdg : decode cc pc = .ok (.lrem, 1)) (k : W p l e R s m args below meth c H locs cells slots Q (F0 m (pc + 1) ls (vL r :: rest))) : W p l e R s m args below meth c H locs cells slots Q (F0 m pc ls (vL b :: vL a :: rest)) := lv_lrem hx hb hdg (by rw [l_0, l_eq (by omega) (by omega)]; omega) (by rw [l_rem ha (by omega) (by omega), hr]; exact k)
theorem z_i2l (hx : p.tables.exec = Jvm.exec) (hb : c.code = cc) {a : Int} (ha : -2147483648 ≤ a ∧ a < 2147483648) (hdg : decode cc pc = .ok (.i2l, 1)) (k : W p l e R s m args below meth c H locs cells slots Q (F0 m (pc + 1) ls (vL a :: rest))) : W p l e R s m args below meth c H locs cells slots Q (F0 m pc ls (vI a :: rest)) := lv_i2l hx hb hdg (i_i2l ha) k
def or1 (a b : Int) : Int := if a = 0 ∧ b = 0 then 0 else 1
def an1 (a b : Int) : Int := if a = 1 ∧ b = 1 then 1 else 0
theorem or1_s (a b : Int) : (or1 a b = 0 ∨ or1 a b = 1) ∧ (or1 a b = 0 ↔ (a = 0 ∧ b = 0)) := by unfold or1; split <;> simp_all
theorem an1_s (a b : Int) : (an1 a b = 0 ∨ an1 a b = 1) ∧ (an1 a b = 1 ↔ (a = 1 ∧ b = 1)) := by unfold an1; split <;> simp_all
theorem or01 {a b : Int} (ha : a = 0 ∨ a = 1) (hb : b = 0 ∨ b = 1) : Int32.ofInt a ||| Int32.ofInt b = Int32.ofInt (or1 a b) := by rcases ha with rfl | rfl <;> rcases hb with rfl | rfl <;> rfl
theorem and01 {a b : Int} (ha : a = 0 ∨ a = 1) (hb : b = 0 ∨ b = 1) : Int32.ofInt a &&& Int32.ofInt b = Int32.ofInt (an1 a b) := by rcases ha with rfl | rfl <;> rcases hb with rfl | rfl <;> rfl
theorem z_ior01 (hx : p.tables.exec = Jvm.exec) (hb : c.code = cc) {a b : Int} (ha : a = 0 ∨ a = 1) (hq : b = 0 ∨ b = 1) (hdg : decode cc pc = .ok (.ior, 1)) (k : W p l e R s m args below meth c H locs cells slots Q (F0 m (pc + 1) ls (vI (or1 a b) :: rest))) : W p l e R s m args below meth c H locs cells slots Q (F0 m pc ls (vI b :: vI a :: rest)) := lv_ior hx hb hdg (by rw [or01 ha hq]; exact k)
theorem z_iand01 (hx : p.tables.exec = Jvm.exec) (hb : c.code = cc) {a b : Int} (ha : a = 0 ∨ a = 1) (hq : b = 0 ∨ b = 1) (hdg : decode cc pc = .ok (.iand, 1)) (k : W p l e R s m args below meth c H locs cells slots Q (F0 m (pc + 1) ls (vI (an1 a b) :: rest))) : W p l e R s m args below meth c H locs cells slots Q (F0 m pc ls (vI b :: vI a :: rest)) := lv_iand hx hb hdg (by rw [and01 ha hq]; exact k)
theorem z_nmI {a : Int} (k : ∀ y : Int, y = a → W p l e R s m args below meth c H locs cells slots Q (F0 m pc ls (vI y :: rest))) : W p l e R s m args below meth c H locs cells slots Q (F0 m pc ls (vI a :: rest)) := k a rfl
theorem z_nmL {a : Int} (k : ∀ y : Int, y = a → W p l e R s m args below meth c H locs cells slots Q (F0 m pc ls (vL y :: rest))) : W p l e R s m args below meth c H locs cells slots Q (F0 m pc ls (vL a :: rest)) := k a rfl
theorem z_toI {a : Int} (b : Int) (h : a = b) (k : W p l e R s m args below meth c H locs cells slots Q (F0 m pc ls (vI b :: rest))) : W p l e R s m args below meth c H locs cells slots Q (F0 m pc ls (vI a :: rest)) := by subst h; exact k
theorem z_toL {a : Int} (b : Int) (h : a = b) (k : W p l e R s m args below meth c H locs cells slots Q (F0 m pc ls (vL b :: rest))) : W p l e R s m args below meth c H locs cells slots Q (F0 m pc ls (vL a :: rest)) := by subst h; exact k
theorem z_asI {x : Int32} (b : Int) (h : x = Int32.ofInt b) (k : W p l e R s m args below meth c H locs cells slots Q (F0 m pc ls (vI b :: rest))) : W p l e R s m args below meth c H locs cells slots Q (F0 m pc ls (.int x :: rest)) := by subst h; exact k
theorem z_asL {x : Int64} (b : Int) (h : x = Int64.ofInt b) (k : W p l e R s m args below meth c H locs cells slots Q (F0 m pc ls (vL b :: rest))) : W p l e R s m args below meth c H locs cells slots Q (F0 m pc ls (.long x :: rest)) := by subst h; exact k
theorem z_icmp_eq (hx : p.tables.exec = Jvm.exec) (hb : c.code = cc) {a b : Int} {off : Int} {tgt : Nat} (ha : -2147483648 ≤ a ∧ a < 2147483648) (hq : -2147483648 ≤ b ∧ b < 2147483648) (hdg : decode cc pc = .ok (.if_icmp .eq off, 3)) (ht : (pc : Int) + off = (tgt : Int)) (kt : a = b → W p l e R s m args below meth c H locs cells slots Q (F0 m tgt ls rest)) (kf : ¬ (a = b) → W p l e R s m args below meth c H locs cells slots Q (F0 m (pc + 3) ls rest)) : W p l e R s m args below meth c H locs cells slots Q (F0 m pc ls (vI b :: vI a :: rest)) := by
  refine lv_icmp_eq hx hb hdg ht (fun q => kt ?_) (fun q => kf ?_)
  · rw [i_eq ha hq] at q; exact q
  · rw [i_eq ha hq] at q; exact q
theorem z_if_eq (hx : p.tables.exec = Jvm.exec) (hb : c.code = cc) {a : Int} {off : Int} {tgt : Nat} (ha : -2147483648 ≤ a ∧ a < 2147483648) (hdg : decode cc pc = .ok (.ifCond .eq off, 3)) (ht : (pc : Int) + off = (tgt : Int)) (kt : a = 0 → W p l e R s m args below meth c H locs cells slots Q (F0 m tgt ls rest)) (kf : ¬ (a = 0) → W p l e R s m args below meth c H locs cells slots Q (F0 m (pc + 3) ls rest)) : W p l e R s m args below meth c H locs cells slots Q (F0 m pc ls (vI a :: rest)) := by
  refine lv_if_eq hx hb hdg ht (fun q => kt ?_) (fun q => kf ?_)
  · rw [i_0, i_eq ha (by omega)] at q; exact q
  · rw [i_0, i_eq ha (by omega)] at q; exact q
theorem z_icmp_ne (hx : p.tables.exec = Jvm.exec) (hb : c.code = cc) {a b : Int} {off : Int} {tgt : Nat} (ha : -2147483648 ≤ a ∧ a < 2147483648) (hq : -2147483648 ≤ b ∧ b < 2147483648) (hdg : decode cc pc = .ok (.if_icmp .ne off, 3)) (ht : (pc : Int) + off = (tgt : Int)) (kt : ¬ a = b → W p l e R s m args below meth c H locs cells slots Q (F0 m tgt ls rest)) (kf : a = b → W p l e R s m args below meth c H locs cells slots Q (F0 m (pc + 3) ls rest)) : W p l e R s m args below meth c H locs cells slots Q (F0 m pc ls (vI b :: vI a :: rest)) := by
  refine lv_icmp_ne hx hb hdg ht (fun q => kt ?_) (fun q => kf ?_)
  · rw [i_eq ha hq] at q; exact q
  · rw [i_eq ha hq] at q; exact q
theorem z_if_ne (hx : p.tables.exec = Jvm.exec) (hb : c.code = cc) {a : Int} {off : Int} {tgt : Nat} (ha : -2147483648 ≤ a ∧ a < 2147483648) (hdg : decode cc pc = .ok (.ifCond .ne off, 3)) (ht : (pc : Int) + off = (tgt : Int)) (kt : ¬ a = 0 → W p l e R s m args below meth c H locs cells slots Q (F0 m tgt ls rest)) (kf : a = 0 → W p l e R s m args below meth c H locs cells slots Q (F0 m (pc + 3) ls rest)) : W p l e R s m args below meth c H locs cells slots Q (F0 m pc ls (vI a :: rest)) := by
  refine lv_if_ne hx hb hdg ht (fun q => kt ?_) (fun q => kf ?_)
  · rw [i_0, i_eq ha (by omega)] at q; exact q
  · rw [i_0, i_eq ha (by omega)] at q; exact q
theorem z_icmp_lt (hx : p.tables.exec = Jvm.exec) (hb : c.code = cc) {a b : Int} {off : Int} {tgt : Nat} (ha : -2147483648 ≤ a ∧ a < 2147483648) (hq : -2147483648 ≤ b ∧ b < 2147483648) (hdg : decode cc pc = .ok (.if_icmp .lt off, 3)) (ht : (pc : Int) + off = (tgt : Int)) (kt : a < b → W p l e R s m args below meth c H locs cells slots Q (F0 m tgt ls rest)) (kf : ¬ (a < b) → W p l e R s m args below meth c H locs cells slots Q (F0 m (pc + 3) ls rest)) : W p l e R s m args below meth c H locs cells slots Q (F0 m pc ls (vI b :: vI a :: rest)) := by
  refine lv_icmp_lt hx hb hdg ht (fun q => kt ?_) (fun q => kf ?_)
  · rw [i_lt ha hq] at q; exact q
  · rw [i_lt ha hq] at q; exact q
theorem z_if_lt (hx : p.tables.exec = Jvm.exec) (hb : c.code = cc) {a : Int} {off : Int} {tgt : Nat} (ha : -2147483648 ≤ a ∧ a < 2147483648) (hdg : decode cc pc = .ok (.ifCond .lt off, 3)) (ht : (pc : Int) + off = (tgt : Int)) (kt : a < 0 → W p l e R s m args below meth c H locs cells slots Q (F0 m tgt ls rest)) (kf : ¬ (a < 0) → W p l e R s m args below meth c H locs cells slots Q (F0 m (pc + 3) ls rest)) : W p l e R s m args below meth c H locs cells slots Q (F0 m pc ls (vI a :: rest)) := by
  refine lv_if_lt hx hb hdg ht (fun q => kt ?_) (fun q => kf ?_)
  · rw [i_0, i_lt ha (by omega)] at q; exact q
  · rw [i_0, i_lt ha (by omega)] at q; exact q
theorem z_icmp_ge (hx : p.tables.exec = Jvm.exec) (hb : c.code = cc) {a b : Int} {off : Int} {tgt : Nat} (ha : -2147483648 ≤ a ∧ a < 2147483648) (hq : -2147483648 ≤ b ∧ b < 2147483648) (hdg : decode cc pc = .ok (.if_icmp .ge off, 3)) (ht : (pc : Int) + off = (tgt : Int)) (kt : b ≤ a → W p l e R s m args below meth c H locs cells slots Q (F0 m tgt ls rest)) (kf : ¬ (b ≤ a) → W p l e R s m args below meth c H locs cells slots Q (F0 m (pc + 3) ls rest)) : W p l e R s m args below meth c H locs cells slots Q (F0 m pc ls (vI b :: vI a :: rest)) := by
  refine lv_icmp_ge hx hb hdg ht (fun q => kt ?_) (fun q => kf ?_)
  · rw [i_le hq ha] at q; exact q
  · rw [i_le hq ha] at q; exact q
theorem z_if_ge (hx : p.tables.exec = Jvm.exec) (hb : c.code = cc) {a : Int} {off : Int} {tgt : Nat} (ha : -2147483648 ≤ a ∧ a < 2147483648) (hdg : decode cc pc = .ok (.ifCond .ge off, 3)) (ht : (pc : Int) + off = (tgt : Int)) (kt : 0 ≤ a → W p l e R s m args below meth c H locs cells slots Q (F0 m tgt ls rest)) (kf : ¬ (0 ≤ a) → W p l e R s m args below meth c H locs cells slots Q (F0 m (pc + 3) ls rest)) : W p l e R s m args below meth c H locs cells slots Q (F0 m pc ls (vI a :: rest)) := by
  refine lv_if_ge hx hb hdg ht (fun q => kt ?_) (fun q => kf ?_)
  · rw [i_0, i_le (by omega) ha] at q; exact q
  · rw [i_0, i_le (by omega) ha] at q; exact q
theorem z_icmp_gt (hx : p.tables.exec = Jvm.exec) (hb : c.code = cc) {a b : Int} {off : Int} {tgt : Nat} (ha : -2147483648 ≤ a ∧ a < 2147483648) (hq : -2147483648 ≤ b ∧ b < 2147483648) (hdg : decode cc pc = .ok (.if_icmp .gt off, 3)) (ht : (pc : Int) + off = (tgt : Int)) (kt : b < a → W p l e R s m args below meth c H locs cells slots Q (F0 m tgt ls rest)) (kf : ¬ (b < a) → W p l e R s m args below meth c H locs cells slots Q (F0 m (pc + 3) ls rest)) : W p l e R s m args below meth c H locs cells slots Q (F0 m pc ls (vI b :: vI a :: rest)) := by
  refine lv_icmp_gt hx hb hdg ht (fun q => kt ?_) (fun q => kf ?_)
  · rw [i_lt hq ha] at q; exact q
  · rw [i_lt hq ha] at q; exact q
theorem z_if_gt (hx : p.tables.exec = Jvm.exec) (hb : c.code = cc) {a : Int} {off : Int} {tgt : Nat} (ha : -2147483648 ≤ a ∧ a < 2147483648) (hdg : decode cc pc = .ok (.ifCond .gt off, 3)) (ht : (pc : Int) + off = (tgt : Int)) (kt : 0 < a → W p l e R s m args below meth c H locs cells slots Q (F0 m tgt ls rest)) (kf : ¬ (0 < a) → W p l e R s m args below meth c H locs cells slots Q (F0 m (pc + 3) ls rest)) : W p l e R s m args below meth c H locs cells slots Q (F0 m pc ls (vI a :: rest)) := by
  refine lv_if_gt hx hb hdg ht (fun q => kt ?_) (fun q => kf ?_)
  · rw [i_0, i_lt (by omega) ha] at q; exact q
  · rw [i_0, i_lt (by omega) ha] at q; exact q
theorem z_icmp_le (hx : p.tables.exec = Jvm.exec) (hb : c.code = cc) {a b : Int} {off : Int} {tgt : Nat} (ha : -2147483648 ≤ a ∧ a < 2147483648) (hq : -2147483648 ≤ b ∧ b < 2147483648) (hdg : decode cc pc = .ok (.if_icmp .le off, 3)) (ht : (pc : Int) + off = (tgt : Int)) (kt : a ≤ b → W p l e R s m args below meth c H locs cells slots Q (F0 m tgt ls rest)) (kf : ¬ (a ≤ b) → W p l e R s m args below meth c H locs cells slots Q (F0 m (pc + 3) ls rest)) : W p l e R s m args below meth c H locs cells slots Q (F0 m pc ls (vI b :: vI a :: rest)) := by
  refine lv_icmp_le hx hb hdg ht (fun q => kt ?_) (fun q => kf ?_)
  · rw [i_le ha hq] at q; exact q
  · rw [i_le ha hq] at q; exact q
theorem z_if_le (hx : p.tables.exec = Jvm.exec) (hb : c.code = cc) {a : Int} {off : Int} {tgt : Nat} (ha : -2147483648 ≤ a ∧ a < 2147483648) (hdg : decode cc pc = .ok (.ifCond .le off, 3)) (ht : (pc : Int) + off = (tgt : Int)) (kt : a ≤ 0 → W p l e R s m args below meth c H locs cells slots Q (F0 m tgt ls rest)) (kf : ¬ (a ≤ 0) → W p l e R s m args below meth c H locs cells slots Q (F0 m (pc + 3) ls rest)) : W p l e R s m args below meth c H locs cells slots Q (F0 m pc ls (vI a :: rest)) := by
  refine lv_if_le hx hb hdg ht (fun q => kt ?_) (fun q => kf ?_)
  · rw [i_0, i_le ha (by omega)] at q; exact q
  · rw [i_0, i_le ha (by omega)] at q; exact q
theorem lc_eq (x y : Int64) : lg_cmp x y = 0 ↔ x = y := by
  unfold lg_cmp
  by_cases h1 : x > y
  · rw [if_pos h1]; constructor
    · intro h; exact absurd h (by decide)
    · intro h; subst h; exact absurd h1 (Int64.lt_irrefl)
  · rw [if_neg h1]
    by_cases h2 : x = y
    · simp [h2]
    · simp [h2]
theorem lc_lt (x y : Int64) : lg_cmp x y < 0 ↔ x < y := by
  have h := lg_cmp_ge x y
  constructor
  · intro q
    have : ¬ (0 ≤ lg_cmp x y) := by rw [Int32.not_le]; exact q
    rw [h] at this; exact Int64.not_le.mp this
  · intro q
    have : ¬ (y ≤ x) := Int64.not_le.mpr q
    rw [← h] at this; exact Int32.not_le.mp this
theorem lc_gt (x y : Int64) : 0 < lg_cmp x y ↔ y < x := by
  have h := lg_cmp_le x y
  constructor
  · intro q
    have : ¬ (lg_cmp x y ≤ 0) := by rw [Int32.not_le]; exact q
    rw [h] at this; exact Int64.not_le.mp this
  · intro q
    have : ¬ (x ≤ y) := Int64.not_le.mpr q
    rw [← h] at this; exact Int32.not_le.mp this
theorem z_lcmp_eq (hx : p.tables.exec = Jvm.exec) (hb : c.code = cc) {a b : Int} {off : Int} {tgt : Nat} (ha : -9223372036854775808 ≤ a ∧ a < 9223372036854775808) (hq : -9223372036854775808 ≤ b ∧ b < 9223372036854775808) (hd0 : decode cc pc = .ok (.lcmp, 1)) (hdg : decode cc (pc + 1) = .ok (.ifCond .eq off, 3)) (ht : ((pc + 1 : Nat) : Int) + off = (tgt : Int)) (kt : a = b → W p l e R s m args below meth c H locs cells slots Q (F0 m tgt ls rest)) (kf : ¬ (a = b) → W p l e R s m args below meth c H locs cells slots Q (F0 m (pc + 1 + 3) ls rest)) : W p l e R s m args below meth c H locs cells slots Q (F0 m pc ls (vL b :: vL a :: rest)) := by
  refine W.lcmp hx hb hd0 (lv_if_eq hx hb hdg ht (fun q => kt ?_) (fun q => kf ?_))
  · rw [lc_eq, l_eq ha hq] at q; exact q
  · rw [lc_eq, l_eq ha hq] at q; exact q
theorem z_lcmp_ne (hx : p.tables.exec = Jvm.exec) (hb : c.code = cc) {a b : Int} {off : Int} {tgt : Nat} (ha : -9223372036854775808 ≤ a ∧ a < 9223372036854775808) (hq : -9223372036854775808 ≤ b ∧ b < 9223372036854775808) (hd0 : decode cc pc = .ok (.lcmp, 1)) (hdg : decode cc (pc + 1) = .ok (.ifCond .ne off, 3)) (ht : ((pc + 1 : Nat) : Int) + off = (tgt : Int)) (kt : ¬ a = b → W p l e R s m args below meth c H locs cells slots Q (F0 m tgt ls rest)) (kf : a = b → W p l e R s m args below meth c H locs cells slots Q (F0 m (pc + 1 + 3) ls rest)) : W p l e R s m args below meth c H locs cells slots Q (F0 m pc ls (vL b :: vL a :: rest)) := by
  refine W.lcmp hx hb hd0 (lv_if_ne hx hb hdg ht (fun q => kt ?_) (fun q => kf ?_))
  · rw [lc_eq, l_eq ha hq] at q; exact q
  · rw [lc_eq, l_eq ha hq] at q; exact q
theorem z_lcmp_lt (hx : p.tables.exec = Jvm.exec) (hb : c.code = cc) {a b : Int} {off : Int} {tgt : Nat} (ha : -9223372036854775808 ≤ a ∧ a < 9223372036854775808) (hq : -9223372036854775808 ≤ b ∧ b < 9223372036854775808) (hd0 : decode cc pc = .ok (.lcmp, 1)) (hdg : decode cc (pc + 1) = .ok (.ifCond .lt off, 3)) (ht : ((pc + 1 : Nat) : Int) + off = (tgt : Int)) (kt : a < b → W p l e R s m args below meth c H locs cells slots Q (F0 m tgt ls rest)) (kf : ¬ (a < b) → W p l e R s m args below meth c H locs cells slots Q (F0 m (pc + 1 + 3) ls rest)) : W p l e R s m args below meth c H locs cells slots Q (F0 m pc ls (vL b :: vL a :: rest)) := by
  refine W.lcmp hx hb hd0 (lv_if_lt hx hb hdg ht (fun q => kt ?_) (fun q => kf ?_))
  · rw [lc_lt, l_lt ha hq] at q; exact q
  · rw [lc_lt, l_lt ha hq] at q; exact q
theorem z_lcmp_ge (hx : p.tables.exec = Jvm.exec) (hb : c.code = cc) {a b : Int} {off : Int} {tgt : Nat} (ha : -9223372036854775808 ≤ a ∧ a < 9223372036854775808) (hq : -9223372036854775808 ≤ b ∧ b < 9223372036854775808) (hd0 : decode cc pc = .ok (.lcmp, 1)) (hdg : decode cc (pc + 1) = .ok (.ifCond .ge off, 3)) (ht : ((pc + 1 : Nat) : Int) + off = (tgt : Int)) (kt : b ≤ a → W p l e R s m args below meth c H locs cells slots Q (F0 m tgt ls rest)) (kf : ¬ (b ≤ a) → W p l e R s m args below meth c H locs cells slots Q (F0 m (pc + 1 + 3) ls rest)) : W p l e R s m args below meth c H locs cells slots Q (F0 m pc ls (vL b :: vL a :: rest)) := by
  refine W.lcmp hx hb hd0 (lv_if_ge hx hb hdg ht (fun q => kt ?_) (fun q => kf ?_))
  · rw [lg_cmp_ge, l_le hq ha] at q; exact q
  · rw [lg_cmp_ge, l_le hq ha] at q; exact q
theorem z_lcmp_gt (hx : p.tables.exec = Jvm.exec) (hb : c.code = cc) {a b : Int} {off : Int} {tgt : Nat} (ha : -9223372036854775808 ≤ a ∧ a < 9223372036854775808) (hq : -9223372036854775808 ≤ b ∧ b < 9223372036854775808) (hd0 : decode cc pc = .ok (.lcmp, 1)) (hdg : decode cc (pc + 1) = .ok (.ifCond .gt off, 3)) (ht : ((pc + 1 : Nat) : Int) + off = (tgt : Int)) (kt : b < a → W p l e R s m args below meth c H locs cells slots Q (F0 m tgt ls rest)) (kf : ¬ (b < a) → W p l e R s m args below meth c H locs cells slots Q (F0 m (pc + 1 + 3) ls rest)) : W p l e R s m args below meth c H locs cells slots Q (F0 m pc ls (vL b :: vL a :: rest)) := by
  refine W.lcmp hx hb hd0 (lv_if_gt hx hb hdg ht (fun q => kt ?_) (fun q => kf ?_))
  · rw [lc_gt, l_lt hq ha] at q; exact q
  · rw [lc_gt, l_lt hq ha] at q; exact q
theorem z_lcmp_le (hx : p.tables.exec = Jvm.exec) (hb : c.code = cc) {a b : Int} {off : Int} {tgt : Nat} (ha : -9223372036854775808 ≤ a ∧ a < 9223372036854775808) (hq : -9223372036854775808 ≤ b ∧ b < 9223372036854775808) (hd0 : decode cc pc = .ok (.lcmp, 1)) (hdg : decode cc (pc + 1) = .ok (.ifCond .le off, 3)) (ht : ((pc + 1 : Nat) : Int) + off = (tgt : Int)) (kt : a ≤ b → W p l e R s m args below meth c H locs cells slots Q (F0 m tgt ls rest)) (kf : ¬ (a ≤ b) → W p l e R s m args below meth c H locs cells slots Q (F0 m (pc + 1 + 3) ls rest)) : W p l e R s m args below meth c H locs cells slots Q (F0 m pc ls (vL b :: vL a :: rest)) := by
  refine W.lcmp hx hb hd0 (lv_if_le hx hb hdg ht (fun q => kt ?_) (fun q => kf ?_))
  · rw [lg_cmp_le, l_le ha hq] at q; exact q
  · rw [lg_cmp_le, l_le ha hq] at q; exact q
theorem z_swIn (hx : p.tables.exec = Jvm.exec) (hb : c.code = cc) {dflt lo hi : Int} {offs : Array Int} {len : Nat} {a : Int} {off : Int} (j : Int) (tgt : Nat) (ha : a = j) (hj : -2147483648 ≤ j ∧ j < 2147483648) (hdg : decode cc pc = .ok (.tableswitch dflt lo hi offs, len)) (h1 : ¬ j < lo) (h2 : ¬ hi < j) (ho : offs[(j - lo).toNat]? = some off) (ht : (pc : Int) + off = (tgt : Int)) (k : W p l e R s m args below meth c H locs cells slots Q (F0 m tgt ls rest)) : W p l e R s m args below meth c H locs cells slots Q (F0 m pc ls (vI a :: rest)) := by
  subst ha
  exact lv_tableIn hx hb hdg (by rw [i_toInt hj]; exact h1) (by rw [i_toInt hj]; exact h2) (by rw [i_toInt hj]; exact ho) ht k
theorem z_swOut (hx : p.tables.exec = Jvm.exec) (hb : c.code = cc) {dflt lo hi : Int} {offs : Array Int} {len : Nat} {a : Int} (tgt : Nat) (ha : -2147483648 ≤ a ∧ a < 2147483648) (hdg : decode cc pc = .ok (.tableswitch dflt lo hi offs, len)) (h : a < lo ∨ hi < a) (ht : (pc : Int) + dflt = (tgt : Int)) (k : W p l e R s m args below meth c H locs cells slots Q (F0 m tgt ls rest)) : W p l e R s m args below meth c H locs cells slots Q (F0 m pc ls (vI a :: rest)) := lv_tableOut hx hb hdg (by rw [i_toInt ha]; exact h) ht k
theorem z_iinc (hx : p.tables.exec = Jvm.exec) (hb : c.code = cc) {i nL k : Nat} {n : Int} {a : Int} (r : Int) {lv lv' : List (Nat × Value)} (hdg : decode cc pc = .ok (.iinc i n, 3)) (h : lv_has ls nL lv) (hk : lv[k]? = some (i, vI a)) (hr : a + n = r) (hn : i < nL) (hl : (i, vI r) :: lv.filter (fun q => !(q.1 == i) && !(q.1 + 1 == i && q.2.category == 2)) = lv') (kk : ∀ ls' : Array Slot, lv_has ls' nL lv' → W p l e R s m args below meth c H locs cells slots Q (F0 m (pc + 3) ls' rest)) : W p l e R s m args below meth c H locs cells slots Q (F0 m pc ls rest) := lv_iinc hx hb hdg h hk (by rw [← Int32.ofInt_add, hr]) hn hl kk
end ZI
