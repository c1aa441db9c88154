/-! the law: these rows are the printed ones -/
def R_law : String := "FaultDeskLaw"
def lw_P (b : Addr) (xs : List Int32) (args : Array Value) (s : State) : Prop := args = #[.ref b] ∧ s.IntsAt b xs ∧ xs.length ≤ 4096 ∧ (Jvm.Cond.and given_1 narrow_1).before args s = true
def lw_Q (_ : Array Value) (s : State) (o : Outcome) (t : State) : Prop := o = .returned (some (.int 1)) ∧ Framed s o t [] 600000 7302250
def lw_Z (below : List Frame) (a : Array Value) (s : State) : State → Prop := fun t => ∃ o, t.status = .running ∧ Ended t below o ∧ lw_Q a s o t
/-- the law's own end, with 1 on the stack, nothing written that was there before, its room as the claim has it -/
theorem lw_ret {p : Program} {l : Launch} {e : Env} {s : State} {m : MethodId} {below : List Frame} {meth : Method} {c : Code} {b : Nat} (hx : p.tables.exec = Jvm.exec) (hb : c.code = code) (hr : meth.sig.returnType = ret) (hlocks : meth.locks = false) {pc : Nat} {H : Heap} {ls : Array Slot} (hdg : decode code pc = .ok (.ireturn, 1)) : W p l e room_1 s m #[Value.ref b] below meth c H [] 600000 7302250 (lw_Z below #[Value.ref b] s) (F0 m pc ls [.int 1]) := by
  intro T hT X
  obtain ⟨fs, hret, hrun, hended, hW, hframe⟩ := X.leave (v := some (.int 1)) (hlocks := hlocks) (fun h => by rw [hr] at h; cases h)
  have hmeth' : T.vm.method? m = some meth := X.method'
  refine ⟨T.setFrames fs, ?_, .returned (some (.int 1)), hrun, hended, rfl, ⟨_, rfl⟩, hW, hframe⟩
  jvm_step X.here [X.here.top, hx, hb, hdg, hmeth', hr, ret, narrow_b1]
  (try refine ⟨rfl, ?_⟩); (try refine ⟨rfl, ?_⟩)
  first | (intro acts; rw [hret _ acts rfl rfl rfl]) | rw [hret _ _ rfl rfl rfl]
  exact Steps.refl _
/-- what holds at the law's entry: the machine, the code, the tables' words (any of lw_tbl by 'hts w (by decide +kernel)'), the script of L ints xs at the cell b, what the Statement gives of the start (any of its parts by flat_of_before) -/
def lw_At (p : Program) (s : State) (m : MethodId) (meth : Method) (c : Code) (b L : Nat) (xs : Nat → Int32) : Prop :=
  p.tables.exec = Jvm.exec ∧ c.code = code ∧ meth.sig.returnType = ret ∧ c.maxLocals = 4 ∧ s.vm.findClass R_law = some m.cls ∧ (∀ w ∈ lw_tbl, w.before #[Value.ref b] s = true) ∧ va_X b L xs s s.heap ∧ b < s.heap.size ∧ meth.locks = false ∧ (Jvm.Cond.and given_1 narrow_1).before #[Value.ref b] s = true
/-! the law: mine -/
section
variable {p : Program} {l : Launch} {e : Env} {R : Room} {s : State} {m : MethodId} {args : Array Value} {below : List Frame} {meth : Method} {c : Code} {H H0 : Heap} {locs : List Loc} {cells slots : Nat} {Q : State → Prop}
variable {cc : ByteArray} {pc : Nat} {ls : Array Slot} {rest : List Value} {g : zG} {A A0 : Nat → Prop} {cs : List va_W}
set_option maxHeartbeats 1000000 in
theorem z_xVl {y : MethodName} {bytes : ByteArray} {maxL nL mc ms n index k : Nat} {wd : List Cond} {X : zX} {Ts : List Cond} {own : String} {st0 As : List Value} {ret : Option FieldType} {S : Type} {rl : S → Int} {post : S → Prop} {wp : S → List va_W} (F : CallFix p m c cc nL s args Ts own) (hK : zK g s) (hP : zP g cs H) (hD : zD A0 cs) (hS : va_S A0 H0 H locs) (hA : ∀ q, H0.size ≤ q → A0 q) (isC isR : List Nat) {pre : List va_W} (hlc : (isC ++ isR).all (fun i => decide (i < cs.length)) = true) (he : (isC.filterMap (fun i => cs[i]?)).flatten = pre.flatten) (hnd : va_nd (isC ++ isR) = true) {C : String} {b : Nat} (hM : zMet l g y wd k mc ms (.ref b :: As) X pre (ql g rl post wp)) (cw : CallW R s args own C index y bytes maxL ret wd (zRm k mc ms) mc ms n) (ci q0 : Nat) {qc : vw_C} {fs : List Value} (hci : vwCl[ci]? = some qc) (hqc : qc.1 = C) (hrv : pre.flatten[q0]? = some (b, .inr (ci, fs))) (hXb : ∀ (B : Nat → Prop) (U : State) (g1 : JFrame) (mk : MethodId) (a : Array Value), X B U → X B (U.calling g1 mk a)) (hXs : (∀ q, va_A pre.flatten H.size q → A0 q) → ∀ U : State, U.heap = H → s.WarmedH U.vm → X (va_A pre.flatten H.size) U) (hn : As.length = n) (hsize : ls.size = nL) (hroom : (rest.map fun v => v.category).sum ≤ 8) (hstack : st0 = As.reverse ++ .ref b :: rest) (hdg : decode cc pc = .ok (.invokevirtual index, 3)) (hf : cells + mc ≤ R.cells ∧ slots + ms ≤ R.slots) (kk : ∀ (u : S) (H1 : Heap) (locs1 : List Loc), post u → zP g (isR.filterMap (fun i => cs[i]?) ++ wp u) H1 → zD A0 (isR.filterMap (fun i => cs[i]?) ++ wp u) → va_S A0 H0 H1 locs1 → W p l e R s m args below meth c H1 locs1 (cells + mc) (slots + ms) (Q) (F0 m (pc + 3) ls (vL (rl u) :: rest))) : W p l e R s m args below meth c H locs (cells) (slots) (Q) (F0 m pc ls st0) := by
  rw [List.all_append, Bool.and_eq_true] at hlc
  have hC := zc_fm hlc.1
  have hR := zc_fm hlc.2
  have hPc : zP g pre H := by have h := zP_sub hP isC hC; rw [zP, he] at h; exact h
  have hDc : zD A0 pre := by have h := zD_sub hD isC (by rw [va_nd_l hnd]) hC; rw [zD, he] at h; exact h
  have hFc : ∀ q, va_A pre.flatten H.size q → A0 q := by rw [← he]; exact z_free hD hS hA isC hC
  have hXs := hXs hFc
  refine va_calll (va_runV (As := As) (rest := rest) F (hM H.size) cw ⟨fun a U g1 mk q => ⟨q.1, q.2.1, q.2.2.1, va_K.moved (u := U) (U := U.calling g1 mk a) (Vm.Alike.refl U.vm) q.2.2.2.1, q.2.2.2.2.1, hXb _ _ _ _ _ q.2.2.2.2.2⟩, by rw [← hqc]; exact va_recv hK hPc hci hrv, fun U hU hW => ⟨rfl, by rw [hU], by rw [hU]; exact hPc, va_K.moved hW.alike hK, hDc.weaken (fun _ _ _ _ => trivial), hXs U hU hW⟩⟩ rfl hn hsize hstack (lv_room hroom) hdg hf) hS (fun q _ h => hFc q h) hFc (fun r u t H1 locs1 ht hvm hw hB hz1 hk1 hS1 => ?_)
  obtain ⟨hP1, hK1, hD1⟩ := hB
  obtain ⟨rfl, hw⟩ := hw
  rw [ht] at hP1
  obtain ⟨hP2, hD2⟩ := z_join (w1 := wp u) hP hD isC isR hC hR hnd (by rw [he]; exact hk1) (by rw [he]; exact hFc) hP1 (by rw [he]; exact hD1)
  exact kk u H1 locs1 hw hP2 hD2 hS1
theorem z_sameI (hx : p.tables.exec = Jvm.exec) (hb : c.code = cc) {a : Int} {off : Int} {tgt : Nat} (hdg : decode cc pc = .ok (.if_icmp .eq off, 3)) (ht : (pc : Int) + off = (tgt : Int)) (k : W p l e R s m args below meth c H locs cells slots Q (F0 m tgt ls rest)) : W p l e R s m args below meth c H locs cells slots Q (F0 m pc ls (vI a :: vI a :: rest)) := lv_icmp_eq hx hb hdg ht (fun _ => k) (fun q => absurd rfl q)
theorem z_sameL (hx : p.tables.exec = Jvm.exec) (hb : c.code = cc) {a : Int} {off : Int} {tgt : Nat} (hd0 : decode cc pc = .ok (.lcmp, 1)) (hdg : decode cc (pc + 1) = .ok (.ifCond .eq off, 3)) (ht : ((pc + 1 : Nat) : Int) + off = (tgt : Int)) (k : W p l e R s m args below meth c H locs cells slots Q (F0 m tgt ls rest)) : W p l e R s m args below meth c H locs cells slots Q (F0 m pc ls (vL a :: vL a :: rest)) := W.lcmp hx hb hd0 (lv_if_eq hx hb hdg ht (fun _ => k) (fun q => absurd ((lc_eq _ _).mpr rfl) q))
theorem z_sld (hx : p.tables.exec = Jvm.exec) (hb : c.code = cc) {b L : Nat} {xs : Nat → Int32} (hX : va_X b L xs s H0) (hbl : b < H0.size) (hbA : ¬ A b) (hS : va_S A H0 H locs) (hL : L ≤ 4096) (j : Nat) (hj : j < L) (hdg : decode cc pc = .ok (.iaload, 1)) (k : W p l e R s m args below meth c H locs cells slots Q (F0 m (pc + 1) ls (vI (xs j).toInt :: rest))) : W p l e R s m args below meth c H locs cells slots Q (F0 m pc ls (vI (j : Int) :: .ref b :: rest)) := by
  refine va_sld hx hb hX hbl hbA hS (i_in (by omega) (by omega)) hdg ?_
  rw [i_nat (by omega), Int.toNat_natCast]
  have e : vI (xs j).toInt = .int (xs j) := congrArg Value.int (i_ofToInt (xs j))
  rw [e] at k
  exact k
theorem z_slen (hx : p.tables.exec = Jvm.exec) (hb : c.code = cc) {b L : Nat} {xs : Nat → Int32} (hX : va_X b L xs s H0) (hbl : b < H0.size) (hbA : ¬ A b) (hS : va_S A H0 H locs) (hdg : decode cc pc = .ok (.arraylength, 1)) (k : W p l e R s m args below meth c H locs cells slots Q (F0 m (pc + 1) ls (vI (L : Int) :: rest))) : W p l e R s m args below meth c H locs cells slots Q (F0 m pc ls (.ref b :: rest)) := by
  refine va_slen hx hb hX hbl hbA hS hdg ?_
  rw [← Int32.ofInt_eq_ofNat]
  exact k
end
abbrev lwA (s : State) : Nat → Prop := fun q => s.heap.size ≤ q
def lC (p : Program) (s : State) (m : MethodId) (meth : Method) (c : Code) (b L : Nat) (xs : Nat → Int32) (g : zG) (t1 t2 : Nat) (x9 v9 : Nat → Nat) : Prop := p.tables.exec = Jvm.exec ∧ c.code = cL_law ∧ meth.sig.returnType = ret ∧ c.maxLocals = 4 ∧ s.vm.findClass RL = some m.cls ∧ (∀ w ∈ wsL_law, w.before #[Value.ref b] s = true) ∧ va_X b L xs s s.heap ∧ b < s.heap.size ∧ meth.locks = false ∧ zK g s ∧ zXL t1 t2 x9 v9 (lwA s) s ∧ L ≤ 4096
abbrev lGo (p : Program) (l : Launch) (e : Env) (s : State) (m : MethodId) (below : List Frame) (meth : Method) (c : Code) (b : Nat) (H : Heap) (locs : List Loc) (pc : Nat) (ls : Array Slot) (st : List Value) : Prop := W p l e room_1 s m #[Value.ref b] below meth c H locs 600000 7302250 (lw_Z below #[Value.ref b] s) (F0 m pc ls st)
