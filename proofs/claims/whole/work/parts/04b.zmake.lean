def zNs : List (String × Nat × MethodName) := [(RX9, 9, yX7_init), (RX9, 28, yX8_init), (RX8, 11, yX4_init), (RX4, 9, yX1_init), (RX3, 22, yX8_init), (RX9, 53, yX5_init), (RX5, 11, yX4_init), (RX5, 23, yX1_init), (RX9, 60, yX0_init), (RX9, 70, yX6_init), (RX5, 95, yX9_asBit)]
def zXN : zX := fun _ U => (∀ q ∈ zNs, va_Nw (.methodLinkNest q.1 q.2.1 q.2.2 "FaultDesk") U) ∧ va_AO "FaultDesk$Num" U ∧ va_AO "FaultDesk$Store" U ∧ va_AO "FaultDesk$Three" U
theorem zXN_b : ∀ (B : Nat → Prop) (U : State) (g1 : JFrame) (mk : MethodId) (a : Array Value), zXN B U → zXN B (U.calling g1 mk a) := fun B U g1 mk a h => ⟨fun q hq => va_Nw.same rfl rfl (h.1 q hq), va_AO.moved (Vm.Alike.refl U.vm) h.2.1, va_AO.moved (Vm.Alike.refl U.vm) h.2.2.1, va_AO.moved (Vm.Alike.refl U.vm) h.2.2.2⟩
theorem zXN_s {A B : Nat → Prop} {s : State} {H : Heap} (h : zXN A s) : ∀ U : State, U.heap = H → s.WarmedH U.vm → zXN B U := fun _ _ hW => ⟨fun q hq => va_Nw.warmM hW (h.1 q hq), va_AO.moved hW.alike h.2.1, va_AO.moved hW.alike h.2.2.1, va_AO.moved hW.alike h.2.2.2⟩
theorem arr_congr {F F' : Nat → Value} {n : Nat} (cA : ClassId) (h : ∀ k, k < n → F k = F' k) : arrV cA n F = arrV cA n F' := by
  unfold arrV
  congr 1
  congr 1
  funext j
  exact h j.val j.isLt
theorem zP_cell {D : va_G} {cl : List vw_C} {ws : va_W} {q a : Nat} {e e' : va_E} {H : Heap} (hl : q < ws.length) (h : va_P D cl (ws.set q (a, e)) H) (he : va_at D cl (a, e) H → va_at D cl (a, e') H) : va_P D cl (ws.set q (a, e')) H := by
  intro k x hk
  by_cases hkq : k = q
  · subst hkq
    rw [List.getElem?_set_self hl] at hk
    cases hk
    exact he (h k (a, e) (by rw [List.getElem?_set_self hl]))
  · rw [List.getElem?_set_ne (Ne.symm hkq)] at hk
    exact h k x (by rw [List.getElem?_set_ne (Ne.symm hkq)]; exact hk)
theorem zD_cell {A : Nat → Prop} {ws : va_W} {q a : Nat} {e e' : va_E} (hl : q < ws.length) (h : va_D A (ws.set q (a, e))) : va_D A (ws.set q (a, e')) := by
  have h1 := va_D.set (e := e') h (List.getElem?_set_self hl)
  rwa [List.set_set] at h1
theorem z_cls {s : State} {c1 c2 : ClassId} {n : String} (h1 : s.vm.findClass n = some c1) (h2 : s.vm.findClass n = some c2) : c1 = c2 := by rw [h1] at h2; exact Option.some.inj h2
theorem n_neg {n : Nat} (hn : n ≤ 1000000) : ¬ Int32.ofInt (n : Int) < 0 := by
  have h := i_lt (a := (n : Int)) (b := 0) (by omega) (by omega)
  rw [i_0, h]
  omega
theorem n_nat {n : Nat} (hn : n ≤ 1000000) : (Int32.ofInt (n : Int)).toNatClampNeg = n := by rw [i_nat (by omega)]; simp
theorem n_byt {n b : Nat} (hn : n ≤ 1000000) (hb : b ≤ 8) : n * b ≤ 536870912 := by
  have := Nat.mul_le_mul hn hb
  omega
section ZN
variable {p : Program} {l : Launch} {e : Env} {R : Room} {s : State} {m : MethodId} {args : Array Value} {below : List Frame} {meth : Method} {c : Code} {H H0 : Heap} {locs : List Loc} {cells slots : Nat} {Q : State → Prop}
variable {cc : ByteArray} {pc : Nat} {ls : Array Slot} {rest : List Value} {g : zG} {A A0 : Nat → Prop} {cs : List va_W}
set_option maxHeartbeats 1000000 in
theorem z_cSNi {y : MethodName} {bytes : ByteArray} {maxL nL mc ms n index k : Nat} {wd : List Cond} {X : zX} {Ts : List Cond} {own : String} {st0 As : List Value} {ret : Option FieldType} {host : String} {S : Type} {ri : S → Int} {post : S → Prop} {wp : S → List va_W} (F : CallFix p m c cc nL s args Ts own) (hK : zK g s) (hP : zP g cs H) (hD : zD A0 cs) (hS : va_S A0 H0 H locs) (hA : ∀ q, H0.size ≤ q → A0 q) (isC isR : List Nat) {pre : List va_W} (hlc : (isC ++ isR).all (fun i => decide (i < cs.length)) = true) (he : (isC.filterMap (fun i => cs[i]?)).flatten = pre.flatten) (hnd : va_nd (isC ++ isR) = true) (hM : zMet l g y wd k mc ms As X pre (qi g ri post wp)) (cw : va_CN R s args own index y host bytes maxL ret wd (zRm k mc ms) mc ms n ∧ (Cond.static y).before args s = true ∧ True) (hXb : ∀ (B : Nat → Prop) (U : State) (g1 : JFrame) (mk : MethodId) (a : Array Value), X B U → X B (U.calling g1 mk a)) (hXs : ∀ U : State, U.heap = H → s.WarmedH U.vm → X (va_A pre.flatten H.size) U) (hn : As.length = n) (hsize : ls.size = nL) (hroom : (rest.map fun v => v.category).sum ≤ 8) (hstack : st0 = As.reverse ++ rest) (hdg : decode cc pc = .ok (.invokestatic index, 3)) (hf : cells + mc ≤ R.cells ∧ slots + ms ≤ R.slots) (kk : ∀ (u : S) (H1 : Heap) (locs1 : List Loc), post u → zP g (isR.filterMap (fun i => cs[i]?) ++ wp u) H1 → zD A0 (isR.filterMap (fun i => cs[i]?) ++ wp u) → va_S A0 H0 H1 locs1 → W p l e R s m args below meth c H1 locs1 (cells + mc) (slots + ms) (Q) (F0 m (pc + 3) ls (vI (ri u) :: rest))) : W p l e R s m args below meth c H locs (cells) (slots) (Q) (F0 m pc ls st0) := by
  rw [List.all_append, Bool.and_eq_true] at hlc
  have hC := zc_fm hlc.1
  have hR := zc_fm hlc.2
  have hPc : zP g pre H := by have h := zP_sub hP isC hC; rw [zP, he] at h; exact h
  have hDc : zD A0 pre := by have h := zD_sub hD isC (by rw [va_nd_l hnd]) hC; rw [zD, he] at h; exact h
  have hFc : ∀ q, va_A pre.flatten H.size q → A0 q := by rw [← he]; exact z_free hD hS hA isC hC
  refine va_calli (va_runSN (As := As) (rest := rest) F (hM H.size) cw ⟨fun a U g1 mk q => ⟨q.1, q.2.1, q.2.2.1, va_K.moved (u := U) (U := U.calling g1 mk a) (Vm.Alike.refl U.vm) q.2.2.2.1, q.2.2.2.2.1, hXb _ _ _ _ _ q.2.2.2.2.2⟩, fun U hU hW => ⟨rfl, by rw [hU], by rw [hU]; exact hPc, va_K.moved hW.alike hK, hDc.weaken (fun _ _ _ _ => trivial), hXs U hU hW⟩⟩ rfl hn hsize hstack (lv_room hroom) hdg hf) hS (fun q _ h => hFc q h) hFc (fun r u t H1 locs1 ht hvm hw hB hz1 hk1 hS1 => ?_)
  obtain ⟨hP1, hK1, hD1⟩ := hB
  obtain ⟨rfl, hw⟩ := hw
  rw [ht] at hP1
  obtain ⟨hP2, hD2⟩ := z_join (w1 := wp u) hP hD isC isR hC hR hnd (by rw [he]; exact hk1) (by rw [he]; exact hFc) hP1 (by rw [he]; exact hD1)
  exact kk u H1 locs1 hw hP2 hD2 hS1
set_option maxHeartbeats 1000000 in
theorem z_cINv {y : MethodName} {bytes : ByteArray} {maxL nL mc ms n index k : Nat} {wd : List Cond} {X : zX} {Ts : List Cond} {own : String} {st0 As : List Value} {host : String} {S : Type} {post : S → Prop} {wp : S → List va_W} (F : CallFix p m c cc nL s args Ts own) (hK : zK g s) (hP : zP g cs H) (hD : zD A0 cs) (hS : va_S A0 H0 H locs) (hA : ∀ q, H0.size ≤ q → A0 q) (isC isR : List Nat) {pre : List va_W} (hlc : (isC ++ isR).all (fun i => decide (i < cs.length)) = true) (he : (isC.filterMap (fun i => cs[i]?)).flatten = pre.flatten) (hnd : va_nd (isC ++ isR) = true) {b : Nat} (hM : zMet l g y wd k mc ms (.ref b :: As) X pre (qv g post wp)) (cw : va_CN R s args own index y host bytes maxL none wd (zRm k mc ms) mc ms n ∧ y.name = "<init>" ∧ (Cond.instanceMethod y).before args s = true) (hXb : ∀ (B : Nat → Prop) (U : State) (g1 : JFrame) (mk : MethodId) (a : Array Value), X B U → X B (U.calling g1 mk a)) (hXs : ∀ U : State, U.heap = H → s.WarmedH U.vm → X (va_A pre.flatten H.size) U) (hn : As.length = n) (hsize : ls.size = nL) (hroom : (rest.map fun v => v.category).sum ≤ 8) (hstack : st0 = As.reverse ++ .ref b :: rest) (hdg : decode cc pc = .ok (.invokespecial index, 3)) (hf : cells + mc ≤ R.cells ∧ slots + ms ≤ R.slots) (kk : ∀ (u : S) (H1 : Heap) (locs1 : List Loc), post u → zP g (isR.filterMap (fun i => cs[i]?) ++ wp u) H1 → zD A0 (isR.filterMap (fun i => cs[i]?) ++ wp u) → va_S A0 H0 H1 locs1 → W p l e R s m args below meth c H1 locs1 (cells + mc) (slots + ms) (Q) (F0 m (pc + 3) ls (rest))) : W p l e R s m args below meth c H locs (cells) (slots) (Q) (F0 m pc ls st0) := by
  rw [List.all_append, Bool.and_eq_true] at hlc
  have hC := zc_fm hlc.1
  have hR := zc_fm hlc.2
  have hPc : zP g pre H := by have h := zP_sub hP isC hC; rw [zP, he] at h; exact h
  have hDc : zD A0 pre := by have h := zD_sub hD isC (by rw [va_nd_l hnd]) hC; rw [zD, he] at h; exact h
  have hFc : ∀ q, va_A pre.flatten H.size q → A0 q := by rw [← he]; exact z_free hD hS hA isC hC
  refine va_callv (va_runIN (As := As) (rest := rest) F (hM H.size) cw ⟨fun a U g1 mk q => ⟨q.1, q.2.1, q.2.2.1, va_K.moved (u := U) (U := U.calling g1 mk a) (Vm.Alike.refl U.vm) q.2.2.2.1, q.2.2.2.2.1, hXb _ _ _ _ _ q.2.2.2.2.2⟩, fun U hU hW => ⟨rfl, by rw [hU], by rw [hU]; exact hPc, va_K.moved hW.alike hK, hDc.weaken (fun _ _ _ _ => trivial), hXs U hU hW⟩⟩ rfl hn hsize hstack (lv_room hroom) hdg hf) hS (fun q _ h => hFc q h) hFc (fun u t H1 locs1 ht hvm hw hB hz1 hk1 hS1 => ?_)
  obtain ⟨hP1, hK1, hD1⟩ := hB
  rw [ht] at hP1
  obtain ⟨hP2, hD2⟩ := z_join (w1 := wp u) hP hD isC isR hC hR hnd (by rw [he]; exact hk1) (by rw [he]; exact hFc) hP1 (by rw [he]; exact hD1)
  exact kk u H1 locs1 hw hP2 hD2 hS1
theorem z_app (cs : List va_W) (x : Nat × va_E) : (cs ++ [[x]]).flatten = cs.flatten ++ [x] := by simp
theorem z_new (hx : p.tables.exec = Jvm.exec) (hb : c.code = cc) {own C : String} {T : u_T} {N ci index : Nat} {Ts : List Cond} (hts : ∀ w ∈ Ts, w.before args s = true) (hin : ∀ w ∈ u_ws C T N, w ∈ Ts) (ty : Nat → FieldType) (hty : ∀ k, k < N → parseFieldDescriptor (T k).2.2.1 = some (ty k)) (hown : s.vm.findClass own = some m.cls) (hcl : (Cond.classLink own index C).before args s = true) (hinst : (Cond.instantiable C N).before args s = true) (hini : (Cond.initialized C).before args s = true) (hK : zK g s) (hP : zP g cs H) (hD : zD A cs) (hS : va_S A H0 H locs) (hA : ∀ q, H0.size ≤ q → A q) (hc : vwCl[ci]? = some (C, T, N)) {fs : List Value} (hfs : ∀ j, j < N → defaultValue (ty j) = vp_V fs j) (hcells : cells + 1 ≤ R.cells) (hslots : slots + N ≤ R.slots) (hdg : decode cc pc = .ok (.new index, 3)) (kk : ∀ (q : Nat) (H1 : Heap), zP g (cs ++ [[(q, .inr (ci, fs))]]) H1 → zD A (cs ++ [[(q, .inr (ci, fs))]]) → va_S A H0 H1 locs → W p l e R s m args below meth c H1 locs (cells + 1) (slots + N) (Q) (F0 m (pc + 3) ls (.ref q :: rest))) : W p l e R s m args below meth c H locs (cells) (slots) (Q) (F0 m pc ls rest) :=
  va_new hx hb hts hin ty hty hown hcl hinst hini hK hP hD hS hA hc hfs hcells hslots hdg (fun q H1 h1 h2 h3 => kk q H1 (by rw [zP, z_app]; exact h1) (by rw [zD, z_app]; exact h2) h3)
theorem z_newaI (hx : p.tables.exec = Jvm.exec) (hb : c.code = cc) (harr : (Cond.arrayClass .int).before args s = true) (hK : zK g s) (hP : zP g cs H) (hD : zD A cs) (hS : va_S A H0 H locs) (hA : ∀ q, H0.size ≤ q → A q) (n : Nat) {i : Int} (hi : i = (n : Int)) (hn : n ≤ 1000000) (hcells : cells + 1 ≤ R.cells) (hslots : slots + n ≤ R.slots) (hdg : decode cc pc = .ok (.newarray .int, 2)) (kk : ∀ (q : Nat) (H1 : Heap), zP g (cs ++ [[(q, .inl (g.2 0, n, .inl (aI (fun _ => 0))))]]) H1 → zD A (cs ++ [[(q, .inl (g.2 0, n, .inl (aI (fun _ => 0))))]]) → va_S A H0 H1 locs → W p l e R s m args below meth c H1 locs (cells + 1) (slots + n) (Q) (F0 m (pc + 2) ls (.ref q :: rest))) : W p l e R s m args below meth c H locs (cells) (slots) (Q) (F0 m pc ls (vI i :: rest)) := by
  subst hi
  refine va_newa (atype := .int) (ty := .int) (a0 := (n, .inl (aI (fun _ => 0)))) (N' := n) hx hb harr rfl hK hP hD hS hA (fun cA => rfl) (n_neg hn) (n_nat hn) (n_byt hn (by decide)) hcells hslots hdg (fun q cA H1 hK1 h1 h2 h3 => ?_)
  have e : cA = g.2 0 := z_cls (s := s) (hK1.2 6 (cA, .int) rfl).2 (hK.2 0 (g.2 0, .int) rfl).2
  subst e
  exact kk q H1 (by rw [zP, z_app]; exact h1) (by rw [zD, z_app]; exact h2) h3
theorem z_newaJ (hx : p.tables.exec = Jvm.exec) (hb : c.code = cc) (harr : (Cond.arrayClass .long).before args s = true) (hK : zK g s) (hP : zP g cs H) (hD : zD A cs) (hS : va_S A H0 H locs) (hA : ∀ q, H0.size ≤ q → A q) (n : Nat) {i : Int} (hi : i = (n : Int)) (hn : n ≤ 1000000) (hcells : cells + 1 ≤ R.cells) (hslots : slots + n ≤ R.slots) (hdg : decode cc pc = .ok (.newarray .long, 2)) (kk : ∀ (q : Nat) (H1 : Heap), zP g (cs ++ [[(q, .inl (g.2 1, n, .inr (.inl (aL (fun _ => 0)))))]]) H1 → zD A (cs ++ [[(q, .inl (g.2 1, n, .inr (.inl (aL (fun _ => 0)))))]]) → va_S A H0 H1 locs → W p l e R s m args below meth c H1 locs (cells + 1) (slots + n) (Q) (F0 m (pc + 2) ls (.ref q :: rest))) : W p l e R s m args below meth c H locs (cells) (slots) (Q) (F0 m pc ls (vI i :: rest)) := by
  subst hi
  refine va_newa (atype := .long) (ty := .long) (a0 := (n, .inr (.inl (aL (fun _ => 0))))) (N' := n) hx hb harr rfl hK hP hD hS hA (fun cA => rfl) (n_neg hn) (n_nat hn) (n_byt hn (by decide)) hcells hslots hdg (fun q cA H1 hK1 h1 h2 h3 => ?_)
  have e : cA = g.2 1 := z_cls (s := s) (hK1.2 6 (cA, .long) rfl).2 (hK.2 1 (g.2 1, .long) rfl).2
  subst e
  exact kk q H1 (by rw [zP, z_app]; exact h1) (by rw [zD, z_app]; exact h2) h3
theorem z_newaZ (hx : p.tables.exec = Jvm.exec) (hb : c.code = cc) (harr : (Cond.arrayClass .boolean).before args s = true) (hK : zK g s) (hP : zP g cs H) (hD : zD A cs) (hS : va_S A H0 H locs) (hA : ∀ q, H0.size ≤ q → A q) (n : Nat) {i : Int} (hi : i = (n : Int)) (hn : n ≤ 1000000) (hcells : cells + 1 ≤ R.cells) (hslots : slots + n ≤ R.slots) (hdg : decode cc pc = .ok (.newarray .boolean, 2)) (kk : ∀ (q : Nat) (H1 : Heap), zP g (cs ++ [[(q, .inl (g.2 2, n, .inl (aI (fun _ => 0))))]]) H1 → zD A (cs ++ [[(q, .inl (g.2 2, n, .inl (aI (fun _ => 0))))]]) → va_S A H0 H1 locs → W p l e R s m args below meth c H1 locs (cells + 1) (slots + n) (Q) (F0 m (pc + 2) ls (.ref q :: rest))) : W p l e R s m args below meth c H locs (cells) (slots) (Q) (F0 m pc ls (vI i :: rest)) := by
  subst hi
  refine va_newa (atype := .boolean) (ty := .boolean) (a0 := (n, .inl (aI (fun _ => 0)))) (N' := n) hx hb harr rfl hK hP hD hS hA (fun cA => rfl) (n_neg hn) (n_nat hn) (n_byt hn (by decide)) hcells hslots hdg (fun q cA H1 hK1 h1 h2 h3 => ?_)
  have e : cA = g.2 2 := z_cls (s := s) (hK1.2 6 (cA, .boolean) rfl).2 (hK.2 2 (g.2 2, .boolean) rfl).2
  subst e
  exact kk q H1 (by rw [zP, z_app]; exact h1) (by rw [zD, z_app]; exact h2) h3
theorem z_newqNum (hx : p.tables.exec = Jvm.exec) (hb : c.code = cc) {own : String} {index : Nat} (hown : s.vm.findClass own = some m.cls) (hclink : (Cond.classLink own index "FaultDesk$Num").before args s = true) (hover : va_AO "FaultDesk$Num" s) (hK : zK g s) (hP : zP g cs H) (hD : zD A cs) (hS : va_S A H0 H locs) (hA : ∀ q, H0.size ≤ q → A q) (n : Nat) {i : Int} (hi : i = (n : Int)) (hn : n ≤ 1000000) (hcells : cells + 1 ≤ R.cells) (hslots : slots + n ≤ R.slots) (hdg : decode cc pc = .ok (.anewarray index, 3)) (kk : ∀ (q : Nat) (H1 : Heap), zP g (cs ++ [[(q, .inl (g.2 3, n, .inr (.inr (.inr (.inr (fun _ => none))))))]]) H1 → zD A (cs ++ [[(q, .inl (g.2 3, n, .inr (.inr (.inr (.inr (fun _ => none))))))]]) → va_S A H0 H1 locs → W p l e R s m args below meth c H1 locs (cells + 1) (slots + n) (Q) (F0 m (pc + 3) ls (.ref q :: rest))) : W p l e R s m args below meth c H locs (cells) (slots) (Q) (F0 m pc ls (vI i :: rest)) := by
  subst hi
  refine va_newq (N' := n) hx hb hown hclink hover hK hP hD hS hA (n_neg hn) (n_nat hn) (by omega) hcells hslots hdg (fun q cA H1 hK1 h1 h2 h3 => ?_)
  have e : cA = g.2 3 := by
    obtain ⟨_, _, _, _, _, r1⟩ := (hK1.2 6 (cA, .object "FaultDesk$Num") rfl).2
    obtain ⟨_, _, _, _, _, r2⟩ := (hK.2 3 (g.2 3, .object "FaultDesk$Num") rfl).2
    exact z_cls r1 r2
  subst e
  exact kk q H1 (by rw [zP, z_app]; exact h1) (by rw [zD, z_app]; exact h2) h3
theorem z_newqStore (hx : p.tables.exec = Jvm.exec) (hb : c.code = cc) {own : String} {index : Nat} (hown : s.vm.findClass own = some m.cls) (hclink : (Cond.classLink own index "FaultDesk$Store").before args s = true) (hover : va_AO "FaultDesk$Store" s) (hK : zK g s) (hP : zP g cs H) (hD : zD A cs) (hS : va_S A H0 H locs) (hA : ∀ q, H0.size ≤ q → A q) (n : Nat) {i : Int} (hi : i = (n : Int)) (hn : n ≤ 1000000) (hcells : cells + 1 ≤ R.cells) (hslots : slots + n ≤ R.slots) (hdg : decode cc pc = .ok (.anewarray index, 3)) (kk : ∀ (q : Nat) (H1 : Heap), zP g (cs ++ [[(q, .inl (g.2 4, n, .inr (.inr (.inr (.inr (fun _ => none))))))]]) H1 → zD A (cs ++ [[(q, .inl (g.2 4, n, .inr (.inr (.inr (.inr (fun _ => none))))))]]) → va_S A H0 H1 locs → W p l e R s m args below meth c H1 locs (cells + 1) (slots + n) (Q) (F0 m (pc + 3) ls (.ref q :: rest))) : W p l e R s m args below meth c H locs (cells) (slots) (Q) (F0 m pc ls (vI i :: rest)) := by
  subst hi
  refine va_newq (N' := n) hx hb hown hclink hover hK hP hD hS hA (n_neg hn) (n_nat hn) (by omega) hcells hslots hdg (fun q cA H1 hK1 h1 h2 h3 => ?_)
  have e : cA = g.2 4 := by
    obtain ⟨_, _, _, _, _, r1⟩ := (hK1.2 6 (cA, .object "FaultDesk$Store") rfl).2
    obtain ⟨_, _, _, _, _, r2⟩ := (hK.2 4 (g.2 4, .object "FaultDesk$Store") rfl).2
    exact z_cls r1 r2
  subst e
  exact kk q H1 (by rw [zP, z_app]; exact h1) (by rw [zD, z_app]; exact h2) h3
theorem z_newqThree (hx : p.tables.exec = Jvm.exec) (hb : c.code = cc) {own : String} {index : Nat} (hown : s.vm.findClass own = some m.cls) (hclink : (Cond.classLink own index "FaultDesk$Three").before args s = true) (hover : va_AO "FaultDesk$Three" s) (hK : zK g s) (hP : zP g cs H) (hD : zD A cs) (hS : va_S A H0 H locs) (hA : ∀ q, H0.size ≤ q → A q) (n : Nat) {i : Int} (hi : i = (n : Int)) (hn : n ≤ 1000000) (hcells : cells + 1 ≤ R.cells) (hslots : slots + n ≤ R.slots) (hdg : decode cc pc = .ok (.anewarray index, 3)) (kk : ∀ (q : Nat) (H1 : Heap), zP g (cs ++ [[(q, .inl (g.2 5, n, .inr (.inr (.inr (.inr (fun _ => none))))))]]) H1 → zD A (cs ++ [[(q, .inl (g.2 5, n, .inr (.inr (.inr (.inr (fun _ => none))))))]]) → va_S A H0 H1 locs → W p l e R s m args below meth c H1 locs (cells + 1) (slots + n) (Q) (F0 m (pc + 3) ls (.ref q :: rest))) : W p l e R s m args below meth c H locs (cells) (slots) (Q) (F0 m pc ls (vI i :: rest)) := by
  subst hi
  refine va_newq (N' := n) hx hb hown hclink hover hK hP hD hS hA (n_neg hn) (n_nat hn) (by omega) hcells hslots hdg (fun q cA H1 hK1 h1 h2 h3 => ?_)
  have e : cA = g.2 5 := by
    obtain ⟨_, _, _, _, _, r1⟩ := (hK1.2 6 (cA, .object "FaultDesk$Three") rfl).2
    obtain ⟨_, _, _, _, _, r2⟩ := (hK.2 5 (g.2 5, .object "FaultDesk$Three") rfl).2
    exact z_cls r1 r2
  subst e
  exact kk q H1 (by rw [zP, z_app]; exact h1) (by rw [zD, z_app]; exact h2) h3
theorem z_copy (hx : p.tables.exec = Jvm.exec) (hb : c.code = cc) (hml : c.maxLocals = ls.size) {own : String} {index : Nat} (hown : s.vm.findClass own = some m.cls) (hlink : (Cond.methodLink own index arraycopyName).before args s = true) (hnat : (Cond.native arraycopyName).before args s = true) (hstat : (Cond.static arraycopyName).before args s = true) (hini : (Cond.initialized "java/lang/System").before args s = true) (hK : zK g s) (hP : zP g cs H) (hD : zD A cs) (hS : va_S A H0 H locs) (q0 q1 : Nat) {a0 a n : Nat} {f f1 : Nat → Int} (h0 : cs.flatten[q0]? = some (a0, .inl (g.2 0, n, .inl (aI f)))) (h1 : cs.flatten[q1]? = some (a, .inl (g.2 0, n, .inl (aI f1)))) {i : Int} (hi : i = (n : Int)) (hn : n ≤ 1000000) (hframes : 1 ≤ R.frames) (hlocals : (rest.map fun v => v.category).sum + (nativeFrameWords "java/lang/System" "arraycopy" 5 + 11) ≤ R.locals) (hdg : decode cc pc = .ok (.invokestatic index, 3)) (cs' : List va_W) (hcs : cs'.flatten = cs.flatten.set q1 (a, .inl (g.2 0, n, .inl (aI f)))) (kk : ∀ (H1 : Heap) (locs1 : List Loc), zP g cs' H1 → zD A cs' → va_S A H0 H1 locs1 → W p l e R s m args below meth c H1 locs1 (cells) (slots) (Q) (F0 m (pc + 3) ls rest)) : W p l e R s m args below meth c H locs (cells) (slots) (Q) (F0 m pc ls (vI i :: vI 0 :: .ref a :: vI 0 :: .ref a0 :: rest)) := by
  subst hi
  have e0 : (Int32.ofInt 0).toNatClampNeg = 0 := rfl
  have en : (Int32.ofInt (n : Int)).toNatClampNeg = n := n_nat hn
  have hlt : q1 < cs.flatten.length := (List.getElem?_eq_some_iff.mp h1).1
  refine va_copyi hx hb hml hown hlink hnat hstat hini hK hP hD hS q0 q1 0 0 h0 h1 rfl rfl rfl (by decide) (by decide) (n_neg hn) (by rw [e0, en]; omega) (by rw [e0, en]; omega) (fun j _ => rfl) hframes hlocals hdg (fun H1 locs1 g1 g2 g3 => ?_)
  rw [e0, en] at g1 g2
  have hc : va_at g.1 vwCl (a, .inl (g.2 0, n, .inl (va_cpy (aI f) (aI f1) 0 0 n))) H1 → va_at g.1 vwCl (a, .inl (g.2 0, n, .inl (aI f))) H1 := by
    intro q
    show H1[a]? = some (vp_cell (g.2 0) (n, .inl (aI f)))
    rw [show H1[a]? = some (vp_cell (g.2 0) (n, .inl (va_cpy (aI f) (aI f1) 0 0 n))) from q, vp_cell_i, vp_cell_i]
    congr 1
    exact arr_congr _ (fun k hk => by rw [pk_cpy_in (Nat.zero_le _) (by omega)]; simp)
  exact kk H1 locs1 (by rw [zP, hcs]; exact zP_cell hlt g1 hc) (by rw [zD, hcs]; exact zD_cell hlt g2) g3
end ZN
