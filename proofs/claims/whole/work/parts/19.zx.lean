def zXS (a av : Nat) (bs : List Int) : zX := fun A U => va_Z "java/lang/String" "COMPACT_STRINGS" "Z" (vI 1) A U U.heap ∧ va_Zq "jdk/internal/util/Preconditions" "SIOOBE_FORMATTER" "Ljava/util/function/BiFunction;" A U U.heap ∧ va_O "java/lang/String" a A U U.heap ∧ va_OF "java/lang/String" "coder" "B" (vI 0) a A U U.heap ∧ va_OF "java/lang/String" "value" "[B" (.ref av) a A U U.heap ∧ va_T .byte av bs.length (fun j => vI (bs.getD j 0)) A U U.heap
theorem zXS_b {a av : Nat} {bs : List Int} : ∀ (B : Nat → Prop) (U : State) (g1 : JFrame) (mk : MethodId) (x : Array Value), zXS a av bs B U → zXS a av bs B (U.calling g1 mk x) := fun B U g1 mk x h => ⟨va_Z.moved (Vm.Alike.refl U.vm) h.1, va_Zq.moved (Vm.Alike.refl U.vm) h.2.1, va_O.moved (Vm.Alike.refl U.vm) h.2.2.1, va_OF.moved (Vm.Alike.refl U.vm) h.2.2.2.1, va_OF.moved (Vm.Alike.refl U.vm) h.2.2.2.2.1, va_T.moved (Vm.Alike.refl U.vm) h.2.2.2.2.2⟩
theorem zXS_s {a av : Nat} {bs : List Int} {A B : Nat → Prop} {s : State} {H : Heap} {locs : List Loc} (h : zXS a av bs A s) (hS : va_S A s.heap H locs) (hF : ∀ q, B q → A q) : ∀ U : State, U.heap = H → s.WarmedH U.vm → zXS a av bs B U := fun U hU hW => by
  obtain ⟨h1, h2, h3, h4, h5, h6⟩ := h
  unfold zXS
  rw [hU]
  exact ⟨((h1.kept hS.2.1).narrow hF).moved hW.alike, ((h2.kept hS.2.1).narrow hF).moved hW.alike, ((h3.kept hS.2.1).narrow hF).moved hW.alike, ((h4.kept hS.2.1).narrow hF).moved hW.alike, ((h5.kept hS.2.1).narrow hF).moved hW.alike, ((h6.kept hS.2.1).narrow hF).moved hW.alike⟩
theorem zXT_b {t : Nat} {f : Nat → Value} : ∀ (B : Nat → Prop) (U : State) (g1 : JFrame) (mk : MethodId) (x : Array Value), zXT t f B U → zXT t f B (U.calling g1 mk x) := fun B U g1 mk x h => va_T.moved (Vm.Alike.refl U.vm) h
theorem zXT_s {t : Nat} {f : Nat → Value} {A B : Nat → Prop} {s : State} {H : Heap} {locs : List Loc} (h : zXT t f A s) (hS : va_S A s.heap H locs) (hF : ∀ q, B q → A q) : ∀ U : State, U.heap = H → s.WarmedH U.vm → zXT t f B U := fun U hU hW => by
  unfold zXT at h ⊢
  rw [hU]
  exact ((h.kept hS.2.1).narrow hF).moved hW.alike
def wNet : List Int := [110, 101, 116]
def wSou : List Int := [115, 111, 117, 114, 99, 101]
def wBus : List Int := [98, 117, 115]
def wRel : List Int := [114, 101, 108, 97, 121]
def zXW (x v : Nat → Nat) : zX := fun A U => (vk_R RX7 45 "net" (x 0) U ∧ vk_R RX7 61 "source" (x 1) U ∧ vk_R RX7 70 "bus" (x 2) U ∧ vk_R RX7 81 "relay" (x 3) U) ∧ zXS (x 0) (v 0) wNet A U ∧ zXS (x 1) (v 1) wSou A U ∧ zXS (x 2) (v 2) wBus A U ∧ zXS (x 3) (v 3) wRel A U
theorem zXW_b {x v : Nat → Nat} : ∀ (B : Nat → Prop) (U : State) (g1 : JFrame) (mk : MethodId) (a : Array Value), zXW x v B U → zXW x v B (U.calling g1 mk a) := fun B U g1 mk a h => ⟨⟨vk_R.same rfl h.1.1, vk_R.same rfl h.1.2.1, vk_R.same rfl h.1.2.2.1, vk_R.same rfl h.1.2.2.2⟩, zXS_b B U g1 mk a h.2.1, zXS_b B U g1 mk a h.2.2.1, zXS_b B U g1 mk a h.2.2.2.1, zXS_b B U g1 mk a h.2.2.2.2⟩
theorem zXW_s {x v : Nat → Nat} {A B : Nat → Prop} {s : State} {H : Heap} {locs : List Loc} (h : zXW x v A s) (hS : va_S A s.heap H locs) (hF : ∀ q, B q → A q) : ∀ U : State, U.heap = H → s.WarmedH U.vm → zXW x v B U := fun U hU hW => ⟨⟨vk_R.warm hW h.1.1, vk_R.warm hW h.1.2.1, vk_R.warm hW h.1.2.2.1, vk_R.warm hW h.1.2.2.2⟩, zXS_s h.2.1 hS hF U hU hW, zXS_s h.2.2.1 hS hF U hU hW, zXS_s h.2.2.2.1 hS hF U hU hW, zXS_s h.2.2.2.2 hS hF U hU hW⟩
theorem shr0 (x : Int32) : x >>> (Int32.ofInt 0 &&& 31) = x := by
  have h : (Int32.ofInt 0 &&& 31) = 0 := by decide
  rw [h]
  exact Int32.shiftRight_zero
section ZXR
variable {p : Program} {l : Launch} {e : Env} {R : Room} {s : State} {m : MethodId} {args : Array Value} {below : List Frame} {meth : Method} {c : Code} {H H0 : Heap} {locs : List Loc} {cells slots : Nat} {Q : State → Prop}
variable {cc : ByteArray} {pc : Nat} {ls : Array Slot} {rest : List Value} {g : zG} {A A0 : Nat → Prop} {cs : List va_W}
set_option maxHeartbeats 1000000 in
theorem z_xVv {y : MethodName} {bytes : ByteArray} {maxL nL mc ms n index k : Nat} {wd : List Cond} {X : zX} {Ts : List Cond} {own : String} {st0 As : List Value} {S : Type} {post : S → Prop} {wp : S → List va_W} (F : CallFix p m c cc nL s args Ts own) (hK : zK g s) (hP : zP g cs H) (hD : zD A0 cs) (hS : va_S A0 H0 H locs) (hA : ∀ q, H0.size ≤ q → A0 q) (isC isR : List Nat) {pre : List va_W} (hlc : (isC ++ isR).all (fun i => decide (i < cs.length)) = true) (he : (isC.filterMap (fun i => cs[i]?)).flatten = pre.flatten) (hnd : va_nd (isC ++ isR) = true) {C : String} {b : Nat} (hM : zMet l g y wd k mc ms (.ref b :: As) X pre (qv g post wp)) (cw : CallW R s args own C index y bytes maxL none wd (zRm k mc ms) mc ms n) (ci q0 : Nat) {qc : vw_C} {fs : List Value} (hci : vwCl[ci]? = some qc) (hqc : qc.1 = C) (hrv : pre.flatten[q0]? = some (b, .inr (ci, fs))) (hXb : ∀ (B : Nat → Prop) (U : State) (g1 : JFrame) (mk : MethodId) (a : Array Value), X B U → X B (U.calling g1 mk a)) (hXs : (∀ q, va_A pre.flatten H.size q → A0 q) → ∀ U : State, U.heap = H → s.WarmedH U.vm → X (va_A pre.flatten H.size) U) (hn : As.length = n) (hsize : ls.size = nL) (hroom : (rest.map fun v => v.category).sum ≤ 8) (hstack : st0 = As.reverse ++ .ref b :: rest) (hdg : decode cc pc = .ok (.invokevirtual index, 3)) (hf : cells + mc ≤ R.cells ∧ slots + ms ≤ R.slots) (kk : ∀ (u : S) (H1 : Heap) (locs1 : List Loc), post u → zP g (isR.filterMap (fun i => cs[i]?) ++ wp u) H1 → zD A0 (isR.filterMap (fun i => cs[i]?) ++ wp u) → va_S A0 H0 H1 locs1 → W p l e R s m args below meth c H1 locs1 (cells + mc) (slots + ms) (Q) (F0 m (pc + 3) ls (rest))) : W p l e R s m args below meth c H locs (cells) (slots) (Q) (F0 m pc ls st0) := by
  rw [List.all_append, Bool.and_eq_true] at hlc
  have hC := zc_fm hlc.1
  have hR := zc_fm hlc.2
  have hPc : zP g pre H := by have h := zP_sub hP isC hC; rw [zP, he] at h; exact h
  have hDc : zD A0 pre := by have h := zD_sub hD isC (by rw [va_nd_l hnd]) hC; rw [zD, he] at h; exact h
  have hFc : ∀ q, va_A pre.flatten H.size q → A0 q := by rw [← he]; exact z_free hD hS hA isC hC
  have hXs := hXs hFc
  refine va_callv (va_runV (As := As) (rest := rest) F (hM H.size) cw ⟨fun a U g1 mk q => ⟨q.1, q.2.1, q.2.2.1, va_K.moved (u := U) (U := U.calling g1 mk a) (Vm.Alike.refl U.vm) q.2.2.2.1, q.2.2.2.2.1, hXb _ _ _ _ _ q.2.2.2.2.2⟩, by rw [← hqc]; exact va_recv hK hPc hci hrv, fun U hU hW => ⟨rfl, by rw [hU], by rw [hU]; exact hPc, va_K.moved hW.alike hK, hDc.weaken (fun _ _ _ _ => trivial), hXs U hU hW⟩⟩ rfl hn hsize hstack (lv_room hroom) hdg hf) hS (fun q _ h => hFc q h) hFc (fun u t H1 locs1 ht hvm hw hB hz1 hk1 hS1 => ?_)
  obtain ⟨hP1, hK1, hD1⟩ := hB
  rw [ht] at hP1
  obtain ⟨hP2, hD2⟩ := z_join (w1 := wp u) hP hD isC isR hC hR hnd (by rw [he]; exact hk1) (by rw [he]; exact hFc) hP1 (by rw [he]; exact hD1)
  exact kk u H1 locs1 hw hP2 hD2 hS1
set_option maxHeartbeats 1000000 in
theorem z_xVi {y : MethodName} {bytes : ByteArray} {maxL nL mc ms n index k : Nat} {wd : List Cond} {X : zX} {Ts : List Cond} {own : String} {st0 As : List Value} {ret : Option FieldType} {S : Type} {ri : S → Int} {post : S → Prop} {wp : S → List va_W} (F : CallFix p m c cc nL s args Ts own) (hK : zK g s) (hP : zP g cs H) (hD : zD A0 cs) (hS : va_S A0 H0 H locs) (hA : ∀ q, H0.size ≤ q → A0 q) (isC isR : List Nat) {pre : List va_W} (hlc : (isC ++ isR).all (fun i => decide (i < cs.length)) = true) (he : (isC.filterMap (fun i => cs[i]?)).flatten = pre.flatten) (hnd : va_nd (isC ++ isR) = true) {C : String} {b : Nat} (hM : zMet l g y wd k mc ms (.ref b :: As) X pre (qi g ri post wp)) (cw : CallW R s args own C index y bytes maxL ret wd (zRm k mc ms) mc ms n) (ci q0 : Nat) {qc : vw_C} {fs : List Value} (hci : vwCl[ci]? = some qc) (hqc : qc.1 = C) (hrv : pre.flatten[q0]? = some (b, .inr (ci, fs))) (hXb : ∀ (B : Nat → Prop) (U : State) (g1 : JFrame) (mk : MethodId) (a : Array Value), X B U → X B (U.calling g1 mk a)) (hXs : (∀ q, va_A pre.flatten H.size q → A0 q) → ∀ U : State, U.heap = H → s.WarmedH U.vm → X (va_A pre.flatten H.size) U) (hn : As.length = n) (hsize : ls.size = nL) (hroom : (rest.map fun v => v.category).sum ≤ 8) (hstack : st0 = As.reverse ++ .ref b :: rest) (hdg : decode cc pc = .ok (.invokevirtual index, 3)) (hf : cells + mc ≤ R.cells ∧ slots + ms ≤ R.slots) (kk : ∀ (u : S) (H1 : Heap) (locs1 : List Loc), post u → zP g (isR.filterMap (fun i => cs[i]?) ++ wp u) H1 → zD A0 (isR.filterMap (fun i => cs[i]?) ++ wp u) → va_S A0 H0 H1 locs1 → W p l e R s m args below meth c H1 locs1 (cells + mc) (slots + ms) (Q) (F0 m (pc + 3) ls (vI (ri u) :: rest))) : W p l e R s m args below meth c H locs (cells) (slots) (Q) (F0 m pc ls st0) := by
  rw [List.all_append, Bool.and_eq_true] at hlc
  have hC := zc_fm hlc.1
  have hR := zc_fm hlc.2
  have hPc : zP g pre H := by have h := zP_sub hP isC hC; rw [zP, he] at h; exact h
  have hDc : zD A0 pre := by have h := zD_sub hD isC (by rw [va_nd_l hnd]) hC; rw [zD, he] at h; exact h
  have hFc : ∀ q, va_A pre.flatten H.size q → A0 q := by rw [← he]; exact z_free hD hS hA isC hC
  have hXs := hXs hFc
  refine va_calli (va_runV (As := As) (rest := rest) F (hM H.size) cw ⟨fun a U g1 mk q => ⟨q.1, q.2.1, q.2.2.1, va_K.moved (u := U) (U := U.calling g1 mk a) (Vm.Alike.refl U.vm) q.2.2.2.1, q.2.2.2.2.1, hXb _ _ _ _ _ q.2.2.2.2.2⟩, by rw [← hqc]; exact va_recv hK hPc hci hrv, fun U hU hW => ⟨rfl, by rw [hU], by rw [hU]; exact hPc, va_K.moved hW.alike hK, hDc.weaken (fun _ _ _ _ => trivial), hXs U hU hW⟩⟩ rfl hn hsize hstack (lv_room hroom) hdg hf) hS (fun q _ h => hFc q h) hFc (fun r u t H1 locs1 ht hvm hw hB hz1 hk1 hS1 => ?_)
  obtain ⟨hP1, hK1, hD1⟩ := hB
  obtain ⟨rfl, hw⟩ := hw
  rw [ht] at hP1
  obtain ⟨hP2, hD2⟩ := z_join (w1 := wp u) hP hD isC isR hC hR hnd (by rw [he]; exact hk1) (by rw [he]; exact hFc) hP1 (by rw [he]; exact hD1)
  exact kk u H1 locs1 hw hP2 hD2 hS1
set_option maxHeartbeats 1000000 in
theorem z_xSv {y : MethodName} {bytes : ByteArray} {maxL nL mc ms n index k : Nat} {wd : List Cond} {X : zX} {Ts : List Cond} {own : String} {st0 As : List Value} {S : Type} {post : S → Prop} {wp : S → List va_W} (F : CallFix p m c cc nL s args Ts own) (hK : zK g s) (hP : zP g cs H) (hD : zD A0 cs) (hS : va_S A0 H0 H locs) (hA : ∀ q, H0.size ≤ q → A0 q) (isC isR : List Nat) {pre : List va_W} (hlc : (isC ++ isR).all (fun i => decide (i < cs.length)) = true) (he : (isC.filterMap (fun i => cs[i]?)).flatten = pre.flatten) (hnd : va_nd (isC ++ isR) = true) (hM : zMet l g y wd k mc ms As X pre (qv g post wp)) (cw : CallB R s args own index y bytes maxL none wd (zRm k mc ms) mc ms n ∧ (Cond.static y).before args s = true) (hXb : ∀ (B : Nat → Prop) (U : State) (g1 : JFrame) (mk : MethodId) (a : Array Value), X B U → X B (U.calling g1 mk a)) (hXs : (∀ q, va_A pre.flatten H.size q → A0 q) → ∀ U : State, U.heap = H → s.WarmedH U.vm → X (va_A pre.flatten H.size) U) (hn : As.length = n) (hsize : ls.size = nL) (hroom : (rest.map fun v => v.category).sum ≤ 8) (hstack : st0 = As.reverse ++ rest) (hdg : decode cc pc = .ok (.invokestatic index, 3)) (hf : cells + mc ≤ R.cells ∧ slots + ms ≤ R.slots) (kk : ∀ (u : S) (H1 : Heap) (locs1 : List Loc), post u → zP g (isR.filterMap (fun i => cs[i]?) ++ wp u) H1 → zD A0 (isR.filterMap (fun i => cs[i]?) ++ wp u) → va_S A0 H0 H1 locs1 → W p l e R s m args below meth c H1 locs1 (cells + mc) (slots + ms) (Q) (F0 m (pc + 3) ls (rest))) : W p l e R s m args below meth c H locs (cells) (slots) (Q) (F0 m pc ls st0) := by
  rw [List.all_append, Bool.and_eq_true] at hlc
  have hC := zc_fm hlc.1
  have hR := zc_fm hlc.2
  have hPc : zP g pre H := by have h := zP_sub hP isC hC; rw [zP, he] at h; exact h
  have hDc : zD A0 pre := by have h := zD_sub hD isC (by rw [va_nd_l hnd]) hC; rw [zD, he] at h; exact h
  have hFc : ∀ q, va_A pre.flatten H.size q → A0 q := by rw [← he]; exact z_free hD hS hA isC hC
  have hXs := hXs hFc
  refine va_callv (va_runS (As := As) (rest := rest) F (hM H.size) cw ⟨fun a U g1 mk q => ⟨q.1, q.2.1, q.2.2.1, va_K.moved (u := U) (U := U.calling g1 mk a) (Vm.Alike.refl U.vm) q.2.2.2.1, q.2.2.2.2.1, hXb _ _ _ _ _ q.2.2.2.2.2⟩, fun U hU hW => ⟨rfl, by rw [hU], by rw [hU]; exact hPc, va_K.moved hW.alike hK, hDc.weaken (fun _ _ _ _ => trivial), hXs U hU hW⟩⟩ rfl hn hsize hstack (lv_room hroom) hdg hf) hS (fun q _ h => hFc q h) hFc (fun u t H1 locs1 ht hvm hw hB hz1 hk1 hS1 => ?_)
  obtain ⟨hP1, hK1, hD1⟩ := hB
  rw [ht] at hP1
  obtain ⟨hP2, hD2⟩ := z_join (w1 := wp u) hP hD isC isR hC hR hnd (by rw [he]; exact hk1) (by rw [he]; exact hFc) hP1 (by rw [he]; exact hD1)
  exact kk u H1 locs1 hw hP2 hD2 hS1
set_option maxHeartbeats 1000000 in
theorem z_xSi {y : MethodName} {bytes : ByteArray} {maxL nL mc ms n index k : Nat} {wd : List Cond} {X : zX} {Ts : List Cond} {own : String} {st0 As : List Value} {ret : Option FieldType} {S : Type} {ri : S → Int} {post : S → Prop} {wp : S → List va_W} (F : CallFix p m c cc nL s args Ts own) (hK : zK g s) (hP : zP g cs H) (hD : zD A0 cs) (hS : va_S A0 H0 H locs) (hA : ∀ q, H0.size ≤ q → A0 q) (isC isR : List Nat) {pre : List va_W} (hlc : (isC ++ isR).all (fun i => decide (i < cs.length)) = true) (he : (isC.filterMap (fun i => cs[i]?)).flatten = pre.flatten) (hnd : va_nd (isC ++ isR) = true) (hM : zMet l g y wd k mc ms As X pre (qi g ri post wp)) (cw : CallB R s args own index y bytes maxL ret wd (zRm k mc ms) mc ms n ∧ (Cond.static y).before args s = true) (hXb : ∀ (B : Nat → Prop) (U : State) (g1 : JFrame) (mk : MethodId) (a : Array Value), X B U → X B (U.calling g1 mk a)) (hXs : (∀ q, va_A pre.flatten H.size q → A0 q) → ∀ U : State, U.heap = H → s.WarmedH U.vm → X (va_A pre.flatten H.size) U) (hn : As.length = n) (hsize : ls.size = nL) (hroom : (rest.map fun v => v.category).sum ≤ 8) (hstack : st0 = As.reverse ++ rest) (hdg : decode cc pc = .ok (.invokestatic index, 3)) (hf : cells + mc ≤ R.cells ∧ slots + ms ≤ R.slots) (kk : ∀ (u : S) (H1 : Heap) (locs1 : List Loc), post u → zP g (isR.filterMap (fun i => cs[i]?) ++ wp u) H1 → zD A0 (isR.filterMap (fun i => cs[i]?) ++ wp u) → va_S A0 H0 H1 locs1 → W p l e R s m args below meth c H1 locs1 (cells + mc) (slots + ms) (Q) (F0 m (pc + 3) ls (vI (ri u) :: rest))) : W p l e R s m args below meth c H locs (cells) (slots) (Q) (F0 m pc ls st0) := by
  rw [List.all_append, Bool.and_eq_true] at hlc
  have hC := zc_fm hlc.1
  have hR := zc_fm hlc.2
  have hPc : zP g pre H := by have h := zP_sub hP isC hC; rw [zP, he] at h; exact h
  have hDc : zD A0 pre := by have h := zD_sub hD isC (by rw [va_nd_l hnd]) hC; rw [zD, he] at h; exact h
  have hFc : ∀ q, va_A pre.flatten H.size q → A0 q := by rw [← he]; exact z_free hD hS hA isC hC
  have hXs := hXs hFc
  refine va_calli (va_runS (As := As) (rest := rest) F (hM H.size) cw ⟨fun a U g1 mk q => ⟨q.1, q.2.1, q.2.2.1, va_K.moved (u := U) (U := U.calling g1 mk a) (Vm.Alike.refl U.vm) q.2.2.2.1, q.2.2.2.2.1, hXb _ _ _ _ _ q.2.2.2.2.2⟩, fun U hU hW => ⟨rfl, by rw [hU], by rw [hU]; exact hPc, va_K.moved hW.alike hK, hDc.weaken (fun _ _ _ _ => trivial), hXs U hU hW⟩⟩ rfl hn hsize hstack (lv_room hroom) hdg hf) hS (fun q _ h => hFc q h) hFc (fun r u t H1 locs1 ht hvm hw hB hz1 hk1 hS1 => ?_)
  obtain ⟨hP1, hK1, hD1⟩ := hB
  obtain ⟨rfl, hw⟩ := hw
  rw [ht] at hP1
  obtain ⟨hP2, hD2⟩ := z_join (w1 := wp u) hP hD isC isR hC hR hnd (by rw [he]; exact hk1) (by rw [he]; exact hFc) hP1 (by rw [he]; exact hD1)
  exact kk u H1 locs1 hw hP2 hD2 hS1
set_option maxHeartbeats 1000000 in
theorem z_xRv {y : MethodName} {bytes : ByteArray} {maxL nL mc ms n index k : Nat} {wd : List Cond} {X : zX} {Ts : List Cond} {own : String} {st0 As : List Value} {S : Type} {post : S → Prop} {wp : S → List va_W} (F : CallFix p m c cc nL s args Ts own) (hK : zK g s) (hP : zP g cs H) (hD : zD A0 cs) (hS : va_S A0 H0 H locs) (hA : ∀ q, H0.size ≤ q → A0 q) (isC isR : List Nat) {pre : List va_W} (hlc : (isC ++ isR).all (fun i => decide (i < cs.length)) = true) (he : (isC.filterMap (fun i => cs[i]?)).flatten = pre.flatten) (hnd : va_nd (isC ++ isR) = true) {C : String} {b : Nat} (hM : zMet l g y wd k mc ms (.ref b :: As) X pre (qv g post wp)) (cw : CallW R s args own C index y bytes maxL none wd (zRm k mc ms) mc ms n) (hrc : ∃ cell : Cell, H[b]? = some cell ∧ cell.vm.isStatics = false ∧ s.vm.findClass C = some cell.cls) (hXb : ∀ (B : Nat → Prop) (U : State) (g1 : JFrame) (mk : MethodId) (a : Array Value), X B U → X B (U.calling g1 mk a)) (hXs : (∀ q, va_A pre.flatten H.size q → A0 q) → ∀ U : State, U.heap = H → s.WarmedH U.vm → X (va_A pre.flatten H.size) U) (hn : As.length = n) (hsize : ls.size = nL) (hroom : (rest.map fun v => v.category).sum ≤ 8) (hstack : st0 = As.reverse ++ .ref b :: rest) (hdg : decode cc pc = .ok (.invokevirtual index, 3)) (hf : cells + mc ≤ R.cells ∧ slots + ms ≤ R.slots) (kk : ∀ (u : S) (H1 : Heap) (locs1 : List Loc), post u → zP g (isR.filterMap (fun i => cs[i]?) ++ wp u) H1 → zD A0 (isR.filterMap (fun i => cs[i]?) ++ wp u) → va_S A0 H0 H1 locs1 → W p l e R s m args below meth c H1 locs1 (cells + mc) (slots + ms) (Q) (F0 m (pc + 3) ls (rest))) : W p l e R s m args below meth c H locs (cells) (slots) (Q) (F0 m pc ls st0) := by
  rw [List.all_append, Bool.and_eq_true] at hlc
  have hC := zc_fm hlc.1
  have hR := zc_fm hlc.2
  have hPc : zP g pre H := by have h := zP_sub hP isC hC; rw [zP, he] at h; exact h
  have hDc : zD A0 pre := by have h := zD_sub hD isC (by rw [va_nd_l hnd]) hC; rw [zD, he] at h; exact h
  have hFc : ∀ q, va_A pre.flatten H.size q → A0 q := by rw [← he]; exact z_free hD hS hA isC hC
  have hXs := hXs hFc
  refine va_callv (va_runV (As := As) (rest := rest) F (hM H.size) cw ⟨fun a U g1 mk q => ⟨q.1, q.2.1, q.2.2.1, va_K.moved (u := U) (U := U.calling g1 mk a) (Vm.Alike.refl U.vm) q.2.2.2.1, q.2.2.2.2.1, hXb _ _ _ _ _ q.2.2.2.2.2⟩, hrc, fun U hU hW => ⟨rfl, by rw [hU], by rw [hU]; exact hPc, va_K.moved hW.alike hK, hDc.weaken (fun _ _ _ _ => trivial), hXs U hU hW⟩⟩ rfl hn hsize hstack (lv_room hroom) hdg hf) hS (fun q _ h => hFc q h) hFc (fun u t H1 locs1 ht hvm hw hB hz1 hk1 hS1 => ?_)
  obtain ⟨hP1, hK1, hD1⟩ := hB
  rw [ht] at hP1
  obtain ⟨hP2, hD2⟩ := z_join (w1 := wp u) hP hD isC isR hC hR hnd (by rw [he]; exact hk1) (by rw [he]; exact hFc) hP1 (by rw [he]; exact hD1)
  exact kk u H1 locs1 hw hP2 hD2 hS1
set_option maxHeartbeats 1000000 in
theorem z_xRi {y : MethodName} {bytes : ByteArray} {maxL nL mc ms n index k : Nat} {wd : List Cond} {X : zX} {Ts : List Cond} {own : String} {st0 As : List Value} {ret : Option FieldType} {S : Type} {ri : S → Int} {post : S → Prop} {wp : S → List va_W} (F : CallFix p m c cc nL s args Ts own) (hK : zK g s) (hP : zP g cs H) (hD : zD A0 cs) (hS : va_S A0 H0 H locs) (hA : ∀ q, H0.size ≤ q → A0 q) (isC isR : List Nat) {pre : List va_W} (hlc : (isC ++ isR).all (fun i => decide (i < cs.length)) = true) (he : (isC.filterMap (fun i => cs[i]?)).flatten = pre.flatten) (hnd : va_nd (isC ++ isR) = true) {C : String} {b : Nat} (hM : zMet l g y wd k mc ms (.ref b :: As) X pre (qi g ri post wp)) (cw : CallW R s args own C index y bytes maxL ret wd (zRm k mc ms) mc ms n) (hrc : ∃ cell : Cell, H[b]? = some cell ∧ cell.vm.isStatics = false ∧ s.vm.findClass C = some cell.cls) (hXb : ∀ (B : Nat → Prop) (U : State) (g1 : JFrame) (mk : MethodId) (a : Array Value), X B U → X B (U.calling g1 mk a)) (hXs : (∀ q, va_A pre.flatten H.size q → A0 q) → ∀ U : State, U.heap = H → s.WarmedH U.vm → X (va_A pre.flatten H.size) U) (hn : As.length = n) (hsize : ls.size = nL) (hroom : (rest.map fun v => v.category).sum ≤ 8) (hstack : st0 = As.reverse ++ .ref b :: rest) (hdg : decode cc pc = .ok (.invokevirtual index, 3)) (hf : cells + mc ≤ R.cells ∧ slots + ms ≤ R.slots) (kk : ∀ (u : S) (H1 : Heap) (locs1 : List Loc), post u → zP g (isR.filterMap (fun i => cs[i]?) ++ wp u) H1 → zD A0 (isR.filterMap (fun i => cs[i]?) ++ wp u) → va_S A0 H0 H1 locs1 → W p l e R s m args below meth c H1 locs1 (cells + mc) (slots + ms) (Q) (F0 m (pc + 3) ls (vI (ri u) :: rest))) : W p l e R s m args below meth c H locs (cells) (slots) (Q) (F0 m pc ls st0) := by
  rw [List.all_append, Bool.and_eq_true] at hlc
  have hC := zc_fm hlc.1
  have hR := zc_fm hlc.2
  have hPc : zP g pre H := by have h := zP_sub hP isC hC; rw [zP, he] at h; exact h
  have hDc : zD A0 pre := by have h := zD_sub hD isC (by rw [va_nd_l hnd]) hC; rw [zD, he] at h; exact h
  have hFc : ∀ q, va_A pre.flatten H.size q → A0 q := by rw [← he]; exact z_free hD hS hA isC hC
  have hXs := hXs hFc
  refine va_calli (va_runV (As := As) (rest := rest) F (hM H.size) cw ⟨fun a U g1 mk q => ⟨q.1, q.2.1, q.2.2.1, va_K.moved (u := U) (U := U.calling g1 mk a) (Vm.Alike.refl U.vm) q.2.2.2.1, q.2.2.2.2.1, hXb _ _ _ _ _ q.2.2.2.2.2⟩, hrc, fun U hU hW => ⟨rfl, by rw [hU], by rw [hU]; exact hPc, va_K.moved hW.alike hK, hDc.weaken (fun _ _ _ _ => trivial), hXs U hU hW⟩⟩ rfl hn hsize hstack (lv_room hroom) hdg hf) hS (fun q _ h => hFc q h) hFc (fun r u t H1 locs1 ht hvm hw hB hz1 hk1 hS1 => ?_)
  obtain ⟨hP1, hK1, hD1⟩ := hB
  obtain ⟨rfl, hw⟩ := hw
  rw [ht] at hP1
  obtain ⟨hP2, hD2⟩ := z_join (w1 := wp u) hP hD isC isR hC hR hnd (by rw [he]; exact hk1) (by rw [he]; exact hFc) hP1 (by rw [he]; exact hD1)
  exact kk u H1 locs1 hw hP2 hD2 hS1
end ZXR
