abbrev zG : Type := va_G × (Nat → ClassId)
abbrev zT (g : zG) : List (ClassId × FieldType) := [(g.2 0, .int), (g.2 1, .long), (g.2 2, .boolean), (g.2 3, .object "FaultDesk$Num"), (g.2 4, .object "FaultDesk$Store"), (g.2 5, .object "FaultDesk$Three")]
abbrev zP (g : zG) (cs : List va_W) (H : Heap) : Prop := va_P g.1 vwCl cs.flatten H
abbrev zD (A : Nat → Prop) (cs : List va_W) : Prop := va_D A cs.flatten
abbrev zK (g : zG) (s : State) : Prop := va_K g.1 vwCl (zT g) s
theorem zp_iff {D : va_G} {cl : List vw_C} {ws : va_W} {H : Heap} : va_P D cl ws H ↔ ∀ q ∈ ws, va_at D cl q H :=
  ⟨fun h q hq => by obtain ⟨k, hk⟩ := List.getElem?_of_mem hq; exact h k q hk, fun h k q hk => h q (List.mem_of_getElem? hk)⟩
theorem zd_iff {A : Nat → Prop} {ws : va_W} : va_D A ws ↔ ws.Pairwise (fun p q => p.1 ≠ q.1) ∧ ∀ q ∈ ws, A q.1 := by
  constructor
  · intro h
    refine ⟨List.pairwise_iff_getElem.mpr (fun i j hi hj hij he => ?_), fun q hq => ?_⟩
    · have := h.1 i j _ _ (List.getElem?_eq_getElem hi) (List.getElem?_eq_getElem hj) he
      omega
    · obtain ⟨k, hk⟩ := List.getElem?_of_mem hq
      exact h.2 k q hk
  · intro h
    refine ⟨fun i j p q hi hj hpq => ?_, fun k q hk => h.2 q (List.mem_of_getElem? hk)⟩
    obtain ⟨hi', rfl⟩ := List.getElem?_eq_some_iff.mp hi
    obtain ⟨hj', rfl⟩ := List.getElem?_eq_some_iff.mp hj
    rcases Nat.lt_trichotomy i j with h1 | h1 | h1
    · exact absurd hpq (List.pairwise_iff_getElem.mp h.1 i j hi' hj' h1)
    · exact h1
    · exact absurd hpq.symm (List.pairwise_iff_getElem.mp h.1 j i hj' hi' h1)
theorem zc_key {cs cs' : List va_W} {is : List Nat} (hs : is.map (fun i => cs[i]?) = cs'.map some) (k : Nat) (w : va_W) (hk : cs'[k]? = some w) : ∃ i, is[k]? = some i ∧ cs[i]? = some w := by
  have h1 : (is.map (fun i => cs[i]?))[k]? = some (some w) := by rw [hs, List.getElem?_map, hk]; rfl
  rw [List.getElem?_map] at h1
  cases hi : is[k]? with
  | none => rw [hi] at h1; cases h1
  | some i => rw [hi] at h1; exact ⟨i, rfl, Option.some.inj h1⟩
theorem zc_fm {cs : List va_W} {is : List Nat} (h : is.all (fun i => decide (i < cs.length)) = true) : is.map (fun i => cs[i]?) = (is.filterMap (fun i => cs[i]?)).map some := by
  induction is with
  | nil => rfl
  | cons a t ih =>
    rw [List.all_cons, Bool.and_eq_true, decide_eq_true_eq] at h
    rw [List.map_cons, List.filterMap_cons, ih h.2, List.getElem?_eq_getElem h.1]
    rfl
theorem zc_fs {cs w : List va_W} {is : List Nat} (h : is.all (fun i => decide (i < cs.length)) = true) (hs : is.filterMap (fun i => cs[i]?) = w) : is.map (fun i => cs[i]?) = w.map some := by rw [zc_fm h, hs]
theorem zc_mem {cs cs' : List va_W} {is : List Nat} (hs : is.map (fun i => cs[i]?) = cs'.map some) {w : va_W} (hw : w ∈ cs') : w ∈ cs := by
  obtain ⟨k, hk⟩ := List.getElem?_of_mem hw
  obtain ⟨i, -, hi⟩ := zc_key hs k w hk
  exact List.mem_of_getElem? hi
theorem zP_sub {g : zG} {cs cs' : List va_W} {H : Heap} (h : zP g cs H) (is : List Nat) (hs : is.map (fun i => cs[i]?) = cs'.map some) : zP g cs' H := by
  refine zp_iff.mpr (fun q hq => ?_)
  obtain ⟨w, hw, hqw⟩ := List.mem_flatten.mp hq
  exact zp_iff.mp h q (List.mem_flatten.mpr ⟨w, zc_mem hs hw, hqw⟩)
theorem zD_sub {A : Nat → Prop} {cs cs' : List va_W} (h : zD A cs) (is : List Nat) (hn : va_nd is = true) (hs : is.map (fun i => cs[i]?) = cs'.map some) : zD A cs' := by
  obtain ⟨h1, h2⟩ := zd_iff.mp h
  rw [List.pairwise_flatten] at h1
  refine zd_iff.mpr ⟨List.pairwise_flatten.mpr ⟨fun w hw => h1.1 w (zc_mem hs hw), List.pairwise_iff_getElem.mpr (fun i j hi hj hij => ?_)⟩, fun q hq => ?_⟩
  · obtain ⟨a, ha, ha'⟩ := zc_key hs i _ (List.getElem?_eq_getElem hi)
    obtain ⟨b, hb, hb'⟩ := zc_key hs j _ (List.getElem?_eq_getElem hj)
    obtain ⟨la, ea⟩ := List.getElem?_eq_some_iff.mp ha'
    obtain ⟨lb, eb⟩ := List.getElem?_eq_some_iff.mp hb'
    intro x hx y hy
    rcases Nat.lt_trichotomy a b with h3 | h3 | h3
    · have := List.pairwise_iff_getElem.mp h1.2 a b la lb h3
      rw [ea, eb] at this
      exact this x hx y hy
    · subst h3
      have := va_nd_inj is hn i j a ha hb
      omega
    · have := List.pairwise_iff_getElem.mp h1.2 b a lb la h3
      rw [ea, eb] at this
      exact fun q => this y hy x hx q.symm
  · obtain ⟨w, hw, hqw⟩ := List.mem_flatten.mp hq
    exact h2 q (List.mem_flatten.mpr ⟨w, zc_mem hs hw, hqw⟩)
theorem z_free {A0 : Nat → Prop} {cs pc : List va_W} {H0 H : Heap} {locs : List Loc} (hD : zD A0 cs) (hS : va_S A0 H0 H locs) (hA : ∀ q, H0.size ≤ q → A0 q) (isC : List Nat) (hC : isC.map (fun i => cs[i]?) = pc.map some) : ∀ q, va_A pc.flatten H.size q → A0 q := by
  intro q h
  rcases h with ⟨k, e, h⟩ | h
  · obtain ⟨w, hw, hqw⟩ := List.mem_flatten.mp (List.mem_of_getElem? h)
    exact (zd_iff.mp hD).2 (q, e) (List.mem_flatten.mpr ⟨w, zc_mem hC hw, hqw⟩)
  · exact hA q (Nat.le_trans hS.1 h)
theorem z_join {A0 : Nat → Prop} {g : zG} {cs pc cr w1 : List va_W} {H H1 : Heap} (hP : zP g cs H) (hD : zD A0 cs) (isC isR : List Nat) (hC : isC.map (fun i => cs[i]?) = pc.map some) (hR : isR.map (fun i => cs[i]?) = cr.map some) (hn : va_nd (isC ++ isR) = true)
    (hk : ∀ q : Nat, q < H.size → ¬ va_A pc.flatten H.size q → H1[q]? = H[q]?) (hF : ∀ q, va_A pc.flatten H.size q → A0 q) (hP1 : zP g w1 H1) (hD1 : zD (va_A pc.flatten H.size) w1) : zP g (cr ++ w1) H1 ∧ zD A0 (cr ++ w1) := by
  have h2 : zD A0 (pc ++ cr) := zD_sub hD (isC ++ isR) hn (by rw [List.map_append, hC, hR, List.map_append])
  have h2 := zd_iff.mp h2
  rw [List.flatten_append, List.pairwise_append] at h2
  obtain ⟨⟨pcp, prp, px⟩, hall⟩ := h2
  have apart : ∀ q ∈ cr.flatten, q.1 < H.size ∧ ¬ va_A pc.flatten H.size q.1 := by
    intro q hq
    have hlt : q.1 < H.size := (zp_iff.mp (zP_sub hP isR hR) q hq).lt
    refine ⟨hlt, fun h => ?_⟩
    rcases h with ⟨k, e, h⟩ | h
    · exact px (q.1, e) (List.mem_of_getElem? h) q hq rfl
    · omega
  have hD1' := zd_iff.mp hD1
  constructor
  · show va_P g.1 vwCl (cr ++ w1).flatten H1
    rw [List.flatten_append]
    refine va_P.app (zp_iff.mpr (fun q hq => ?_)) hP1
    exact (zp_iff.mp (zP_sub hP isR hR) q hq).kept (hk q.1 (apart q hq).1 (apart q hq).2)
  · show va_D A0 (cr ++ w1).flatten
    rw [List.flatten_append]
    refine zd_iff.mpr ⟨List.pairwise_append.mpr ⟨prp, hD1'.1, fun x hx y hy hxy => ?_⟩, fun q hq => ?_⟩
    · exact (apart x hx).2 (by rw [hxy]; exact hD1'.2 y hy)
    · rcases List.mem_append.mp hq with h | h
      · exact hall q (List.mem_append_right _ h)
      · exact hF _ (hD1'.2 q h)
abbrev zRm (k mc ms : Nat) : Room := { frames := k, cells := mc, slots := ms, locals := 40 * k }
abbrev zX : Type := (Nat → Prop) → State → Prop
abbrev zX0 : zX := fun _ _ => True
abbrev zPc (g : zG) (X : zX) (av : List Value) (pre : List va_W) (sz : Nat) : Array Value → State → Prop := va_Pc av (fun U => U.heap.size = sz ∧ zP g pre U.heap ∧ zK g U ∧ zD (fun _ => True) pre ∧ X (va_A pre.flatten sz) U)
abbrev zQ : Type := (Nat → Prop) → Array Value → State → Outcome → State → Prop
def zMet (l : Launch) (g : zG) (y : MethodName) (wd : List Cond) (k mc ms : Nat) (av : List Value) (X : zX) (pre : List va_W) (Qf : zQ) : Prop := ∀ sz : Nat, Met l y wd (zRm k mc ms) (zPc g X av pre sz) (Qf (va_A pre.flatten sz)) mc ms (va_A pre.flatten sz)
abbrev zB (g : zG) (A : Nat → Prop) (w : List va_W) (t : State) : Prop := zP g w t.heap ∧ zK g t ∧ zD A w
def qv (g : zG) {S : Type} (post : S → Prop) (wp : S → List va_W) : zQ := fun A => va_Qv post (fun u t => zB g A (wp u) t) A
def qi (g : zG) {S : Type} (ri : S → Int) (post : S → Prop) (wp : S → List va_W) : zQ := fun A => va_Qi (fun r u => r = Int32.ofInt (ri u) ∧ post u) (fun u t => zB g A (wp u) t) A
def ql (g : zG) {S : Type} (rl : S → Int) (post : S → Prop) (wp : S → List va_W) : zQ := fun A => va_Ql (fun r u => r = Int64.ofInt (rl u) ∧ post u) (fun u t => zB g A (wp u) t) A
def qr (g : zG) {S : Type} (ra : S → Nat) (post : S → Prop) (wp : S → List va_W) : zQ := fun A => va_Qr post (fun u a t => a = ra u ∧ zB g A (wp u) t) A
set_option maxHeartbeats 1000000 in
theorem z_ent {l : Launch} {g : zG} {y : MethodName} {wd wd' : List Cond} {k mc ms : Nat} {av : List Value} {X : zX} {pre : List va_W} {Qf : zQ} {cc : ByteArray} {maxL : Nat} {ret : Option FieldType} (hy : plainName y.cls = true) (hw : wd = Cond.code y cc maxL ret :: wd') (hlen : (lg_sl av).length ≤ maxL)
    (body : ∀ (p : Program) (e : Env) (s : State) (m : MethodId) (below : List Frame) (meth : Method) (c : Code) (A : Nat → Prop) (ls : Array Slot), p.tables.exec = Jvm.exec → c.code = cc → meth.sig.returnType = ret → c.maxLocals = maxL → s.vm.findClass y.cls = some m.cls → (∀ w ∈ wd, w.before av.toArray s = true) → meth.locks = false → meth.name = y.name → (∀ q, s.heap.size ≤ q → A q) → zK g s → zP g pre s.heap → zD A pre → va_S A s.heap s.heap [] → X A s → lv_has ls maxL (lv_args 0 av) →
      W p l e (zRm k mc ms) s m av.toArray below meth c s.heap [] 0 0 (MQ below (Qf A) av.toArray s mc ms A) (F0 m 0 ls [])) : zMet l g y wd k mc ms av X pre Qf := by
  intro sz
  refine Met.ofW (cc := cc) (maxL := maxL) (ret := ret) hy hw ?_
  intro p e s m args below meth c s₁ B hml hv
  obtain ⟨rfl, hsz, hP, hK, hD0, hX⟩ := hv
  subst hsz
  have hl := lv_entry av (n := maxL) hlen
  rw [lg_entry_eq]
  exact body p e s m below meth c _ _ B.exec B.bytes B.returns hml (findClass_of_methodNamed B.named) (atoms_spec (ws := wd) B.pre) B.notSynchronized (name_of_methodNamed B.named B.method).1 (fun q h => Or.inr h) hK hP (hD0.self) va_S.rf hX hl
section ZW
variable {p : Program} {l : Launch} {e : Env} {R : Room} {s : State} {m : MethodId} {args : Array Value} {below : List Frame} {meth : Method} {c : Code} {H H0 : Heap} {locs : List Loc} {cells slots : Nat} {Q : State → Prop}
variable {cc : ByteArray} {pc : Nat} {ls : Array Slot} {rest : List Value} {g : zG} {A A0 : Nat → Prop} {cs : List va_W}
theorem z_retv {S : Type} {post : S → Prop} {wp : S → List va_W} {mc ms : Nat} (u : S) (is : List Nat) (hx : p.tables.exec = Jvm.exec) (hb : c.code = cc) (hr : meth.sig.returnType = none) (hlocks : meth.locks = false) (hK : zK g s) (hP : zP g cs H) (hD : zD A cs) (hS : va_S A s.heap H locs) (hp : post u) (hnd : va_nd is = true) (hlr : is.all (fun i => decide (i < cs.length)) = true) (hs : is.filterMap (fun i => cs[i]?) = wp u) (hc : cells ≤ mc) (hsl : slots ≤ ms) (hdg : decode cc pc = .ok (.return_, 1)) : W p l e R s m args below meth c H locs (cells) (slots) (MQ below (qv g post wp A) args s mc ms A) (F0 m pc ls []) := by
  refine W.widen hc hsl ?_
  have hs := zc_fs hlr hs
  have hP9 := zP_sub hP is hs
  have hD9 := zD_sub hD is hnd hs
  exact W.vret hx hb hr (fun t ht hW => ⟨⟨u, rfl, hp, by rw [ht]; exact hP9, va_K.moved hW.alike hK, hD9⟩, hS.F ht⟩) hS.2.2 hdg hlocks
theorem z_reti {S : Type} {ri : S → Int} {post : S → Prop} {wp : S → List va_W} {mc ms : Nat} {ty : FieldType} {a : Int} (u : S) (is : List Nat) (hx : p.tables.exec = Jvm.exec) (hb : c.code = cc) (hr : meth.sig.returnType = some ty) (hn : narrow ty (vI a) = vI a) (hlocks : meth.locks = false) (hK : zK g s) (hP : zP g cs H) (hD : zD A cs) (hS : va_S A s.heap H locs) (ha : a = ri u) (hp : post u) (hnd : va_nd is = true) (hlr : is.all (fun i => decide (i < cs.length)) = true) (hs : is.filterMap (fun i => cs[i]?) = wp u) (hc : cells ≤ mc) (hsl : slots ≤ ms) (hdg : decode cc pc = .ok (.ireturn, 1)) : W p l e R s m args below meth c H locs (cells) (slots) (MQ below (qi g ri post wp A) args s mc ms A) (F0 m pc ls [vI a]) := by
  refine W.widen hc hsl ?_
  have hs := zc_fs hlr hs
  have hP9 := zP_sub hP is hs
  have hD9 := zD_sub hD is hnd hs
  exact W.zret hx hb hr hn (fun t ht hW => ⟨⟨_, u, rfl, ⟨by rw [ha], hp⟩, by rw [ht]; exact hP9, va_K.moved hW.alike hK, hD9⟩, hS.F ht⟩) hS.2.2 hdg hlocks
theorem z_retl {S : Type} {rl : S → Int} {post : S → Prop} {wp : S → List va_W} {mc ms : Nat} {a : Int} (u : S) (is : List Nat) (hx : p.tables.exec = Jvm.exec) (hb : c.code = cc) (hr : meth.sig.returnType = some .long) (hlocks : meth.locks = false) (hK : zK g s) (hP : zP g cs H) (hD : zD A cs) (hS : va_S A s.heap H locs) (ha : a = rl u) (hp : post u) (hnd : va_nd is = true) (hlr : is.all (fun i => decide (i < cs.length)) = true) (hs : is.filterMap (fun i => cs[i]?) = wp u) (hc : cells ≤ mc) (hsl : slots ≤ ms) (hdg : decode cc pc = .ok (.lreturn, 1)) : W p l e R s m args below meth c H locs (cells) (slots) (MQ below (ql g rl post wp A) args s mc ms A) (F0 m pc ls [vL a]) := by
  refine W.widen hc hsl ?_
  have hs := zc_fs hlr hs
  have hP9 := zP_sub hP is hs
  have hD9 := zD_sub hD is hnd hs
  exact W.lret hx hb hr (fun t ht hW => ⟨⟨_, u, rfl, ⟨by rw [ha], hp⟩, by rw [ht]; exact hP9, va_K.moved hW.alike hK, hD9⟩, hS.F ht⟩) hS.2.2 hdg hlocks
theorem z_retr {S : Type} {ra : S → Nat} {post : S → Prop} {wp : S → List va_W} {mc ms : Nat} {rt : FieldType} {a : Nat} (u : S) (is : List Nat) (hx : p.tables.exec = Jvm.exec) (hb : c.code = cc) (hr : meth.sig.returnType = some rt) (hrt : (∃ n, rt = .object n) ∨ ∃ t, rt = .array t) (hlocks : meth.locks = false) (hK : zK g s) (hP : zP g cs H) (hD : zD A cs) (hS : va_S A s.heap H locs) (ha : a = ra u) (hp : post u) (hnd : va_nd is = true) (hlr : is.all (fun i => decide (i < cs.length)) = true) (hs : is.filterMap (fun i => cs[i]?) = wp u) (hc : cells ≤ mc) (hsl : slots ≤ ms) (hdg : decode cc pc = .ok (.areturn, 1)) : W p l e R s m args below meth c H locs (cells) (slots) (MQ below (qr g ra post wp A) args s mc ms A) (F0 m pc ls [.ref a]) := by
  refine W.widen hc hsl ?_
  have hs := zc_fs hlr hs
  have hP9 := zP_sub hP is hs
  have hD9 := zD_sub hD is hnd hs
  exact W.aret hx hb hr hrt (Or.inr ⟨a, rfl⟩) (fun t ht hW => ⟨⟨u, a, rfl, hp, ha, by rw [ht]; exact hP9, va_K.moved hW.alike hK, hD9⟩, hS.F ht⟩) hS.2.2 hdg hlocks
theorem va_nd_l {a b : List Nat} (h : va_nd (a ++ b) = true) : va_nd a = true := by
  induction a with
  | nil => rfl
  | cons x t ih =>
    simp only [List.cons_append, va_nd, Bool.and_eq_true, decide_eq_true_eq, List.mem_append, not_or] at h ⊢
    exact ⟨h.1.1, ih h.2⟩
set_option maxHeartbeats 1000000 in
theorem z_cVv {y : MethodName} {bytes : ByteArray} {maxL nL mc ms n index k : Nat} {wd : List Cond} {X : zX} {Ts : List Cond} {own : String} {st0 As : List Value} {S : Type} {post : S → Prop} {wp : S → List va_W} (F : CallFix p m c cc nL s args Ts own) (hK : zK g s) (hP : zP g cs H) (hD : zD A0 cs) (hS : va_S A0 H0 H locs) (hA : ∀ q, H0.size ≤ q → A0 q) (isC isR : List Nat) {pre : List va_W} (hlc : (isC ++ isR).all (fun i => decide (i < cs.length)) = true) (he : (isC.filterMap (fun i => cs[i]?)).flatten = pre.flatten) (hnd : va_nd (isC ++ isR) = true) {C : String} {b : Nat} (hM : zMet l g y wd k mc ms (.ref b :: As) X pre (qv g post wp)) (cw : CallW R s args own C index y bytes maxL none wd (zRm k mc ms) mc ms n) (ci q0 : Nat) {qc : vw_C} {fs : List Value} (hci : vwCl[ci]? = some qc) (hqc : qc.1 = C) (hrv : pre.flatten[q0]? = some (b, .inr (ci, fs))) (hXb : ∀ (B : Nat → Prop) (U : State) (g1 : JFrame) (mk : MethodId) (a : Array Value), X B U → X B (U.calling g1 mk a)) (hXs : ∀ U : State, U.heap = H → s.WarmedH U.vm → X (va_A pre.flatten H.size) U) (hn : As.length = n) (hsize : ls.size = nL) (hroom : (rest.map fun v => v.category).sum ≤ 8) (hstack : st0 = As.reverse ++ .ref b :: rest) (hdg : decode cc pc = .ok (.invokevirtual index, 3)) (hf : cells + mc ≤ R.cells ∧ slots + ms ≤ R.slots) (kk : ∀ (u : S) (H1 : Heap) (locs1 : List Loc), post u → zP g (isR.filterMap (fun i => cs[i]?) ++ wp u) H1 → zD A0 (isR.filterMap (fun i => cs[i]?) ++ wp u) → va_S A0 H0 H1 locs1 → W p l e R s m args below meth c H1 locs1 (cells + mc) (slots + ms) (Q) (F0 m (pc + 3) ls (rest))) : W p l e R s m args below meth c H locs (cells) (slots) (Q) (F0 m pc ls st0) := by
  rw [List.all_append, Bool.and_eq_true] at hlc
  have hC := zc_fm hlc.1
  have hR := zc_fm hlc.2
  have hPc : zP g pre H := by have h := zP_sub hP isC hC; rw [zP, he] at h; exact h
  have hDc : zD A0 pre := by have h := zD_sub hD isC (by rw [va_nd_l hnd]) hC; rw [zD, he] at h; exact h
  have hFc : ∀ q, va_A pre.flatten H.size q → A0 q := by rw [← he]; exact z_free hD hS hA isC hC
  refine va_callv (va_runV (As := As) (rest := rest) F (hM H.size) cw ⟨fun a U g1 mk q => ⟨q.1, q.2.1, q.2.2.1, va_K.moved (u := U) (U := U.calling g1 mk a) (Vm.Alike.refl U.vm) q.2.2.2.1, q.2.2.2.2.1, hXb _ _ _ _ _ q.2.2.2.2.2⟩, by rw [← hqc]; exact va_recv hK hPc hci hrv, fun U hU hW => ⟨rfl, by rw [hU], by rw [hU]; exact hPc, va_K.moved hW.alike hK, hDc.weaken (fun _ _ _ _ => trivial), hXs U hU hW⟩⟩ rfl hn hsize hstack (lv_room hroom) hdg hf) hS (fun q _ h => hFc q h) hFc (fun u t H1 locs1 ht hvm hw hB hz1 hk1 hS1 => ?_)
  obtain ⟨hP1, hK1, hD1⟩ := hB
  rw [ht] at hP1
  obtain ⟨hP2, hD2⟩ := z_join (w1 := wp u) hP hD isC isR hC hR hnd (by rw [he]; exact hk1) (by rw [he]; exact hFc) hP1 (by rw [he]; exact hD1)
  exact kk u H1 locs1 hw hP2 hD2 hS1
set_option maxHeartbeats 1000000 in
theorem z_cVi {y : MethodName} {bytes : ByteArray} {maxL nL mc ms n index k : Nat} {wd : List Cond} {X : zX} {Ts : List Cond} {own : String} {st0 As : List Value} {ret : Option FieldType} {S : Type} {ri : S → Int} {post : S → Prop} {wp : S → List va_W} (F : CallFix p m c cc nL s args Ts own) (hK : zK g s) (hP : zP g cs H) (hD : zD A0 cs) (hS : va_S A0 H0 H locs) (hA : ∀ q, H0.size ≤ q → A0 q) (isC isR : List Nat) {pre : List va_W} (hlc : (isC ++ isR).all (fun i => decide (i < cs.length)) = true) (he : (isC.filterMap (fun i => cs[i]?)).flatten = pre.flatten) (hnd : va_nd (isC ++ isR) = true) {C : String} {b : Nat} (hM : zMet l g y wd k mc ms (.ref b :: As) X pre (qi g ri post wp)) (cw : CallW R s args own C index y bytes maxL ret wd (zRm k mc ms) mc ms n) (ci q0 : Nat) {qc : vw_C} {fs : List Value} (hci : vwCl[ci]? = some qc) (hqc : qc.1 = C) (hrv : pre.flatten[q0]? = some (b, .inr (ci, fs))) (hXb : ∀ (B : Nat → Prop) (U : State) (g1 : JFrame) (mk : MethodId) (a : Array Value), X B U → X B (U.calling g1 mk a)) (hXs : ∀ U : State, U.heap = H → s.WarmedH U.vm → X (va_A pre.flatten H.size) U) (hn : As.length = n) (hsize : ls.size = nL) (hroom : (rest.map fun v => v.category).sum ≤ 8) (hstack : st0 = As.reverse ++ .ref b :: rest) (hdg : decode cc pc = .ok (.invokevirtual index, 3)) (hf : cells + mc ≤ R.cells ∧ slots + ms ≤ R.slots) (kk : ∀ (u : S) (H1 : Heap) (locs1 : List Loc), post u → zP g (isR.filterMap (fun i => cs[i]?) ++ wp u) H1 → zD A0 (isR.filterMap (fun i => cs[i]?) ++ wp u) → va_S A0 H0 H1 locs1 → W p l e R s m args below meth c H1 locs1 (cells + mc) (slots + ms) (Q) (F0 m (pc + 3) ls (vI (ri u) :: rest))) : W p l e R s m args below meth c H locs (cells) (slots) (Q) (F0 m pc ls st0) := by
  rw [List.all_append, Bool.and_eq_true] at hlc
  have hC := zc_fm hlc.1
  have hR := zc_fm hlc.2
  have hPc : zP g pre H := by have h := zP_sub hP isC hC; rw [zP, he] at h; exact h
  have hDc : zD A0 pre := by have h := zD_sub hD isC (by rw [va_nd_l hnd]) hC; rw [zD, he] at h; exact h
  have hFc : ∀ q, va_A pre.flatten H.size q → A0 q := by rw [← he]; exact z_free hD hS hA isC hC
  refine va_calli (va_runV (As := As) (rest := rest) F (hM H.size) cw ⟨fun a U g1 mk q => ⟨q.1, q.2.1, q.2.2.1, va_K.moved (u := U) (U := U.calling g1 mk a) (Vm.Alike.refl U.vm) q.2.2.2.1, q.2.2.2.2.1, hXb _ _ _ _ _ q.2.2.2.2.2⟩, by rw [← hqc]; exact va_recv hK hPc hci hrv, fun U hU hW => ⟨rfl, by rw [hU], by rw [hU]; exact hPc, va_K.moved hW.alike hK, hDc.weaken (fun _ _ _ _ => trivial), hXs U hU hW⟩⟩ rfl hn hsize hstack (lv_room hroom) hdg hf) hS (fun q _ h => hFc q h) hFc (fun r u t H1 locs1 ht hvm hw hB hz1 hk1 hS1 => ?_)
  obtain ⟨hP1, hK1, hD1⟩ := hB
  obtain ⟨rfl, hw⟩ := hw
  rw [ht] at hP1
  obtain ⟨hP2, hD2⟩ := z_join (w1 := wp u) hP hD isC isR hC hR hnd (by rw [he]; exact hk1) (by rw [he]; exact hFc) hP1 (by rw [he]; exact hD1)
  exact kk u H1 locs1 hw hP2 hD2 hS1
set_option maxHeartbeats 1000000 in
theorem z_cVl {y : MethodName} {bytes : ByteArray} {maxL nL mc ms n index k : Nat} {wd : List Cond} {X : zX} {Ts : List Cond} {own : String} {st0 As : List Value} {ret : Option FieldType} {S : Type} {rl : S → Int} {post : S → Prop} {wp : S → List va_W} (F : CallFix p m c cc nL s args Ts own) (hK : zK g s) (hP : zP g cs H) (hD : zD A0 cs) (hS : va_S A0 H0 H locs) (hA : ∀ q, H0.size ≤ q → A0 q) (isC isR : List Nat) {pre : List va_W} (hlc : (isC ++ isR).all (fun i => decide (i < cs.length)) = true) (he : (isC.filterMap (fun i => cs[i]?)).flatten = pre.flatten) (hnd : va_nd (isC ++ isR) = true) {C : String} {b : Nat} (hM : zMet l g y wd k mc ms (.ref b :: As) X pre (ql g rl post wp)) (cw : CallW R s args own C index y bytes maxL ret wd (zRm k mc ms) mc ms n) (ci q0 : Nat) {qc : vw_C} {fs : List Value} (hci : vwCl[ci]? = some qc) (hqc : qc.1 = C) (hrv : pre.flatten[q0]? = some (b, .inr (ci, fs))) (hXb : ∀ (B : Nat → Prop) (U : State) (g1 : JFrame) (mk : MethodId) (a : Array Value), X B U → X B (U.calling g1 mk a)) (hXs : ∀ U : State, U.heap = H → s.WarmedH U.vm → X (va_A pre.flatten H.size) U) (hn : As.length = n) (hsize : ls.size = nL) (hroom : (rest.map fun v => v.category).sum ≤ 8) (hstack : st0 = As.reverse ++ .ref b :: rest) (hdg : decode cc pc = .ok (.invokevirtual index, 3)) (hf : cells + mc ≤ R.cells ∧ slots + ms ≤ R.slots) (kk : ∀ (u : S) (H1 : Heap) (locs1 : List Loc), post u → zP g (isR.filterMap (fun i => cs[i]?) ++ wp u) H1 → zD A0 (isR.filterMap (fun i => cs[i]?) ++ wp u) → va_S A0 H0 H1 locs1 → W p l e R s m args below meth c H1 locs1 (cells + mc) (slots + ms) (Q) (F0 m (pc + 3) ls (vL (rl u) :: rest))) : W p l e R s m args below meth c H locs (cells) (slots) (Q) (F0 m pc ls st0) := by
  rw [List.all_append, Bool.and_eq_true] at hlc
  have hC := zc_fm hlc.1
  have hR := zc_fm hlc.2
  have hPc : zP g pre H := by have h := zP_sub hP isC hC; rw [zP, he] at h; exact h
  have hDc : zD A0 pre := by have h := zD_sub hD isC (by rw [va_nd_l hnd]) hC; rw [zD, he] at h; exact h
  have hFc : ∀ q, va_A pre.flatten H.size q → A0 q := by rw [← he]; exact z_free hD hS hA isC hC
  refine va_calll (va_runV (As := As) (rest := rest) F (hM H.size) cw ⟨fun a U g1 mk q => ⟨q.1, q.2.1, q.2.2.1, va_K.moved (u := U) (U := U.calling g1 mk a) (Vm.Alike.refl U.vm) q.2.2.2.1, q.2.2.2.2.1, hXb _ _ _ _ _ q.2.2.2.2.2⟩, by rw [← hqc]; exact va_recv hK hPc hci hrv, fun U hU hW => ⟨rfl, by rw [hU], by rw [hU]; exact hPc, va_K.moved hW.alike hK, hDc.weaken (fun _ _ _ _ => trivial), hXs U hU hW⟩⟩ rfl hn hsize hstack (lv_room hroom) hdg hf) hS (fun q _ h => hFc q h) hFc (fun r u t H1 locs1 ht hvm hw hB hz1 hk1 hS1 => ?_)
  obtain ⟨hP1, hK1, hD1⟩ := hB
  obtain ⟨rfl, hw⟩ := hw
  rw [ht] at hP1
  obtain ⟨hP2, hD2⟩ := z_join (w1 := wp u) hP hD isC isR hC hR hnd (by rw [he]; exact hk1) (by rw [he]; exact hFc) hP1 (by rw [he]; exact hD1)
  exact kk u H1 locs1 hw hP2 hD2 hS1
set_option maxHeartbeats 1000000 in
theorem z_cVr {y : MethodName} {bytes : ByteArray} {maxL nL mc ms n index k : Nat} {wd : List Cond} {X : zX} {Ts : List Cond} {own : String} {st0 As : List Value} {ret : Option FieldType} {S : Type} {ra : S → Nat} {post : S → Prop} {wp : S → List va_W} (F : CallFix p m c cc nL s args Ts own) (hK : zK g s) (hP : zP g cs H) (hD : zD A0 cs) (hS : va_S A0 H0 H locs) (hA : ∀ q, H0.size ≤ q → A0 q) (isC isR : List Nat) {pre : List va_W} (hlc : (isC ++ isR).all (fun i => decide (i < cs.length)) = true) (he : (isC.filterMap (fun i => cs[i]?)).flatten = pre.flatten) (hnd : va_nd (isC ++ isR) = true) {C : String} {b : Nat} (hM : zMet l g y wd k mc ms (.ref b :: As) X pre (qr g ra post wp)) (cw : CallW R s args own C index y bytes maxL ret wd (zRm k mc ms) mc ms n) (ci q0 : Nat) {qc : vw_C} {fs : List Value} (hci : vwCl[ci]? = some qc) (hqc : qc.1 = C) (hrv : pre.flatten[q0]? = some (b, .inr (ci, fs))) (hXb : ∀ (B : Nat → Prop) (U : State) (g1 : JFrame) (mk : MethodId) (a : Array Value), X B U → X B (U.calling g1 mk a)) (hXs : ∀ U : State, U.heap = H → s.WarmedH U.vm → X (va_A pre.flatten H.size) U) (hn : As.length = n) (hsize : ls.size = nL) (hroom : (rest.map fun v => v.category).sum ≤ 8) (hstack : st0 = As.reverse ++ .ref b :: rest) (hdg : decode cc pc = .ok (.invokevirtual index, 3)) (hf : cells + mc ≤ R.cells ∧ slots + ms ≤ R.slots) (kk : ∀ (u : S) (H1 : Heap) (locs1 : List Loc), post u → zP g (isR.filterMap (fun i => cs[i]?) ++ wp u) H1 → zD A0 (isR.filterMap (fun i => cs[i]?) ++ wp u) → va_S A0 H0 H1 locs1 → W p l e R s m args below meth c H1 locs1 (cells + mc) (slots + ms) (Q) (F0 m (pc + 3) ls (.ref (ra u) :: rest))) : W p l e R s m args below meth c H locs (cells) (slots) (Q) (F0 m pc ls st0) := by
  rw [List.all_append, Bool.and_eq_true] at hlc
  have hC := zc_fm hlc.1
  have hR := zc_fm hlc.2
  have hPc : zP g pre H := by have h := zP_sub hP isC hC; rw [zP, he] at h; exact h
  have hDc : zD A0 pre := by have h := zD_sub hD isC (by rw [va_nd_l hnd]) hC; rw [zD, he] at h; exact h
  have hFc : ∀ q, va_A pre.flatten H.size q → A0 q := by rw [← he]; exact z_free hD hS hA isC hC
  refine va_callr (va_runV (As := As) (rest := rest) F (hM H.size) cw ⟨fun a U g1 mk q => ⟨q.1, q.2.1, q.2.2.1, va_K.moved (u := U) (U := U.calling g1 mk a) (Vm.Alike.refl U.vm) q.2.2.2.1, q.2.2.2.2.1, hXb _ _ _ _ _ q.2.2.2.2.2⟩, by rw [← hqc]; exact va_recv hK hPc hci hrv, fun U hU hW => ⟨rfl, by rw [hU], by rw [hU]; exact hPc, va_K.moved hW.alike hK, hDc.weaken (fun _ _ _ _ => trivial), hXs U hU hW⟩⟩ rfl hn hsize hstack (lv_room hroom) hdg hf) hS (fun q _ h => hFc q h) hFc (fun u r t H1 locs1 ht hvm hw hB hz1 hk1 hS1 => ?_)
  obtain ⟨rfl, hP1, hK1, hD1⟩ := hB
  rw [ht] at hP1
  obtain ⟨hP2, hD2⟩ := z_join (w1 := wp u) hP hD isC isR hC hR hnd (by rw [he]; exact hk1) (by rw [he]; exact hFc) hP1 (by rw [he]; exact hD1)
  exact kk u H1 locs1 hw hP2 hD2 hS1
set_option maxHeartbeats 1000000 in
theorem z_cSv {y : MethodName} {bytes : ByteArray} {maxL nL mc ms n index k : Nat} {wd : List Cond} {X : zX} {Ts : List Cond} {own : String} {st0 As : List Value} {S : Type} {post : S → Prop} {wp : S → List va_W} (F : CallFix p m c cc nL s args Ts own) (hK : zK g s) (hP : zP g cs H) (hD : zD A0 cs) (hS : va_S A0 H0 H locs) (hA : ∀ q, H0.size ≤ q → A0 q) (isC isR : List Nat) {pre : List va_W} (hlc : (isC ++ isR).all (fun i => decide (i < cs.length)) = true) (he : (isC.filterMap (fun i => cs[i]?)).flatten = pre.flatten) (hnd : va_nd (isC ++ isR) = true) (hM : zMet l g y wd k mc ms As X pre (qv g post wp)) (cw : CallB R s args own index y bytes maxL none wd (zRm k mc ms) mc ms n ∧ (Cond.static y).before args s = true) (hXb : ∀ (B : Nat → Prop) (U : State) (g1 : JFrame) (mk : MethodId) (a : Array Value), X B U → X B (U.calling g1 mk a)) (hXs : ∀ U : State, U.heap = H → s.WarmedH U.vm → X (va_A pre.flatten H.size) U) (hn : As.length = n) (hsize : ls.size = nL) (hroom : (rest.map fun v => v.category).sum ≤ 8) (hstack : st0 = As.reverse ++ rest) (hdg : decode cc pc = .ok (.invokestatic index, 3)) (hf : cells + mc ≤ R.cells ∧ slots + ms ≤ R.slots) (kk : ∀ (u : S) (H1 : Heap) (locs1 : List Loc), post u → zP g (isR.filterMap (fun i => cs[i]?) ++ wp u) H1 → zD A0 (isR.filterMap (fun i => cs[i]?) ++ wp u) → va_S A0 H0 H1 locs1 → W p l e R s m args below meth c H1 locs1 (cells + mc) (slots + ms) (Q) (F0 m (pc + 3) ls (rest))) : W p l e R s m args below meth c H locs (cells) (slots) (Q) (F0 m pc ls st0) := by
  rw [List.all_append, Bool.and_eq_true] at hlc
  have hC := zc_fm hlc.1
  have hR := zc_fm hlc.2
  have hPc : zP g pre H := by have h := zP_sub hP isC hC; rw [zP, he] at h; exact h
  have hDc : zD A0 pre := by have h := zD_sub hD isC (by rw [va_nd_l hnd]) hC; rw [zD, he] at h; exact h
  have hFc : ∀ q, va_A pre.flatten H.size q → A0 q := by rw [← he]; exact z_free hD hS hA isC hC
  refine va_callv (va_runS (As := As) (rest := rest) F (hM H.size) cw ⟨fun a U g1 mk q => ⟨q.1, q.2.1, q.2.2.1, va_K.moved (u := U) (U := U.calling g1 mk a) (Vm.Alike.refl U.vm) q.2.2.2.1, q.2.2.2.2.1, hXb _ _ _ _ _ q.2.2.2.2.2⟩, fun U hU hW => ⟨rfl, by rw [hU], by rw [hU]; exact hPc, va_K.moved hW.alike hK, hDc.weaken (fun _ _ _ _ => trivial), hXs U hU hW⟩⟩ rfl hn hsize hstack (lv_room hroom) hdg hf) hS (fun q _ h => hFc q h) hFc (fun u t H1 locs1 ht hvm hw hB hz1 hk1 hS1 => ?_)
  obtain ⟨hP1, hK1, hD1⟩ := hB
  rw [ht] at hP1
  obtain ⟨hP2, hD2⟩ := z_join (w1 := wp u) hP hD isC isR hC hR hnd (by rw [he]; exact hk1) (by rw [he]; exact hFc) hP1 (by rw [he]; exact hD1)
  exact kk u H1 locs1 hw hP2 hD2 hS1
set_option maxHeartbeats 1000000 in
theorem z_cSi {y : MethodName} {bytes : ByteArray} {maxL nL mc ms n index k : Nat} {wd : List Cond} {X : zX} {Ts : List Cond} {own : String} {st0 As : List Value} {ret : Option FieldType} {S : Type} {ri : S → Int} {post : S → Prop} {wp : S → List va_W} (F : CallFix p m c cc nL s args Ts own) (hK : zK g s) (hP : zP g cs H) (hD : zD A0 cs) (hS : va_S A0 H0 H locs) (hA : ∀ q, H0.size ≤ q → A0 q) (isC isR : List Nat) {pre : List va_W} (hlc : (isC ++ isR).all (fun i => decide (i < cs.length)) = true) (he : (isC.filterMap (fun i => cs[i]?)).flatten = pre.flatten) (hnd : va_nd (isC ++ isR) = true) (hM : zMet l g y wd k mc ms As X pre (qi g ri post wp)) (cw : CallB R s args own index y bytes maxL ret wd (zRm k mc ms) mc ms n ∧ (Cond.static y).before args s = true) (hXb : ∀ (B : Nat → Prop) (U : State) (g1 : JFrame) (mk : MethodId) (a : Array Value), X B U → X B (U.calling g1 mk a)) (hXs : ∀ U : State, U.heap = H → s.WarmedH U.vm → X (va_A pre.flatten H.size) U) (hn : As.length = n) (hsize : ls.size = nL) (hroom : (rest.map fun v => v.category).sum ≤ 8) (hstack : st0 = As.reverse ++ rest) (hdg : decode cc pc = .ok (.invokestatic index, 3)) (hf : cells + mc ≤ R.cells ∧ slots + ms ≤ R.slots) (kk : ∀ (u : S) (H1 : Heap) (locs1 : List Loc), post u → zP g (isR.filterMap (fun i => cs[i]?) ++ wp u) H1 → zD A0 (isR.filterMap (fun i => cs[i]?) ++ wp u) → va_S A0 H0 H1 locs1 → W p l e R s m args below meth c H1 locs1 (cells + mc) (slots + ms) (Q) (F0 m (pc + 3) ls (vI (ri u) :: rest))) : W p l e R s m args below meth c H locs (cells) (slots) (Q) (F0 m pc ls st0) := by
  rw [List.all_append, Bool.and_eq_true] at hlc
  have hC := zc_fm hlc.1
  have hR := zc_fm hlc.2
  have hPc : zP g pre H := by have h := zP_sub hP isC hC; rw [zP, he] at h; exact h
  have hDc : zD A0 pre := by have h := zD_sub hD isC (by rw [va_nd_l hnd]) hC; rw [zD, he] at h; exact h
  have hFc : ∀ q, va_A pre.flatten H.size q → A0 q := by rw [← he]; exact z_free hD hS hA isC hC
  refine va_calli (va_runS (As := As) (rest := rest) F (hM H.size) cw ⟨fun a U g1 mk q => ⟨q.1, q.2.1, q.2.2.1, va_K.moved (u := U) (U := U.calling g1 mk a) (Vm.Alike.refl U.vm) q.2.2.2.1, q.2.2.2.2.1, hXb _ _ _ _ _ q.2.2.2.2.2⟩, fun U hU hW => ⟨rfl, by rw [hU], by rw [hU]; exact hPc, va_K.moved hW.alike hK, hDc.weaken (fun _ _ _ _ => trivial), hXs U hU hW⟩⟩ rfl hn hsize hstack (lv_room hroom) hdg hf) hS (fun q _ h => hFc q h) hFc (fun r u t H1 locs1 ht hvm hw hB hz1 hk1 hS1 => ?_)
  obtain ⟨hP1, hK1, hD1⟩ := hB
  obtain ⟨rfl, hw⟩ := hw
  rw [ht] at hP1
  obtain ⟨hP2, hD2⟩ := z_join (w1 := wp u) hP hD isC isR hC hR hnd (by rw [he]; exact hk1) (by rw [he]; exact hFc) hP1 (by rw [he]; exact hD1)
  exact kk u H1 locs1 hw hP2 hD2 hS1
set_option maxHeartbeats 1000000 in
theorem z_cSl {y : MethodName} {bytes : ByteArray} {maxL nL mc ms n index k : Nat} {wd : List Cond} {X : zX} {Ts : List Cond} {own : String} {st0 As : List Value} {ret : Option FieldType} {S : Type} {rl : S → Int} {post : S → Prop} {wp : S → List va_W} (F : CallFix p m c cc nL s args Ts own) (hK : zK g s) (hP : zP g cs H) (hD : zD A0 cs) (hS : va_S A0 H0 H locs) (hA : ∀ q, H0.size ≤ q → A0 q) (isC isR : List Nat) {pre : List va_W} (hlc : (isC ++ isR).all (fun i => decide (i < cs.length)) = true) (he : (isC.filterMap (fun i => cs[i]?)).flatten = pre.flatten) (hnd : va_nd (isC ++ isR) = true) (hM : zMet l g y wd k mc ms As X pre (ql g rl post wp)) (cw : CallB R s args own index y bytes maxL ret wd (zRm k mc ms) mc ms n ∧ (Cond.static y).before args s = true) (hXb : ∀ (B : Nat → Prop) (U : State) (g1 : JFrame) (mk : MethodId) (a : Array Value), X B U → X B (U.calling g1 mk a)) (hXs : ∀ U : State, U.heap = H → s.WarmedH U.vm → X (va_A pre.flatten H.size) U) (hn : As.length = n) (hsize : ls.size = nL) (hroom : (rest.map fun v => v.category).sum ≤ 8) (hstack : st0 = As.reverse ++ rest) (hdg : decode cc pc = .ok (.invokestatic index, 3)) (hf : cells + mc ≤ R.cells ∧ slots + ms ≤ R.slots) (kk : ∀ (u : S) (H1 : Heap) (locs1 : List Loc), post u → zP g (isR.filterMap (fun i => cs[i]?) ++ wp u) H1 → zD A0 (isR.filterMap (fun i => cs[i]?) ++ wp u) → va_S A0 H0 H1 locs1 → W p l e R s m args below meth c H1 locs1 (cells + mc) (slots + ms) (Q) (F0 m (pc + 3) ls (vL (rl u) :: rest))) : W p l e R s m args below meth c H locs (cells) (slots) (Q) (F0 m pc ls st0) := by
  rw [List.all_append, Bool.and_eq_true] at hlc
  have hC := zc_fm hlc.1
  have hR := zc_fm hlc.2
  have hPc : zP g pre H := by have h := zP_sub hP isC hC; rw [zP, he] at h; exact h
  have hDc : zD A0 pre := by have h := zD_sub hD isC (by rw [va_nd_l hnd]) hC; rw [zD, he] at h; exact h
  have hFc : ∀ q, va_A pre.flatten H.size q → A0 q := by rw [← he]; exact z_free hD hS hA isC hC
  refine va_calll (va_runS (As := As) (rest := rest) F (hM H.size) cw ⟨fun a U g1 mk q => ⟨q.1, q.2.1, q.2.2.1, va_K.moved (u := U) (U := U.calling g1 mk a) (Vm.Alike.refl U.vm) q.2.2.2.1, q.2.2.2.2.1, hXb _ _ _ _ _ q.2.2.2.2.2⟩, fun U hU hW => ⟨rfl, by rw [hU], by rw [hU]; exact hPc, va_K.moved hW.alike hK, hDc.weaken (fun _ _ _ _ => trivial), hXs U hU hW⟩⟩ rfl hn hsize hstack (lv_room hroom) hdg hf) hS (fun q _ h => hFc q h) hFc (fun r u t H1 locs1 ht hvm hw hB hz1 hk1 hS1 => ?_)
  obtain ⟨hP1, hK1, hD1⟩ := hB
  obtain ⟨rfl, hw⟩ := hw
  rw [ht] at hP1
  obtain ⟨hP2, hD2⟩ := z_join (w1 := wp u) hP hD isC isR hC hR hnd (by rw [he]; exact hk1) (by rw [he]; exact hFc) hP1 (by rw [he]; exact hD1)
  exact kk u H1 locs1 hw hP2 hD2 hS1
set_option maxHeartbeats 1000000 in
theorem z_cIv {y : MethodName} {bytes : ByteArray} {maxL nL mc ms n index k : Nat} {wd : List Cond} {X : zX} {Ts : List Cond} {own : String} {st0 As : List Value} {S : Type} {post : S → Prop} {wp : S → List va_W} (F : CallFix p m c cc nL s args Ts own) (hK : zK g s) (hP : zP g cs H) (hD : zD A0 cs) (hS : va_S A0 H0 H locs) (hA : ∀ q, H0.size ≤ q → A0 q) (isC isR : List Nat) {pre : List va_W} (hlc : (isC ++ isR).all (fun i => decide (i < cs.length)) = true) (he : (isC.filterMap (fun i => cs[i]?)).flatten = pre.flatten) (hnd : va_nd (isC ++ isR) = true) {b : Nat} (hM : zMet l g y wd k mc ms (.ref b :: As) X pre (qv g post wp)) (cw : CallB R s args own index y bytes maxL none wd (zRm k mc ms) mc ms n ∧ y.name = "<init>" ∧ (Cond.instanceMethod y).before args s = true) (hXb : ∀ (B : Nat → Prop) (U : State) (g1 : JFrame) (mk : MethodId) (a : Array Value), X B U → X B (U.calling g1 mk a)) (hXs : ∀ U : State, U.heap = H → s.WarmedH U.vm → X (va_A pre.flatten H.size) U) (hn : As.length = n) (hsize : ls.size = nL) (hroom : (rest.map fun v => v.category).sum ≤ 8) (hstack : st0 = As.reverse ++ .ref b :: rest) (hdg : decode cc pc = .ok (.invokespecial index, 3)) (hf : cells + mc ≤ R.cells ∧ slots + ms ≤ R.slots) (kk : ∀ (u : S) (H1 : Heap) (locs1 : List Loc), post u → zP g (isR.filterMap (fun i => cs[i]?) ++ wp u) H1 → zD A0 (isR.filterMap (fun i => cs[i]?) ++ wp u) → va_S A0 H0 H1 locs1 → W p l e R s m args below meth c H1 locs1 (cells + mc) (slots + ms) (Q) (F0 m (pc + 3) ls (rest))) : W p l e R s m args below meth c H locs (cells) (slots) (Q) (F0 m pc ls st0) := by
  rw [List.all_append, Bool.and_eq_true] at hlc
  have hC := zc_fm hlc.1
  have hR := zc_fm hlc.2
  have hPc : zP g pre H := by have h := zP_sub hP isC hC; rw [zP, he] at h; exact h
  have hDc : zD A0 pre := by have h := zD_sub hD isC (by rw [va_nd_l hnd]) hC; rw [zD, he] at h; exact h
  have hFc : ∀ q, va_A pre.flatten H.size q → A0 q := by rw [← he]; exact z_free hD hS hA isC hC
  refine va_callv (va_runI (As := As) (rest := rest) F (hM H.size) cw ⟨fun a U g1 mk q => ⟨q.1, q.2.1, q.2.2.1, va_K.moved (u := U) (U := U.calling g1 mk a) (Vm.Alike.refl U.vm) q.2.2.2.1, q.2.2.2.2.1, hXb _ _ _ _ _ q.2.2.2.2.2⟩, fun U hU hW => ⟨rfl, by rw [hU], by rw [hU]; exact hPc, va_K.moved hW.alike hK, hDc.weaken (fun _ _ _ _ => trivial), hXs U hU hW⟩⟩ rfl hn hsize hstack (lv_room hroom) hdg hf) hS (fun q _ h => hFc q h) hFc (fun u t H1 locs1 ht hvm hw hB hz1 hk1 hS1 => ?_)
  obtain ⟨hP1, hK1, hD1⟩ := hB
  rw [ht] at hP1
  obtain ⟨hP2, hD2⟩ := z_join (w1 := wp u) hP hD isC isR hC hR hnd (by rw [he]; exact hk1) (by rw [he]; exact hFc) hP1 (by rw [he]; exact hD1)
  exact kk u H1 locs1 hw hP2 hD2 hS1
theorem z_get (hx : p.tables.exec = Jvm.exec) (hb : c.code = cc) {own C : String} {T : u_T} {N ci index a : Nat} {Ts : List Cond} (hts : ∀ w ∈ Ts, w.before args s = true) (hin : ∀ w ∈ u_ws C T N, w ∈ Ts) (hown : s.vm.findClass own = some m.cls) (hK : zK g s) (hP : zP g cs H) (q0 : Nat) {fs : List Value} (he : cs.flatten[q0]? = some (a, .inr (ci, fs))) (hc : vwCl[ci]? = some (C, T, N)) (k : Nat) (hk : k < N) (hlink : (Cond.fieldLink own index (T k).1 (T k).2.1 (T k).2.2.1).before args s = true) {v : Value} (hv : fs[k]? = some v) (hdg : decode cc pc = .ok (.getfield index, 3)) (kk : W p l e R s m args below meth c H locs (cells) (slots) (Q) (F0 m (pc + 3) ls (v :: rest))) : W p l e R s m args below meth c H locs (cells) (slots) (Q) (F0 m pc ls (.ref a :: rest)) := va_get hx hb hts hin hown hK hP q0 he hc k hk hlink (fun _ h => h) hv hdg kk
theorem z_put (hx : p.tables.exec = Jvm.exec) (hb : c.code = cc) {own C : String} {T : u_T} {N ci index a : Nat} {Ts : List Cond} (hts : ∀ w ∈ Ts, w.before args s = true) (hin : ∀ w ∈ u_ws C T N, w ∈ Ts) (ty0 : Nat → FieldType) (hty : ∀ k, k < N → parseFieldDescriptor (T k).2.2.1 = some (ty0 k)) (hnm : ∀ a, a < N → ∀ b, b < N → a ≠ b → (T a).2.1 ≠ (T b).2.1) (hown : s.vm.findClass own = some m.cls) (hK : zK g s) (hP : zP g cs H) (hD : zD A cs) (hS : va_S A H0 H locs) (q0 : Nat) {fs : List Value} (he : cs.flatten[q0]? = some (a, .inr (ci, fs))) (hc : vwCl[ci]? = some (C, T, N)) (k : Nat) (hk : k < N) (hlink : (Cond.fieldLink own index (T k).1 (T k).2.1 (T k).2.2.1).before args s = true) (hfin : (T k).2.2.2 = false) {v : Value} (hn : narrow (ty0 k) v = v) (hfit : fits (ty0 k) v = true) (hl : k < fs.length) (hdg : decode cc pc = .ok (.putfield index, 3)) (cs' : List va_W) (hcs : cs'.flatten = cs.flatten.set q0 (a, .inr (ci, fs.set k v))) (kk : ∀ (H1 : Heap) (locs1 : List Loc), zP g cs' H1 → zD A cs' → va_S A H0 H1 locs1 → W p l e R s m args below meth c H1 locs1 (cells) (slots) (Q) (F0 m (pc + 3) ls rest)) : W p l e R s m args below meth c H locs (cells) (slots) (Q) (F0 m pc ls (v :: .ref a :: rest)) := va_put hx hb hts hin ty0 hty hnm hown hK hP hD hS q0 he hc k hk hlink (fun _ h => h) hfin (hty k hk) hn hfit hl hdg (fun H1 locs1 h1 h2 h3 => kk H1 locs1 (by rw [zP, hcs]; exact h1) (by rw [zD, hcs]; exact h2) h3)
theorem z_putF (hx : p.tables.exec = Jvm.exec) (hb : c.code = cc) {own C : String} {T : u_T} {N ci index a : Nat} {Ts : List Cond} (hts : ∀ w ∈ Ts, w.before args s = true) (hin : ∀ w ∈ u_ws C T N, w ∈ Ts) (ty0 : Nat → FieldType) (hty : ∀ k, k < N → parseFieldDescriptor (T k).2.2.1 = some (ty0 k)) (hnm : ∀ a, a < N → ∀ b, b < N → a ≠ b → (T a).2.1 ≠ (T b).2.1) (hown : s.vm.findClass own = some m.cls) (hK : zK g s) (hP : zP g cs H) (hD : zD A cs) (hS : va_S A H0 H locs) (q0 : Nat) {fs : List Value} (he : cs.flatten[q0]? = some (a, .inr (ci, fs))) (hc : vwCl[ci]? = some (C, T, N)) (k : Nat) (hk : k < N) (hlink : (Cond.fieldLink own index (T k).1 (T k).2.1 (T k).2.2.1).before args s = true) (hfin : (T k).2.2.2 = true) (hin2 : meth.name = "<init>") (hdecl : (T k).1 = own) {v : Value} (hn : narrow (ty0 k) v = v) (hfit : fits (ty0 k) v = true) (hl : k < fs.length) (hdg : decode cc pc = .ok (.putfield index, 3)) (cs' : List va_W) (hcs : cs'.flatten = cs.flatten.set q0 (a, .inr (ci, fs.set k v))) (kk : ∀ (H1 : Heap) (locs1 : List Loc), zP g cs' H1 → zD A cs' → va_S A H0 H1 locs1 → W p l e R s m args below meth c H1 locs1 (cells) (slots) (Q) (F0 m (pc + 3) ls rest)) : W p l e R s m args below meth c H locs (cells) (slots) (Q) (F0 m pc ls (v :: .ref a :: rest)) := va_putF hx hb hts hin ty0 hty hnm hown hK hP hD hS q0 he hc k hk hlink (fun _ h => h) hfin hin2 hdecl (hty k hk) hn hfit hl hdg (fun H1 locs1 h1 h2 h3 => kk H1 locs1 (by rw [zP, hcs]; exact h1) (by rw [zD, hcs]; exact h2) h3)
theorem z_iald (hx : p.tables.exec = Jvm.exec) (hb : c.code = cc) (hK : zK g s) (hP : zP g cs H) (q0 : Nat) {a n : Nat} {f : Nat → Int} (he : cs.flatten[q0]? = some (a, .inl (g.2 0, n, .inl (aI f)))) {i : Int} (j : Nat) (hi : i = (j : Int)) (hin : j < n) (hn : n ≤ 1000000) (hdg : decode cc pc = .ok (.iaload, 1)) (kk : W p l e R s m args below meth c H locs (cells) (slots) (Q) (F0 m (pc + 1) ls (vI (f j) :: rest))) : W p l e R s m args below meth c H locs (cells) (slots) (Q) (F0 m pc ls (vI i :: .ref a :: rest)) := by
  have hj : (Int32.ofInt i).toNatClampNeg = j := by subst hi; rw [i_nat (by omega)]; simp
  refine va_iald hx hb hK hP q0 0 he rfl (i_in hn (by omega)) hdg ?_
  rw [hj]
  exact kk
theorem z_zald (hx : p.tables.exec = Jvm.exec) (hb : c.code = cc) (hK : zK g s) (hP : zP g cs H) (q0 : Nat) {a n : Nat} {f : Nat → Int} (he : cs.flatten[q0]? = some (a, .inl (g.2 2, n, .inl (aI f)))) {i : Int} (j : Nat) (hi : i = (j : Int)) (hin : j < n) (hn : n ≤ 1000000) (hdg : decode cc pc = .ok (.baload, 1)) (kk : W p l e R s m args below meth c H locs (cells) (slots) (Q) (F0 m (pc + 1) ls (vI (f j) :: rest))) : W p l e R s m args below meth c H locs (cells) (slots) (Q) (F0 m pc ls (vI i :: .ref a :: rest)) := by
  have hj : (Int32.ofInt i).toNatClampNeg = j := by subst hi; rw [i_nat (by omega)]; simp
  refine va_zald hx hb hK hP q0 2 he rfl (i_in hn (by omega)) hdg ?_
  rw [hj]
  exact kk
theorem z_lald (hx : p.tables.exec = Jvm.exec) (hb : c.code = cc) (hK : zK g s) (hP : zP g cs H) (q0 : Nat) {a n : Nat} {f : Nat → Int} (he : cs.flatten[q0]? = some (a, .inl (g.2 1, n, .inr (.inl (aL f))))) {i : Int} (j : Nat) (hi : i = (j : Int)) (hin : j < n) (hn : n ≤ 1000000) (hdg : decode cc pc = .ok (.laload, 1)) (kk : W p l e R s m args below meth c H locs (cells) (slots) (Q) (F0 m (pc + 1) ls (vL (f j) :: rest))) : W p l e R s m args below meth c H locs (cells) (slots) (Q) (F0 m pc ls (vI i :: .ref a :: rest)) := by
  have hj : (Int32.ofInt i).toNatClampNeg = j := by subst hi; rw [i_nat (by omega)]; simp
  refine va_lald hx hb hK hP q0 1 he rfl (i_in hn (by omega)) hdg ?_
  rw [hj]
  exact kk
theorem z_iast (hx : p.tables.exec = Jvm.exec) (hb : c.code = cc) (hK : zK g s) (hP : zP g cs H) (q0 : Nat) {a n : Nat} {f : Nat → Int} {v : Int} (hD : zD A cs) (hS : va_S A H0 H locs) (he : cs.flatten[q0]? = some (a, .inl (g.2 0, n, .inl (aI f)))) {i : Int} (j : Nat) (hi : i = (j : Int)) (hin : j < n) (hn : n ≤ 1000000) (hdg : decode cc pc = .ok (.iastore, 1)) (cs' : List va_W) (hcs : cs'.flatten = cs.flatten.set q0 (a, .inl (g.2 0, n, .inl (aI (uI f j v))))) (kk : ∀ (H1 : Heap) (locs1 : List Loc), zP g cs' H1 → zD A cs' → va_S A H0 H1 locs1 → W p l e R s m args below meth c H1 locs1 (cells) (slots) (Q) (F0 m (pc + 1) ls rest)) : W p l e R s m args below meth c H locs (cells) (slots) (Q) (F0 m pc ls (vI v :: vI i :: .ref a :: rest)) := by
  have hj : (Int32.ofInt i).toNatClampNeg = j := by subst hi; rw [i_nat (by omega)]; simp
  refine va_iast hx hb hK hP hD hS q0 0 he rfl (i_in hn (by omega)) hdg (fun H1 locs1 h1 h2 h3 => ?_)
  rw [hj, upd_aI] at h1 h2
  exact kk H1 locs1 (by rw [zP, hcs]; exact h1) (by rw [zD, hcs]; exact h2) h3
theorem z_last (hx : p.tables.exec = Jvm.exec) (hb : c.code = cc) (hK : zK g s) (hP : zP g cs H) (q0 : Nat) {a n : Nat} {f : Nat → Int} {v : Int} (hD : zD A cs) (hS : va_S A H0 H locs) (he : cs.flatten[q0]? = some (a, .inl (g.2 1, n, .inr (.inl (aL f))))) {i : Int} (j : Nat) (hi : i = (j : Int)) (hin : j < n) (hn : n ≤ 1000000) (hdg : decode cc pc = .ok (.lastore, 1)) (cs' : List va_W) (hcs : cs'.flatten = cs.flatten.set q0 (a, .inl (g.2 1, n, .inr (.inl (aL (uI f j v)))))) (kk : ∀ (H1 : Heap) (locs1 : List Loc), zP g cs' H1 → zD A cs' → va_S A H0 H1 locs1 → W p l e R s m args below meth c H1 locs1 (cells) (slots) (Q) (F0 m (pc + 1) ls rest)) : W p l e R s m args below meth c H locs (cells) (slots) (Q) (F0 m pc ls (vL v :: vI i :: .ref a :: rest)) := by
  have hj : (Int32.ofInt i).toNatClampNeg = j := by subst hi; rw [i_nat (by omega)]; simp
  refine va_last hx hb hK hP hD hS q0 1 he rfl (i_in hn (by omega)) hdg (fun H1 locs1 h1 h2 h3 => ?_)
  rw [hj, updL_aL] at h1 h2
  exact kk H1 locs1 (by rw [zP, hcs]; exact h1) (by rw [zD, hcs]; exact h2) h3
theorem nar_b {v : Int} (hv : v = 0 ∨ v = 1) : vp_nar .boolean (Int32.ofInt v) = Int32.ofInt v := by rcases hv with rfl | rfl <;> rfl
theorem nar_z {v : Int} (hv : v = 0 ∨ v = 1) : narrow .boolean (vI v) = vI v := by rcases hv with rfl | rfl <;> rfl
theorem fit_z {v : Int} (hv : v = 0 ∨ v = 1) : fits .boolean (vI v) = true := by rcases hv with rfl | rfl <;> rfl
theorem z_zast (hx : p.tables.exec = Jvm.exec) (hb : c.code = cc) (hK : zK g s) (hP : zP g cs H) (q0 : Nat) {a n : Nat} {f : Nat → Int} {v : Int} (hD : zD A cs) (hS : va_S A H0 H locs) (he : cs.flatten[q0]? = some (a, .inl (g.2 2, n, .inl (aI f)))) {i : Int} (j : Nat) (hi : i = (j : Int)) (hin : j < n) (hn : n ≤ 1000000) (hv : v = 0 ∨ v = 1) (hdg : decode cc pc = .ok (.bastore, 1)) (cs' : List va_W) (hcs : cs'.flatten = cs.flatten.set q0 (a, .inl (g.2 2, n, .inl (aI (uI f j v))))) (kk : ∀ (H1 : Heap) (locs1 : List Loc), zP g cs' H1 → zD A cs' → va_S A H0 H1 locs1 → W p l e R s m args below meth c H1 locs1 (cells) (slots) (Q) (F0 m (pc + 1) ls rest)) : W p l e R s m args below meth c H locs (cells) (slots) (Q) (F0 m pc ls (vI v :: vI i :: .ref a :: rest)) := by
  have hj : (Int32.ofInt i).toNatClampNeg = j := by subst hi; rw [i_nat (by omega)]; simp
  refine va_zast hx hb hK hP hD hS q0 2 he rfl (i_in hn (by omega)) hdg (fun H1 locs1 h1 h2 h3 => ?_)
  rw [hj, nar_b hv, upd_aI] at h1 h2
  exact kk H1 locs1 (by rw [zP, hcs]; exact h1) (by rw [zD, hcs]; exact h2) h3
theorem z_aald (hx : p.tables.exec = Jvm.exec) (hb : c.code = cc) (hK : zK g s) (hP : zP g cs H) (q0 t0 : Nat) {a n : Nat} {cA : ClassId} {C : String} {f : Nat → Option Nat} (he : cs.flatten[q0]? = some (a, .inl (cA, n, .inr (.inr (.inr (.inr f)))))) (ht : (zT g)[t0]? = some (cA, .object C)) {i : Int} (j : Nat) (hi : i = (j : Int)) (hin : j < n) (hn : n ≤ 1000000) (r : Nat) (hf : f j = some r) (hdg : decode cc pc = .ok (.aaload, 1)) (kk : W p l e R s m args below meth c H locs (cells) (slots) (Q) (F0 m (pc + 1) ls (.ref r :: rest))) : W p l e R s m args below meth c H locs (cells) (slots) (Q) (F0 m pc ls (vI i :: .ref a :: rest)) := by
  have hj : (Int32.ofInt i).toNatClampNeg = j := by subst hi; rw [i_nat (by omega)]; simp
  refine va_aldq hx hb hK hP q0 t0 he ht (i_in hn (by omega)) hdg ?_
  rw [hj, hf]
  exact kk
theorem z_aast (hx : p.tables.exec = Jvm.exec) (hb : c.code = cc) (hK : zK g s) (hP : zP g cs H) (q0 t0 qk ci : Nat) {a n v : Nat} {cA : ClassId} {r : vw_C} {vs : List Value} {f : Nat → Option Nat} (hD : zD A cs) (hS : va_S A H0 H locs) (he : cs.flatten[q0]? = some (a, .inl (cA, n, .inr (.inr (.inr (.inr f)))))) (ht : (zT g)[t0]? = some (cA, .object r.1)) (hv : cs.flatten[qk]? = some (v, .inr (ci, vs))) (hc : vwCl[ci]? = some r) {i : Int} (j : Nat) (hi : i = (j : Int)) (hin : j < n) (hn : n ≤ 1000000) (hdg : decode cc pc = .ok (.aastore, 1)) (cs' : List va_W) (hcs : cs'.flatten = cs.flatten.set q0 (a, .inl (cA, n, .inr (.inr (.inr (.inr (va_up f j (some v)))))))) (kk : ∀ (H1 : Heap) (locs1 : List Loc), zP g cs' H1 → zD A cs' → va_S A H0 H1 locs1 → W p l e R s m args below meth c H1 locs1 (cells) (slots) (Q) (F0 m (pc + 1) ls rest)) : W p l e R s m args below meth c H locs (cells) (slots) (Q) (F0 m pc ls (.ref v :: vI i :: .ref a :: rest)) := by
  have hj : (Int32.ofInt i).toNatClampNeg = j := by subst hi; rw [i_nat (by omega)]; simp
  refine va_astq hx hb hK hP hD hS q0 t0 qk ci he ht hv hc (i_in hn (by omega)) hdg (fun H1 locs1 h1 h2 h3 => ?_)
  rw [hj] at h1 h2
  exact kk H1 locs1 (by rw [zP, hcs]; exact h1) (by rw [zD, hcs]; exact h2) h3
end ZW
