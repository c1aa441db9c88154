/-! a contract over a part of a world, as one over the whole -/
theorem met_gen {l : Launch} {y : MethodName} {ws : List Cond} {rm rm' : Room} {Pc Pc' : Array Value → State → Prop} {Qc Qc' : Array Value → State → Outcome → State → Prop} {mc ms : Nat} {free free' : Addr → Prop} (h : Met l y ws rm Pc Qc mc ms free) (hr : rm.frames ≤ rm'.frames ∧ rm.cells ≤ rm'.cells ∧ rm.slots ≤ rm'.slots ∧ rm.locals ≤ rm'.locals) (hP : ∀ a s, Pc' a s → Pc a s) (hQ : ∀ a s o t, Pc' a s → Qc a s o t → Qc' a s o t) (hf : ∀ q, free q → free' q) : Met l y ws rm' Pc' Qc' mc ms free' := by
  intro p e ha hc hk s m args below hfr happ hp hK
  have happ' : (headSpec ws rm).appliesLoose y e.platform s = true := by
    rw [Spec.appliesLoose_iff hfr] at happ ⊢
    obtain ⟨a1, a2, a3, a4, a5, a6, a7, a8⟩ := happ
    refine ⟨a1, a2, a3, a4, a5, a6, ?_, a8⟩
    unfold State.hasRoom at a7 ⊢
    simp only [Bool.and_eq_true] at a7 ⊢
    obtain ⟨⟨⟨⟨b1, b2⟩, b3⟩, b4⟩, b5⟩ := a7
    have b1 := of_decide_eq_true b1
    have b2 := of_decide_eq_true b2
    have b3 := of_decide_eq_true b3
    have b4 := of_decide_eq_true b4
    obtain ⟨r1, r2, r3, r4⟩ := hr
    dsimp only [headSpec] at b1 b2 b3 b4 ⊢
    exact ⟨⟨⟨⟨decide_eq_true (by omega), decide_eq_true ⟨by omega, by omega, by omega, by omega, b2.2.2.2.2⟩⟩, decide_eq_true (by omega)⟩, decide_eq_true (by omega)⟩, b5⟩
  obtain ⟨n, o, h1, h2, h3, h4, L, h5, h6⟩ := h p e ha hc hk s m args below hfr happ' (hP _ _ hp) trivial
  exact ⟨n, o, h1, h2, h3, hQ _ _ _ _ hp h4, L, h5, fun q hq => hf _ (h6 q hq)⟩
def zXm (Y X : zX) : Prop := ∀ (B B' : Nat → Prop) (U : State), (∀ q, B q → B' q) → Y B' U → X B U
theorem zXP_b {nm : String} {t : Nat} {f : Nat → Value} : ∀ (B : Nat → Prop) (U : State) (g1 : JFrame) (mk : MethodId) (x : Array Value), zXP nm t f B U → zXP nm t f B (U.calling g1 mk x) := fun B U g1 mk x h => ⟨va_Z.moved (Vm.Alike.refl U.vm) h.1, zXT_b B U g1 mk x h.2⟩
theorem zXP_s {nm : String} {t : Nat} {f : Nat → Value} {A B : Nat → Prop} {s : State} {H : Heap} {locs : List Loc} (h : zXP nm t f A s) (hS : va_S A s.heap H locs) (hF : ∀ q, B q → A q) : ∀ U : State, U.heap = H → s.WarmedH U.vm → zXP nm t f B U := fun U hU hW => by
  refine ⟨?_, zXT_s h.2 hS hF U hU hW⟩
  rw [hU]
  exact ((h.1.kept hS.2.1).narrow hF).moved hW.alike
def zXL (t1 t2 : Nat) (xs vs : Nat → Nat) : zX := fun A U => zXN A U ∧ zXP "SPLIT_TURNS" t1 tnS A U ∧ zXP "JOIN_TURNS" t2 tnJ A U ∧ zXW xs vs A U
theorem zXL_b {t1 t2 : Nat} {xs vs : Nat → Nat} : ∀ (B : Nat → Prop) (U : State) (g1 : JFrame) (mk : MethodId) (x : Array Value), zXL t1 t2 xs vs B U → zXL t1 t2 xs vs B (U.calling g1 mk x) := fun B U g1 mk x h => ⟨zXN_b B U g1 mk x h.1, zXP_b B U g1 mk x h.2.1, zXP_b B U g1 mk x h.2.2.1, zXW_b B U g1 mk x h.2.2.2⟩
theorem zXL_s {t1 t2 : Nat} {xs vs : Nat → Nat} {A B : Nat → Prop} {s : State} {H : Heap} {locs : List Loc} (h : zXL t1 t2 xs vs A s) (hS : va_S A s.heap H locs) (hF : ∀ q, B q → A q) : ∀ U : State, U.heap = H → s.WarmedH U.vm → zXL t1 t2 xs vs B U := fun U hU hW => ⟨zXN_s h.1 U hU hW, zXP_s h.2.1 hS hF U hU hW, zXP_s h.2.2.1 hS hF U hU hW, zXW_s h.2.2.2 hS hF U hU hW⟩
theorem zXm_0 {Y : zX} : zXm Y zX0 := fun _ _ _ _ _ => trivial
theorem zXm_N {t1 t2 : Nat} {xs vs : Nat → Nat} : zXm (zXL t1 t2 xs vs) zXN := fun _ _ _ _ h => h.1
theorem zXm_S {t1 t2 : Nat} {xs vs : Nat → Nat} : zXm (zXL t1 t2 xs vs) (zXP "SPLIT_TURNS" t1 tnS) := fun _ _ U hq h => zXP_s h.2.1 va_S.rf hq U rfl (State.WarmedH.refl U)
theorem zXm_J {t1 t2 : Nat} {xs vs : Nat → Nat} : zXm (zXL t1 t2 xs vs) (zXP "JOIN_TURNS" t2 tnJ) := fun _ _ U hq h => zXP_s h.2.2.1 va_S.rf hq U rfl (State.WarmedH.refl U)
theorem zXm_W {t1 t2 : Nat} {xs vs : Nat → Nat} : zXm (zXL t1 t2 xs vs) (zXW xs vs) := fun _ _ U hq h => zXW_s h.2.2.2 va_S.rf hq U rfl (State.WarmedH.refl U)
theorem zs_one (w : va_W) : [w].flatten = w := by simp
theorem va_A_sub {cs pre : List va_W} {isC : List Nat} (hC : isC.map (fun i => cs[i]?) = pre.map some) {sz : Nat} : ∀ q, va_A pre.flatten sz q → va_A cs.flatten sz q := by
  intro q h
  rcases h with ⟨k, e, h⟩ | h
  · obtain ⟨w, hw, hqw⟩ := List.mem_flatten.mp (List.mem_of_getElem? h)
    obtain ⟨j, hj⟩ := List.getElem?_of_mem (List.mem_flatten.mpr ⟨w, zc_mem hC hw, hqw⟩)
    exact Or.inl ⟨j, e, hj⟩
  · exact Or.inr h
section
variable {l : Launch} {g : zG} {y : MethodName} {wd : List Cond} {k : Nat} {av : List Value} {X Y : zX} {pre cs cr : List va_W} {S D : Type} {ri : S → Int} {post : S → Prop} {wp : S → List va_W}
theorem zfr_pre {av : List Value} (hX : zXm Y X) (isC isR : List Nat) (hC : isC.map (fun i => cs[i]?) = pre.map some) (hn : va_nd (isC ++ isR) = true) {sz : Nat} (a : Array Value) (s : State) (h : zPc g Y av [cs.flatten] sz a s) : zPc g X av pre sz a s := by
  obtain ⟨h1, h2, h3, h4, h5, h6⟩ := h
  have h3 : zP g cs s.heap := by have h3 : va_P g.1 vwCl [cs.flatten].flatten s.heap := h3; rw [zs_one] at h3; exact h3
  have h5 : zD (fun _ => True) cs := by have h5 : va_D (fun _ => True) [cs.flatten].flatten := h5; rw [zs_one] at h5; exact h5
  rw [zs_one] at h6
  exact ⟨h1, h2, zP_sub h3 isC hC, h4, zD_sub h5 isC (va_nd_l hn) hC, hX _ _ _ (va_A_sub hC) h6⟩
theorem zfr_post {av : List Value} (isC isR : List Nat) (hC : isC.map (fun i => cs[i]?) = pre.map some) (hR : isR.map (fun i => cs[i]?) = cr.map some) (hn : va_nd (isC ++ isR) = true) {w1 w2 : List va_W} (is2 : List Nat) (hn2 : va_nd is2 = true) (h2 : is2.map (fun i => (cr ++ w1)[i]?) = w2.map some) {sz : Nat} {a : Array Value} {s t : State} (h : zPc g Y av [cs.flatten] sz a s) (hB : zB g (va_A pre.flatten sz) w1 t) (hF : va_F (va_A pre.flatten sz) s t) : zB g (va_A [cs.flatten].flatten sz) [w2.flatten] t ∧ va_F (va_A [cs.flatten].flatten sz) s t := by
  obtain ⟨g1, g2, g3, g4, g5, g6⟩ := h
  have g3 : zP g cs s.heap := by have h3 : va_P g.1 vwCl [cs.flatten].flatten s.heap := g3; rw [zs_one] at h3; exact h3
  have g5 : zD (fun _ => True) cs := by have h5 : va_D (fun _ => True) [cs.flatten].flatten := g5; rw [zs_one] at h5; exact h5
  subst g2
  rw [zs_one]
  have hsub := va_A_sub (cs := cs) (sz := s.heap.size) hC
  have hj := z_join (A0 := va_A cs.flatten s.heap.size) g3 (g5.self) isC isR hC hR hn hF.2 hsub hB.1 hB.2.2
  refine ⟨⟨?_, hB.2.1, ?_⟩, hF.1, fun q h1 h3 => hF.2 q h1 (fun z => h3 (hsub q z))⟩
  · show va_P g.1 vwCl [w2.flatten].flatten t.heap
    rw [zs_one]
    exact zP_sub hj.1 is2 h2
  · show va_D _ [w2.flatten].flatten
    rw [zs_one]
    exact zD_sub hj.2 is2 hn2 h2
theorem zfr_i (h : zMet l g y wd k 0 0 av X pre (qi g ri post wp)) (hk : k ≤ 8) (hX : zXm Y X) (isC isR : List Nat) (hC : isC.map (fun i => cs[i]?) = pre.map some) (hR : isR.map (fun i => cs[i]?) = cr.map some) (hn : va_nd (isC ++ isR) = true) (φ : S → D) (wD : D → List va_W) (is2 : List Nat) (hn2 : va_nd is2 = true) (h2 : ∀ u, is2.map (fun i => (cr ++ wp u)[i]?) = (wD (φ u)).map some) (ans : Int) (ha : ∀ u, post u → ri u = ans) : zMet l g y wd 8 0 0 av Y [cs.flatten] (qi g (fun _ : D => ans) (fun d => ∃ u, post u ∧ d = φ u) (fun d => [(wD d).flatten])) := by
  intro sz
  refine met_gen (h sz) ⟨hk, Nat.le_refl _, Nat.le_refl _, Nat.mul_le_mul_left 40 hk⟩ (zfr_pre hX isC isR hC hn) ?_ (by rw [zs_one]; exact va_A_sub hC)
  rintro a s o t hp ⟨⟨r, u, ho, ⟨hr, hpu⟩, hB⟩, hF⟩
  have hz := zfr_post isC isR hC hR hn is2 hn2 (h2 u) hp hB hF
  exact ⟨⟨r, φ u, ho, ⟨by rw [hr, ha u hpu], u, hpu, rfl⟩, hz.1⟩, hz.2⟩
theorem zfr_l (h : zMet l g y wd k 0 0 av X pre (ql g ri post wp)) (hk : k ≤ 8) (hX : zXm Y X) (isC isR : List Nat) (hC : isC.map (fun i => cs[i]?) = pre.map some) (hR : isR.map (fun i => cs[i]?) = cr.map some) (hn : va_nd (isC ++ isR) = true) (φ : S → D) (wD : D → List va_W) (is2 : List Nat) (hn2 : va_nd is2 = true) (h2 : ∀ u, is2.map (fun i => (cr ++ wp u)[i]?) = (wD (φ u)).map some) (ans : Int) (ha : ∀ u, post u → ri u = ans) : zMet l g y wd 8 0 0 av Y [cs.flatten] (ql g (fun _ : D => ans) (fun d => ∃ u, post u ∧ d = φ u) (fun d => [(wD d).flatten])) := by
  intro sz
  refine met_gen (h sz) ⟨hk, Nat.le_refl _, Nat.le_refl _, Nat.mul_le_mul_left 40 hk⟩ (zfr_pre hX isC isR hC hn) ?_ (by rw [zs_one]; exact va_A_sub hC)
  rintro a s o t hp ⟨⟨r, u, ho, ⟨hr, hpu⟩, hB⟩, hF⟩
  have hz := zfr_post isC isR hC hR hn is2 hn2 (h2 u) hp hB hF
  exact ⟨⟨r, φ u, ho, ⟨by rw [hr, ha u hpu], u, hpu, rfl⟩, hz.1⟩, hz.2⟩
end
