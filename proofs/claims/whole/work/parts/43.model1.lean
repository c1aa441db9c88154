set_option maxHeartbeats 4000000 in
set_option maxRecDepth 100000 in
theorem c_X10_in (l : Launch) (g : zG) (v : Int) (lo : Int) (hi : Int) (h0 : -9223372036854775808 ≤ v ∧ v < 9223372036854775808) (h1 : -9223372036854775808 ≤ lo ∧ lo < 9223372036854775808) (h2 : -9223372036854775808 ≤ hi ∧ hi < 9223372036854775808) : zMet l g yX10_in wsX10_in 0 0 0 [vL v, vL lo, vL hi] zX0 [] (qi g (fun (_ : Unit) => (inI v lo hi)) (fun (_ : Unit) => True) (fun (_ : Unit) => [])) := by
  have h9 := inI_s v lo hi
  refine z_ent (cc := cX10_in) (maxL := 6) (ret := (some .boolean)) (by decide) rfl (Nat.le_of_ble_eq_true rfl) ?_
  intro p e s m below meth c A ls hx hb hr hml hown hts hlocks hin0 hA hK hP hD hS hXX hl
  have hown : s.vm.findClass RX10 = some m.cls := hown
  have hl : lv_has ls 6 [(0, vL v), (2, vL lo), (4, vL hi)] := hl
  refine lv_lload_n hx hb dX10_in_0 rfl (lv_at hl 0 rfl) ?_
  refine lv_lload_n hx hb dX10_in_1 rfl (lv_at hl 1 rfl) ?_
  refine z_lcmp_lt (tgt := 17) hx hb (by omega) (by omega) dX10_in_2 dX10_in_3 (by decide) (fun cq1 => ?_) (fun cq1 => ?_)
  · refine z_iconst hx hb dX10_in_17 rfl ?_
    exact z_reti () [] hx hb hr (nar_z (by first | decide | omega)) hlocks hK hP hD hS (by omega) trivial rfl rfl (rfl) (Nat.le_of_ble_eq_true rfl) (Nat.le_of_ble_eq_true rfl) dX10_in_18
  · refine lv_lload_n hx hb dX10_in_6 rfl (lv_at hl 0 rfl) ?_
    refine lv_lload hx hb dX10_in_7 (lv_at hl 2 rfl) ?_
    refine z_lcmp_gt (tgt := 17) hx hb (by omega) (by omega) dX10_in_9 dX10_in_10 (by decide) (fun cq2 => ?_) (fun cq2 => ?_)
    · refine z_iconst hx hb dX10_in_17 rfl ?_
      exact z_reti () [] hx hb hr (nar_z (by first | decide | omega)) hlocks hK hP hD hS (by omega) trivial rfl rfl (rfl) (Nat.le_of_ble_eq_true rfl) (Nat.le_of_ble_eq_true rfl) dX10_in_18
    · refine z_iconst hx hb dX10_in_13 rfl ?_
      refine lv_goto (tgt := 18) hx hb dX10_in_14 (by decide) ?_
      exact z_reti () [] hx hb hr (nar_z (by first | decide | omega)) hlocks hK hP hD hS (by omega) trivial rfl rfl (rfl) (Nat.le_of_ble_eq_true rfl) (Nat.le_of_ble_eq_true rfl) dX10_in_18

set_option maxHeartbeats 4000000 in
set_option maxRecDepth 100000 in
theorem c_X10_isSmall (l : Launch) (g : zG) (v : Int) (h0 : -2147483648 ≤ v ∧ v < 2147483648) : zMet l g yX10_isSmall wsX10_isSmall 1 0 0 [vI v] zX0 [] (qi g (fun (_ : Unit) => (inI v 97 122)) (fun (_ : Unit) => True) (fun (_ : Unit) => [])) := by
  refine z_ent (cc := cX10_isSmall) (maxL := 1) (ret := (some .boolean)) (by decide) rfl (Nat.le_of_ble_eq_true rfl) ?_
  intro p e s m below meth c A ls hx hb hr hml hown hts hlocks hin0 hA hK hP hD hS hXX hl
  have hown : s.vm.findClass RX10 = some m.cls := hown
  have hl : lv_has ls 1 [(0, vI v)] := hl
  refine lv_iload_n hx hb dX10_isSmall_0 rfl (lv_at hl 0 rfl) ?_
  refine z_i2l hx hb (by omega) dX10_isSmall_1 ?_
  refine z_ldc2 hx hb 97 hown (hts _ (List.mem_of_getElem? (i := 1) rfl)) rfl dX10_isSmall_2 ?_
  refine z_ldc2 hx hb 122 hown (hts _ (List.mem_of_getElem? (i := 2) rfl)) rfl dX10_isSmall_5 ?_
  refine z_cSi (As := [vL v, vL 97, vL 122]) (rest := []) ⟨hx, hb, hml, hown, hts⟩ hK hP hD hS hA [] [] rfl rfl rfl (c_X10_in l g v 97 122 (by first | decide | omega) (by first | decide | omega) (by first | decide | omega)) (va_cwS 3 hts gX10_isSmall_X10_in rfl rfl rfl (by decide +kernel) ⟨Nat.le_of_ble_eq_true rfl, Nat.le_of_ble_eq_true rfl⟩) (fun _ _ _ _ _ _ => trivial) (fun _ _ _ => trivial) rfl hl.1 (Nat.le_of_ble_eq_true rfl) rfl dX10_isSmall_8 ⟨Nat.le_of_ble_eq_true rfl, Nat.le_of_ble_eq_true rfl⟩ (fun u_1 H locs hwu_1 hP hD hS => ?_)
  try dsimp only at hwu_1
  have hP : zP g [] H := hP
  have hD : zD A [] := hD
  refine z_toI (inI v 97 122) rfl ?_
  have hf_2 := inI_s v 97 122
  exact z_reti () [] hx hb hr (nar_z (inI_s _ _ _).1) hlocks hK hP hD hS (rfl) trivial rfl rfl (rfl) (Nat.le_of_ble_eq_true rfl) (Nat.le_of_ble_eq_true rfl) dX10_isSmall_11

set_option maxHeartbeats 4000000 in
set_option maxRecDepth 100000 in
theorem c_X10_isDigit (l : Launch) (g : zG) (v : Int) (h0 : -2147483648 ≤ v ∧ v < 2147483648) : zMet l g yX10_isDigit wsX10_isDigit 1 0 0 [vI v] zX0 [] (qi g (fun (_ : Unit) => (inI v 48 57)) (fun (_ : Unit) => True) (fun (_ : Unit) => [])) := by
  refine z_ent (cc := cX10_isDigit) (maxL := 1) (ret := (some .boolean)) (by decide) rfl (Nat.le_of_ble_eq_true rfl) ?_
  intro p e s m below meth c A ls hx hb hr hml hown hts hlocks hin0 hA hK hP hD hS hXX hl
  have hown : s.vm.findClass RX10 = some m.cls := hown
  have hl : lv_has ls 1 [(0, vI v)] := hl
  refine lv_iload_n hx hb dX10_isDigit_0 rfl (lv_at hl 0 rfl) ?_
  refine z_i2l hx hb (by omega) dX10_isDigit_1 ?_
  refine z_ldc2 hx hb 48 hown (hts _ (List.mem_of_getElem? (i := 1) rfl)) rfl dX10_isDigit_2 ?_
  refine z_ldc2 hx hb 57 hown (hts _ (List.mem_of_getElem? (i := 2) rfl)) rfl dX10_isDigit_5 ?_
  refine z_cSi (As := [vL v, vL 48, vL 57]) (rest := []) ⟨hx, hb, hml, hown, hts⟩ hK hP hD hS hA [] [] rfl rfl rfl (c_X10_in l g v 48 57 (by first | decide | omega) (by first | decide | omega) (by first | decide | omega)) (va_cwS 3 hts gX10_isDigit_X10_in rfl rfl rfl (by decide +kernel) ⟨Nat.le_of_ble_eq_true rfl, Nat.le_of_ble_eq_true rfl⟩) (fun _ _ _ _ _ _ => trivial) (fun _ _ _ => trivial) rfl hl.1 (Nat.le_of_ble_eq_true rfl) rfl dX10_isDigit_8 ⟨Nat.le_of_ble_eq_true rfl, Nat.le_of_ble_eq_true rfl⟩ (fun u_1 H locs hwu_1 hP hD hS => ?_)
  try dsimp only at hwu_1
  have hP : zP g [] H := hP
  have hD : zD A [] := hD
  refine z_toI (inI v 48 57) rfl ?_
  have hf_2 := inI_s v 48 57
  exact z_reti () [] hx hb hr (nar_z (inI_s _ _ _).1) hlocks hK hP hD hS (rfl) trivial rfl rfl (rfl) (Nat.le_of_ble_eq_true rfl) (Nat.le_of_ble_eq_true rfl) dX10_isDigit_11

set_option maxHeartbeats 4000000 in
set_option maxRecDepth 100000 in
theorem c_X10_isPhase (l : Launch) (g : zG) (v : Int) (h0 : -2147483648 ≤ v ∧ v < 2147483648) : zMet l g yX10_isPhase wsX10_isPhase 1 0 0 [vI v] zX0 [] (qi g (fun (_ : Unit) => (inI v 0 2)) (fun (_ : Unit) => True) (fun (_ : Unit) => [])) := by
  refine z_ent (cc := cX10_isPhase) (maxL := 1) (ret := (some .boolean)) (by decide) rfl (Nat.le_of_ble_eq_true rfl) ?_
  intro p e s m below meth c A ls hx hb hr hml hown hts hlocks hin0 hA hK hP hD hS hXX hl
  have hown : s.vm.findClass RX10 = some m.cls := hown
  have hl : lv_has ls 1 [(0, vI v)] := hl
  refine lv_iload_n hx hb dX10_isPhase_0 rfl (lv_at hl 0 rfl) ?_
  refine z_i2l hx hb (by omega) dX10_isPhase_1 ?_
  refine z_lconst hx hb 0 dX10_isPhase_2 rfl ?_
  refine z_ldc2 hx hb 2 hown (hts _ (List.mem_of_getElem? (i := 1) rfl)) rfl dX10_isPhase_3 ?_
  refine z_cSi (As := [vL v, vL 0, vL 2]) (rest := []) ⟨hx, hb, hml, hown, hts⟩ hK hP hD hS hA [] [] rfl rfl rfl (c_X10_in l g v 0 2 (by first | decide | omega) (by first | decide | omega) (by first | decide | omega)) (va_cwS 3 hts gX10_isPhase_X10_in rfl rfl rfl (by decide +kernel) ⟨Nat.le_of_ble_eq_true rfl, Nat.le_of_ble_eq_true rfl⟩) (fun _ _ _ _ _ _ => trivial) (fun _ _ _ => trivial) rfl hl.1 (Nat.le_of_ble_eq_true rfl) rfl dX10_isPhase_6 ⟨Nat.le_of_ble_eq_true rfl, Nat.le_of_ble_eq_true rfl⟩ (fun u_1 H locs hwu_1 hP hD hS => ?_)
  try dsimp only at hwu_1
  have hP : zP g [] H := hP
  have hD : zD A [] := hD
  refine z_toI (inI v 0 2) rfl ?_
  have hf_2 := inI_s v 0 2
  exact z_reti () [] hx hb hr (nar_z (inI_s _ _ _).1) hlocks hK hP hD hS (rfl) trivial rfl rfl (rfl) (Nat.le_of_ble_eq_true rfl) (Nat.le_of_ble_eq_true rfl) dX10_isPhase_9

set_option maxHeartbeats 4000000 in
set_option maxRecDepth 100000 in
theorem c_X10_isStore (l : Launch) (g : zG) (v : Int) (h0 : -2147483648 ≤ v ∧ v < 2147483648) : zMet l g yX10_isStore wsX10_isStore 1 0 0 [vI v] zX0 [] (qi g (fun (_ : Unit) => (inI v 0 2)) (fun (_ : Unit) => True) (fun (_ : Unit) => [])) := by
  refine z_ent (cc := cX10_isStore) (maxL := 1) (ret := (some .boolean)) (by decide) rfl (Nat.le_of_ble_eq_true rfl) ?_
  intro p e s m below meth c A ls hx hb hr hml hown hts hlocks hin0 hA hK hP hD hS hXX hl
  have hown : s.vm.findClass RX10 = some m.cls := hown
  have hl : lv_has ls 1 [(0, vI v)] := hl
  refine lv_iload_n hx hb dX10_isStore_0 rfl (lv_at hl 0 rfl) ?_
  refine z_i2l hx hb (by omega) dX10_isStore_1 ?_
  refine z_lconst hx hb 0 dX10_isStore_2 rfl ?_
  refine z_ldc2 hx hb 2 hown (hts _ (List.mem_of_getElem? (i := 1) rfl)) rfl dX10_isStore_3 ?_
  refine z_cSi (As := [vL v, vL 0, vL 2]) (rest := []) ⟨hx, hb, hml, hown, hts⟩ hK hP hD hS hA [] [] rfl rfl rfl (c_X10_in l g v 0 2 (by first | decide | omega) (by first | decide | omega) (by first | decide | omega)) (va_cwS 3 hts gX10_isStore_X10_in rfl rfl rfl (by decide +kernel) ⟨Nat.le_of_ble_eq_true rfl, Nat.le_of_ble_eq_true rfl⟩) (fun _ _ _ _ _ _ => trivial) (fun _ _ _ => trivial) rfl hl.1 (Nat.le_of_ble_eq_true rfl) rfl dX10_isStore_6 ⟨Nat.le_of_ble_eq_true rfl, Nat.le_of_ble_eq_true rfl⟩ (fun u_1 H locs hwu_1 hP hD hS => ?_)
  try dsimp only at hwu_1
  have hP : zP g [] H := hP
  have hD : zD A [] := hD
  refine z_toI (inI v 0 2) rfl ?_
  have hf_2 := inI_s v 0 2
  exact z_reti () [] hx hb hr (nar_z (inI_s _ _ _).1) hlocks hK hP hD hS (rfl) trivial rfl rfl (rfl) (Nat.le_of_ble_eq_true rfl) (Nat.le_of_ble_eq_true rfl) dX10_isStore_9

set_option maxHeartbeats 4000000 in
set_option maxRecDepth 100000 in
theorem c_X10_divisor (l : Launch) (g : zG) (x0 : Int) (y0 : Nat) (hx0 : -9223372036854775808 < x0 ∧ x0 < 9223372036854775808) (hy0 : 1 ≤ y0 ∧ y0 < 9223372036854775808) : zMet l g yX10_divisor wsX10_divisor 0 0 0 [vL x0, vL ((y0 : Nat) : Int)] zX0 [] (ql g (fun (_ : Unit) => (gd x0 (y0 : Int))) (fun (_ : Unit) => True) (fun (_ : Unit) => [])) := by
  refine z_ent (cc := cX10_divisor) (maxL := 10) (ret := (some .long)) (by decide) rfl (Nat.le_of_ble_eq_true rfl) ?_
  intro p e s m below meth c A ls hx hb hr hml hown hts hlocks hin0 hA hK hP hD hS hXX hl
  have hown : s.vm.findClass RX10 = some m.cls := hown
  have hl : lv_has ls 10 [(0, vL x0), (2, vL ((y0 : Nat) : Int))] := hl
  have j12 : W p l e (zRm 0 0 0) s m ([vL x0, vL ((y0 : Nat) : Int)] : List Value).toArray below meth c s.heap [] (0) (0) (MQ below ((ql g (fun (_ : Unit) => (gd x0 (y0 : Int))) (fun (_ : Unit) => True) (fun (_ : Unit) => [])) A) ([vL x0, vL ((y0 : Nat) : Int)] : List Value).toArray s 0 0 A) (F0 m 12 ls [vL ((x0.natAbs : Nat) : Int)]) := by
    refine lv_lstore (lv' := [(4, vL ((x0.natAbs : Nat) : Int)), (0, vL x0), (2, vL ((y0 : Nat) : Int))]) hx hb dX10_divisor_12 hl (by decide) rfl (fun ls hl => ?_)
    refine lv_lload_n hx hb dX10_divisor_14 rfl (lv_at hl 2 rfl) ?_
    refine lv_lstore (lv' := [(6, vL ((y0 : Nat) : Int)), (4, vL ((x0.natAbs : Nat) : Int)), (0, vL x0), (2, vL ((y0 : Nat) : Int))]) hx hb dX10_divisor_15 hl (by decide) rfl (fun ls hl => ?_)
    have loop17 : ∀ (N : Nat) (u : Nat) (v : Nat) (H : Heap) (locs : List Loc) (ls : Array Slot), Nat.gcd u v = x0.gcd (y0 : Int) → u < 9223372036854775808 → v < 9223372036854775808 → v < N → zP g [] H → zD A [] → va_S A s.heap H locs → lv_has ls 10 [(0, vL x0), (2, vL ((y0 : Nat) : Int)), (4, vL ((u : Nat) : Int)), (6, vL ((v : Nat) : Int))] → W p l e (zRm 0 0 0) s m ([vL x0, vL ((y0 : Nat) : Int)] : List Value).toArray below meth c H locs (0) (0) (MQ below ((ql g (fun (_ : Unit) => (gd x0 (y0 : Int))) (fun (_ : Unit) => True) (fun (_ : Unit) => [])) A) ([vL x0, vL ((y0 : Nat) : Int)] : List Value).toArray s 0 0 A) (F0 m 17 ls []) := by
      intro N
      induction N with
      | zero => intro u v H locs ls hab hu hv hm; exact absurd hm (Nat.not_lt_zero _)
      | succ N ih17 =>
        intro u v H locs ls hab hu hv hm hP hD hS hl
        refine lv_lload hx hb dX10_divisor_17 (lv_at hl 3 rfl) ?_
        refine z_lconst hx hb 0 dX10_divisor_19 rfl ?_
        refine z_lcmp_eq (tgt := 42) hx hb (by omega) (by decide) dX10_divisor_20 dX10_divisor_21 (by decide) (fun cq1 => ?_) (fun cq1 => ?_)
        · refine lv_lload hx hb dX10_divisor_42 (lv_at hl 2 rfl) ?_
          have hb0 : v = 0 := by omega
          subst hb0
          rw [Nat.gcd_zero_right] at hab
          exact z_retl () [] hx hb hr hlocks hK hP hD hS (by rw [gd_eq (by omega), ← hab]) trivial rfl rfl (rfl) (Nat.le_of_ble_eq_true rfl) (Nat.le_of_ble_eq_true rfl) dX10_divisor_44
        · refine lv_lload hx hb dX10_divisor_24 (lv_at hl 2 rfl) ?_
          refine lv_lload hx hb dX10_divisor_26 (lv_at hl 3 rfl) ?_
          refine z_lrem hx hb ((((u : Nat) : Int)).tmod ((v : Nat) : Int)) (by omega) (by omega) rfl dX10_divisor_28 ?_
          refine z_toL (((u % v) : Nat) : Int) (by rw [← Int.ofNat_tmod]) ?_
          refine lv_lstore (lv' := [(8, vL (((u % v) : Nat) : Int)), (0, vL x0), (2, vL ((y0 : Nat) : Int)), (4, vL ((u : Nat) : Int)), (6, vL ((v : Nat) : Int))]) hx hb dX10_divisor_29 hl (by decide) rfl (fun ls hl => ?_)
          refine lv_lload hx hb dX10_divisor_31 (lv_at hl 4 rfl) ?_
          refine lv_lstore (lv' := [(4, vL ((v : Nat) : Int)), (8, vL (((u % v) : Nat) : Int)), (0, vL x0), (2, vL ((y0 : Nat) : Int)), (6, vL ((v : Nat) : Int))]) hx hb dX10_divisor_33 hl (by decide) rfl (fun ls hl => ?_)
          refine lv_lload hx hb dX10_divisor_35 (lv_at hl 1 rfl) ?_
          refine lv_lstore (lv' := [(6, vL (((u % v) : Nat) : Int)), (4, vL ((v : Nat) : Int)), (8, vL (((u % v) : Nat) : Int)), (0, vL x0), (2, vL ((y0 : Nat) : Int))]) hx hb dX10_divisor_37 hl (by decide) rfl (fun ls hl => ?_)
          refine lv_goto (tgt := 17) hx hb dX10_divisor_39 (by decide) ?_
          exact ih17 v (u % v) _ _ _ (by rw [← hab, Nat.gcd_comm u v, Nat.gcd_rec v u, Nat.gcd_comm]) (by omega) (by have := Nat.mod_lt u (show 0 < v by omega); omega) (by have := Nat.mod_lt u (show 0 < v by omega); omega) hP hD hS (lv_sub hl [3, 4, 1, 0] rfl)
    exact loop17 _ x0.natAbs y0 _ _ _ rfl (by omega) (by omega) (Nat.lt_succ_self _) hP hD hS (lv_sub hl [2, 3, 1, 0] rfl)
  refine lv_lload_n hx hb dX10_divisor_0 rfl (lv_at hl 0 rfl) ?_
  refine z_lconst hx hb 0 dX10_divisor_1 rfl ?_
  refine z_lcmp_ge (tgt := 11) hx hb (by omega) (by decide) dX10_divisor_2 dX10_divisor_3 (by decide) (fun cq2 => ?_) (fun cq2 => ?_)
  · refine lv_lload_n hx hb dX10_divisor_11 rfl (lv_at hl 0 rfl) ?_
    refine z_toL ((x0.natAbs : Nat) : Int) (by omega) ?_
    exact j12
  · refine lv_lload_n hx hb dX10_divisor_6 rfl (lv_at hl 0 rfl) ?_
    refine z_lneg hx hb (-x0) rfl dX10_divisor_7 ?_
    refine lv_goto (tgt := 12) hx hb dX10_divisor_8 (by decide) ?_
    refine z_toL ((x0.natAbs : Nat) : Int) (by omega) ?_
    exact j12

set_option maxHeartbeats 4000000 in
set_option maxRecDepth 100000 in
theorem c_X10_lay (l : Launch) (g : zG) (q : Nat) (a : Nat → Nat) (x : Nat → Int) (S : RS) (to : Nat) (n_ : Int) (d_ : Int) (hto : to < 88) (hn : -9223372036854775808 < n_ ∧ n_ < 9223372036854775808) (hd : 1 ≤ d_ ∧ d_ < 9223372036854775808) : zMet l g yX10_lay wsX10_lay 1 0 0 [.ref q, vI ((to : Nat) : Int), vL n_, vL d_] zX0 [[mdl q a x], [((a 0), .inl (g.2 1, 88, .inr (.inl (aL S.1))))], [((a 1), .inl (g.2 1, 88, .inr (.inl (aL S.2.1))))]] (qv g (fun (_ : Unit) => True) (fun (_ : Unit) => [[mdl q a x], [((a 0), .inl (g.2 1, 88, .inr (.inl (aL (rLy to n_ d_ S).1))))], [((a 1), .inl (g.2 1, 88, .inr (.inl (aL (rLy to n_ d_ S).2.1))))]])) := by
  have hg := gd_pos n_ d_
  have hg2 := gd_le (x := n_) (y := d_) (by omega)
  refine z_ent (cc := cX10_lay) (maxL := 8) (ret := none) (by decide) rfl (Nat.le_of_ble_eq_true rfl) ?_
  intro p e s m below meth c A ls hx hb hr hml hown hts hlocks hin0 hA hK hP hD hS hXX hl
  have hown : s.vm.findClass RX10 = some m.cls := hown
  have hin10_ : ∀ w ∈ wsX100, w ∈ wsX10_lay := zw_in [7, 8, 9, 10, 11, 12, 13, 14, 15, 16, 17, 18, 19, 20, 21, 22, 23, 24, 25, 26, 27, 28, 29, 30, 31, 32] rfl
  have hl : lv_has ls 8 [(0, .ref q), (1, vI ((to : Nat) : Int)), (2, vL n_), (4, vL d_)] := hl
  refine lv_lload_n hx hb dX10_lay_0 rfl (lv_at hl 2 rfl) ?_
  refine lv_lload hx hb dX10_lay_1 (lv_at hl 3 rfl) ?_
  refine z_toL ((d_.toNat : Nat) : Int) (by omega) ?_
  refine z_cSl (As := [vL n_, vL ((d_.toNat : Nat) : Int)]) (rest := []) ⟨hx, hb, hml, hown, hts⟩ hK hP hD hS hA [] [0, 1, 2] rfl rfl rfl (c_X10_divisor l g n_ d_.toNat (by omega) (by omega)) (va_cwS 2 hts gX10_lay_X10_divisor rfl rfl rfl (by decide +kernel) ⟨Nat.le_of_ble_eq_true rfl, Nat.le_of_ble_eq_true rfl⟩) (fun _ _ _ _ _ _ => trivial) (fun _ _ _ => trivial) rfl hl.1 (Nat.le_of_ble_eq_true rfl) rfl dX10_lay_3 ⟨Nat.le_of_ble_eq_true rfl, Nat.le_of_ble_eq_true rfl⟩ (fun u_1 H locs hwu_1 hP hD hS => ?_)
  try dsimp only at hwu_1
  have hP : zP g [[mdl q a x], [((a 0), .inl (g.2 1, 88, .inr (.inl (aL S.1))))], [((a 1), .inl (g.2 1, 88, .inr (.inl (aL S.2.1))))]] H := hP
  have hD : zD A [[mdl q a x], [((a 0), .inl (g.2 1, 88, .inr (.inl (aL S.1))))], [((a 1), .inl (g.2 1, 88, .inr (.inl (aL S.2.1))))]] := hD
  refine z_toL (gd n_ (d_.toNat : Int)) rfl ?_
  refine z_toL (gd n_ d_) (by rw [Int.toNat_of_nonneg (by omega)]) ?_
  refine lv_lstore (lv' := [(6, vL (gd n_ d_)), (0, .ref q), (1, vI ((to : Nat) : Int)), (2, vL n_), (4, vL d_)]) hx hb dX10_lay_6 hl (by decide) rfl (fun ls hl => ?_)
  refine lv_aload_n hx hb dX10_lay_8 rfl (lv_at hl 1 rfl) ?_
  refine z_get hx hb hts hin10_ hown hK hP 0 rfl rfl 0 (by decide) (hts _ (List.mem_of_getElem? (i := 1) rfl)) rfl dX10_lay_9 ?_
  refine lv_iload_n hx hb dX10_lay_12 rfl (lv_at hl 2 rfl) ?_
  refine lv_lload_n hx hb dX10_lay_13 rfl (lv_at hl 3 rfl) ?_
  refine lv_lload hx hb dX10_lay_14 (lv_at hl 0 rfl) ?_
  refine z_ldiv hx hb ((n_).tdiv (gd n_ d_)) (by omega) (by omega) rfl dX10_lay_16 ?_
  refine z_toL (n_ / gd n_ d_) (gd_tdl (by omega)) ?_
  refine z_last hx hb hK hP 1 hD hS rfl to (by omega) (by omega) (by decide) dX10_lay_17 [[mdl q a x], [((a 0), .inl (g.2 1, 88, .inr (.inl (aL (uI S.1 to (n_ / gd n_ d_))))))], [((a 1), .inl (g.2 1, 88, .inr (.inl (aL S.2.1))))]] rfl (fun H locs hP hD hS => ?_)
  refine lv_aload_n hx hb dX10_lay_18 rfl (lv_at hl 1 rfl) ?_
  refine z_get hx hb hts hin10_ hown hK hP 0 rfl rfl 1 (by decide) (hts _ (List.mem_of_getElem? (i := 2) rfl)) rfl dX10_lay_19 ?_
  refine lv_iload_n hx hb dX10_lay_22 rfl (lv_at hl 2 rfl) ?_
  refine lv_lload hx hb dX10_lay_23 (lv_at hl 4 rfl) ?_
  refine lv_lload hx hb dX10_lay_25 (lv_at hl 0 rfl) ?_
  refine z_ldiv hx hb ((d_).tdiv (gd n_ d_)) (by omega) (by omega) rfl dX10_lay_27 ?_
  refine z_toL (d_ / gd n_ d_) (gd_tdr (by omega)) ?_
  refine z_last hx hb hK hP 2 hD hS rfl to (by omega) (by omega) (by decide) dX10_lay_28 [[mdl q a x], [((a 0), .inl (g.2 1, 88, .inr (.inl (aL (uI S.1 to (n_ / gd n_ d_))))))], [((a 1), .inl (g.2 1, 88, .inr (.inl (aL (uI S.2.1 to (d_ / gd n_ d_))))))]] rfl (fun H locs hP hD hS => ?_)
  exact z_retv () [0, 1, 2] hx hb hr hlocks hK hP hD hS trivial rfl rfl (rfl) (Nat.le_of_ble_eq_true rfl) (Nat.le_of_ble_eq_true rfl) dX10_lay_29

set_option maxHeartbeats 4000000 in
set_option maxRecDepth 100000 in
theorem c_X10_made (l : Launch) (g : zG) (q : Nat) (a : Nat → Nat) (x : Nat → Int) (S : RS) (to : Nat) (n_ : Int) (d_ : Int) (hto : to < 88) (hz : S.2.2 = 0 ∨ S.2.2 = 1) (hn : -9223372036854775808 < n_ ∧ n_ < 9223372036854775808) (hd : 1 ≤ d_ ∧ d_ < 9223372036854775808) : zMet l g yX10_made wsX10_made 2 0 0 [.ref q, vI ((to : Nat) : Int), vL n_, vL d_] zX0 [[mdl q a (uI x 9 S.2.2)], [((a 0), .inl (g.2 1, 88, .inr (.inl (aL S.1))))], [((a 1), .inl (g.2 1, 88, .inr (.inl (aL S.2.1))))]] (qv g (fun (_ : Unit) => True) (fun (_ : Unit) => [[mdl q a (uI x 9 (rMd to n_ d_ S).2.2)], [((a 0), .inl (g.2 1, 88, .inr (.inl (aL (rMd to n_ d_ S).1))))], [((a 1), .inl (g.2 1, 88, .inr (.inl (aL (rMd to n_ d_ S).2.1))))]])) := by
  have hg := gd_pos n_ d_
  have hg3 := div_bd hg (gd_dvd_l (x := n_) (y := d_) (by omega))
  have hg4 := div_bd1 hg (by omega) (gd_dvd_r (x := n_) (y := d_) (by omega))
  have hbd := rBad_s n_ d_
  obtain ⟨z9, hz9⟩ : ∃ z : Int, z = (if S.2.2 = 0 then rBad n_ d_ else 1) := ⟨_, rfl⟩
  have hz8 : (S.2.2 = 0 → z9 = rBad n_ d_) ∧ (S.2.2 ≠ 0 → z9 = 1) := by rw [hz9]; split <;> simp_all
  refine z_ent (cc := cX10_made) (maxL := 6) (ret := none) (by decide) rfl (Nat.le_of_ble_eq_true rfl) ?_
  intro p e s m below meth c A ls hx hb hr hml hown hts hlocks hin0 hA hK hP hD hS hXX hl
  have hown : s.vm.findClass RX10 = some m.cls := hown
  have hin10_ : ∀ w ∈ wsX100, w ∈ wsX10_made := zw_in [17, 18, 19, 20, 21, 22, 23, 24, 25, 26, 27, 28, 29, 30, 31, 32, 33, 34, 35, 36, 37, 38, 39, 40, 41, 42] rfl
  have hl : lv_has ls 6 [(0, .ref q), (1, vI ((to : Nat) : Int)), (2, vL n_), (4, vL d_)] := hl
  refine lv_aload_n hx hb dX10_made_0 rfl (lv_at hl 0 rfl) ?_
  refine lv_iload_n hx hb dX10_made_1 rfl (lv_at hl 1 rfl) ?_
  refine lv_lload_n hx hb dX10_made_2 rfl (lv_at hl 2 rfl) ?_
  refine lv_lload hx hb dX10_made_3 (lv_at hl 3 rfl) ?_
  refine z_cVv (As := [vI ((to : Nat) : Int), vL n_, vL d_]) (rest := []) ⟨hx, hb, hml, hown, hts⟩ hK hP hD hS hA [0, 1, 2] [] rfl rfl rfl (c_X10_lay l g q a (uI x 9 S.2.2) S to n_ d_ (by omega) (by omega) (by omega)) (cwV 3 hts gX10_made_X10_lay rfl rfl rfl (by decide +kernel) ⟨Nat.le_of_ble_eq_true rfl, Nat.le_of_ble_eq_true rfl⟩) 10 0 rfl rfl rfl (fun _ _ _ _ _ _ => trivial) (fun _ _ _ => trivial) rfl hl.1 (Nat.le_of_ble_eq_true rfl) rfl dX10_made_5 ⟨Nat.le_of_ble_eq_true rfl, Nat.le_of_ble_eq_true rfl⟩ (fun u_1 H locs hwu_1 hP hD hS => ?_)
  try dsimp only at hwu_1
  have hP : zP g [[mdl q a (uI x 9 S.2.2)], [((a 0), .inl (g.2 1, 88, .inr (.inl (aL (rLy to n_ d_ S).1))))], [((a 1), .inl (g.2 1, 88, .inr (.inl (aL (rLy to n_ d_ S).2.1))))]] H := hP
  have hD : zD A [[mdl q a (uI x 9 S.2.2)], [((a 0), .inl (g.2 1, 88, .inr (.inl (aL (rLy to n_ d_ S).1))))], [((a 1), .inl (g.2 1, 88, .inr (.inl (aL (rLy to n_ d_ S).2.1))))]] := hD
  refine lv_aload_n hx hb dX10_made_8 rfl (lv_at hl 0 rfl) ?_
  have j52 : ∀ (H : Heap) (locs : List Loc) (ls : Array Slot), zP g [[mdl q a (uI x 9 S.2.2)], [((a 0), .inl (g.2 1, 88, .inr (.inl (aL (rLy to n_ d_ S).1))))], [((a 1), .inl (g.2 1, 88, .inr (.inl (aL (rLy to n_ d_ S).2.1))))]] H → zD A [[mdl q a (uI x 9 S.2.2)], [((a 0), .inl (g.2 1, 88, .inr (.inl (aL (rLy to n_ d_ S).1))))], [((a 1), .inl (g.2 1, 88, .inr (.inl (aL (rLy to n_ d_ S).2.1))))]] → va_S A s.heap H locs → lv_has ls 6 [(0, .ref q), (1, vI ((to : Nat) : Int)), (2, vL n_), (4, vL d_)] → W p l e (zRm 2 0 0) s m ([.ref q, vI ((to : Nat) : Int), vL n_, vL d_] : List Value).toArray below meth c H locs (0) (0) (MQ below ((qv g (fun (_ : Unit) => True) (fun (_ : Unit) => [[mdl q a (uI x 9 (rMd to n_ d_ S).2.2)], [((a 0), .inl (g.2 1, 88, .inr (.inl (aL (rMd to n_ d_ S).1))))], [((a 1), .inl (g.2 1, 88, .inr (.inl (aL (rMd to n_ d_ S).2.1))))]])) A) ([.ref q, vI ((to : Nat) : Int), vL n_, vL d_] : List Value).toArray s 0 0 A) (F0 m 52 ls [vI z9, .ref q]) := by
    intro H locs ls hP hD hS hl
    refine z_put hx hb hts hin10_ tyX10 tyX10_ok nmX10 hown hK hP hD hS 0 rfl rfl 22 (by decide) (hts _ (List.mem_of_getElem? (i := 1) rfl)) rfl (nar_z (by omega)) (fit_z (by omega)) (Nat.le_of_ble_eq_true rfl) dX10_made_52 [[mdl q a (uI x 9 z9)], [((a 0), .inl (g.2 1, 88, .inr (.inl (aL (rLy to n_ d_ S).1))))], [((a 1), .inl (g.2 1, 88, .inr (.inl (aL (rLy to n_ d_ S).2.1))))]] rfl (fun H locs hP hD hS => ?_)
    exact z_retv () [0, 1, 2] hx hb hr hlocks hK hP hD hS trivial rfl rfl (by rw [hz9]; rfl) (Nat.le_of_ble_eq_true rfl) (Nat.le_of_ble_eq_true rfl) dX10_made_55
  refine lv_aload_n hx hb dX10_made_9 rfl (lv_at hl 0 rfl) ?_
  refine z_get hx hb hts hin10_ hown hK hP 0 rfl rfl 22 (by decide) (hts _ (List.mem_of_getElem? (i := 1) rfl)) rfl dX10_made_10 ?_
  refine z_toI S.2.2 rfl ?_
  refine z_if_ne (tgt := 47) hx hb (by omega) dX10_made_13 (by decide) (fun cq2 => ?_) (fun cq2 => ?_)
  · refine z_iconst hx hb dX10_made_47 rfl ?_
    refine lv_goto (tgt := 52) hx hb dX10_made_48 (by decide) ?_
    refine z_toI z9 (by omega) ?_
    exact j52 _ _ _ hP hD hS (lv_sub hl [0, 1, 2, 3] rfl)
  · refine lv_aload_n hx hb dX10_made_16 rfl (lv_at hl 0 rfl) ?_
    refine z_get hx hb hts hin10_ hown hK hP 0 rfl rfl 0 (by decide) (hts _ (List.mem_of_getElem? (i := 2) rfl)) rfl dX10_made_17 ?_
    refine lv_iload_n hx hb dX10_made_20 rfl (lv_at hl 1 rfl) ?_
    refine z_lald hx hb hK hP 1 rfl to (by omega) (by omega) (by decide) dX10_made_21 ?_
    refine z_toL (n_ / gd n_ d_) uI_s ?_
    refine z_ldc2 hx hb (-1000000000) hown (hts _ (List.mem_of_getElem? (i := 3) rfl)) rfl dX10_made_22 ?_
    refine z_ldc2 hx hb 1000000000 hown (hts _ (List.mem_of_getElem? (i := 4) rfl)) rfl dX10_made_25 ?_
    refine z_cSi (As := [vL (n_ / gd n_ d_), vL (-1000000000), vL 1000000000]) (rest := [.ref q]) ⟨hx, hb, hml, hown, hts⟩ hK hP hD hS hA [] [0, 1, 2] rfl rfl rfl (c_X10_in l g (n_ / gd n_ d_) (-1000000000) 1000000000 (by first | decide | omega) (by first | decide | omega) (by first | decide | omega)) (va_cwS 3 hts gX10_made_X10_in rfl rfl rfl (by decide +kernel) ⟨Nat.le_of_ble_eq_true rfl, Nat.le_of_ble_eq_true rfl⟩) (fun _ _ _ _ _ _ => trivial) (fun _ _ _ => trivial) rfl hl.1 (Nat.le_of_ble_eq_true rfl) rfl dX10_made_28 ⟨Nat.le_of_ble_eq_true rfl, Nat.le_of_ble_eq_true rfl⟩ (fun u_3 H locs hwu_3 hP hD hS => ?_)
    try dsimp only at hwu_3
    have hP : zP g [[mdl q a (uI x 9 S.2.2)], [((a 0), .inl (g.2 1, 88, .inr (.inl (aL (rLy to n_ d_ S).1))))], [((a 1), .inl (g.2 1, 88, .inr (.inl (aL (rLy to n_ d_ S).2.1))))]] H := hP
    have hD : zD A [[mdl q a (uI x 9 S.2.2)], [((a 0), .inl (g.2 1, 88, .inr (.inl (aL (rLy to n_ d_ S).1))))], [((a 1), .inl (g.2 1, 88, .inr (.inl (aL (rLy to n_ d_ S).2.1))))]] := hD
    refine z_toI (inI (n_ / gd n_ d_) (-1000000000) 1000000000) rfl ?_
    have hf_4 := inI_s (n_ / gd n_ d_) (-1000000000) 1000000000
    refine z_if_eq (tgt := 47) hx hb (by omega) dX10_made_31 (by decide) (fun cq5 => ?_) (fun cq5 => ?_)
    · refine z_iconst hx hb dX10_made_47 rfl ?_
      refine lv_goto (tgt := 52) hx hb dX10_made_48 (by decide) ?_
      refine z_toI z9 (by omega) ?_
      exact j52 _ _ _ hP hD hS (lv_sub hl [0, 1, 2, 3] rfl)
    · refine lv_aload_n hx hb dX10_made_34 rfl (lv_at hl 0 rfl) ?_
      refine z_get hx hb hts hin10_ hown hK hP 0 rfl rfl 1 (by decide) (hts _ (List.mem_of_getElem? (i := 5) rfl)) rfl dX10_made_35 ?_
      refine lv_iload_n hx hb dX10_made_38 rfl (lv_at hl 1 rfl) ?_
      refine z_lald hx hb hK hP 2 rfl to (by omega) (by omega) (by decide) dX10_made_39 ?_
      refine z_toL (d_ / gd n_ d_) uI_s ?_
      refine z_ldc2 hx hb 1000000000 hown (hts _ (List.mem_of_getElem? (i := 4) rfl)) rfl dX10_made_40 ?_
      refine z_lcmp_le (tgt := 51) hx hb (by omega) (by decide) dX10_made_43 dX10_made_44 (by decide) (fun cq6 => ?_) (fun cq6 => ?_)
      · refine z_iconst hx hb dX10_made_51 rfl ?_
        refine z_toI z9 (by omega) ?_
        exact j52 _ _ _ hP hD hS (lv_sub hl [0, 1, 2, 3] rfl)
      · refine z_iconst hx hb dX10_made_47 rfl ?_
        refine lv_goto (tgt := 52) hx hb dX10_made_48 (by decide) ?_
        refine z_toI z9 (by omega) ?_
        exact j52 _ _ _ hP hD hS (lv_sub hl [0, 1, 2, 3] rfl)
