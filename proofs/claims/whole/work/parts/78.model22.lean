set_option maxHeartbeats 4000000 in
set_option maxRecDepth 100000 in
theorem c_X10_layOhms (l : Launch) (g : zG) (q : Nat) (a : Nat → Nat) (x : Nat → Int) (o : Nat → Int) (m : Nat → Int) (i : Nat) (j : Nat) (hi : i < 6) (hj : j < 2) : zMet l g yX10_layOhms wsX10_layOhms 0 0 0 [.ref q, vI ((i : Nat) : Int), vI ((j : Nat) : Int)] zX0 [[mdl q a x], [((a 3), .inl (g.2 0, 18, .inl (aI o)))], [((a 11), .inl (g.2 0, 4, .inl (aI m)))]] (qv g (fun (_ : Unit) => True) (fun (_ : Unit) => [[mdl q a x], [((a 3), .inl (g.2 0, 18, .inl (aI (rs3 o i (m j) (m (j + 1)) (m (j + 2))))))], [((a 11), .inl (g.2 0, 4, .inl (aI m)))]])) := by
  refine z_ent (cc := cX10_layOhms) (maxL := 4) (ret := none) (by decide) rfl (Nat.le_of_ble_eq_true rfl) ?_
  intro p eE s mM below meth cC A ls hx hb hr hml hown hts hlocks hin0 hA hK hP hD hS hXX hl
  have hown : s.vm.findClass RX10 = some mM.cls := hown
  have hin10_ : ∀ w ∈ wsX100, w ∈ wsX10_layOhms := zw_in [3, 4, 5, 6, 7, 8, 9, 10, 11, 12, 13, 14, 15, 16, 17, 18, 19, 20, 21, 22, 23, 24, 25, 26, 27, 28] rfl
  have hl : lv_has ls 4 [(0, .ref q), (1, vI ((i : Nat) : Int)), (2, vI ((j : Nat) : Int))] := hl
  refine z_iconst hx hb dX10_layOhms_0 rfl ?_
  refine lv_istore_n (lv' := [(3, vI 0), (0, .ref q), (1, vI ((i : Nat) : Int)), (2, vI ((j : Nat) : Int))]) hx hb dX10_layOhms_1 rfl hl (by decide) rfl (fun ls hl => ?_)
  refine lv_iload_n hx hb dX10_layOhms_2 rfl (lv_at hl 0 rfl) ?_
  refine z_iconst hx hb dX10_layOhms_3 rfl ?_
  refine z_icmp_ge (tgt := 31) hx hb (by decide) (by decide) dX10_layOhms_4 (by decide) (fun cq1 => False.elim (by omega)) (fun cq1 => ?_)
  refine lv_aload_n hx hb dX10_layOhms_7 rfl (lv_at hl 1 rfl) ?_
  refine z_get hx hb hts hin10_ hown hK hP 0 rfl rfl 5 (by decide) (hts _ (List.mem_of_getElem? (i := 1) rfl)) rfl dX10_layOhms_8 ?_
  refine z_iconst hx hb dX10_layOhms_11 rfl ?_
  refine lv_iload_n hx hb dX10_layOhms_12 rfl (lv_at hl 2 rfl) ?_
  refine z_imul hx hb (((3 * i) : Nat) : Int) (by omega) dX10_layOhms_13 ?_
  refine lv_iload_n hx hb dX10_layOhms_14 rfl (lv_at hl 0 rfl) ?_
  refine z_iadd hx hb (((3 * i) : Nat) : Int) (Int.add_zero _) dX10_layOhms_15 ?_
  refine z_toI (((i * 3) : Nat) : Int) (by omega) ?_
  refine lv_aload_n hx hb dX10_layOhms_16 rfl (lv_at hl 1 rfl) ?_
  refine z_get hx hb hts hin10_ hown hK hP 0 rfl rfl 20 (by decide) (hts _ (List.mem_of_getElem? (i := 2) rfl)) rfl dX10_layOhms_17 ?_
  refine lv_iload_n hx hb dX10_layOhms_20 rfl (lv_at hl 3 rfl) ?_
  refine lv_iload_n hx hb dX10_layOhms_21 rfl (lv_at hl 0 rfl) ?_
  refine z_iadd hx hb ((j : Nat) : Int) (Int.add_zero _) dX10_layOhms_22 ?_
  refine z_iald hx hb hK hP 2 rfl j (by omega) (by omega) (by decide) dX10_layOhms_23 ?_
  refine z_iast hx hb hK hP 1 hD hS rfl (i * 3) (by omega) (by omega) (by decide) dX10_layOhms_24 [[mdl q a x], [((a 3), .inl (g.2 0, 18, .inl (aI (uI o (i * 3) (m j)))))], [((a 11), .inl (g.2 0, 4, .inl (aI m)))]] rfl (fun H locs hP hD hS => ?_)
  refine z_iinc hx hb 1 (lv' := [(3, vI 1), (0, .ref q), (1, vI ((i : Nat) : Int)), (2, vI ((j : Nat) : Int))]) dX10_layOhms_25 hl (k := 0) rfl (rfl) (by decide) rfl (fun ls hl => ?_)
  refine lv_goto (tgt := 2) hx hb dX10_layOhms_28 (by decide) ?_
  refine lv_iload_n hx hb dX10_layOhms_2 rfl (lv_at hl 0 rfl) ?_
  refine z_iconst hx hb dX10_layOhms_3 rfl ?_
  refine z_icmp_ge (tgt := 31) hx hb (by decide) (by decide) dX10_layOhms_4 (by decide) (fun cq2 => False.elim (by omega)) (fun cq2 => ?_)
  refine lv_aload_n hx hb dX10_layOhms_7 rfl (lv_at hl 1 rfl) ?_
  refine z_get hx hb hts hin10_ hown hK hP 0 rfl rfl 5 (by decide) (hts _ (List.mem_of_getElem? (i := 1) rfl)) rfl dX10_layOhms_8 ?_
  refine z_iconst hx hb dX10_layOhms_11 rfl ?_
  refine lv_iload_n hx hb dX10_layOhms_12 rfl (lv_at hl 2 rfl) ?_
  refine z_imul hx hb (((3 * i) : Nat) : Int) (by omega) dX10_layOhms_13 ?_
  refine lv_iload_n hx hb dX10_layOhms_14 rfl (lv_at hl 0 rfl) ?_
  refine z_iadd hx hb ((((3 * i) + 1) : Nat) : Int) (by omega) dX10_layOhms_15 ?_
  refine z_toI (((i * 3 + 1) : Nat) : Int) (by omega) ?_
  refine lv_aload_n hx hb dX10_layOhms_16 rfl (lv_at hl 1 rfl) ?_
  refine z_get hx hb hts hin10_ hown hK hP 0 rfl rfl 20 (by decide) (hts _ (List.mem_of_getElem? (i := 2) rfl)) rfl dX10_layOhms_17 ?_
  refine lv_iload_n hx hb dX10_layOhms_20 rfl (lv_at hl 3 rfl) ?_
  refine lv_iload_n hx hb dX10_layOhms_21 rfl (lv_at hl 0 rfl) ?_
  refine z_iadd hx hb (((j + 1) : Nat) : Int) (by omega) dX10_layOhms_22 ?_
  refine z_iald hx hb hK hP 2 rfl (j + 1) (by omega) (by omega) (by decide) dX10_layOhms_23 ?_
  refine z_iast hx hb hK hP 1 hD hS rfl (i * 3 + 1) (by omega) (by omega) (by decide) dX10_layOhms_24 [[mdl q a x], [((a 3), .inl (g.2 0, 18, .inl (aI (uI (uI o (i * 3) (m j)) (i * 3 + 1) (m (j + 1))))))], [((a 11), .inl (g.2 0, 4, .inl (aI m)))]] rfl (fun H locs hP hD hS => ?_)
  refine z_iinc hx hb 2 (lv' := [(3, vI 2), (0, .ref q), (1, vI ((i : Nat) : Int)), (2, vI ((j : Nat) : Int))]) dX10_layOhms_25 hl (k := 0) rfl (rfl) (by decide) rfl (fun ls hl => ?_)
  refine lv_goto (tgt := 2) hx hb dX10_layOhms_28 (by decide) ?_
  refine lv_iload_n hx hb dX10_layOhms_2 rfl (lv_at hl 0 rfl) ?_
  refine z_iconst hx hb dX10_layOhms_3 rfl ?_
  refine z_icmp_ge (tgt := 31) hx hb (by decide) (by decide) dX10_layOhms_4 (by decide) (fun cq3 => False.elim (by omega)) (fun cq3 => ?_)
  refine lv_aload_n hx hb dX10_layOhms_7 rfl (lv_at hl 1 rfl) ?_
  refine z_get hx hb hts hin10_ hown hK hP 0 rfl rfl 5 (by decide) (hts _ (List.mem_of_getElem? (i := 1) rfl)) rfl dX10_layOhms_8 ?_
  refine z_iconst hx hb dX10_layOhms_11 rfl ?_
  refine lv_iload_n hx hb dX10_layOhms_12 rfl (lv_at hl 2 rfl) ?_
  refine z_imul hx hb (((3 * i) : Nat) : Int) (by omega) dX10_layOhms_13 ?_
  refine lv_iload_n hx hb dX10_layOhms_14 rfl (lv_at hl 0 rfl) ?_
  refine z_iadd hx hb ((((3 * i) + 2) : Nat) : Int) (by omega) dX10_layOhms_15 ?_
  refine z_toI (((i * 3 + 2) : Nat) : Int) (by omega) ?_
  refine lv_aload_n hx hb dX10_layOhms_16 rfl (lv_at hl 1 rfl) ?_
  refine z_get hx hb hts hin10_ hown hK hP 0 rfl rfl 20 (by decide) (hts _ (List.mem_of_getElem? (i := 2) rfl)) rfl dX10_layOhms_17 ?_
  refine lv_iload_n hx hb dX10_layOhms_20 rfl (lv_at hl 3 rfl) ?_
  refine lv_iload_n hx hb dX10_layOhms_21 rfl (lv_at hl 0 rfl) ?_
  refine z_iadd hx hb (((j + 2) : Nat) : Int) (by omega) dX10_layOhms_22 ?_
  refine z_iald hx hb hK hP 2 rfl (j + 2) (by omega) (by omega) (by decide) dX10_layOhms_23 ?_
  refine z_iast hx hb hK hP 1 hD hS rfl (i * 3 + 2) (by omega) (by omega) (by decide) dX10_layOhms_24 [[mdl q a x], [((a 3), .inl (g.2 0, 18, .inl (aI (uI (uI (uI o (i * 3) (m j)) (i * 3 + 1) (m (j + 1))) (i * 3 + 2) (m (j + 2))))))], [((a 11), .inl (g.2 0, 4, .inl (aI m)))]] rfl (fun H locs hP hD hS => ?_)
  refine z_iinc hx hb 3 (lv' := [(3, vI 3), (0, .ref q), (1, vI ((i : Nat) : Int)), (2, vI ((j : Nat) : Int))]) dX10_layOhms_25 hl (k := 0) rfl (rfl) (by decide) rfl (fun ls hl => ?_)
  refine lv_goto (tgt := 2) hx hb dX10_layOhms_28 (by decide) ?_
  refine lv_iload_n hx hb dX10_layOhms_2 rfl (lv_at hl 0 rfl) ?_
  refine z_iconst hx hb dX10_layOhms_3 rfl ?_
  refine z_icmp_ge (tgt := 31) hx hb (by decide) (by decide) dX10_layOhms_4 (by decide) (fun cq4 => ?_) (fun cq4 => False.elim (by omega))
  exact z_retv () [0, 1, 2] hx hb hr hlocks hK hP hD hS trivial rfl rfl (rfl) (Nat.le_of_ble_eq_true rfl) (Nat.le_of_ble_eq_true rfl) dX10_layOhms_31

set_option maxHeartbeats 4000000 in
set_option maxRecDepth 100000 in
theorem c_X10_does0 (l : Launch) (g : zG) (q : Nat) (a : Nat → Nat) (x : Nat → Int) (o : Nat → Int) (m : Nat → Int)  : zMet l g yX10_does wsX10_does 0 0 0 [.ref q, vI 0] zX0 [[mdl q a x], [((a 3), .inl (g.2 0, 18, .inl (aI o)))], [((a 11), .inl (g.2 0, 4, .inl (aI m)))]] (qv g (fun (_ : Unit) => True) (fun (_ : Unit) => [[mdl q a (uI (uI x 0 (m 0)) 1 1)], [((a 3), .inl (g.2 0, 18, .inl (aI (rs3 o 0 1 1 1))))], [((a 11), .inl (g.2 0, 4, .inl (aI m)))]])) := by
  refine z_ent (cc := cX10_does) (maxL := 2) (ret := none) (by decide) rfl (Nat.le_of_ble_eq_true rfl) ?_
  intro p eE s mM below meth cC A ls hx hb hr hml hown hts hlocks hin0 hA hK hP hD hS hXX hl
  have hown : s.vm.findClass RX10 = some mM.cls := hown
  have hin10_ : ∀ w ∈ wsX100, w ∈ wsX10_does := zw_in [12, 13, 14, 15, 16, 17, 18, 19, 20, 21, 22, 23, 24, 25, 26, 27, 28, 29, 30, 31, 32, 33, 34, 35, 36, 37] rfl
  have hl : lv_has ls 2 [(0, .ref q), (1, vI 0)] := hl
  refine lv_iload_n hx hb dX10_does_0 rfl (lv_at hl 1 rfl) ?_
  refine z_swIn hx hb 0 28 rfl (by decide) dX10_does_1 (by decide) (by decide) rfl (by decide) ?_
  refine lv_aload_n hx hb dX10_does_28 rfl (lv_at hl 0 rfl) ?_
  refine lv_aload_n hx hb dX10_does_29 rfl (lv_at hl 0 rfl) ?_
  refine z_get hx hb hts hin10_ hown hK hP 0 rfl rfl 20 (by decide) (hts _ (List.mem_of_getElem? (i := 1) rfl)) rfl dX10_does_30 ?_
  refine z_iconst hx hb dX10_does_33 rfl ?_
  refine z_iald hx hb hK hP 2 rfl 0 rfl (by decide) (by decide) dX10_does_34 ?_
  refine z_put hx hb hts hin10_ tyX10 tyX10_ok nmX10 hown hK hP hD hS 0 rfl rfl 2 (by decide) (hts _ (List.mem_of_getElem? (i := 2) rfl)) rfl rfl rfl (Nat.le_of_ble_eq_true rfl) dX10_does_35 [[mdl q a (uI x 0 (m 0))], [((a 3), .inl (g.2 0, 18, .inl (aI o)))], [((a 11), .inl (g.2 0, 4, .inl (aI m)))]] rfl (fun H locs hP hD hS => ?_)
  refine lv_aload_n hx hb dX10_does_38 rfl (lv_at hl 0 rfl) ?_
  refine z_iconst hx hb dX10_does_39 rfl ?_
  refine z_put hx hb hts hin10_ tyX10 tyX10_ok nmX10 hown hK hP hD hS 0 rfl rfl 3 (by decide) (hts _ (List.mem_of_getElem? (i := 3) rfl)) rfl rfl rfl (Nat.le_of_ble_eq_true rfl) dX10_does_40 [[mdl q a (uI (uI x 0 (m 0)) 1 1)], [((a 3), .inl (g.2 0, 18, .inl (aI o)))], [((a 11), .inl (g.2 0, 4, .inl (aI m)))]] rfl (fun H locs hP hD hS => ?_)
  refine lv_aload_n hx hb dX10_does_43 rfl (lv_at hl 0 rfl) ?_
  refine z_get hx hb hts hin10_ hown hK hP 0 rfl rfl 5 (by decide) (hts _ (List.mem_of_getElem? (i := 4) rfl)) rfl dX10_does_44 ?_
  refine z_iconst hx hb dX10_does_47 rfl ?_
  refine z_iconst hx hb dX10_does_48 rfl ?_
  refine z_iast hx hb hK hP 1 hD hS rfl 0 rfl (by decide) (by decide) dX10_does_49 [[mdl q a (uI (uI x 0 (m 0)) 1 1)], [((a 3), .inl (g.2 0, 18, .inl (aI (uI o 0 1))))], [((a 11), .inl (g.2 0, 4, .inl (aI m)))]] rfl (fun H locs hP hD hS => ?_)
  refine lv_aload_n hx hb dX10_does_50 rfl (lv_at hl 0 rfl) ?_
  refine z_get hx hb hts hin10_ hown hK hP 0 rfl rfl 5 (by decide) (hts _ (List.mem_of_getElem? (i := 4) rfl)) rfl dX10_does_51 ?_
  refine z_iconst hx hb dX10_does_54 rfl ?_
  refine z_iconst hx hb dX10_does_55 rfl ?_
  refine z_iast hx hb hK hP 1 hD hS rfl 1 rfl (by decide) (by decide) dX10_does_56 [[mdl q a (uI (uI x 0 (m 0)) 1 1)], [((a 3), .inl (g.2 0, 18, .inl (aI (uI (uI o 0 1) 1 1))))], [((a 11), .inl (g.2 0, 4, .inl (aI m)))]] rfl (fun H locs hP hD hS => ?_)
  refine lv_aload_n hx hb dX10_does_57 rfl (lv_at hl 0 rfl) ?_
  refine z_get hx hb hts hin10_ hown hK hP 0 rfl rfl 5 (by decide) (hts _ (List.mem_of_getElem? (i := 4) rfl)) rfl dX10_does_58 ?_
  refine z_iconst hx hb dX10_does_61 rfl ?_
  refine z_iconst hx hb dX10_does_62 rfl ?_
  refine z_iast hx hb hK hP 1 hD hS rfl 2 rfl (by decide) (by decide) dX10_does_63 [[mdl q a (uI (uI x 0 (m 0)) 1 1)], [((a 3), .inl (g.2 0, 18, .inl (aI (uI (uI (uI o 0 1) 1 1) 2 1))))], [((a 11), .inl (g.2 0, 4, .inl (aI m)))]] rfl (fun H locs hP hD hS => ?_)
  refine lv_goto (tgt := 140) hx hb dX10_does_64 (by decide) ?_
  exact z_retv () [0, 1, 2] hx hb hr hlocks hK hP hD hS trivial rfl rfl (rfl) (Nat.le_of_ble_eq_true rfl) (Nat.le_of_ble_eq_true rfl) dX10_does_140

set_option maxHeartbeats 4000000 in
set_option maxRecDepth 100000 in
theorem c_X10_does1 (l : Launch) (g : zG) (q : Nat) (a : Nat → Nat) (x : Nat → Int) (o : Nat → Int) (m : Nat → Int)  : zMet l g yX10_does wsX10_does 1 0 0 [.ref q, vI 1] zX0 [[mdl q a x], [((a 3), .inl (g.2 0, 18, .inl (aI o)))], [((a 11), .inl (g.2 0, 4, .inl (aI m)))]] (qv g (fun (_ : Unit) => True) (fun (_ : Unit) => [[mdl q a x], [((a 3), .inl (g.2 0, 18, .inl (aI (rs3 o 0 (m 0) (m 1) (m 2)))))], [((a 11), .inl (g.2 0, 4, .inl (aI m)))]])) := by
  refine z_ent (cc := cX10_does) (maxL := 2) (ret := none) (by decide) rfl (Nat.le_of_ble_eq_true rfl) ?_
  intro p eE s mM below meth cC A ls hx hb hr hml hown hts hlocks hin0 hA hK hP hD hS hXX hl
  have hown : s.vm.findClass RX10 = some mM.cls := hown
  have hl : lv_has ls 2 [(0, .ref q), (1, vI 1)] := hl
  refine lv_iload_n hx hb dX10_does_0 rfl (lv_at hl 1 rfl) ?_
  refine z_swIn hx hb 1 67 rfl (by decide) dX10_does_1 (by decide) (by decide) rfl (by decide) ?_
  refine lv_aload_n hx hb dX10_does_67 rfl (lv_at hl 0 rfl) ?_
  refine z_iconst hx hb dX10_does_68 rfl ?_
  refine z_iconst hx hb dX10_does_69 rfl ?_
  refine z_cVv (As := [vI 0, vI 0]) (rest := []) ⟨hx, hb, hml, hown, hts⟩ hK hP hD hS hA [0, 1, 2] [] rfl rfl rfl (c_X10_layOhms l g q a x o m 0 0 (by decide) (by decide)) (cwV 2 hts gX10_does_X10_layOhms rfl rfl rfl (by decide +kernel) ⟨Nat.le_of_ble_eq_true rfl, Nat.le_of_ble_eq_true rfl⟩) 10 0 rfl rfl rfl (fun _ _ _ _ _ _ => trivial) (fun _ _ _ => trivial) rfl hl.1 (Nat.le_of_ble_eq_true rfl) rfl dX10_does_70 ⟨Nat.le_of_ble_eq_true rfl, Nat.le_of_ble_eq_true rfl⟩ (fun u_1 H locs hwu_1 hP hD hS => ?_)
  try dsimp only at hwu_1
  have hP : zP g [[mdl q a x], [((a 3), .inl (g.2 0, 18, .inl (aI (rs3 o 0 (m 0) (m (0 + 1)) (m (0 + 2))))))], [((a 11), .inl (g.2 0, 4, .inl (aI m)))]] H := hP
  have hD : zD A [[mdl q a x], [((a 3), .inl (g.2 0, 18, .inl (aI (rs3 o 0 (m 0) (m (0 + 1)) (m (0 + 2))))))], [((a 11), .inl (g.2 0, 4, .inl (aI m)))]] := hD
  refine lv_goto (tgt := 140) hx hb dX10_does_73 (by decide) ?_
  exact z_retv () [0, 1, 2] hx hb hr hlocks hK hP hD hS trivial rfl rfl (rfl) (Nat.le_of_ble_eq_true rfl) (Nat.le_of_ble_eq_true rfl) dX10_does_140

set_option maxHeartbeats 4000000 in
set_option maxRecDepth 100000 in
theorem c_X10_does2 (l : Launch) (g : zG) (q : Nat) (a : Nat → Nat) (x : Nat → Int) (b : Nat) (h : Nat → Int) (o : Nat → Int) (l_ : Nat → Int) (m : Nat → Int) (hx1 : x 1 = (b : Int)) (hb6 : b < 6) : zMet l g yX10_does wsX10_does 1 0 0 [.ref q, vI 2] zX0 [[mdl q a x], [((a 2), .inl (g.2 0, 6, .inl (aI h)))], [((a 3), .inl (g.2 0, 18, .inl (aI o)))], [((a 4), .inl (g.2 0, 6, .inl (aI l_)))], [((a 11), .inl (g.2 0, 4, .inl (aI m)))]] (qv g (fun (_ : Unit) => True) (fun (_ : Unit) => [[mdl q a (uI x 1 (((b + 1) : Nat) : Int))], [((a 2), .inl (g.2 0, 6, .inl (aI (uI h b (m 0)))))], [((a 3), .inl (g.2 0, 18, .inl (aI (rs3 o b (m 1) (m 2) (m 3)))))], [((a 4), .inl (g.2 0, 6, .inl (aI (uI l_ b 0))))], [((a 11), .inl (g.2 0, 4, .inl (aI m)))]])) := by
  refine z_ent (cc := cX10_does) (maxL := 2) (ret := none) (by decide) rfl (Nat.le_of_ble_eq_true rfl) ?_
  intro p eE s mM below meth cC A ls hx hb hr hml hown hts hlocks hin0 hA hK hP hD hS hXX hl
  have hown : s.vm.findClass RX10 = some mM.cls := hown
  have hin10_ : ∀ w ∈ wsX100, w ∈ wsX10_does := zw_in [12, 13, 14, 15, 16, 17, 18, 19, 20, 21, 22, 23, 24, 25, 26, 27, 28, 29, 30, 31, 32, 33, 34, 35, 36, 37] rfl
  have hl : lv_has ls 2 [(0, .ref q), (1, vI 2)] := hl
  refine lv_iload_n hx hb dX10_does_0 rfl (lv_at hl 1 rfl) ?_
  refine z_swIn hx hb 2 76 rfl (by decide) dX10_does_1 (by decide) (by decide) rfl (by decide) ?_
  refine lv_aload_n hx hb dX10_does_76 rfl (lv_at hl 0 rfl) ?_
  refine z_get hx hb hts hin10_ hown hK hP 0 rfl rfl 4 (by decide) (hts _ (List.mem_of_getElem? (i := 5) rfl)) rfl dX10_does_77 ?_
  refine lv_aload_n hx hb dX10_does_80 rfl (lv_at hl 0 rfl) ?_
  refine z_get hx hb hts hin10_ hown hK hP 0 rfl rfl 3 (by decide) (hts _ (List.mem_of_getElem? (i := 3) rfl)) rfl dX10_does_81 ?_
  refine z_toI ((b : Nat) : Int) hx1 ?_
  refine lv_aload_n hx hb dX10_does_84 rfl (lv_at hl 0 rfl) ?_
  refine z_get hx hb hts hin10_ hown hK hP 0 rfl rfl 20 (by decide) (hts _ (List.mem_of_getElem? (i := 1) rfl)) rfl dX10_does_85 ?_
  refine z_iconst hx hb dX10_does_88 rfl ?_
  refine z_iald hx hb hK hP 4 rfl 0 rfl (by decide) (by decide) dX10_does_89 ?_
  refine z_iast hx hb hK hP 1 hD hS rfl b (by omega) (by omega) (by decide) dX10_does_90 [[mdl q a x], [((a 2), .inl (g.2 0, 6, .inl (aI (uI h b (m 0)))))], [((a 3), .inl (g.2 0, 18, .inl (aI o)))], [((a 4), .inl (g.2 0, 6, .inl (aI l_)))], [((a 11), .inl (g.2 0, 4, .inl (aI m)))]] rfl (fun H locs hP hD hS => ?_)
  refine lv_aload_n hx hb dX10_does_91 rfl (lv_at hl 0 rfl) ?_
  refine lv_aload_n hx hb dX10_does_92 rfl (lv_at hl 0 rfl) ?_
  refine z_get hx hb hts hin10_ hown hK hP 0 rfl rfl 3 (by decide) (hts _ (List.mem_of_getElem? (i := 3) rfl)) rfl dX10_does_93 ?_
  refine z_toI ((b : Nat) : Int) hx1 ?_
  refine z_iconst hx hb dX10_does_96 rfl ?_
  refine z_cVv (As := [vI ((b : Nat) : Int), vI 1]) (rest := []) ⟨hx, hb, hml, hown, hts⟩ hK hP hD hS hA [0, 2, 4] [1, 3] rfl rfl rfl (c_X10_layOhms l g q a x o m b 1 (by omega) (by omega)) (cwV 2 hts gX10_does_X10_layOhms rfl rfl rfl (by decide +kernel) ⟨Nat.le_of_ble_eq_true rfl, Nat.le_of_ble_eq_true rfl⟩) 10 0 rfl rfl rfl (fun _ _ _ _ _ _ => trivial) (fun _ _ _ => trivial) rfl hl.1 (Nat.le_of_ble_eq_true rfl) rfl dX10_does_97 ⟨Nat.le_of_ble_eq_true rfl, Nat.le_of_ble_eq_true rfl⟩ (fun u_1 H locs hwu_1 hP hD hS => ?_)
  try dsimp only at hwu_1
  have hP : zP g [[((a 2), .inl (g.2 0, 6, .inl (aI (uI h b (m 0)))))], [((a 4), .inl (g.2 0, 6, .inl (aI l_)))], [mdl q a x], [((a 3), .inl (g.2 0, 18, .inl (aI (rs3 o b (m 1) (m (1 + 1)) (m (1 + 2))))))], [((a 11), .inl (g.2 0, 4, .inl (aI m)))]] H := hP
  have hD : zD A [[((a 2), .inl (g.2 0, 6, .inl (aI (uI h b (m 0)))))], [((a 4), .inl (g.2 0, 6, .inl (aI l_)))], [mdl q a x], [((a 3), .inl (g.2 0, 18, .inl (aI (rs3 o b (m 1) (m (1 + 1)) (m (1 + 2))))))], [((a 11), .inl (g.2 0, 4, .inl (aI m)))]] := hD
  refine lv_aload_n hx hb dX10_does_100 rfl (lv_at hl 0 rfl) ?_
  refine z_get hx hb hts hin10_ hown hK hP 2 rfl rfl 6 (by decide) (hts _ (List.mem_of_getElem? (i := 6) rfl)) rfl dX10_does_101 ?_
  refine lv_aload_n hx hb dX10_does_104 rfl (lv_at hl 0 rfl) ?_
  refine z_get hx hb hts hin10_ hown hK hP 2 rfl rfl 3 (by decide) (hts _ (List.mem_of_getElem? (i := 3) rfl)) rfl dX10_does_105 ?_
  refine z_toI ((b : Nat) : Int) hx1 ?_
  refine z_iconst hx hb dX10_does_108 rfl ?_
  refine z_iast hx hb hK hP 1 hD hS rfl b (by omega) (by omega) (by decide) dX10_does_109 [[((a 2), .inl (g.2 0, 6, .inl (aI (uI h b (m 0)))))], [((a 4), .inl (g.2 0, 6, .inl (aI (uI l_ b 0))))], [mdl q a x], [((a 3), .inl (g.2 0, 18, .inl (aI (rs3 o b (m 1) (m (1 + 1)) (m (1 + 2))))))], [((a 11), .inl (g.2 0, 4, .inl (aI m)))]] rfl (fun H locs hP hD hS => ?_)
  refine lv_aload_n hx hb dX10_does_110 rfl (lv_at hl 0 rfl) ?_
  refine lv_dup hx hb dX10_does_111 rfl ?_
  refine z_get hx hb hts hin10_ hown hK hP 2 rfl rfl 3 (by decide) (hts _ (List.mem_of_getElem? (i := 3) rfl)) rfl dX10_does_112 ?_
  refine z_toI ((b : Nat) : Int) hx1 ?_
  refine z_iconst hx hb dX10_does_115 rfl ?_
  refine z_iadd hx hb (((b + 1) : Nat) : Int) (by omega) dX10_does_116 ?_
  refine z_put hx hb hts hin10_ tyX10 tyX10_ok nmX10 hown hK hP hD hS 2 rfl rfl 3 (by decide) (hts _ (List.mem_of_getElem? (i := 3) rfl)) rfl rfl rfl (Nat.le_of_ble_eq_true rfl) dX10_does_117 [[((a 2), .inl (g.2 0, 6, .inl (aI (uI h b (m 0)))))], [((a 4), .inl (g.2 0, 6, .inl (aI (uI l_ b 0))))], [mdl q a (uI x 1 (((b + 1) : Nat) : Int))], [((a 3), .inl (g.2 0, 18, .inl (aI (rs3 o b (m 1) (m (1 + 1)) (m (1 + 2))))))], [((a 11), .inl (g.2 0, 4, .inl (aI m)))]] rfl (fun H locs hP hD hS => ?_)
  refine lv_goto (tgt := 140) hx hb dX10_does_120 (by decide) ?_
  exact z_retv () [2, 0, 3, 1, 4] hx hb hr hlocks hK hP hD hS trivial rfl rfl (rfl) (Nat.le_of_ble_eq_true rfl) (Nat.le_of_ble_eq_true rfl) dX10_does_140

set_option maxHeartbeats 4000000 in
set_option maxRecDepth 100000 in
theorem c_X10_does3 (l : Launch) (g : zG) (q : Nat) (a : Nat → Nat) (x : Nat → Int) (l_ : Nat → Int) (m : Nat → Int) (hm : 0 ≤ m 0 ∧ m 0 < 6) : zMet l g yX10_does wsX10_does 0 0 0 [.ref q, vI 3] zX0 [[mdl q a x], [((a 4), .inl (g.2 0, 6, .inl (aI l_)))], [((a 11), .inl (g.2 0, 4, .inl (aI m)))]] (qv g (fun (_ : Unit) => True) (fun (_ : Unit) => [[mdl q a x], [((a 4), .inl (g.2 0, 6, .inl (aI (uI l_ (m 0).toNat (m 1)))))], [((a 11), .inl (g.2 0, 4, .inl (aI m)))]])) := by
  refine z_ent (cc := cX10_does) (maxL := 2) (ret := none) (by decide) rfl (Nat.le_of_ble_eq_true rfl) ?_
  intro p eE s mM below meth cC A ls hx hb hr hml hown hts hlocks hin0 hA hK hP hD hS hXX hl
  have hown : s.vm.findClass RX10 = some mM.cls := hown
  have hin10_ : ∀ w ∈ wsX100, w ∈ wsX10_does := zw_in [12, 13, 14, 15, 16, 17, 18, 19, 20, 21, 22, 23, 24, 25, 26, 27, 28, 29, 30, 31, 32, 33, 34, 35, 36, 37] rfl
  have hl : lv_has ls 2 [(0, .ref q), (1, vI 3)] := hl
  refine lv_iload_n hx hb dX10_does_0 rfl (lv_at hl 1 rfl) ?_
  refine z_swOut hx hb 123 (by decide) dX10_does_1 (by decide) (by decide) ?_
  refine lv_aload_n hx hb dX10_does_123 rfl (lv_at hl 0 rfl) ?_
  refine z_get hx hb hts hin10_ hown hK hP 0 rfl rfl 6 (by decide) (hts _ (List.mem_of_getElem? (i := 6) rfl)) rfl dX10_does_124 ?_
  refine lv_aload_n hx hb dX10_does_127 rfl (lv_at hl 0 rfl) ?_
  refine z_get hx hb hts hin10_ hown hK hP 0 rfl rfl 20 (by decide) (hts _ (List.mem_of_getElem? (i := 1) rfl)) rfl dX10_does_128 ?_
  refine z_iconst hx hb dX10_does_131 rfl ?_
  refine z_iald hx hb hK hP 2 rfl 0 rfl (by decide) (by decide) dX10_does_132 ?_
  refine lv_aload_n hx hb dX10_does_133 rfl (lv_at hl 0 rfl) ?_
  refine z_get hx hb hts hin10_ hown hK hP 0 rfl rfl 20 (by decide) (hts _ (List.mem_of_getElem? (i := 1) rfl)) rfl dX10_does_134 ?_
  refine z_iconst hx hb dX10_does_137 rfl ?_
  refine z_iald hx hb hK hP 2 rfl 1 rfl (by decide) (by decide) dX10_does_138 ?_
  refine z_iast hx hb hK hP 1 hD hS rfl (m 0).toNat (by omega) (by omega) (by decide) dX10_does_139 [[mdl q a x], [((a 4), .inl (g.2 0, 6, .inl (aI (uI l_ (m 0).toNat (m 1)))))], [((a 11), .inl (g.2 0, 4, .inl (aI m)))]] rfl (fun H locs hP hD hS => ?_)
  exact z_retv () [0, 1, 2] hx hb hr hlocks hK hP hD hS trivial rfl rfl (rfl) (Nat.le_of_ble_eq_true rfl) (Nat.le_of_ble_eq_true rfl) dX10_does_140

set_option maxHeartbeats 4000000 in
set_option maxRecDepth 100000 in
theorem c_X10_readsRest0 (l : Launch) (g : zG) (q : Nat) (a : Nat → Nat) (x : Nat → Int) (f : Nat → Int) (n : Nat) (e : Nat) (m : Nat → Int) (b : Nat) (hx3 : x 3 = (n : Int)) (hn : n ≤ 200) (he : e ≤ n) (hf : ∀ i, 0 ≤ f i ∧ f i ≤ 255) (hx6 : x 6 = (b : Int)) (hb6 : 1 ≤ b ∧ b ≤ 6) : zMet l g yX10_readsRest wsX10_readsRest 4 0 0 [.ref q, vI 0] zX0 [[mdl q a (uI (uI x 4 (((tS f n (nEn f n e)) : Nat) : Int)) 5 (((nEn f n (nEn f n e)) : Nat) : Int))], [((a 6), .inl (g.2 0, 200, .inl (aI f)))], [((a 11), .inl (g.2 0, 4, .inl (aI m)))]] (qi g (fun (u_ : Nat × (Nat → Int)) => (cOkW 0 f n e b)) (fun (u_ : Nat × (Nat → Int)) => ((cOkW 0 f n e b = 1 → u_.1 = cPsW 0 f n e b ∧ u_.1 ≤ n ∧ u_.2 0 = nVl f n (nEn f n e)) ∧ (¬ cOkW 0 f n e b = 1 → tS f n u_.1 = cPsW 0 f n e b ∧ u_.1 ≤ n) ∧ (cOkW 0 f n e b = 0 ∨ cOkW 0 f n e b = 1))) (fun (u_ : Nat × (Nat → Int)) => [[mdl q a (uI (uI x 4 (((tS f n u_.1) : Nat) : Int)) 5 (((nEn f n u_.1) : Nat) : Int))], [((a 6), .inl (g.2 0, 200, .inl (aI f)))], [((a 11), .inl (g.2 0, 4, .inl (aI u_.2)))]])) := by
  have hne1 := nEn_s f he
  have hne2 := nEn_s f (n := n) (e := (nEn f n e)) (by omega)
  refine z_ent (cc := cX10_readsRest) (maxL := 2) (ret := (some .boolean)) (by decide) rfl (Nat.le_of_ble_eq_true rfl) ?_
  intro p eE s mM below meth cC A ls hx hb hr hml hown hts hlocks hin0 hA hK hP hD hS hXX hl
  have hown : s.vm.findClass RX10 = some mM.cls := hown
  have hl : lv_has ls 2 [(0, .ref q), (1, vI 0)] := hl
  refine lv_iload_n hx hb dX10_readsRest_0 rfl (lv_at hl 1 rfl) ?_
  refine z_swIn hx hb 0 28 rfl (by decide) dX10_readsRest_1 (by decide) (by decide) rfl (by decide) ?_
  refine lv_aload_n hx hb dX10_readsRest_28 rfl (lv_at hl 0 rfl) ?_
  refine z_iconst hx hb dX10_readsRest_29 rfl ?_
  refine z_iconst hx hb dX10_readsRest_30 rfl ?_
  refine z_bipush hx hb 99 dX10_readsRest_31 rfl ?_
  refine z_cVi (As := [vI 0, vI 1, vI 99]) (rest := []) ⟨hx, hb, hml, hown, hts⟩ hK hP hD hS hA [0, 1, 2] [] rfl rfl rfl (c_X10_number l g q a (uI (uI x 4 (((tS f n (nEn f n e)) : Nat) : Int)) 5 (((nEn f n (nEn f n e)) : Nat) : Int)) f n (nEn f n e) m 0 1 99 hx3 (by first | assumption | omega) (by first | assumption | omega) hf (by first | assumption | omega) (by first | assumption | omega) (by first | assumption | omega)) (cwV 3 hts gX10_readsRest_X10_number rfl rfl rfl (by decide +kernel) ⟨Nat.le_of_ble_eq_true rfl, Nat.le_of_ble_eq_true rfl⟩) 10 0 rfl rfl rfl (fun _ _ _ _ _ _ => trivial) (fun _ _ _ => trivial) rfl hl.1 (Nat.le_of_ble_eq_true rfl) rfl dX10_readsRest_33 ⟨Nat.le_of_ble_eq_true rfl, Nat.le_of_ble_eq_true rfl⟩ (fun u_1 H locs hwu_1 hP hD hS => ?_)
  obtain ⟨e2_2, m2_3⟩ := u_1
  try dsimp only at hwu_1
  have hP : zP g [[mdl q a (uI (uI x 4 (((tS f n e2_2) : Nat) : Int)) 5 (((nEn f n e2_2) : Nat) : Int))], [((a 6), .inl (g.2 0, 200, .inl (aI f)))], [((a 11), .inl (g.2 0, 4, .inl (aI m2_3)))]] H := hP
  have hD : zD A [[mdl q a (uI (uI x 4 (((tS f n e2_2) : Nat) : Int)) 5 (((nEn f n e2_2) : Nat) : Int))], [((a 6), .inl (g.2 0, 200, .inl (aI f)))], [((a 11), .inl (g.2 0, 4, .inl (aI m2_3)))]] := hD
  refine z_toI (nOk f n (nEn f n e) 1 99) rfl ?_
  have hf_4 := nOk_s f n (nEn f n e) 1 99
  have hnk := nOk_s f n (nEn f n e) 1 99
  exact z_reti (e2_2, m2_3) [0, 1, 2] hx hb hr (nar_z (by first | decide | omega)) hlocks hK hP hD hS (rfl) ⟨fun q => ⟨by rw [(hwu_1.1 q).1]; show _ = (if _ then _ else _); rw [if_pos (show nOk f n (nEn f n e) 1 99 = 1 from q)], by rw [(hwu_1.1 q).1]; omega, by rw [(hwu_1.1 q).2]; rfl⟩, fun q => ⟨by rw [hwu_1.2 q]; show _ = (if _ then _ else _); rw [if_neg (show ¬ nOk f n (nEn f n e) 1 99 = 1 from q)], by rw [hwu_1.2 q]; omega⟩, hnk.1⟩ rfl rfl (rfl) (Nat.le_of_ble_eq_true rfl) (Nat.le_of_ble_eq_true rfl) dX10_readsRest_36

set_option maxHeartbeats 4000000 in
set_option maxRecDepth 100000 in
theorem c_X10_readsRest1 (l : Launch) (g : zG) (q : Nat) (a : Nat → Nat) (x : Nat → Int) (f : Nat → Int) (n : Nat) (e : Nat) (m : Nat → Int) (b : Nat) (hx3 : x 3 = (n : Int)) (hn : n ≤ 200) (he : e ≤ n) (hf : ∀ i, 0 ≤ f i ∧ f i ≤ 255) (hx6 : x 6 = (b : Int)) (hb6 : 1 ≤ b ∧ b ≤ 6) : zMet l g yX10_readsRest wsX10_readsRest 5 0 0 [.ref q, vI 1] zX0 [[mdl q a (uI (uI x 4 (((tS f n (nEn f n e)) : Nat) : Int)) 5 (((nEn f n (nEn f n e)) : Nat) : Int))], [((a 6), .inl (g.2 0, 200, .inl (aI f)))], [((a 11), .inl (g.2 0, 4, .inl (aI m)))]] (qi g (fun (u_ : Nat × (Nat → Int)) => (cOkW 1 f n e b)) (fun (u_ : Nat × (Nat → Int)) => ((cOkW 1 f n e b = 1 → u_.1 = cPsW 1 f n e b ∧ u_.1 ≤ n ∧ u_.2 0 = oV0 f n (nEn f n e) ∧ u_.2 1 = oV1 f n (nEn f n e) ∧ u_.2 2 = oV2 f n (nEn f n e)) ∧ (¬ cOkW 1 f n e b = 1 → tS f n u_.1 = cPsW 1 f n e b ∧ u_.1 ≤ n) ∧ (cOkW 1 f n e b = 0 ∨ cOkW 1 f n e b = 1))) (fun (u_ : Nat × (Nat → Int)) => [[mdl q a (uI (uI x 4 (((tS f n u_.1) : Nat) : Int)) 5 (((nEn f n u_.1) : Nat) : Int))], [((a 6), .inl (g.2 0, 200, .inl (aI f)))], [((a 11), .inl (g.2 0, 4, .inl (aI u_.2)))]])) := by
  have hne1 := nEn_s f he
  have hne2 := nEn_s f (n := n) (e := (nEn f n e)) (by omega)
  refine z_ent (cc := cX10_readsRest) (maxL := 2) (ret := (some .boolean)) (by decide) rfl (Nat.le_of_ble_eq_true rfl) ?_
  intro p eE s mM below meth cC A ls hx hb hr hml hown hts hlocks hin0 hA hK hP hD hS hXX hl
  have hown : s.vm.findClass RX10 = some mM.cls := hown
  have hl : lv_has ls 2 [(0, .ref q), (1, vI 1)] := hl
  refine lv_iload_n hx hb dX10_readsRest_0 rfl (lv_at hl 1 rfl) ?_
  refine z_swIn hx hb 1 37 rfl (by decide) dX10_readsRest_1 (by decide) (by decide) rfl (by decide) ?_
  refine lv_aload_n hx hb dX10_readsRest_37 rfl (lv_at hl 0 rfl) ?_
  refine z_iconst hx hb dX10_readsRest_38 rfl ?_
  refine z_cVi (As := [vI 0]) (rest := []) ⟨hx, hb, hml, hown, hts⟩ hK hP hD hS hA [0, 1, 2] [] rfl rfl rfl (c_X10_readsOhms l g q a (uI (uI x 4 (((tS f n (nEn f n e)) : Nat) : Int)) 5 (((nEn f n (nEn f n e)) : Nat) : Int)) f n (nEn f n e) m 0 hx3 (by first | assumption | omega) (by first | assumption | omega) hf (by first | assumption | omega)) (cwV 1 hts gX10_readsRest_X10_readsOhms rfl rfl rfl (by decide +kernel) ⟨Nat.le_of_ble_eq_true rfl, Nat.le_of_ble_eq_true rfl⟩) 10 0 rfl rfl rfl (fun _ _ _ _ _ _ => trivial) (fun _ _ _ => trivial) rfl hl.1 (Nat.le_of_ble_eq_true rfl) rfl dX10_readsRest_39 ⟨Nat.le_of_ble_eq_true rfl, Nat.le_of_ble_eq_true rfl⟩ (fun u_1 H locs hwu_1 hP hD hS => ?_)
  obtain ⟨e2_2, m2_3⟩ := u_1
  try dsimp only at hwu_1
  have hP : zP g [[mdl q a (uI (uI x 4 (((tS f n e2_2) : Nat) : Int)) 5 (((nEn f n e2_2) : Nat) : Int))], [((a 6), .inl (g.2 0, 200, .inl (aI f)))], [((a 11), .inl (g.2 0, 4, .inl (aI m2_3)))]] H := hP
  have hD : zD A [[mdl q a (uI (uI x 4 (((tS f n e2_2) : Nat) : Int)) 5 (((nEn f n e2_2) : Nat) : Int))], [((a 6), .inl (g.2 0, 200, .inl (aI f)))], [((a 11), .inl (g.2 0, 4, .inl (aI m2_3)))]] := hD
  refine z_toI (oOk f n (nEn f n e)) rfl ?_
  have hf_4 := oOk_s f n (nEn f n e)
  have hok := oOk_s f n (nEn f n e)
  exact z_reti (e2_2, m2_3) [0, 1, 2] hx hb hr (nar_z (by first | decide | omega)) hlocks hK hP hD hS (rfl) ⟨fun q => ⟨(hwu_1.1 q).1, (hwu_1.1 q).2.1, by rw [(hwu_1.1 q).2.2]; exact ⟨rfl, rfl, rfl⟩⟩, fun q => hwu_1.2 q, hok.1⟩ rfl rfl (rfl) (Nat.le_of_ble_eq_true rfl) (Nat.le_of_ble_eq_true rfl) dX10_readsRest_42

set_option maxHeartbeats 4000000 in
set_option maxRecDepth 100000 in
theorem c_X10_readsRest2 (l : Launch) (g : zG) (q : Nat) (a : Nat → Nat) (x : Nat → Int) (f : Nat → Int) (n : Nat) (e : Nat) (m : Nat → Int) (b : Nat) (hx3 : x 3 = (n : Int)) (hn : n ≤ 200) (he : e ≤ n) (hf : ∀ i, 0 ≤ f i ∧ f i ≤ 255) (hx6 : x 6 = (b : Int)) (hb6 : 1 ≤ b ∧ b ≤ 6) (hb5 : b < 6) : zMet l g yX10_readsRest wsX10_readsRest 5 0 0 [.ref q, vI 2] zX0 [[mdl q a (uI (uI x 4 (((tS f n (nEn f n e)) : Nat) : Int)) 5 (((nEn f n (nEn f n e)) : Nat) : Int))], [((a 6), .inl (g.2 0, 200, .inl (aI f)))], [((a 11), .inl (g.2 0, 4, .inl (aI m)))]] (qi g (fun (u_ : Nat × (Nat → Int)) => (cOkW 2 f n e b)) (fun (u_ : Nat × (Nat → Int)) => ((cOkW 2 f n e b = 1 → u_.1 = cPsW 2 f n e b ∧ u_.1 ≤ n ∧ u_.2 0 = nVl f n (nEn f n e) ∧ u_.2 1 = oV0 f n (nEn f n (nEn f n e)) ∧ u_.2 2 = oV1 f n (nEn f n (nEn f n e)) ∧ u_.2 3 = oV2 f n (nEn f n (nEn f n e))) ∧ (¬ cOkW 2 f n e b = 1 → tS f n u_.1 = cPsW 2 f n e b ∧ u_.1 ≤ n) ∧ (cOkW 2 f n e b = 0 ∨ cOkW 2 f n e b = 1))) (fun (u_ : Nat × (Nat → Int)) => [[mdl q a (uI (uI x 4 (((tS f n u_.1) : Nat) : Int)) 5 (((nEn f n u_.1) : Nat) : Int))], [((a 6), .inl (g.2 0, 200, .inl (aI f)))], [((a 11), .inl (g.2 0, 4, .inl (aI u_.2)))]])) := by
  have hne1 := nEn_s f he
  have hne2 := nEn_s f (n := n) (e := (nEn f n e)) (by omega)
  refine z_ent (cc := cX10_readsRest) (maxL := 2) (ret := (some .boolean)) (by decide) rfl (Nat.le_of_ble_eq_true rfl) ?_
  intro p eE s mM below meth cC A ls hx hb hr hml hown hts hlocks hin0 hA hK hP hD hS hXX hl
  have hown : s.vm.findClass RX10 = some mM.cls := hown
  have hin10_ : ∀ w ∈ wsX100, w ∈ wsX10_readsRest := zw_in [33, 34, 35, 36, 37, 38, 39, 40, 41, 42, 43, 44, 45, 46, 47, 48, 49, 50, 51, 52, 53, 54, 55, 56, 57, 58] rfl
  have hl : lv_has ls 2 [(0, .ref q), (1, vI 2)] := hl
  refine lv_iload_n hx hb dX10_readsRest_0 rfl (lv_at hl 1 rfl) ?_
  refine z_swIn hx hb 2 43 rfl (by decide) dX10_readsRest_1 (by decide) (by decide) rfl (by decide) ?_
  refine lv_aload_n hx hb dX10_readsRest_43 rfl (lv_at hl 0 rfl) ?_
  refine z_iconst hx hb dX10_readsRest_44 rfl ?_
  refine z_iconst hx hb dX10_readsRest_45 rfl ?_
  refine lv_aload_n hx hb dX10_readsRest_46 rfl (lv_at hl 0 rfl) ?_
  refine z_get hx hb hts hin10_ hown hK hP 0 rfl rfl 17 (by decide) (hts _ (List.mem_of_getElem? (i := 1) rfl)) rfl dX10_readsRest_47 ?_
  refine z_toI (x 6) rfl ?_
  refine z_iconst hx hb dX10_readsRest_50 rfl ?_
  refine z_isub hx hb ((x 6) - 1) rfl dX10_readsRest_51 ?_
  refine z_toI ((b : Int) - 1) (by omega) ?_
  refine z_cVi (As := [vI 0, vI 0, vI ((b : Int) - 1)]) (rest := []) ⟨hx, hb, hml, hown, hts⟩ hK hP hD hS hA [0, 1, 2] [] rfl rfl rfl (c_X10_number l g q a (uI (uI x 4 (((tS f n (nEn f n e)) : Nat) : Int)) 5 (((nEn f n (nEn f n e)) : Nat) : Int)) f n (nEn f n e) m 0 0 ((b : Int) - 1) hx3 (by first | assumption | omega) (by first | assumption | omega) hf (by first | assumption | omega) (by first | assumption | omega) (by first | assumption | omega)) (cwV 3 hts gX10_readsRest_X10_number rfl rfl rfl (by decide +kernel) ⟨Nat.le_of_ble_eq_true rfl, Nat.le_of_ble_eq_true rfl⟩) 10 0 rfl rfl rfl (fun _ _ _ _ _ _ => trivial) (fun _ _ _ => trivial) rfl hl.1 (Nat.le_of_ble_eq_true rfl) rfl dX10_readsRest_52 ⟨Nat.le_of_ble_eq_true rfl, Nat.le_of_ble_eq_true rfl⟩ (fun u_1 H locs hwu_1 hP hD hS => ?_)
  obtain ⟨ea, ma⟩ := u_1
  try dsimp only at hwu_1
  have hP : zP g [[mdl q a (uI (uI x 4 (((tS f n ea) : Nat) : Int)) 5 (((nEn f n ea) : Nat) : Int))], [((a 6), .inl (g.2 0, 200, .inl (aI f)))], [((a 11), .inl (g.2 0, 4, .inl (aI ma)))]] H := hP
  have hD : zD A [[mdl q a (uI (uI x 4 (((tS f n ea) : Nat) : Int)) 5 (((nEn f n ea) : Nat) : Int))], [((a 6), .inl (g.2 0, 200, .inl (aI f)))], [((a 11), .inl (g.2 0, 4, .inl (aI ma)))]] := hD
  refine z_toI (nOk f n (nEn f n e) 0 ((b : Int) - 1)) rfl ?_
  have hf_2 := nOk_s f n (nEn f n e) 0 ((b : Int) - 1)
  refine z_if_eq (tgt := 70) hx hb (by omega) dX10_readsRest_55 (by decide) (fun cq3 => ?_) (fun cq3 => ?_)
  · refine z_iconst hx hb dX10_readsRest_70 rfl ?_
    have hC : cOkW 2 f n e b = 0 := by show (if b = 6 then (0 : Int) else if _ then _ else 0) = _; rw [if_neg (by omega), if_neg (by omega)]
    exact z_reti (ea, ma) [0, 1, 2] hx hb hr (nar_z (by first | decide | omega)) hlocks hK hP hD hS (by omega) (⟨fun q => False.elim (by omega), fun _ => ⟨by show _ = (if b = 6 then _ else if _ then _ else _); rw [if_neg (by omega), if_neg (by omega), hwu_1.2 (by omega)], by rw [hwu_1.2 (by omega)]; omega⟩, by omega⟩) rfl rfl (rfl) (Nat.le_of_ble_eq_true rfl) (Nat.le_of_ble_eq_true rfl) dX10_readsRest_71
  · have hy1 : nOk f n (nEn f n e) 0 ((b : Int) - 1) = 1 := by omega
    obtain ⟨q1, q2⟩ := hwu_1.1 (by omega)
    subst q1 q2
    have hne_4 := nEn_s f (e := (nEn f n e)) (n := n) (by omega)
    have hne3 := nEn_s f (n := n) (e := (nEn f n (nEn f n e))) (by omega)
    refine lv_aload_n hx hb dX10_readsRest_58 rfl (lv_at hl 0 rfl) ?_
    refine z_iconst hx hb dX10_readsRest_59 rfl ?_
    refine z_cVi (As := [vI 1]) (rest := []) ⟨hx, hb, hml, hown, hts⟩ hK hP hD hS hA [0, 1, 2] [] rfl rfl rfl (c_X10_readsOhms l g q a (uI (uI x 4 (((tS f n (nEn f n (nEn f n e))) : Nat) : Int)) 5 (((nEn f n (nEn f n (nEn f n e))) : Nat) : Int)) f n (nEn f n (nEn f n e)) (uI m 0 (nVl f n (nEn f n e))) 1 hx3 (by first | assumption | omega) (by first | assumption | omega) hf (by first | assumption | omega)) (cwV 1 hts gX10_readsRest_X10_readsOhms rfl rfl rfl (by decide +kernel) ⟨Nat.le_of_ble_eq_true rfl, Nat.le_of_ble_eq_true rfl⟩) 10 0 rfl rfl rfl (fun _ _ _ _ _ _ => trivial) (fun _ _ _ => trivial) rfl hl.1 (Nat.le_of_ble_eq_true rfl) rfl dX10_readsRest_60 ⟨Nat.le_of_ble_eq_true rfl, Nat.le_of_ble_eq_true rfl⟩ (fun u_5 H locs hwu_5 hP hD hS => ?_)
    obtain ⟨e2_6, m2_7⟩ := u_5
    try dsimp only at hwu_5
    have hP : zP g [[mdl q a (uI (uI x 4 (((tS f n e2_6) : Nat) : Int)) 5 (((nEn f n e2_6) : Nat) : Int))], [((a 6), .inl (g.2 0, 200, .inl (aI f)))], [((a 11), .inl (g.2 0, 4, .inl (aI m2_7)))]] H := hP
    have hD : zD A [[mdl q a (uI (uI x 4 (((tS f n e2_6) : Nat) : Int)) 5 (((nEn f n e2_6) : Nat) : Int))], [((a 6), .inl (g.2 0, 200, .inl (aI f)))], [((a 11), .inl (g.2 0, 4, .inl (aI m2_7)))]] := hD
    refine z_toI (oOk f n (nEn f n (nEn f n e))) rfl ?_
    have hf_8 := oOk_s f n (nEn f n (nEn f n e))
    refine z_if_eq (tgt := 70) hx hb (by omega) dX10_readsRest_63 (by decide) (fun cq9 => ?_) (fun cq9 => ?_)
    · refine z_iconst hx hb dX10_readsRest_70 rfl ?_
      have hC : cOkW 2 f n e b = oOk f n (nEn f n (nEn f n e)) := by show (if b = 6 then (0 : Int) else if _ then _ else 0) = _; rw [if_neg (by omega), if_pos (by assumption)]
      exact z_reti (e2_6, m2_7) [0, 1, 2] hx hb hr (nar_z (by first | decide | omega)) hlocks hK hP hD hS (by omega) (⟨fun q => False.elim (by omega), fun _ => ⟨by show _ = (if b = 6 then _ else if _ then _ else _); rw [if_neg (by omega), if_pos (by assumption)]; exact (hwu_5.2 (by omega)).1, (hwu_5.2 (by omega)).2⟩, by omega⟩) rfl rfl (rfl) (Nat.le_of_ble_eq_true rfl) (Nat.le_of_ble_eq_true rfl) dX10_readsRest_71
    · refine z_iconst hx hb dX10_readsRest_66 rfl ?_
      refine lv_goto (tgt := 71) hx hb dX10_readsRest_67 (by decide) ?_
      have hC : cOkW 2 f n e b = oOk f n (nEn f n (nEn f n e)) := by show (if b = 6 then (0 : Int) else if _ then _ else 0) = _; rw [if_neg (by omega), if_pos (by assumption)]
      exact z_reti (e2_6, m2_7) [0, 1, 2] hx hb hr (nar_z (by first | decide | omega)) hlocks hK hP hD hS (by omega) (⟨fun _ => ⟨by show _ = (if b = 6 then _ else if _ then _ else _); rw [if_neg (by omega), if_pos (by assumption)]; exact (hwu_5.1 (by omega)).1, (hwu_5.1 (by omega)).2.1, by rw [(hwu_5.1 (by omega)).2.2]; exact ⟨rfl, rfl, rfl, rfl⟩⟩, fun q => False.elim (by omega), by omega⟩) rfl rfl (rfl) (Nat.le_of_ble_eq_true rfl) (Nat.le_of_ble_eq_true rfl) dX10_readsRest_71

set_option maxHeartbeats 4000000 in
set_option maxRecDepth 100000 in
theorem c_X10_readsRest3 (l : Launch) (g : zG) (q : Nat) (a : Nat → Nat) (x : Nat → Int) (f : Nat → Int) (n : Nat) (e : Nat) (m : Nat → Int) (b : Nat) (hx3 : x 3 = (n : Int)) (hn : n ≤ 200) (he : e ≤ n) (hf : ∀ i, 0 ≤ f i ∧ f i ≤ 255) (hx6 : x 6 = (b : Int)) (hb6 : 1 ≤ b ∧ b ≤ 6) : zMet l g yX10_readsRest wsX10_readsRest 4 0 0 [.ref q, vI 3] zX0 [[mdl q a (uI (uI x 4 (((tS f n (nEn f n e)) : Nat) : Int)) 5 (((nEn f n (nEn f n e)) : Nat) : Int))], [((a 6), .inl (g.2 0, 200, .inl (aI f)))], [((a 11), .inl (g.2 0, 4, .inl (aI m)))]] (qi g (fun (u_ : Nat × (Nat → Int)) => (cOkW 3 f n e b)) (fun (u_ : Nat × (Nat → Int)) => ((cOkW 3 f n e b = 1 → u_.1 = cPsW 3 f n e b ∧ u_.1 ≤ n ∧ u_.2 0 = nVl f n (nEn f n e) ∧ u_.2 1 = nVl f n (nEn f n (nEn f n e))) ∧ (¬ cOkW 3 f n e b = 1 → tS f n u_.1 = cPsW 3 f n e b ∧ u_.1 ≤ n) ∧ (cOkW 3 f n e b = 0 ∨ cOkW 3 f n e b = 1))) (fun (u_ : Nat × (Nat → Int)) => [[mdl q a (uI (uI x 4 (((tS f n u_.1) : Nat) : Int)) 5 (((nEn f n u_.1) : Nat) : Int))], [((a 6), .inl (g.2 0, 200, .inl (aI f)))], [((a 11), .inl (g.2 0, 4, .inl (aI u_.2)))]])) := by
  have hne1 := nEn_s f he
  have hne2 := nEn_s f (n := n) (e := (nEn f n e)) (by omega)
  refine z_ent (cc := cX10_readsRest) (maxL := 2) (ret := (some .boolean)) (by decide) rfl (Nat.le_of_ble_eq_true rfl) ?_
  intro p eE s mM below meth cC A ls hx hb hr hml hown hts hlocks hin0 hA hK hP hD hS hXX hl
  have hown : s.vm.findClass RX10 = some mM.cls := hown
  have hin10_ : ∀ w ∈ wsX100, w ∈ wsX10_readsRest := zw_in [33, 34, 35, 36, 37, 38, 39, 40, 41, 42, 43, 44, 45, 46, 47, 48, 49, 50, 51, 52, 53, 54, 55, 56, 57, 58] rfl
  have hl : lv_has ls 2 [(0, .ref q), (1, vI 3)] := hl
  refine lv_iload_n hx hb dX10_readsRest_0 rfl (lv_at hl 1 rfl) ?_
  refine z_swOut hx hb 72 (by decide) dX10_readsRest_1 (by decide) (by decide) ?_
  refine lv_aload_n hx hb dX10_readsRest_72 rfl (lv_at hl 0 rfl) ?_
  refine z_iconst hx hb dX10_readsRest_73 rfl ?_
  refine z_iconst hx hb dX10_readsRest_74 rfl ?_
  refine lv_aload_n hx hb dX10_readsRest_75 rfl (lv_at hl 0 rfl) ?_
  refine z_get hx hb hts hin10_ hown hK hP 0 rfl rfl 17 (by decide) (hts _ (List.mem_of_getElem? (i := 1) rfl)) rfl dX10_readsRest_76 ?_
  refine z_toI (x 6) rfl ?_
  refine z_iconst hx hb dX10_readsRest_79 rfl ?_
  refine z_isub hx hb ((x 6) - 1) rfl dX10_readsRest_80 ?_
  refine z_toI ((b : Int) - 1) (by omega) ?_
  refine z_cVi (As := [vI 0, vI 1, vI ((b : Int) - 1)]) (rest := []) ⟨hx, hb, hml, hown, hts⟩ hK hP hD hS hA [0, 1, 2] [] rfl rfl rfl (c_X10_number l g q a (uI (uI x 4 (((tS f n (nEn f n e)) : Nat) : Int)) 5 (((nEn f n (nEn f n e)) : Nat) : Int)) f n (nEn f n e) m 0 1 ((b : Int) - 1) hx3 (by first | assumption | omega) (by first | assumption | omega) hf (by first | assumption | omega) (by first | assumption | omega) (by first | assumption | omega)) (cwV 3 hts gX10_readsRest_X10_number rfl rfl rfl (by decide +kernel) ⟨Nat.le_of_ble_eq_true rfl, Nat.le_of_ble_eq_true rfl⟩) 10 0 rfl rfl rfl (fun _ _ _ _ _ _ => trivial) (fun _ _ _ => trivial) rfl hl.1 (Nat.le_of_ble_eq_true rfl) rfl dX10_readsRest_81 ⟨Nat.le_of_ble_eq_true rfl, Nat.le_of_ble_eq_true rfl⟩ (fun u_1 H locs hwu_1 hP hD hS => ?_)
  obtain ⟨ea, ma⟩ := u_1
  try dsimp only at hwu_1
  have hP : zP g [[mdl q a (uI (uI x 4 (((tS f n ea) : Nat) : Int)) 5 (((nEn f n ea) : Nat) : Int))], [((a 6), .inl (g.2 0, 200, .inl (aI f)))], [((a 11), .inl (g.2 0, 4, .inl (aI ma)))]] H := hP
  have hD : zD A [[mdl q a (uI (uI x 4 (((tS f n ea) : Nat) : Int)) 5 (((nEn f n ea) : Nat) : Int))], [((a 6), .inl (g.2 0, 200, .inl (aI f)))], [((a 11), .inl (g.2 0, 4, .inl (aI ma)))]] := hD
  refine z_toI (nOk f n (nEn f n e) 1 ((b : Int) - 1)) rfl ?_
  have hf_2 := nOk_s f n (nEn f n e) 1 ((b : Int) - 1)
  refine z_if_eq (tgt := 103) hx hb (by omega) dX10_readsRest_84 (by decide) (fun cq3 => ?_) (fun cq3 => ?_)
  · refine z_iconst hx hb dX10_readsRest_103 rfl ?_
    have hC : cOkW 3 f n e b = 0 := by show (if _ then _ else (0 : Int)) = _; rw [if_neg (by omega)]
    exact z_reti (ea, ma) [0, 1, 2] hx hb hr (nar_z (by first | decide | omega)) hlocks hK hP hD hS (by omega) (⟨fun q => False.elim (by omega), fun _ => ⟨by show _ = (if _ then _ else _); rw [if_neg (by omega), hwu_1.2 (by omega)], by rw [hwu_1.2 (by omega)]; omega⟩, by omega⟩) rfl rfl (rfl) (Nat.le_of_ble_eq_true rfl) (Nat.le_of_ble_eq_true rfl) dX10_readsRest_104
  · have hy1 : nOk f n (nEn f n e) 1 ((b : Int) - 1) = 1 := by omega
    obtain ⟨q1, q2⟩ := hwu_1.1 (by omega)
    subst q1 q2
    have hne_4 := nEn_s f (e := (nEn f n e)) (n := n) (by omega)
    have hne3 := nEn_s f (n := n) (e := (nEn f n (nEn f n e))) (by omega)
    refine lv_aload_n hx hb dX10_readsRest_87 rfl (lv_at hl 0 rfl) ?_
    refine z_iconst hx hb dX10_readsRest_88 rfl ?_
    refine z_iconst hx hb dX10_readsRest_89 rfl ?_
    refine z_sipush hx hb 999 dX10_readsRest_90 rfl ?_
    refine z_cVi (As := [vI 1, vI 0, vI 999]) (rest := []) ⟨hx, hb, hml, hown, hts⟩ hK hP hD hS hA [0, 1, 2] [] rfl rfl rfl (c_X10_number l g q a (uI (uI x 4 (((tS f n (nEn f n (nEn f n e))) : Nat) : Int)) 5 (((nEn f n (nEn f n (nEn f n e))) : Nat) : Int)) f n (nEn f n (nEn f n e)) (uI m 0 (nVl f n (nEn f n e))) 1 0 999 hx3 (by first | assumption | omega) (by first | assumption | omega) hf (by first | assumption | omega) (by first | assumption | omega) (by first | assumption | omega)) (cwV 3 hts gX10_readsRest_X10_number rfl rfl rfl (by decide +kernel) ⟨Nat.le_of_ble_eq_true rfl, Nat.le_of_ble_eq_true rfl⟩) 10 0 rfl rfl rfl (fun _ _ _ _ _ _ => trivial) (fun _ _ _ => trivial) rfl hl.1 (Nat.le_of_ble_eq_true rfl) rfl dX10_readsRest_93 ⟨Nat.le_of_ble_eq_true rfl, Nat.le_of_ble_eq_true rfl⟩ (fun u_5 H locs hwu_5 hP hD hS => ?_)
    obtain ⟨e2_6, m2_7⟩ := u_5
    try dsimp only at hwu_5
    have hP : zP g [[mdl q a (uI (uI x 4 (((tS f n e2_6) : Nat) : Int)) 5 (((nEn f n e2_6) : Nat) : Int))], [((a 6), .inl (g.2 0, 200, .inl (aI f)))], [((a 11), .inl (g.2 0, 4, .inl (aI m2_7)))]] H := hP
    have hD : zD A [[mdl q a (uI (uI x 4 (((tS f n e2_6) : Nat) : Int)) 5 (((nEn f n e2_6) : Nat) : Int))], [((a 6), .inl (g.2 0, 200, .inl (aI f)))], [((a 11), .inl (g.2 0, 4, .inl (aI m2_7)))]] := hD
    refine z_toI (nOk f n (nEn f n (nEn f n e)) 0 999) rfl ?_
    have hf_8 := nOk_s f n (nEn f n (nEn f n e)) 0 999
    refine z_if_eq (tgt := 103) hx hb (by omega) dX10_readsRest_96 (by decide) (fun cq9 => ?_) (fun cq9 => ?_)
    · refine z_iconst hx hb dX10_readsRest_103 rfl ?_
      have hC : cOkW 3 f n e b = nOk f n (nEn f n (nEn f n e)) 0 999 := by show (if _ then _ else (0 : Int)) = _; rw [if_pos (by assumption)]
      exact z_reti (e2_6, m2_7) [0, 1, 2] hx hb hr (nar_z (by first | decide | omega)) hlocks hK hP hD hS (by omega) (⟨fun q => False.elim (by omega), fun _ => ⟨by show _ = (if _ then (if _ then _ else _) else _); rw [if_pos (by assumption), if_neg (by omega), hwu_5.2 (by omega)], by rw [hwu_5.2 (by omega)]; omega⟩, by omega⟩) rfl rfl (rfl) (Nat.le_of_ble_eq_true rfl) (Nat.le_of_ble_eq_true rfl) dX10_readsRest_104
    · refine z_iconst hx hb dX10_readsRest_99 rfl ?_
      refine lv_goto (tgt := 104) hx hb dX10_readsRest_100 (by decide) ?_
      have hC : cOkW 3 f n e b = nOk f n (nEn f n (nEn f n e)) 0 999 := by show (if _ then _ else (0 : Int)) = _; rw [if_pos (by assumption)]
      exact z_reti (e2_6, m2_7) [0, 1, 2] hx hb hr (nar_z (by first | decide | omega)) hlocks hK hP hD hS (by omega) (⟨fun _ => ⟨by show _ = (if _ then (if _ then _ else _) else _); rw [if_pos (by assumption), if_pos (by omega)]; exact (hwu_5.1 (by omega)).1, by rw [(hwu_5.1 (by omega)).1]; omega, by rw [(hwu_5.1 (by omega)).2]; exact ⟨rfl, rfl⟩⟩, fun q => False.elim (by omega), by omega⟩) rfl rfl (rfl) (Nat.le_of_ble_eq_true rfl) (Nat.le_of_ble_eq_true rfl) dX10_readsRest_104
