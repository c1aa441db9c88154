set_option maxHeartbeats 4000000 in
set_option maxRecDepth 100000 in
theorem c_X10_layVoltage (l : Launch) (g : zG) (q : Nat) (a : Nat → Nat) (x : Nat → Int) (b : Nat) (h : Nat → Int) (o : Nat → Int) (l_ : Nat → Int) (pp : Nat → Int) (i : Nat) (j : Nat) (hN : nok (x 0) b h o l_) (hi : i < 6) (hj : j < 6) : zMet l g yX10_layVoltage wsX10_layVoltage 1 0 0 [.ref q, vI ((i : Nat) : Int), vI ((j : Nat) : Int)] zX0 [[mdl q a x], [((a 2), .inl (g.2 0, 6, .inl (aI h)))], [((a 3), .inl (g.2 0, 18, .inl (aI o)))], [((a 13), .inl (g.2 1, 3, .inr (.inl (aL pp))))]] (qv g (fun (p2 : Nat → Int) => (p2 0 = (-(zUp h o 0 (zM h 12 i j))) * pp 0 ∧ p2 1 = x 0 * x 10 - zUp h o 1 (zM h 12 i j) * pp 1 ∧ p2 2 = (-(zUp h o 2 (zM h 12 i j))) * pp 2)) (fun (p2 : Nat → Int) => [[mdl q a x], [((a 2), .inl (g.2 0, 6, .inl (aI h)))], [((a 3), .inl (g.2 0, 18, .inl (aI o)))], [((a 13), .inl (g.2 1, 3, .inr (.inl (aL p2))))]])) := by
  obtain ⟨hn1, hn2, hn3, hn4, hn5, hn6, hn7⟩ := id hN
  have hm6 := zM_lt (h := h) hn5 12 i j hi hj
  have hz0 := zUp_54 hN 0 hm6
  have hz1 := zUp_54 hN 1 hm6
  have hz2 := zUp_54 hN 2 hm6
  refine z_ent (cc := cX10_layVoltage) (maxL := 4) (ret := none) (by decide) rfl (Nat.le_of_ble_eq_true rfl) ?_
  intro p e s m below meth c A ls hx hb hr hml hown hts hlocks hin0 hA hK hP hD hS hXX hl
  have hown : s.vm.findClass RX10 = some m.cls := hown
  have hin10_ : ∀ w ∈ wsX100, w ∈ wsX10_layVoltage := zw_in [15, 16, 17, 18, 19, 20, 21, 22, 23, 24, 25, 26, 27, 28, 29, 30, 31, 32, 33, 34, 35, 36, 37, 38, 39, 40] rfl
  have hl : lv_has ls 4 [(0, .ref q), (1, vI ((i : Nat) : Int)), (2, vI ((j : Nat) : Int))] := hl
  refine lv_aload_n hx hb dX10_layVoltage_0 rfl (lv_at hl 0 rfl) ?_
  refine lv_iload_n hx hb dX10_layVoltage_1 rfl (lv_at hl 1 rfl) ?_
  refine lv_iload_n hx hb dX10_layVoltage_2 rfl (lv_at hl 2 rfl) ?_
  refine z_cVi (As := [vI ((i : Nat) : Int), vI ((j : Nat) : Int)]) (rest := []) ⟨hx, hb, hml, hown, hts⟩ hK hP hD hS hA [0, 1] [2, 3] rfl rfl rfl (c_X10_common l g q a x h i j hn5 (by omega) (by omega)) (cwV 2 hts gX10_layVoltage_X10_common rfl rfl rfl (by decide +kernel) ⟨Nat.le_of_ble_eq_true rfl, Nat.le_of_ble_eq_true rfl⟩) 10 0 rfl rfl rfl (fun _ _ _ _ _ _ => trivial) (fun _ _ _ => trivial) rfl hl.1 (Nat.le_of_ble_eq_true rfl) rfl dX10_layVoltage_3 ⟨Nat.le_of_ble_eq_true rfl, Nat.le_of_ble_eq_true rfl⟩ (fun u_1 H locs hwu_1 hP hD hS => ?_)
  try dsimp only at hwu_1
  have hP : zP g [[((a 3), .inl (g.2 0, 18, .inl (aI o)))], [((a 13), .inl (g.2 1, 3, .inr (.inl (aL pp))))], [mdl q a x], [((a 2), .inl (g.2 0, 6, .inl (aI h)))]] H := hP
  have hD : zD A [[((a 3), .inl (g.2 0, 18, .inl (aI o)))], [((a 13), .inl (g.2 1, 3, .inr (.inl (aL pp))))], [mdl q a x], [((a 2), .inl (g.2 0, 6, .inl (aI h)))]] := hD
  refine z_toI (((zM h 12 i j) : Nat) : Int) rfl ?_
  refine lv_istore_n (lv' := [(3, vI (((zM h 12 i j) : Nat) : Int)), (0, .ref q), (1, vI ((i : Nat) : Int)), (2, vI ((j : Nat) : Int))]) hx hb dX10_layVoltage_6 rfl hl (by decide) rfl (fun ls hl => ?_)
  refine lv_aload_n hx hb dX10_layVoltage_7 rfl (lv_at hl 1 rfl) ?_
  refine z_get hx hb hts hin10_ hown hK hP 2 rfl rfl 24 (by decide) (hts _ (List.mem_of_getElem? (i := 1) rfl)) rfl dX10_layVoltage_8 ?_
  refine z_iconst hx hb dX10_layVoltage_11 rfl ?_
  refine lv_aload_n hx hb dX10_layVoltage_12 rfl (lv_at hl 1 rfl) ?_
  refine lv_iload_n hx hb dX10_layVoltage_13 rfl (lv_at hl 0 rfl) ?_
  refine z_iconst hx hb dX10_layVoltage_14 rfl ?_
  refine z_cVi (As := [vI (((zM h 12 i j) : Nat) : Int), vI 0]) (rest := [vI 0, .ref (a 13)]) ⟨hx, hb, hml, hown, hts⟩ hK hP hD hS hA [2, 3, 0] [1] rfl rfl rfl (c_X10_upTo l g q a x h o (zM h 12 i j) 0 hn5 (by omega) (by omega)) (cwV 2 hts gX10_layVoltage_X10_upTo rfl rfl rfl (by decide +kernel) ⟨Nat.le_of_ble_eq_true rfl, Nat.le_of_ble_eq_true rfl⟩) 10 0 rfl rfl rfl (fun _ _ _ _ _ _ => trivial) (fun _ _ _ => trivial) rfl hl.1 (Nat.le_of_ble_eq_true rfl) rfl dX10_layVoltage_15 ⟨Nat.le_of_ble_eq_true rfl, Nat.le_of_ble_eq_true rfl⟩ (fun u_2 H locs hwu_2 hP hD hS => ?_)
  try dsimp only at hwu_2
  have hP : zP g [[((a 13), .inl (g.2 1, 3, .inr (.inl (aL pp))))], [mdl q a x], [((a 2), .inl (g.2 0, 6, .inl (aI h)))], [((a 3), .inl (g.2 0, 18, .inl (aI o)))]] H := hP
  have hD : zD A [[((a 13), .inl (g.2 1, 3, .inr (.inl (aL pp))))], [mdl q a x], [((a 2), .inl (g.2 0, 6, .inl (aI h)))], [((a 3), .inl (g.2 0, 18, .inl (aI o)))]] := hD
  refine z_toI (zUp h o 0 (zM h 12 i j)) rfl ?_
  refine z_ineg hx hb (-(zUp h o 0 (zM h 12 i j))) rfl dX10_layVoltage_18 ?_
  refine z_i2l hx hb (by omega) dX10_layVoltage_19 ?_
  refine lv_aload_n hx hb dX10_layVoltage_20 rfl (lv_at hl 1 rfl) ?_
  refine z_get hx hb hts hin10_ hown hK hP 1 rfl rfl 24 (by decide) (hts _ (List.mem_of_getElem? (i := 1) rfl)) rfl dX10_layVoltage_21 ?_
  refine z_iconst hx hb dX10_layVoltage_24 rfl ?_
  refine z_lald hx hb hK hP 0 rfl 0 rfl (by decide) (by decide) dX10_layVoltage_25 ?_
  refine z_lmul hx hb ((-(zUp h o 0 (zM h 12 i j))) * (pp 0)) rfl dX10_layVoltage_26 ?_
  refine z_last hx hb hK hP 0 hD hS rfl 0 rfl (by decide) (by decide) dX10_layVoltage_27 [[((a 13), .inl (g.2 1, 3, .inr (.inl (aL (uI pp 0 ((-(zUp h o 0 (zM h 12 i j))) * (pp 0)))))))], [mdl q a x], [((a 2), .inl (g.2 0, 6, .inl (aI h)))], [((a 3), .inl (g.2 0, 18, .inl (aI o)))]] rfl (fun H locs hP hD hS => ?_)
  refine lv_aload_n hx hb dX10_layVoltage_28 rfl (lv_at hl 1 rfl) ?_
  refine z_get hx hb hts hin10_ hown hK hP 1 rfl rfl 24 (by decide) (hts _ (List.mem_of_getElem? (i := 1) rfl)) rfl dX10_layVoltage_29 ?_
  refine z_iconst hx hb dX10_layVoltage_32 rfl ?_
  refine lv_aload_n hx hb dX10_layVoltage_33 rfl (lv_at hl 1 rfl) ?_
  refine z_get hx hb hts hin10_ hown hK hP 1 rfl rfl 2 (by decide) (hts _ (List.mem_of_getElem? (i := 2) rfl)) rfl dX10_layVoltage_34 ?_
  refine z_i2l hx hb (by omega) dX10_layVoltage_37 ?_
  refine lv_aload_n hx hb dX10_layVoltage_38 rfl (lv_at hl 1 rfl) ?_
  refine z_get hx hb hts hin10_ hown hK hP 1 rfl rfl 23 (by decide) (hts _ (List.mem_of_getElem? (i := 3) rfl)) rfl dX10_layVoltage_39 ?_
  refine z_lmul hx hb ((x 0) * (x 10)) rfl dX10_layVoltage_42 ?_
  refine lv_aload_n hx hb dX10_layVoltage_43 rfl (lv_at hl 1 rfl) ?_
  refine lv_iload_n hx hb dX10_layVoltage_44 rfl (lv_at hl 0 rfl) ?_
  refine z_iconst hx hb dX10_layVoltage_45 rfl ?_
  refine z_cVi (As := [vI (((zM h 12 i j) : Nat) : Int), vI 1]) (rest := [vL ((x 0) * (x 10)), vI 1, .ref (a 13)]) ⟨hx, hb, hml, hown, hts⟩ hK hP hD hS hA [1, 2, 3] [0] rfl rfl rfl (c_X10_upTo l g q a x h o (zM h 12 i j) 1 hn5 (by omega) (by omega)) (cwV 2 hts gX10_layVoltage_X10_upTo rfl rfl rfl (by decide +kernel) ⟨Nat.le_of_ble_eq_true rfl, Nat.le_of_ble_eq_true rfl⟩) 10 0 rfl rfl rfl (fun _ _ _ _ _ _ => trivial) (fun _ _ _ => trivial) rfl hl.1 (Nat.le_of_ble_eq_true rfl) rfl dX10_layVoltage_46 ⟨Nat.le_of_ble_eq_true rfl, Nat.le_of_ble_eq_true rfl⟩ (fun u_3 H locs hwu_3 hP hD hS => ?_)
  try dsimp only at hwu_3
  have hP : zP g [[((a 13), .inl (g.2 1, 3, .inr (.inl (aL (uI pp 0 ((-(zUp h o 0 (zM h 12 i j))) * (pp 0)))))))], [mdl q a x], [((a 2), .inl (g.2 0, 6, .inl (aI h)))], [((a 3), .inl (g.2 0, 18, .inl (aI o)))]] H := hP
  have hD : zD A [[((a 13), .inl (g.2 1, 3, .inr (.inl (aL (uI pp 0 ((-(zUp h o 0 (zM h 12 i j))) * (pp 0)))))))], [mdl q a x], [((a 2), .inl (g.2 0, 6, .inl (aI h)))], [((a 3), .inl (g.2 0, 18, .inl (aI o)))]] := hD
  refine z_toI (zUp h o 1 (zM h 12 i j)) rfl ?_
  refine z_i2l hx hb (by omega) dX10_layVoltage_49 ?_
  refine lv_aload_n hx hb dX10_layVoltage_50 rfl (lv_at hl 1 rfl) ?_
  refine z_get hx hb hts hin10_ hown hK hP 1 rfl rfl 24 (by decide) (hts _ (List.mem_of_getElem? (i := 1) rfl)) rfl dX10_layVoltage_51 ?_
  refine z_iconst hx hb dX10_layVoltage_54 rfl ?_
  refine z_lald hx hb hK hP 0 rfl 1 rfl (by decide) (by decide) dX10_layVoltage_55 ?_
  refine z_lmul hx hb ((zUp h o 1 (zM h 12 i j)) * (pp 1)) rfl dX10_layVoltage_56 ?_
  refine z_lsub hx hb (((x 0) * (x 10)) - ((zUp h o 1 (zM h 12 i j)) * (pp 1))) rfl dX10_layVoltage_57 ?_
  refine z_last hx hb hK hP 0 hD hS rfl 1 rfl (by decide) (by decide) dX10_layVoltage_58 [[((a 13), .inl (g.2 1, 3, .inr (.inl (aL (uI (uI pp 0 ((-(zUp h o 0 (zM h 12 i j))) * (pp 0))) 1 (((x 0) * (x 10)) - ((zUp h o 1 (zM h 12 i j)) * (pp 1))))))))], [mdl q a x], [((a 2), .inl (g.2 0, 6, .inl (aI h)))], [((a 3), .inl (g.2 0, 18, .inl (aI o)))]] rfl (fun H locs hP hD hS => ?_)
  refine lv_aload_n hx hb dX10_layVoltage_59 rfl (lv_at hl 1 rfl) ?_
  refine z_get hx hb hts hin10_ hown hK hP 1 rfl rfl 24 (by decide) (hts _ (List.mem_of_getElem? (i := 1) rfl)) rfl dX10_layVoltage_60 ?_
  refine z_iconst hx hb dX10_layVoltage_63 rfl ?_
  refine lv_aload_n hx hb dX10_layVoltage_64 rfl (lv_at hl 1 rfl) ?_
  refine lv_iload_n hx hb dX10_layVoltage_65 rfl (lv_at hl 0 rfl) ?_
  refine z_iconst hx hb dX10_layVoltage_66 rfl ?_
  refine z_cVi (As := [vI (((zM h 12 i j) : Nat) : Int), vI 2]) (rest := [vI 2, .ref (a 13)]) ⟨hx, hb, hml, hown, hts⟩ hK hP hD hS hA [1, 2, 3] [0] rfl rfl rfl (c_X10_upTo l g q a x h o (zM h 12 i j) 2 hn5 (by omega) (by omega)) (cwV 2 hts gX10_layVoltage_X10_upTo rfl rfl rfl (by decide +kernel) ⟨Nat.le_of_ble_eq_true rfl, Nat.le_of_ble_eq_true rfl⟩) 10 0 rfl rfl rfl (fun _ _ _ _ _ _ => trivial) (fun _ _ _ => trivial) rfl hl.1 (Nat.le_of_ble_eq_true rfl) rfl dX10_layVoltage_67 ⟨Nat.le_of_ble_eq_true rfl, Nat.le_of_ble_eq_true rfl⟩ (fun u_4 H locs hwu_4 hP hD hS => ?_)
  try dsimp only at hwu_4
  have hP : zP g [[((a 13), .inl (g.2 1, 3, .inr (.inl (aL (uI (uI pp 0 ((-(zUp h o 0 (zM h 12 i j))) * (pp 0))) 1 (((x 0) * (x 10)) - ((zUp h o 1 (zM h 12 i j)) * (pp 1))))))))], [mdl q a x], [((a 2), .inl (g.2 0, 6, .inl (aI h)))], [((a 3), .inl (g.2 0, 18, .inl (aI o)))]] H := hP
  have hD : zD A [[((a 13), .inl (g.2 1, 3, .inr (.inl (aL (uI (uI pp 0 ((-(zUp h o 0 (zM h 12 i j))) * (pp 0))) 1 (((x 0) * (x 10)) - ((zUp h o 1 (zM h 12 i j)) * (pp 1))))))))], [mdl q a x], [((a 2), .inl (g.2 0, 6, .inl (aI h)))], [((a 3), .inl (g.2 0, 18, .inl (aI o)))]] := hD
  refine z_toI (zUp h o 2 (zM h 12 i j)) rfl ?_
  refine z_ineg hx hb (-(zUp h o 2 (zM h 12 i j))) rfl dX10_layVoltage_70 ?_
  refine z_i2l hx hb (by omega) dX10_layVoltage_71 ?_
  refine lv_aload_n hx hb dX10_layVoltage_72 rfl (lv_at hl 1 rfl) ?_
  refine z_get hx hb hts hin10_ hown hK hP 1 rfl rfl 24 (by decide) (hts _ (List.mem_of_getElem? (i := 1) rfl)) rfl dX10_layVoltage_73 ?_
  refine z_iconst hx hb dX10_layVoltage_76 rfl ?_
  refine z_lald hx hb hK hP 0 rfl 2 rfl (by decide) (by decide) dX10_layVoltage_77 ?_
  refine z_lmul hx hb ((-(zUp h o 2 (zM h 12 i j))) * (pp 2)) rfl dX10_layVoltage_78 ?_
  refine z_last hx hb hK hP 0 hD hS rfl 2 rfl (by decide) (by decide) dX10_layVoltage_79 [[((a 13), .inl (g.2 1, 3, .inr (.inl (aL (uI (uI (uI pp 0 ((-(zUp h o 0 (zM h 12 i j))) * (pp 0))) 1 (((x 0) * (x 10)) - ((zUp h o 1 (zM h 12 i j)) * (pp 1)))) 2 ((-(zUp h o 2 (zM h 12 i j))) * (pp 2)))))))], [mdl q a x], [((a 2), .inl (g.2 0, 6, .inl (aI h)))], [((a 3), .inl (g.2 0, 18, .inl (aI o)))]] rfl (fun H locs hP hD hS => ?_)
  exact z_retv (uI (uI (uI pp 0 ((-(zUp h o 0 (zM h 12 i j))) * (pp 0))) 1 (((x 0) * (x 10)) - ((zUp h o 1 (zM h 12 i j)) * (pp 1)))) 2 ((-(zUp h o 2 (zM h 12 i j))) * (pp 2))) [1, 2, 3, 0] hx hb hr hlocks hK hP hD hS ⟨rfl, rfl, rfl⟩ rfl rfl (rfl) (Nat.le_of_ble_eq_true rfl) (Nat.le_of_ble_eq_true rfl) dX10_layVoltage_80

set_option maxHeartbeats 4000000 in
set_option maxRecDepth 100000 in
theorem c_X10_layPhases (l : Launch) (g : zG) (q : Nat) (a : Nat → Nat) (x : Nat → Int) (pp : Nat → Int) (wh : Nat → Int)  : zMet l g yX10_layPhases wsX10_layPhases 0 0 0 [.ref q] zX0 [[mdl q a x], [((a 13), .inl (g.2 1, 3, .inr (.inl (aL pp))))], [((a 14), .inl (g.2 1, 6, .inr (.inl (aL wh))))]] (qv g (fun (w2 : Nat → Int) => (w2 0 = pp 0 + pp 1 + pp 2 ∧ w2 1 = 0 ∧ w2 2 = pp 0 - pp 1 ∧ w2 3 = pp 2 - pp 1 ∧ w2 4 = pp 0 - pp 2 ∧ w2 5 = pp 1 - pp 2)) (fun (w2 : Nat → Int) => [[mdl q a x], [((a 13), .inl (g.2 1, 3, .inr (.inl (aL pp))))], [((a 14), .inl (g.2 1, 6, .inr (.inl (aL w2))))]])) := by
  refine z_ent (cc := cX10_layPhases) (maxL := 1) (ret := none) (by decide) rfl (Nat.le_of_ble_eq_true rfl) ?_
  intro p e s m below meth c A ls hx hb hr hml hown hts hlocks hin0 hA hK hP hD hS hXX hl
  have hown : s.vm.findClass RX10 = some m.cls := hown
  have hin10_ : ∀ w ∈ wsX100, w ∈ wsX10_layPhases := zw_in [3, 4, 5, 6, 7, 8, 9, 10, 11, 12, 13, 14, 15, 16, 17, 18, 19, 20, 21, 22, 23, 24, 25, 26, 27, 28] rfl
  have hl : lv_has ls 1 [(0, .ref q)] := hl
  refine lv_aload_n hx hb dX10_layPhases_0 rfl (lv_at hl 0 rfl) ?_
  refine z_get hx hb hts hin10_ hown hK hP 0 rfl rfl 25 (by decide) (hts _ (List.mem_of_getElem? (i := 1) rfl)) rfl dX10_layPhases_1 ?_
  refine z_iconst hx hb dX10_layPhases_4 rfl ?_
  refine lv_aload_n hx hb dX10_layPhases_5 rfl (lv_at hl 0 rfl) ?_
  refine z_get hx hb hts hin10_ hown hK hP 0 rfl rfl 24 (by decide) (hts _ (List.mem_of_getElem? (i := 2) rfl)) rfl dX10_layPhases_6 ?_
  refine z_iconst hx hb dX10_layPhases_9 rfl ?_
  refine z_lald hx hb hK hP 1 rfl 0 rfl (by decide) (by decide) dX10_layPhases_10 ?_
  refine lv_aload_n hx hb dX10_layPhases_11 rfl (lv_at hl 0 rfl) ?_
  refine z_get hx hb hts hin10_ hown hK hP 0 rfl rfl 24 (by decide) (hts _ (List.mem_of_getElem? (i := 2) rfl)) rfl dX10_layPhases_12 ?_
  refine z_iconst hx hb dX10_layPhases_15 rfl ?_
  refine z_lald hx hb hK hP 1 rfl 1 rfl (by decide) (by decide) dX10_layPhases_16 ?_
  refine z_ladd hx hb ((pp 0) + (pp 1)) rfl dX10_layPhases_17 ?_
  refine lv_aload_n hx hb dX10_layPhases_18 rfl (lv_at hl 0 rfl) ?_
  refine z_get hx hb hts hin10_ hown hK hP 0 rfl rfl 24 (by decide) (hts _ (List.mem_of_getElem? (i := 2) rfl)) rfl dX10_layPhases_19 ?_
  refine z_iconst hx hb dX10_layPhases_22 rfl ?_
  refine z_lald hx hb hK hP 1 rfl 2 rfl (by decide) (by decide) dX10_layPhases_23 ?_
  refine z_ladd hx hb (((pp 0) + (pp 1)) + (pp 2)) rfl dX10_layPhases_24 ?_
  refine z_last hx hb hK hP 2 hD hS rfl 0 rfl (by decide) (by decide) dX10_layPhases_25 [[mdl q a x], [((a 13), .inl (g.2 1, 3, .inr (.inl (aL pp))))], [((a 14), .inl (g.2 1, 6, .inr (.inl (aL (uI wh 0 (((pp 0) + (pp 1)) + (pp 2)))))))]] rfl (fun H locs hP hD hS => ?_)
  refine lv_aload_n hx hb dX10_layPhases_26 rfl (lv_at hl 0 rfl) ?_
  refine z_get hx hb hts hin10_ hown hK hP 0 rfl rfl 25 (by decide) (hts _ (List.mem_of_getElem? (i := 1) rfl)) rfl dX10_layPhases_27 ?_
  refine z_iconst hx hb dX10_layPhases_30 rfl ?_
  refine z_lconst hx hb 0 dX10_layPhases_31 rfl ?_
  refine z_last hx hb hK hP 2 hD hS rfl 1 rfl (by decide) (by decide) dX10_layPhases_32 [[mdl q a x], [((a 13), .inl (g.2 1, 3, .inr (.inl (aL pp))))], [((a 14), .inl (g.2 1, 6, .inr (.inl (aL (uI (uI wh 0 (((pp 0) + (pp 1)) + (pp 2))) 1 0)))))]] rfl (fun H locs hP hD hS => ?_)
  refine lv_aload_n hx hb dX10_layPhases_33 rfl (lv_at hl 0 rfl) ?_
  refine z_get hx hb hts hin10_ hown hK hP 0 rfl rfl 25 (by decide) (hts _ (List.mem_of_getElem? (i := 1) rfl)) rfl dX10_layPhases_34 ?_
  refine z_iconst hx hb dX10_layPhases_37 rfl ?_
  refine lv_aload_n hx hb dX10_layPhases_38 rfl (lv_at hl 0 rfl) ?_
  refine z_get hx hb hts hin10_ hown hK hP 0 rfl rfl 24 (by decide) (hts _ (List.mem_of_getElem? (i := 2) rfl)) rfl dX10_layPhases_39 ?_
  refine z_iconst hx hb dX10_layPhases_42 rfl ?_
  refine z_lald hx hb hK hP 1 rfl 0 rfl (by decide) (by decide) dX10_layPhases_43 ?_
  refine lv_aload_n hx hb dX10_layPhases_44 rfl (lv_at hl 0 rfl) ?_
  refine z_get hx hb hts hin10_ hown hK hP 0 rfl rfl 24 (by decide) (hts _ (List.mem_of_getElem? (i := 2) rfl)) rfl dX10_layPhases_45 ?_
  refine z_iconst hx hb dX10_layPhases_48 rfl ?_
  refine z_lald hx hb hK hP 1 rfl 1 rfl (by decide) (by decide) dX10_layPhases_49 ?_
  refine z_lsub hx hb ((pp 0) - (pp 1)) rfl dX10_layPhases_50 ?_
  refine z_last hx hb hK hP 2 hD hS rfl 2 rfl (by decide) (by decide) dX10_layPhases_51 [[mdl q a x], [((a 13), .inl (g.2 1, 3, .inr (.inl (aL pp))))], [((a 14), .inl (g.2 1, 6, .inr (.inl (aL (uI (uI (uI wh 0 (((pp 0) + (pp 1)) + (pp 2))) 1 0) 2 ((pp 0) - (pp 1)))))))]] rfl (fun H locs hP hD hS => ?_)
  refine lv_aload_n hx hb dX10_layPhases_52 rfl (lv_at hl 0 rfl) ?_
  refine z_get hx hb hts hin10_ hown hK hP 0 rfl rfl 25 (by decide) (hts _ (List.mem_of_getElem? (i := 1) rfl)) rfl dX10_layPhases_53 ?_
  refine z_iconst hx hb dX10_layPhases_56 rfl ?_
  refine lv_aload_n hx hb dX10_layPhases_57 rfl (lv_at hl 0 rfl) ?_
  refine z_get hx hb hts hin10_ hown hK hP 0 rfl rfl 24 (by decide) (hts _ (List.mem_of_getElem? (i := 2) rfl)) rfl dX10_layPhases_58 ?_
  refine z_iconst hx hb dX10_layPhases_61 rfl ?_
  refine z_lald hx hb hK hP 1 rfl 2 rfl (by decide) (by decide) dX10_layPhases_62 ?_
  refine lv_aload_n hx hb dX10_layPhases_63 rfl (lv_at hl 0 rfl) ?_
  refine z_get hx hb hts hin10_ hown hK hP 0 rfl rfl 24 (by decide) (hts _ (List.mem_of_getElem? (i := 2) rfl)) rfl dX10_layPhases_64 ?_
  refine z_iconst hx hb dX10_layPhases_67 rfl ?_
  refine z_lald hx hb hK hP 1 rfl 1 rfl (by decide) (by decide) dX10_layPhases_68 ?_
  refine z_lsub hx hb ((pp 2) - (pp 1)) rfl dX10_layPhases_69 ?_
  refine z_last hx hb hK hP 2 hD hS rfl 3 rfl (by decide) (by decide) dX10_layPhases_70 [[mdl q a x], [((a 13), .inl (g.2 1, 3, .inr (.inl (aL pp))))], [((a 14), .inl (g.2 1, 6, .inr (.inl (aL (uI (uI (uI (uI wh 0 (((pp 0) + (pp 1)) + (pp 2))) 1 0) 2 ((pp 0) - (pp 1))) 3 ((pp 2) - (pp 1)))))))]] rfl (fun H locs hP hD hS => ?_)
  refine lv_aload_n hx hb dX10_layPhases_71 rfl (lv_at hl 0 rfl) ?_
  refine z_get hx hb hts hin10_ hown hK hP 0 rfl rfl 25 (by decide) (hts _ (List.mem_of_getElem? (i := 1) rfl)) rfl dX10_layPhases_72 ?_
  refine z_iconst hx hb dX10_layPhases_75 rfl ?_
  refine lv_aload_n hx hb dX10_layPhases_76 rfl (lv_at hl 0 rfl) ?_
  refine z_get hx hb hts hin10_ hown hK hP 0 rfl rfl 24 (by decide) (hts _ (List.mem_of_getElem? (i := 2) rfl)) rfl dX10_layPhases_77 ?_
  refine z_iconst hx hb dX10_layPhases_80 rfl ?_
  refine z_lald hx hb hK hP 1 rfl 0 rfl (by decide) (by decide) dX10_layPhases_81 ?_
  refine lv_aload_n hx hb dX10_layPhases_82 rfl (lv_at hl 0 rfl) ?_
  refine z_get hx hb hts hin10_ hown hK hP 0 rfl rfl 24 (by decide) (hts _ (List.mem_of_getElem? (i := 2) rfl)) rfl dX10_layPhases_83 ?_
  refine z_iconst hx hb dX10_layPhases_86 rfl ?_
  refine z_lald hx hb hK hP 1 rfl 2 rfl (by decide) (by decide) dX10_layPhases_87 ?_
  refine z_lsub hx hb ((pp 0) - (pp 2)) rfl dX10_layPhases_88 ?_
  refine z_last hx hb hK hP 2 hD hS rfl 4 rfl (by decide) (by decide) dX10_layPhases_89 [[mdl q a x], [((a 13), .inl (g.2 1, 3, .inr (.inl (aL pp))))], [((a 14), .inl (g.2 1, 6, .inr (.inl (aL (uI (uI (uI (uI (uI wh 0 (((pp 0) + (pp 1)) + (pp 2))) 1 0) 2 ((pp 0) - (pp 1))) 3 ((pp 2) - (pp 1))) 4 ((pp 0) - (pp 2)))))))]] rfl (fun H locs hP hD hS => ?_)
  refine lv_aload_n hx hb dX10_layPhases_90 rfl (lv_at hl 0 rfl) ?_
  refine z_get hx hb hts hin10_ hown hK hP 0 rfl rfl 25 (by decide) (hts _ (List.mem_of_getElem? (i := 1) rfl)) rfl dX10_layPhases_91 ?_
  refine z_iconst hx hb dX10_layPhases_94 rfl ?_
  refine lv_aload_n hx hb dX10_layPhases_95 rfl (lv_at hl 0 rfl) ?_
  refine z_get hx hb hts hin10_ hown hK hP 0 rfl rfl 24 (by decide) (hts _ (List.mem_of_getElem? (i := 2) rfl)) rfl dX10_layPhases_96 ?_
  refine z_iconst hx hb dX10_layPhases_99 rfl ?_
  refine z_lald hx hb hK hP 1 rfl 1 rfl (by decide) (by decide) dX10_layPhases_100 ?_
  refine lv_aload_n hx hb dX10_layPhases_101 rfl (lv_at hl 0 rfl) ?_
  refine z_get hx hb hts hin10_ hown hK hP 0 rfl rfl 24 (by decide) (hts _ (List.mem_of_getElem? (i := 2) rfl)) rfl dX10_layPhases_102 ?_
  refine z_iconst hx hb dX10_layPhases_105 rfl ?_
  refine z_lald hx hb hK hP 1 rfl 2 rfl (by decide) (by decide) dX10_layPhases_106 ?_
  refine z_lsub hx hb ((pp 1) - (pp 2)) rfl dX10_layPhases_107 ?_
  refine z_last hx hb hK hP 2 hD hS rfl 5 rfl (by decide) (by decide) dX10_layPhases_108 [[mdl q a x], [((a 13), .inl (g.2 1, 3, .inr (.inl (aL pp))))], [((a 14), .inl (g.2 1, 6, .inr (.inl (aL (uI (uI (uI (uI (uI (uI wh 0 (((pp 0) + (pp 1)) + (pp 2))) 1 0) 2 ((pp 0) - (pp 1))) 3 ((pp 2) - (pp 1))) 4 ((pp 0) - (pp 2))) 5 ((pp 1) - (pp 2)))))))]] rfl (fun H locs hP hD hS => ?_)
  exact z_retv (uI (uI (uI (uI (uI (uI wh 0 (((pp 0) + (pp 1)) + (pp 2))) 1 0) 2 ((pp 0) - (pp 1))) 3 ((pp 2) - (pp 1))) 4 ((pp 0) - (pp 2))) 5 ((pp 1) - (pp 2))) [0, 1, 2] hx hb hr hlocks hK hP hD hS ⟨rfl, rfl, rfl, rfl, rfl, rfl⟩ rfl rfl (rfl) (Nat.le_of_ble_eq_true rfl) (Nat.le_of_ble_eq_true rfl) dX10_layPhases_109

set_option maxHeartbeats 4000000 in
set_option maxRecDepth 100000 in
theorem c_X10_normOf (l : Launch) (g : zG) (q : Nat) (a : Nat → Nat) (x : Nat → Int) (wh : Nat → Int) (k : Nat) (hk : k < 3) : zMet l g yX10_normOf wsX10_normOf 0 0 0 [.ref q, vI ((k : Nat) : Int)] zX0 [[mdl q a x], [((a 14), .inl (g.2 1, 6, .inr (.inl (aL wh))))]] (ql g (fun (_ : Unit) => (wN wh k)) (fun (_ : Unit) => True) (fun (_ : Unit) => [[mdl q a x], [((a 14), .inl (g.2 1, 6, .inr (.inl (aL wh))))]])) := by
  refine z_ent (cc := cX10_normOf) (maxL := 6) (ret := (some .long)) (by decide) rfl (Nat.le_of_ble_eq_true rfl) ?_
  intro p e s m below meth c A ls hx hb hr hml hown hts hlocks hin0 hA hK hP hD hS hXX hl
  have hown : s.vm.findClass RX10 = some m.cls := hown
  have hin10_ : ∀ w ∈ wsX100, w ∈ wsX10_normOf := zw_in [2, 3, 4, 5, 6, 7, 8, 9, 10, 11, 12, 13, 14, 15, 16, 17, 18, 19, 20, 21, 22, 23, 24, 25, 26, 27] rfl
  have hl : lv_has ls 6 [(0, .ref q), (1, vI ((k : Nat) : Int))] := hl
  refine lv_aload_n hx hb dX10_normOf_0 rfl (lv_at hl 0 rfl) ?_
  refine z_get hx hb hts hin10_ hown hK hP 0 rfl rfl 25 (by decide) (hts _ (List.mem_of_getElem? (i := 1) rfl)) rfl dX10_normOf_1 ?_
  refine z_iconst hx hb dX10_normOf_4 rfl ?_
  refine lv_iload_n hx hb dX10_normOf_5 rfl (lv_at hl 1 rfl) ?_
  refine z_imul hx hb (((2 * k) : Nat) : Int) (by omega) dX10_normOf_6 ?_
  refine z_lald hx hb hK hP 1 rfl (2 * k) (by omega) (by omega) (by decide) dX10_normOf_7 ?_
  refine lv_lstore_n (lv' := [(2, vL (wh (2 * k))), (0, .ref q), (1, vI ((k : Nat) : Int))]) hx hb dX10_normOf_8 rfl hl (by decide) rfl (fun ls hl => ?_)
  refine lv_aload_n hx hb dX10_normOf_9 rfl (lv_at hl 1 rfl) ?_
  refine z_get hx hb hts hin10_ hown hK hP 0 rfl rfl 25 (by decide) (hts _ (List.mem_of_getElem? (i := 1) rfl)) rfl dX10_normOf_10 ?_
  refine z_iconst hx hb dX10_normOf_13 rfl ?_
  refine lv_iload_n hx hb dX10_normOf_14 rfl (lv_at hl 2 rfl) ?_
  refine z_imul hx hb (((2 * k) : Nat) : Int) (by omega) dX10_normOf_15 ?_
  refine z_iconst hx hb dX10_normOf_16 rfl ?_
  refine z_iadd hx hb ((((2 * k) + 1) : Nat) : Int) (by omega) dX10_normOf_17 ?_
  refine z_lald hx hb hK hP 1 rfl ((2 * k) + 1) (by omega) (by omega) (by decide) dX10_normOf_18 ?_
  refine lv_lstore (lv' := [(4, vL (wh ((2 * k) + 1))), (2, vL (wh (2 * k))), (0, .ref q), (1, vI ((k : Nat) : Int))]) hx hb dX10_normOf_19 hl (by decide) rfl (fun ls hl => ?_)
  refine lv_lload_n hx hb dX10_normOf_21 rfl (lv_at hl 1 rfl) ?_
  refine lv_lload_n hx hb dX10_normOf_22 rfl (lv_at hl 1 rfl) ?_
  refine z_lmul hx hb ((wh (2 * k)) * (wh (2 * k))) rfl dX10_normOf_23 ?_
  refine lv_lload_n hx hb dX10_normOf_24 rfl (lv_at hl 1 rfl) ?_
  refine lv_lload hx hb dX10_normOf_25 (lv_at hl 0 rfl) ?_
  refine z_lmul hx hb ((wh (2 * k)) * (wh ((2 * k) + 1))) rfl dX10_normOf_27 ?_
  refine z_lsub hx hb (((wh (2 * k)) * (wh (2 * k))) - ((wh (2 * k)) * (wh ((2 * k) + 1)))) rfl dX10_normOf_28 ?_
  refine lv_lload hx hb dX10_normOf_29 (lv_at hl 0 rfl) ?_
  refine lv_lload hx hb dX10_normOf_31 (lv_at hl 0 rfl) ?_
  refine z_lmul hx hb ((wh ((2 * k) + 1)) * (wh ((2 * k) + 1))) rfl dX10_normOf_33 ?_
  refine z_ladd hx hb ((((wh (2 * k)) * (wh (2 * k))) - ((wh (2 * k)) * (wh ((2 * k) + 1)))) + ((wh ((2 * k) + 1)) * (wh ((2 * k) + 1)))) rfl dX10_normOf_34 ?_
  exact z_retl () [0, 1] hx hb hr hlocks hK hP hD hS (rfl) trivial rfl rfl (rfl) (Nat.le_of_ble_eq_true rfl) (Nat.le_of_ble_eq_true rfl) dX10_normOf_35

set_option maxHeartbeats 4000000 in
set_option maxRecDepth 100000 in
theorem c_X10_greatestNorm (l : Launch) (g : zG) (q : Nat) (a : Nat → Nat) (x : Nat → Int) (wh : Nat → Int) (hwn : ∀ k, k < 3 → 0 ≤ wN wh k ∧ wN wh k ≤ 4000000000000000000) : zMet l g yX10_greatestNorm wsX10_greatestNorm 1 0 0 [.ref q] zX0 [[mdl q a x], [((a 14), .inl (g.2 1, 6, .inr (.inl (aL wh))))]] (ql g (fun (_ : Unit) => (mx9 (mx9 (mx9 0 (wN wh 0)) (wN wh 1)) (wN wh 2))) (fun (_ : Unit) => True) (fun (_ : Unit) => [[mdl q a x], [((a 14), .inl (g.2 1, 6, .inr (.inl (aL wh))))]])) := by
  have hw0 := hwn 0 (by decide)
  have hw1 := hwn 1 (by decide)
  have hw2 := hwn 2 (by decide)
  have hm0 := mx9_b (m := 0) (by decide) hw0
  have hm1 := mx9_b hm0 hw1
  refine z_ent (cc := cX10_greatestNorm) (maxL := 4) (ret := (some .long)) (by decide) rfl (Nat.le_of_ble_eq_true rfl) ?_
  intro p e s m below meth c A ls hx hb hr hml hown hts hlocks hin0 hA hK hP hD hS hXX hl
  have hown : s.vm.findClass RX10 = some m.cls := hown
  have hl : lv_has ls 4 [(0, .ref q)] := hl
  refine z_lconst hx hb 0 dX10_greatestNorm_0 rfl ?_
  refine lv_lstore_n (lv' := [(1, vL 0), (0, .ref q)]) hx hb dX10_greatestNorm_1 rfl hl (by decide) rfl (fun ls hl => ?_)
  refine z_iconst hx hb dX10_greatestNorm_2 rfl ?_
  refine lv_istore_n (lv' := [(3, vI 0), (1, vL 0), (0, .ref q)]) hx hb dX10_greatestNorm_3 rfl hl (by decide) rfl (fun ls hl => ?_)
  refine lv_iload_n hx hb dX10_greatestNorm_4 rfl (lv_at hl 0 rfl) ?_
  refine z_iconst hx hb dX10_greatestNorm_5 rfl ?_
  refine z_icmp_ge (tgt := 35) hx hb (by decide) (by decide) dX10_greatestNorm_6 (by decide) (fun cq1 => False.elim (by omega)) (fun cq1 => ?_)
  have j28 : ∀ (H : Heap) (locs : List Loc) (ls : Array Slot), zP g [[mdl q a x], [((a 14), .inl (g.2 1, 6, .inr (.inl (aL wh))))]] H → zD A [[mdl q a x], [((a 14), .inl (g.2 1, 6, .inr (.inl (aL wh))))]] → va_S A s.heap H locs → lv_has ls 4 [(3, vI 0), (1, vL 0), (0, .ref q)] → W p l e (zRm 1 0 0) s m ([.ref q] : List Value).toArray below meth c H locs (0) (0) (MQ below ((ql g (fun (_ : Unit) => (mx9 (mx9 (mx9 0 (wN wh 0)) (wN wh 1)) (wN wh 2))) (fun (_ : Unit) => True) (fun (_ : Unit) => [[mdl q a x], [((a 14), .inl (g.2 1, 6, .inr (.inl (aL wh))))]])) A) ([.ref q] : List Value).toArray s 0 0 A) (F0 m 28 ls [vL (mx9 0 (wN wh 0))]) := by
    intro H locs ls hP hD hS hl
    refine lv_lstore_n (lv' := [(1, vL (mx9 0 (wN wh 0))), (3, vI 0), (0, .ref q)]) hx hb dX10_greatestNorm_28 rfl hl (by decide) rfl (fun ls hl => ?_)
    refine z_iinc hx hb 1 (lv' := [(3, vI 1), (1, vL (mx9 0 (wN wh 0))), (0, .ref q)]) dX10_greatestNorm_29 hl (k := 1) rfl (rfl) (by decide) rfl (fun ls hl => ?_)
    refine lv_goto (tgt := 4) hx hb dX10_greatestNorm_32 (by decide) ?_
    refine lv_iload_n hx hb dX10_greatestNorm_4 rfl (lv_at hl 0 rfl) ?_
    refine z_iconst hx hb dX10_greatestNorm_5 rfl ?_
    refine z_icmp_ge (tgt := 35) hx hb (by decide) (by decide) dX10_greatestNorm_6 (by decide) (fun cq2 => False.elim (by omega)) (fun cq2 => ?_)
    have j28 : ∀ (H : Heap) (locs : List Loc) (ls : Array Slot), zP g [[mdl q a x], [((a 14), .inl (g.2 1, 6, .inr (.inl (aL wh))))]] H → zD A [[mdl q a x], [((a 14), .inl (g.2 1, 6, .inr (.inl (aL wh))))]] → va_S A s.heap H locs → lv_has ls 4 [(3, vI 1), (1, vL (mx9 0 (wN wh 0))), (0, .ref q)] → W p l e (zRm 1 0 0) s m ([.ref q] : List Value).toArray below meth c H locs (0) (0) (MQ below ((ql g (fun (_ : Unit) => (mx9 (mx9 (mx9 0 (wN wh 0)) (wN wh 1)) (wN wh 2))) (fun (_ : Unit) => True) (fun (_ : Unit) => [[mdl q a x], [((a 14), .inl (g.2 1, 6, .inr (.inl (aL wh))))]])) A) ([.ref q] : List Value).toArray s 0 0 A) (F0 m 28 ls [vL (mx9 (mx9 0 (wN wh 0)) (wN wh 1))]) := by
      intro H locs ls hP hD hS hl
      refine lv_lstore_n (lv' := [(1, vL (mx9 (mx9 0 (wN wh 0)) (wN wh 1))), (3, vI 1), (0, .ref q)]) hx hb dX10_greatestNorm_28 rfl hl (by decide) rfl (fun ls hl => ?_)
      refine z_iinc hx hb 2 (lv' := [(3, vI 2), (1, vL (mx9 (mx9 0 (wN wh 0)) (wN wh 1))), (0, .ref q)]) dX10_greatestNorm_29 hl (k := 1) rfl (rfl) (by decide) rfl (fun ls hl => ?_)
      refine lv_goto (tgt := 4) hx hb dX10_greatestNorm_32 (by decide) ?_
      refine lv_iload_n hx hb dX10_greatestNorm_4 rfl (lv_at hl 0 rfl) ?_
      refine z_iconst hx hb dX10_greatestNorm_5 rfl ?_
      refine z_icmp_ge (tgt := 35) hx hb (by decide) (by decide) dX10_greatestNorm_6 (by decide) (fun cq3 => False.elim (by omega)) (fun cq3 => ?_)
      have j28 : ∀ (H : Heap) (locs : List Loc) (ls : Array Slot), zP g [[mdl q a x], [((a 14), .inl (g.2 1, 6, .inr (.inl (aL wh))))]] H → zD A [[mdl q a x], [((a 14), .inl (g.2 1, 6, .inr (.inl (aL wh))))]] → va_S A s.heap H locs → lv_has ls 4 [(3, vI 2), (1, vL (mx9 (mx9 0 (wN wh 0)) (wN wh 1))), (0, .ref q)] → W p l e (zRm 1 0 0) s m ([.ref q] : List Value).toArray below meth c H locs (0) (0) (MQ below ((ql g (fun (_ : Unit) => (mx9 (mx9 (mx9 0 (wN wh 0)) (wN wh 1)) (wN wh 2))) (fun (_ : Unit) => True) (fun (_ : Unit) => [[mdl q a x], [((a 14), .inl (g.2 1, 6, .inr (.inl (aL wh))))]])) A) ([.ref q] : List Value).toArray s 0 0 A) (F0 m 28 ls [vL (mx9 (mx9 (mx9 0 (wN wh 0)) (wN wh 1)) (wN wh 2))]) := by
        intro H locs ls hP hD hS hl
        refine lv_lstore_n (lv' := [(1, vL (mx9 (mx9 (mx9 0 (wN wh 0)) (wN wh 1)) (wN wh 2))), (3, vI 2), (0, .ref q)]) hx hb dX10_greatestNorm_28 rfl hl (by decide) rfl (fun ls hl => ?_)
        refine z_iinc hx hb 3 (lv' := [(3, vI 3), (1, vL (mx9 (mx9 (mx9 0 (wN wh 0)) (wN wh 1)) (wN wh 2))), (0, .ref q)]) dX10_greatestNorm_29 hl (k := 1) rfl (rfl) (by decide) rfl (fun ls hl => ?_)
        refine lv_goto (tgt := 4) hx hb dX10_greatestNorm_32 (by decide) ?_
        refine lv_iload_n hx hb dX10_greatestNorm_4 rfl (lv_at hl 0 rfl) ?_
        refine z_iconst hx hb dX10_greatestNorm_5 rfl ?_
        refine z_icmp_ge (tgt := 35) hx hb (by decide) (by decide) dX10_greatestNorm_6 (by decide) (fun cq4 => ?_) (fun cq4 => False.elim (by omega))
        refine lv_lload_n hx hb dX10_greatestNorm_35 rfl (lv_at hl 1 rfl) ?_
        exact z_retl () [0, 1] hx hb hr hlocks hK hP hD hS (rfl) trivial rfl rfl (rfl) (Nat.le_of_ble_eq_true rfl) (Nat.le_of_ble_eq_true rfl) dX10_greatestNorm_36
      refine lv_aload_n hx hb dX10_greatestNorm_9 rfl (lv_at hl 2 rfl) ?_
      refine lv_iload_n hx hb dX10_greatestNorm_10 rfl (lv_at hl 0 rfl) ?_
      refine z_cVl (As := [vI 2]) (rest := []) ⟨hx, hb, hml, hown, hts⟩ hK hP hD hS hA [0, 1] [] rfl rfl rfl (c_X10_normOf l g q a x wh 2 (by first | assumption | omega | decide)) (cwV 1 hts gX10_greatestNorm_X10_normOf rfl rfl rfl (by decide +kernel) ⟨Nat.le_of_ble_eq_true rfl, Nat.le_of_ble_eq_true rfl⟩) 10 0 rfl rfl rfl (fun _ _ _ _ _ _ => trivial) (fun _ _ _ => trivial) rfl hl.1 (Nat.le_of_ble_eq_true rfl) rfl dX10_greatestNorm_11 ⟨Nat.le_of_ble_eq_true rfl, Nat.le_of_ble_eq_true rfl⟩ (fun u_5 H locs hwu_5 hP hD hS => ?_)
      try dsimp only at hwu_5
      have hP : zP g [[mdl q a x], [((a 14), .inl (g.2 1, 6, .inr (.inl (aL wh))))]] H := hP
      have hD : zD A [[mdl q a x], [((a 14), .inl (g.2 1, 6, .inr (.inl (aL wh))))]] := hD
      refine z_toL (wN wh 2) rfl ?_
      refine lv_lload_n hx hb dX10_greatestNorm_14 rfl (lv_at hl 1 rfl) ?_
      refine z_lcmp_le (tgt := 27) hx hb (by omega) (by omega) dX10_greatestNorm_15 dX10_greatestNorm_16 (by decide) (fun cq6 => ?_) (fun cq6 => ?_)
      · refine lv_lload_n hx hb dX10_greatestNorm_27 rfl (lv_at hl 1 rfl) ?_
        refine z_toL (mx9 (mx9 (mx9 0 (wN wh 0)) (wN wh 1)) (wN wh 2)) (by first | exact mx9_y (by omega) | exact mx9_n (by omega)) ?_
        exact j28 _ _ _ hP hD hS (lv_sub hl [0, 1, 2] rfl)
      · refine lv_aload_n hx hb dX10_greatestNorm_19 rfl (lv_at hl 2 rfl) ?_
        refine lv_iload_n hx hb dX10_greatestNorm_20 rfl (lv_at hl 0 rfl) ?_
        refine z_cVl (As := [vI 2]) (rest := []) ⟨hx, hb, hml, hown, hts⟩ hK hP hD hS hA [0, 1] [] rfl rfl rfl (c_X10_normOf l g q a x wh 2 (by first | assumption | omega | decide)) (cwV 1 hts gX10_greatestNorm_X10_normOf rfl rfl rfl (by decide +kernel) ⟨Nat.le_of_ble_eq_true rfl, Nat.le_of_ble_eq_true rfl⟩) 10 0 rfl rfl rfl (fun _ _ _ _ _ _ => trivial) (fun _ _ _ => trivial) rfl hl.1 (Nat.le_of_ble_eq_true rfl) rfl dX10_greatestNorm_21 ⟨Nat.le_of_ble_eq_true rfl, Nat.le_of_ble_eq_true rfl⟩ (fun u_7 H locs hwu_7 hP hD hS => ?_)
        try dsimp only at hwu_7
        have hP : zP g [[mdl q a x], [((a 14), .inl (g.2 1, 6, .inr (.inl (aL wh))))]] H := hP
        have hD : zD A [[mdl q a x], [((a 14), .inl (g.2 1, 6, .inr (.inl (aL wh))))]] := hD
        refine z_toL (wN wh 2) rfl ?_
        refine lv_goto (tgt := 28) hx hb dX10_greatestNorm_24 (by decide) ?_
        refine z_toL (mx9 (mx9 (mx9 0 (wN wh 0)) (wN wh 1)) (wN wh 2)) (by first | exact mx9_y (by omega) | exact mx9_n (by omega)) ?_
        exact j28 _ _ _ hP hD hS (lv_sub hl [0, 1, 2] rfl)
    refine lv_aload_n hx hb dX10_greatestNorm_9 rfl (lv_at hl 2 rfl) ?_
    refine lv_iload_n hx hb dX10_greatestNorm_10 rfl (lv_at hl 0 rfl) ?_
    refine z_cVl (As := [vI 1]) (rest := []) ⟨hx, hb, hml, hown, hts⟩ hK hP hD hS hA [0, 1] [] rfl rfl rfl (c_X10_normOf l g q a x wh 1 (by first | assumption | omega | decide)) (cwV 1 hts gX10_greatestNorm_X10_normOf rfl rfl rfl (by decide +kernel) ⟨Nat.le_of_ble_eq_true rfl, Nat.le_of_ble_eq_true rfl⟩) 10 0 rfl rfl rfl (fun _ _ _ _ _ _ => trivial) (fun _ _ _ => trivial) rfl hl.1 (Nat.le_of_ble_eq_true rfl) rfl dX10_greatestNorm_11 ⟨Nat.le_of_ble_eq_true rfl, Nat.le_of_ble_eq_true rfl⟩ (fun u_8 H locs hwu_8 hP hD hS => ?_)
    try dsimp only at hwu_8
    have hP : zP g [[mdl q a x], [((a 14), .inl (g.2 1, 6, .inr (.inl (aL wh))))]] H := hP
    have hD : zD A [[mdl q a x], [((a 14), .inl (g.2 1, 6, .inr (.inl (aL wh))))]] := hD
    refine z_toL (wN wh 1) rfl ?_
    refine lv_lload_n hx hb dX10_greatestNorm_14 rfl (lv_at hl 1 rfl) ?_
    refine z_lcmp_le (tgt := 27) hx hb (by omega) (by omega) dX10_greatestNorm_15 dX10_greatestNorm_16 (by decide) (fun cq9 => ?_) (fun cq9 => ?_)
    · refine lv_lload_n hx hb dX10_greatestNorm_27 rfl (lv_at hl 1 rfl) ?_
      refine z_toL (mx9 (mx9 0 (wN wh 0)) (wN wh 1)) (by first | exact mx9_y (by omega) | exact mx9_n (by omega)) ?_
      exact j28 _ _ _ hP hD hS (lv_sub hl [0, 1, 2] rfl)
    · refine lv_aload_n hx hb dX10_greatestNorm_19 rfl (lv_at hl 2 rfl) ?_
      refine lv_iload_n hx hb dX10_greatestNorm_20 rfl (lv_at hl 0 rfl) ?_
      refine z_cVl (As := [vI 1]) (rest := []) ⟨hx, hb, hml, hown, hts⟩ hK hP hD hS hA [0, 1] [] rfl rfl rfl (c_X10_normOf l g q a x wh 1 (by first | assumption | omega | decide)) (cwV 1 hts gX10_greatestNorm_X10_normOf rfl rfl rfl (by decide +kernel) ⟨Nat.le_of_ble_eq_true rfl, Nat.le_of_ble_eq_true rfl⟩) 10 0 rfl rfl rfl (fun _ _ _ _ _ _ => trivial) (fun _ _ _ => trivial) rfl hl.1 (Nat.le_of_ble_eq_true rfl) rfl dX10_greatestNorm_21 ⟨Nat.le_of_ble_eq_true rfl, Nat.le_of_ble_eq_true rfl⟩ (fun u_10 H locs hwu_10 hP hD hS => ?_)
      try dsimp only at hwu_10
      have hP : zP g [[mdl q a x], [((a 14), .inl (g.2 1, 6, .inr (.inl (aL wh))))]] H := hP
      have hD : zD A [[mdl q a x], [((a 14), .inl (g.2 1, 6, .inr (.inl (aL wh))))]] := hD
      refine z_toL (wN wh 1) rfl ?_
      refine lv_goto (tgt := 28) hx hb dX10_greatestNorm_24 (by decide) ?_
      refine z_toL (mx9 (mx9 0 (wN wh 0)) (wN wh 1)) (by first | exact mx9_y (by omega) | exact mx9_n (by omega)) ?_
      exact j28 _ _ _ hP hD hS (lv_sub hl [0, 1, 2] rfl)
  refine lv_aload_n hx hb dX10_greatestNorm_9 rfl (lv_at hl 2 rfl) ?_
  refine lv_iload_n hx hb dX10_greatestNorm_10 rfl (lv_at hl 0 rfl) ?_
  refine z_cVl (As := [vI 0]) (rest := []) ⟨hx, hb, hml, hown, hts⟩ hK hP hD hS hA [0, 1] [] rfl rfl rfl (c_X10_normOf l g q a x wh 0 (by first | assumption | omega | decide)) (cwV 1 hts gX10_greatestNorm_X10_normOf rfl rfl rfl (by decide +kernel) ⟨Nat.le_of_ble_eq_true rfl, Nat.le_of_ble_eq_true rfl⟩) 10 0 rfl rfl rfl (fun _ _ _ _ _ _ => trivial) (fun _ _ _ => trivial) rfl hl.1 (Nat.le_of_ble_eq_true rfl) rfl dX10_greatestNorm_11 ⟨Nat.le_of_ble_eq_true rfl, Nat.le_of_ble_eq_true rfl⟩ (fun u_11 H locs hwu_11 hP hD hS => ?_)
  try dsimp only at hwu_11
  have hP : zP g [[mdl q a x], [((a 14), .inl (g.2 1, 6, .inr (.inl (aL wh))))]] H := hP
  have hD : zD A [[mdl q a x], [((a 14), .inl (g.2 1, 6, .inr (.inl (aL wh))))]] := hD
  refine z_toL (wN wh 0) rfl ?_
  refine lv_lload_n hx hb dX10_greatestNorm_14 rfl (lv_at hl 1 rfl) ?_
  refine z_lcmp_le (tgt := 27) hx hb (by omega) (by decide) dX10_greatestNorm_15 dX10_greatestNorm_16 (by decide) (fun cq12 => ?_) (fun cq12 => ?_)
  · refine lv_lload_n hx hb dX10_greatestNorm_27 rfl (lv_at hl 1 rfl) ?_
    refine z_toL (mx9 0 (wN wh 0)) (by first | exact mx9_y (by omega) | exact mx9_n (by omega)) ?_
    exact j28 _ _ _ hP hD hS (lv_sub hl [0, 1, 2] rfl)
  · refine lv_aload_n hx hb dX10_greatestNorm_19 rfl (lv_at hl 2 rfl) ?_
    refine lv_iload_n hx hb dX10_greatestNorm_20 rfl (lv_at hl 0 rfl) ?_
    refine z_cVl (As := [vI 0]) (rest := []) ⟨hx, hb, hml, hown, hts⟩ hK hP hD hS hA [0, 1] [] rfl rfl rfl (c_X10_normOf l g q a x wh 0 (by first | assumption | omega | decide)) (cwV 1 hts gX10_greatestNorm_X10_normOf rfl rfl rfl (by decide +kernel) ⟨Nat.le_of_ble_eq_true rfl, Nat.le_of_ble_eq_true rfl⟩) 10 0 rfl rfl rfl (fun _ _ _ _ _ _ => trivial) (fun _ _ _ => trivial) rfl hl.1 (Nat.le_of_ble_eq_true rfl) rfl dX10_greatestNorm_21 ⟨Nat.le_of_ble_eq_true rfl, Nat.le_of_ble_eq_true rfl⟩ (fun u_13 H locs hwu_13 hP hD hS => ?_)
    try dsimp only at hwu_13
    have hP : zP g [[mdl q a x], [((a 14), .inl (g.2 1, 6, .inr (.inl (aL wh))))]] H := hP
    have hD : zD A [[mdl q a x], [((a 14), .inl (g.2 1, 6, .inr (.inl (aL wh))))]] := hD
    refine z_toL (wN wh 0) rfl ?_
    refine lv_goto (tgt := 28) hx hb dX10_greatestNorm_24 (by decide) ?_
    refine z_toL (mx9 0 (wN wh 0)) (by first | exact mx9_y (by omega) | exact mx9_n (by omega)) ?_
    exact j28 _ _ _ hP hD hS (lv_sub hl [0, 1, 2] rfl)
