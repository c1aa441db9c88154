set_option maxHeartbeats 4000000 in
set_option maxRecDepth 100000 in
theorem c_X10_layFault (l : Launch) (g : zG) (q : Nat) (a : Nat → Nat) (x : Nat → Int) (b : Nat) (h : Nat → Int) (o : Nat → Int) (l_ : Nat → Int) (pp : Nat → Int) (s_ : Int) (i : Nat) (f : Int) (hN : nok (x 0) b h o l_) (hs : 0 ≤ s_ ∧ s_ ≤ 3) (hi : i < 6) (hf : 0 ≤ f ∧ f ≤ 9) : zMet l g yX10_layFault wsX10_layFault 1 0 0 [.ref q, vI s_, vI ((i : Nat) : Int), vI f] zX0 [[mdl q a x], [((a 2), .inl (g.2 0, 6, .inl (aI h)))], [((a 3), .inl (g.2 0, 18, .inl (aI o)))], [((a 13), .inl (g.2 1, 3, .inr (.inl (aL pp))))]] (qv g (fun (p2 : Nat → Int) => (p2 0 = (cP0 (x 0) h o s_ i f) ∧ p2 1 = (cP1 (x 0) h o s_ i f) ∧ p2 2 = (cP2 (x 0) h o s_ i f))) (fun (p2 : Nat → Int) => [[mdl q a (uI x 10 (cB h o s_ i f))], [((a 2), .inl (g.2 0, 6, .inl (aI h)))], [((a 3), .inl (g.2 0, 18, .inl (aI o)))], [((a 13), .inl (g.2 1, 3, .inr (.inl (aL p2))))]])) := by
  obtain ⟨hn1, hn2, hn3, hn4, hn5, hn6, hn7⟩ := id hN
  have hz0 := zUp_54 hN 0 hi
  have hz1 := zUp_54 hN 1 hi
  have hz2 := zUp_54 hN 2 hi
  refine z_ent (cc := cX10_layFault) (maxL := 12) (ret := none) (by decide) rfl (Nat.le_of_ble_eq_true rfl) ?_
  intro p e s m below meth c A ls hx hb hr hml hown hts hlocks hin0 hA hK hP hD hS hXX hl
  have hown : s.vm.findClass RX10 = some m.cls := hown
  have hin10_ : ∀ w ∈ wsX100, w ∈ wsX10_layFault := zw_in [12, 13, 14, 15, 16, 17, 18, 19, 20, 21, 22, 23, 24, 25, 26, 27, 28, 29, 30, 31, 32, 33, 34, 35, 36, 37] rfl
  have hl : lv_has ls 12 [(0, .ref q), (1, vI s_), (2, vI ((i : Nat) : Int)), (3, vI f)] := hl
  refine lv_aload_n hx hb dX10_layFault_0 rfl (lv_at hl 0 rfl) ?_
  refine lv_iload_n hx hb dX10_layFault_1 rfl (lv_at hl 2 rfl) ?_
  refine z_iconst hx hb dX10_layFault_2 rfl ?_
  refine z_cVi (As := [vI ((i : Nat) : Int), vI 0]) (rest := []) ⟨hx, hb, hml, hown, hts⟩ hK hP hD hS hA [0, 1, 2] [3] rfl rfl rfl (c_X10_upTo l g q a x h o i 0 hn5 (by omega) (by omega)) (cwV 2 hts gX10_layFault_X10_upTo rfl rfl rfl (by decide +kernel) ⟨Nat.le_of_ble_eq_true rfl, Nat.le_of_ble_eq_true rfl⟩) 10 0 rfl rfl rfl (fun _ _ _ _ _ _ => trivial) (fun _ _ _ => trivial) rfl hl.1 (Nat.le_of_ble_eq_true rfl) rfl dX10_layFault_3 ⟨Nat.le_of_ble_eq_true rfl, Nat.le_of_ble_eq_true rfl⟩ (fun u_1 H locs hwu_1 hP hD hS => ?_)
  try dsimp only at hwu_1
  have hP : zP g [[((a 13), .inl (g.2 1, 3, .inr (.inl (aL pp))))], [mdl q a x], [((a 2), .inl (g.2 0, 6, .inl (aI h)))], [((a 3), .inl (g.2 0, 18, .inl (aI o)))]] H := hP
  have hD : zD A [[((a 13), .inl (g.2 1, 3, .inr (.inl (aL pp))))], [mdl q a x], [((a 2), .inl (g.2 0, 6, .inl (aI h)))], [((a 3), .inl (g.2 0, 18, .inl (aI o)))]] := hD
  refine z_toI (zUp h o 0 i) rfl ?_
  refine z_i2l hx hb (by omega) dX10_layFault_6 ?_
  refine lv_lstore (lv' := [(4, vL (zUp h o 0 i)), (0, .ref q), (1, vI s_), (2, vI ((i : Nat) : Int)), (3, vI f)]) hx hb dX10_layFault_7 hl (by decide) rfl (fun ls hl => ?_)
  refine lv_aload_n hx hb dX10_layFault_9 rfl (lv_at hl 1 rfl) ?_
  refine lv_iload_n hx hb dX10_layFault_10 rfl (lv_at hl 3 rfl) ?_
  refine z_iconst hx hb dX10_layFault_11 rfl ?_
  refine z_cVi (As := [vI ((i : Nat) : Int), vI 1]) (rest := []) ⟨hx, hb, hml, hown, hts⟩ hK hP hD hS hA [1, 2, 3] [0] rfl rfl rfl (c_X10_upTo l g q a x h o i 1 hn5 (by omega) (by omega)) (cwV 2 hts gX10_layFault_X10_upTo rfl rfl rfl (by decide +kernel) ⟨Nat.le_of_ble_eq_true rfl, Nat.le_of_ble_eq_true rfl⟩) 10 0 rfl rfl rfl (fun _ _ _ _ _ _ => trivial) (fun _ _ _ => trivial) rfl hl.1 (Nat.le_of_ble_eq_true rfl) rfl dX10_layFault_12 ⟨Nat.le_of_ble_eq_true rfl, Nat.le_of_ble_eq_true rfl⟩ (fun u_2 H locs hwu_2 hP hD hS => ?_)
  try dsimp only at hwu_2
  have hP : zP g [[((a 13), .inl (g.2 1, 3, .inr (.inl (aL pp))))], [mdl q a x], [((a 2), .inl (g.2 0, 6, .inl (aI h)))], [((a 3), .inl (g.2 0, 18, .inl (aI o)))]] H := hP
  have hD : zD A [[((a 13), .inl (g.2 1, 3, .inr (.inl (aL pp))))], [mdl q a x], [((a 2), .inl (g.2 0, 6, .inl (aI h)))], [((a 3), .inl (g.2 0, 18, .inl (aI o)))]] := hD
  refine z_toI (zUp h o 1 i) rfl ?_
  refine z_i2l hx hb (by omega) dX10_layFault_15 ?_
  refine lv_lstore (lv' := [(6, vL (zUp h o 1 i)), (4, vL (zUp h o 0 i)), (0, .ref q), (1, vI s_), (2, vI ((i : Nat) : Int)), (3, vI f)]) hx hb dX10_layFault_16 hl (by decide) rfl (fun ls hl => ?_)
  refine lv_aload_n hx hb dX10_layFault_18 rfl (lv_at hl 2 rfl) ?_
  refine lv_iload_n hx hb dX10_layFault_19 rfl (lv_at hl 4 rfl) ?_
  refine z_iconst hx hb dX10_layFault_20 rfl ?_
  refine z_cVi (As := [vI ((i : Nat) : Int), vI 2]) (rest := []) ⟨hx, hb, hml, hown, hts⟩ hK hP hD hS hA [1, 2, 3] [0] rfl rfl rfl (c_X10_upTo l g q a x h o i 2 hn5 (by omega) (by omega)) (cwV 2 hts gX10_layFault_X10_upTo rfl rfl rfl (by decide +kernel) ⟨Nat.le_of_ble_eq_true rfl, Nat.le_of_ble_eq_true rfl⟩) 10 0 rfl rfl rfl (fun _ _ _ _ _ _ => trivial) (fun _ _ _ => trivial) rfl hl.1 (Nat.le_of_ble_eq_true rfl) rfl dX10_layFault_21 ⟨Nat.le_of_ble_eq_true rfl, Nat.le_of_ble_eq_true rfl⟩ (fun u_3 H locs hwu_3 hP hD hS => ?_)
  try dsimp only at hwu_3
  have hP : zP g [[((a 13), .inl (g.2 1, 3, .inr (.inl (aL pp))))], [mdl q a x], [((a 2), .inl (g.2 0, 6, .inl (aI h)))], [((a 3), .inl (g.2 0, 18, .inl (aI o)))]] H := hP
  have hD : zD A [[((a 13), .inl (g.2 1, 3, .inr (.inl (aL pp))))], [mdl q a x], [((a 2), .inl (g.2 0, 6, .inl (aI h)))], [((a 3), .inl (g.2 0, 18, .inl (aI o)))]] := hD
  refine z_toI (zUp h o 2 i) rfl ?_
  refine z_i2l hx hb (by omega) dX10_layFault_24 ?_
  refine lv_lstore (lv' := [(8, vL (zUp h o 2 i)), (6, vL (zUp h o 1 i)), (4, vL (zUp h o 0 i)), (0, .ref q), (1, vI s_), (2, vI ((i : Nat) : Int)), (3, vI f)]) hx hb dX10_layFault_25 hl (by decide) rfl (fun ls hl => ?_)
  refine lv_lload hx hb dX10_layFault_27 (lv_at hl 2 rfl) ?_
  refine z_ldc2 hx hb 3 hown (hts _ (List.mem_of_getElem? (i := 1) rfl)) rfl dX10_layFault_29 ?_
  refine lv_iload_n hx hb dX10_layFault_32 rfl (lv_at hl 6 rfl) ?_
  refine z_i2l hx hb (by omega) dX10_layFault_33 ?_
  refine z_lmul hx hb (3 * f) rfl dX10_layFault_34 ?_
  refine z_ladd hx hb ((zUp h o 0 i) + (3 * f)) rfl dX10_layFault_35 ?_
  refine z_toL (zUp h o 0 i + 3 * f) rfl ?_
  refine lv_lstore (lv' := [(10, vL (zUp h o 0 i + 3 * f)), (8, vL (zUp h o 2 i)), (6, vL (zUp h o 1 i)), (4, vL (zUp h o 0 i)), (0, .ref q), (1, vI s_), (2, vI ((i : Nat) : Int)), (3, vI f)]) hx hb dX10_layFault_36 hl (by decide) rfl (fun ls hl => ?_)
  refine lv_aload_n hx hb dX10_layFault_38 rfl (lv_at hl 4 rfl) ?_
  refine z_get hx hb hts hin10_ hown hK hP 1 rfl rfl 24 (by decide) (hts _ (List.mem_of_getElem? (i := 2) rfl)) rfl dX10_layFault_39 ?_
  refine z_iconst hx hb dX10_layFault_42 rfl ?_
  refine z_lconst hx hb 0 dX10_layFault_43 rfl ?_
  refine z_last hx hb hK hP 0 hD hS rfl 0 rfl (by decide) (by decide) dX10_layFault_44 [[((a 13), .inl (g.2 1, 3, .inr (.inl (aL (uI pp 0 0)))))], [mdl q a x], [((a 2), .inl (g.2 0, 6, .inl (aI h)))], [((a 3), .inl (g.2 0, 18, .inl (aI o)))]] rfl (fun H locs hP hD hS => ?_)
  refine lv_aload_n hx hb dX10_layFault_45 rfl (lv_at hl 4 rfl) ?_
  refine z_get hx hb hts hin10_ hown hK hP 1 rfl rfl 24 (by decide) (hts _ (List.mem_of_getElem? (i := 2) rfl)) rfl dX10_layFault_46 ?_
  refine z_iconst hx hb dX10_layFault_49 rfl ?_
  refine lv_aload_n hx hb dX10_layFault_50 rfl (lv_at hl 4 rfl) ?_
  refine z_get hx hb hts hin10_ hown hK hP 1 rfl rfl 2 (by decide) (hts _ (List.mem_of_getElem? (i := 3) rfl)) rfl dX10_layFault_51 ?_
  refine z_i2l hx hb (by omega) dX10_layFault_54 ?_
  refine z_last hx hb hK hP 0 hD hS rfl 1 rfl (by decide) (by decide) dX10_layFault_55 [[((a 13), .inl (g.2 1, 3, .inr (.inl (aL (uI (uI pp 0 0) 1 (x 0))))))], [mdl q a x], [((a 2), .inl (g.2 0, 6, .inl (aI h)))], [((a 3), .inl (g.2 0, 18, .inl (aI o)))]] rfl (fun H locs hP hD hS => ?_)
  refine lv_aload_n hx hb dX10_layFault_56 rfl (lv_at hl 4 rfl) ?_
  refine z_get hx hb hts hin10_ hown hK hP 1 rfl rfl 24 (by decide) (hts _ (List.mem_of_getElem? (i := 2) rfl)) rfl dX10_layFault_57 ?_
  refine z_iconst hx hb dX10_layFault_60 rfl ?_
  refine z_lconst hx hb 0 dX10_layFault_61 rfl ?_
  refine z_last hx hb hK hP 0 hD hS rfl 2 rfl (by decide) (by decide) dX10_layFault_62 [[((a 13), .inl (g.2 1, 3, .inr (.inl (aL (uI (uI (uI pp 0 0) 1 (x 0)) 2 0)))))], [mdl q a x], [((a 2), .inl (g.2 0, 6, .inl (aI h)))], [((a 3), .inl (g.2 0, 18, .inl (aI o)))]] rfl (fun H locs hP hD hS => ?_)
  refine lv_iload_n hx hb dX10_layFault_63 rfl (lv_at hl 5 rfl) ?_
  rcases (show s_ = 0 ∨ s_ = 1 ∨ s_ = 2 ∨ (s_ < 0 ∨ 2 < s_) by omega) with hc_4 | hc_4 | hc_4 | hc_4
  · refine z_swIn hx hb 0 92 hc_4 (by decide) dX10_layFault_64 (by decide) (by decide) rfl (by decide) ?_
    subst hc_4
    refine lv_aload_n hx hb dX10_layFault_92 rfl (lv_at hl 4 rfl) ?_
    refine lv_lload hx hb dX10_layFault_93 (lv_at hl 2 rfl) ?_
    refine lv_lload hx hb dX10_layFault_95 (lv_at hl 1 rfl) ?_
    refine z_ladd hx hb ((zUp h o 1 i) + (zUp h o 2 i)) rfl dX10_layFault_97 ?_
    refine lv_lload hx hb dX10_layFault_98 (lv_at hl 0 rfl) ?_
    refine z_ladd hx hb (((zUp h o 1 i) + (zUp h o 2 i)) + (zUp h o 0 i + 3 * f)) rfl dX10_layFault_100 ?_
    refine z_toL (cB h o 0 i f) (by unfold cB fBl; first | rfl | (simp; done) | (simp; omega) | omega) ?_
    refine z_put hx hb hts hin10_ tyX10 tyX10_ok nmX10 hown hK hP hD hS 1 rfl rfl 23 (by decide) (hts _ (List.mem_of_getElem? (i := 4) rfl)) rfl rfl rfl (Nat.le_of_ble_eq_true rfl) dX10_layFault_101 [[((a 13), .inl (g.2 1, 3, .inr (.inl (aL (uI (uI (uI pp 0 0) 1 (x 0)) 2 0)))))], [mdl q a (uI x 10 (cB h o 0 i f))], [((a 2), .inl (g.2 0, 6, .inl (aI h)))], [((a 3), .inl (g.2 0, 18, .inl (aI o)))]] rfl (fun H locs hP hD hS => ?_)
    refine lv_aload_n hx hb dX10_layFault_104 rfl (lv_at hl 4 rfl) ?_
    refine z_get hx hb hts hin10_ hown hK hP 1 rfl rfl 24 (by decide) (hts _ (List.mem_of_getElem? (i := 2) rfl)) rfl dX10_layFault_105 ?_
    refine z_iconst hx hb dX10_layFault_108 rfl ?_
    refine lv_aload_n hx hb dX10_layFault_109 rfl (lv_at hl 4 rfl) ?_
    refine z_get hx hb hts hin10_ hown hK hP 1 rfl rfl 2 (by decide) (hts _ (List.mem_of_getElem? (i := 3) rfl)) rfl dX10_layFault_110 ?_
    refine z_toI (x 0) rfl ?_
    refine z_i2l hx hb (by omega) dX10_layFault_113 ?_
    refine z_last hx hb hK hP 0 hD hS rfl 0 rfl (by decide) (by decide) dX10_layFault_114 [[((a 13), .inl (g.2 1, 3, .inr (.inl (aL (uI (uI (uI (uI pp 0 0) 1 (x 0)) 2 0) 0 (x 0))))))], [mdl q a (uI x 10 (cB h o 0 i f))], [((a 2), .inl (g.2 0, 6, .inl (aI h)))], [((a 3), .inl (g.2 0, 18, .inl (aI o)))]] rfl (fun H locs hP hD hS => ?_)
    refine lv_aload_n hx hb dX10_layFault_115 rfl (lv_at hl 4 rfl) ?_
    refine z_get hx hb hts hin10_ hown hK hP 1 rfl rfl 24 (by decide) (hts _ (List.mem_of_getElem? (i := 2) rfl)) rfl dX10_layFault_116 ?_
    refine z_iconst hx hb dX10_layFault_119 rfl ?_
    refine lv_aload_n hx hb dX10_layFault_120 rfl (lv_at hl 4 rfl) ?_
    refine z_get hx hb hts hin10_ hown hK hP 1 rfl rfl 2 (by decide) (hts _ (List.mem_of_getElem? (i := 3) rfl)) rfl dX10_layFault_121 ?_
    refine z_toI (x 0) rfl ?_
    refine z_i2l hx hb (by omega) dX10_layFault_124 ?_
    refine z_last hx hb hK hP 0 hD hS rfl 2 rfl (by decide) (by decide) dX10_layFault_125 [[((a 13), .inl (g.2 1, 3, .inr (.inl (aL (uI (uI (uI (uI (uI pp 0 0) 1 (x 0)) 2 0) 0 (x 0)) 2 (x 0))))))], [mdl q a (uI x 10 (cB h o 0 i f))], [((a 2), .inl (g.2 0, 6, .inl (aI h)))], [((a 3), .inl (g.2 0, 18, .inl (aI o)))]] rfl (fun H locs hP hD hS => ?_)
    refine lv_goto (tgt := 236) hx hb dX10_layFault_126 (by decide) ?_
    exact z_retv (uI (uI (uI (uI (uI pp 0 0) 1 (x 0)) 2 0) 0 (x 0)) 2 (x 0)) [1, 2, 3, 0] hx hb hr hlocks hK hP hD hS ⟨rfl, rfl, rfl⟩ rfl rfl (rfl) (Nat.le_of_ble_eq_true rfl) (Nat.le_of_ble_eq_true rfl) dX10_layFault_236
  · refine z_swIn hx hb 1 129 hc_4 (by decide) dX10_layFault_64 (by decide) (by decide) rfl (by decide) ?_
    subst hc_4
    refine lv_aload_n hx hb dX10_layFault_129 rfl (lv_at hl 4 rfl) ?_
    refine lv_lload hx hb dX10_layFault_130 (lv_at hl 2 rfl) ?_
    refine lv_lload hx hb dX10_layFault_132 (lv_at hl 1 rfl) ?_
    refine z_ladd hx hb ((zUp h o 1 i) + (zUp h o 2 i)) rfl dX10_layFault_134 ?_
    refine lv_iload_n hx hb dX10_layFault_135 rfl (lv_at hl 7 rfl) ?_
    refine z_i2l hx hb (by omega) dX10_layFault_136 ?_
    refine z_ladd hx hb (((zUp h o 1 i) + (zUp h o 2 i)) + f) rfl dX10_layFault_137 ?_
    refine z_toL (cB h o 1 i f) (by unfold cB fBl; first | rfl | (simp; done) | (simp; omega) | omega) ?_
    refine z_put hx hb hts hin10_ tyX10 tyX10_ok nmX10 hown hK hP hD hS 1 rfl rfl 23 (by decide) (hts _ (List.mem_of_getElem? (i := 4) rfl)) rfl rfl rfl (Nat.le_of_ble_eq_true rfl) dX10_layFault_138 [[((a 13), .inl (g.2 1, 3, .inr (.inl (aL (uI (uI (uI pp 0 0) 1 (x 0)) 2 0)))))], [mdl q a (uI x 10 (cB h o 1 i f))], [((a 2), .inl (g.2 0, 6, .inl (aI h)))], [((a 3), .inl (g.2 0, 18, .inl (aI o)))]] rfl (fun H locs hP hD hS => ?_)
    refine lv_aload_n hx hb dX10_layFault_141 rfl (lv_at hl 4 rfl) ?_
    refine z_get hx hb hts hin10_ hown hK hP 1 rfl rfl 24 (by decide) (hts _ (List.mem_of_getElem? (i := 2) rfl)) rfl dX10_layFault_142 ?_
    refine z_iconst hx hb dX10_layFault_145 rfl ?_
    refine lv_aload_n hx hb dX10_layFault_146 rfl (lv_at hl 4 rfl) ?_
    refine z_get hx hb hts hin10_ hown hK hP 1 rfl rfl 2 (by decide) (hts _ (List.mem_of_getElem? (i := 3) rfl)) rfl dX10_layFault_147 ?_
    refine z_toI (x 0) rfl ?_
    refine z_ineg hx hb (-(x 0)) rfl dX10_layFault_150 ?_
    refine z_i2l hx hb (by omega) dX10_layFault_151 ?_
    refine z_last hx hb hK hP 0 hD hS rfl 2 rfl (by decide) (by decide) dX10_layFault_152 [[((a 13), .inl (g.2 1, 3, .inr (.inl (aL (uI (uI (uI (uI pp 0 0) 1 (x 0)) 2 0) 2 (-(x 0)))))))], [mdl q a (uI x 10 (cB h o 1 i f))], [((a 2), .inl (g.2 0, 6, .inl (aI h)))], [((a 3), .inl (g.2 0, 18, .inl (aI o)))]] rfl (fun H locs hP hD hS => ?_)
    refine lv_goto (tgt := 236) hx hb dX10_layFault_153 (by decide) ?_
    exact z_retv (uI (uI (uI (uI pp 0 0) 1 (x 0)) 2 0) 2 (-(x 0))) [1, 2, 3, 0] hx hb hr hlocks hK hP hD hS ⟨rfl, rfl, rfl⟩ rfl rfl (rfl) (Nat.le_of_ble_eq_true rfl) (Nat.le_of_ble_eq_true rfl) dX10_layFault_236
  · refine z_swIn hx hb 2 156 hc_4 (by decide) dX10_layFault_64 (by decide) (by decide) rfl (by decide) ?_
    subst hc_4
    refine lv_aload_n hx hb dX10_layFault_156 rfl (lv_at hl 4 rfl) ?_
    refine lv_lload hx hb dX10_layFault_157 (lv_at hl 2 rfl) ?_
    refine lv_lload hx hb dX10_layFault_159 (lv_at hl 1 rfl) ?_
    refine z_lmul hx hb ((zUp h o 1 i) * (zUp h o 2 i)) rfl dX10_layFault_161 ?_
    refine lv_lload hx hb dX10_layFault_162 (lv_at hl 2 rfl) ?_
    refine lv_lload hx hb dX10_layFault_164 (lv_at hl 0 rfl) ?_
    refine z_lmul hx hb ((zUp h o 1 i) * (zUp h o 0 i + 3 * f)) rfl dX10_layFault_166 ?_
    refine z_ladd hx hb (((zUp h o 1 i) * (zUp h o 2 i)) + ((zUp h o 1 i) * (zUp h o 0 i + 3 * f))) rfl dX10_layFault_167 ?_
    refine lv_lload hx hb dX10_layFault_168 (lv_at hl 1 rfl) ?_
    refine lv_lload hx hb dX10_layFault_170 (lv_at hl 0 rfl) ?_
    refine z_lmul hx hb ((zUp h o 2 i) * (zUp h o 0 i + 3 * f)) rfl dX10_layFault_172 ?_
    refine z_ladd hx hb ((((zUp h o 1 i) * (zUp h o 2 i)) + ((zUp h o 1 i) * (zUp h o 0 i + 3 * f))) + ((zUp h o 2 i) * (zUp h o 0 i + 3 * f))) rfl dX10_layFault_173 ?_
    refine z_toL (cB h o 2 i f) (by unfold cB fBl; first | rfl | (simp; done) | (simp; omega) | omega) ?_
    refine z_put hx hb hts hin10_ tyX10 tyX10_ok nmX10 hown hK hP hD hS 1 rfl rfl 23 (by decide) (hts _ (List.mem_of_getElem? (i := 4) rfl)) rfl rfl rfl (Nat.le_of_ble_eq_true rfl) dX10_layFault_174 [[((a 13), .inl (g.2 1, 3, .inr (.inl (aL (uI (uI (uI pp 0 0) 1 (x 0)) 2 0)))))], [mdl q a (uI x 10 (cB h o 2 i f))], [((a 2), .inl (g.2 0, 6, .inl (aI h)))], [((a 3), .inl (g.2 0, 18, .inl (aI o)))]] rfl (fun H locs hP hD hS => ?_)
    refine lv_aload_n hx hb dX10_layFault_177 rfl (lv_at hl 4 rfl) ?_
    refine z_get hx hb hts hin10_ hown hK hP 1 rfl rfl 24 (by decide) (hts _ (List.mem_of_getElem? (i := 2) rfl)) rfl dX10_layFault_178 ?_
    refine z_iconst hx hb dX10_layFault_181 rfl ?_
    refine lv_aload_n hx hb dX10_layFault_182 rfl (lv_at hl 4 rfl) ?_
    refine z_get hx hb hts hin10_ hown hK hP 1 rfl rfl 2 (by decide) (hts _ (List.mem_of_getElem? (i := 3) rfl)) rfl dX10_layFault_183 ?_
    refine z_toI (x 0) rfl ?_
    refine z_ineg hx hb (-(x 0)) rfl dX10_layFault_186 ?_
    refine z_i2l hx hb (by omega) dX10_layFault_187 ?_
    refine lv_lload hx hb dX10_layFault_188 (lv_at hl 1 rfl) ?_
    refine z_lmul hx hb ((-(x 0)) * (zUp h o 2 i)) rfl dX10_layFault_190 ?_
    refine z_last hx hb hK hP 0 hD hS rfl 0 rfl (by decide) (by decide) dX10_layFault_191 [[((a 13), .inl (g.2 1, 3, .inr (.inl (aL (uI (uI (uI (uI pp 0 0) 1 (x 0)) 2 0) 0 ((-(x 0)) * (zUp h o 2 i)))))))], [mdl q a (uI x 10 (cB h o 2 i f))], [((a 2), .inl (g.2 0, 6, .inl (aI h)))], [((a 3), .inl (g.2 0, 18, .inl (aI o)))]] rfl (fun H locs hP hD hS => ?_)
    refine lv_aload_n hx hb dX10_layFault_192 rfl (lv_at hl 4 rfl) ?_
    refine z_get hx hb hts hin10_ hown hK hP 1 rfl rfl 24 (by decide) (hts _ (List.mem_of_getElem? (i := 2) rfl)) rfl dX10_layFault_193 ?_
    refine z_iconst hx hb dX10_layFault_196 rfl ?_
    refine lv_aload_n hx hb dX10_layFault_197 rfl (lv_at hl 4 rfl) ?_
    refine z_get hx hb hts hin10_ hown hK hP 1 rfl rfl 2 (by decide) (hts _ (List.mem_of_getElem? (i := 3) rfl)) rfl dX10_layFault_198 ?_
    refine z_toI (x 0) rfl ?_
    refine z_i2l hx hb (by omega) dX10_layFault_201 ?_
    refine lv_lload hx hb dX10_layFault_202 (lv_at hl 1 rfl) ?_
    refine lv_lload hx hb dX10_layFault_204 (lv_at hl 0 rfl) ?_
    refine z_ladd hx hb ((zUp h o 2 i) + (zUp h o 0 i + 3 * f)) rfl dX10_layFault_206 ?_
    refine z_lmul hx hb ((x 0) * ((zUp h o 2 i) + (zUp h o 0 i + 3 * f))) rfl dX10_layFault_207 ?_
    refine z_last hx hb hK hP 0 hD hS rfl 1 rfl (by decide) (by decide) dX10_layFault_208 [[((a 13), .inl (g.2 1, 3, .inr (.inl (aL (uI (uI (uI (uI (uI pp 0 0) 1 (x 0)) 2 0) 0 ((-(x 0)) * (zUp h o 2 i))) 1 ((x 0) * ((zUp h o 2 i) + (zUp h o 0 i + 3 * f))))))))], [mdl q a (uI x 10 (cB h o 2 i f))], [((a 2), .inl (g.2 0, 6, .inl (aI h)))], [((a 3), .inl (g.2 0, 18, .inl (aI o)))]] rfl (fun H locs hP hD hS => ?_)
    refine lv_aload_n hx hb dX10_layFault_209 rfl (lv_at hl 4 rfl) ?_
    refine z_get hx hb hts hin10_ hown hK hP 1 rfl rfl 24 (by decide) (hts _ (List.mem_of_getElem? (i := 2) rfl)) rfl dX10_layFault_210 ?_
    refine z_iconst hx hb dX10_layFault_213 rfl ?_
    refine lv_aload_n hx hb dX10_layFault_214 rfl (lv_at hl 4 rfl) ?_
    refine z_get hx hb hts hin10_ hown hK hP 1 rfl rfl 2 (by decide) (hts _ (List.mem_of_getElem? (i := 3) rfl)) rfl dX10_layFault_215 ?_
    refine z_toI (x 0) rfl ?_
    refine z_ineg hx hb (-(x 0)) rfl dX10_layFault_218 ?_
    refine z_i2l hx hb (by omega) dX10_layFault_219 ?_
    refine lv_lload hx hb dX10_layFault_220 (lv_at hl 0 rfl) ?_
    refine z_lmul hx hb ((-(x 0)) * (zUp h o 0 i + 3 * f)) rfl dX10_layFault_222 ?_
    refine z_last hx hb hK hP 0 hD hS rfl 2 rfl (by decide) (by decide) dX10_layFault_223 [[((a 13), .inl (g.2 1, 3, .inr (.inl (aL (uI (uI (uI (uI (uI (uI pp 0 0) 1 (x 0)) 2 0) 0 ((-(x 0)) * (zUp h o 2 i))) 1 ((x 0) * ((zUp h o 2 i) + (zUp h o 0 i + 3 * f)))) 2 ((-(x 0)) * (zUp h o 0 i + 3 * f)))))))], [mdl q a (uI x 10 (cB h o 2 i f))], [((a 2), .inl (g.2 0, 6, .inl (aI h)))], [((a 3), .inl (g.2 0, 18, .inl (aI o)))]] rfl (fun H locs hP hD hS => ?_)
    refine lv_goto (tgt := 236) hx hb dX10_layFault_224 (by decide) ?_
    exact z_retv (uI (uI (uI (uI (uI (uI pp 0 0) 1 (x 0)) 2 0) 0 ((-(x 0)) * (zUp h o 2 i))) 1 ((x 0) * ((zUp h o 2 i) + (zUp h o 0 i + 3 * f)))) 2 ((-(x 0)) * (zUp h o 0 i + 3 * f))) [1, 2, 3, 0] hx hb hr hlocks hK hP hD hS ⟨rfl, rfl, rfl⟩ rfl rfl (rfl) (Nat.le_of_ble_eq_true rfl) (Nat.le_of_ble_eq_true rfl) dX10_layFault_236
  · refine z_swOut hx hb 227 (by omega) dX10_layFault_64 hc_4 (by decide) ?_
    obtain rfl : s_ = 3 := by omega
    refine lv_aload_n hx hb dX10_layFault_227 rfl (lv_at hl 4 rfl) ?_
    refine lv_lload hx hb dX10_layFault_228 (lv_at hl 2 rfl) ?_
    refine lv_iload_n hx hb dX10_layFault_230 rfl (lv_at hl 7 rfl) ?_
    refine z_i2l hx hb (by omega) dX10_layFault_231 ?_
    refine z_ladd hx hb ((zUp h o 1 i) + f) rfl dX10_layFault_232 ?_
    refine z_toL (cB h o 3 i f) (by unfold cB fBl; first | rfl | (simp; done) | (simp; omega) | omega) ?_
    refine z_put hx hb hts hin10_ tyX10 tyX10_ok nmX10 hown hK hP hD hS 1 rfl rfl 23 (by decide) (hts _ (List.mem_of_getElem? (i := 4) rfl)) rfl rfl rfl (Nat.le_of_ble_eq_true rfl) dX10_layFault_233 [[((a 13), .inl (g.2 1, 3, .inr (.inl (aL (uI (uI (uI pp 0 0) 1 (x 0)) 2 0)))))], [mdl q a (uI x 10 (cB h o 3 i f))], [((a 2), .inl (g.2 0, 6, .inl (aI h)))], [((a 3), .inl (g.2 0, 18, .inl (aI o)))]] rfl (fun H locs hP hD hS => ?_)
    exact z_retv (uI (uI (uI pp 0 0) 1 (x 0)) 2 0) [1, 2, 3, 0] hx hb hr hlocks hK hP hD hS ⟨rfl, rfl, rfl⟩ rfl rfl (rfl) (Nat.le_of_ble_eq_true rfl) (Nat.le_of_ble_eq_true rfl) dX10_layFault_236
