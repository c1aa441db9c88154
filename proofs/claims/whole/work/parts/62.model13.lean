set_option maxHeartbeats 4000000 in
set_option maxRecDepth 100000 in
theorem c_X10_mixS_over (l : Launch) (g : zG) (q : Nat) (a : Nat → Nat) (x : Nat → Int) (S : RS) (hz : S.2.2 = 0 ∨ S.2.2 = 1) (hk : ∀ j, j < 6 → rk S j) (hM : (rMx 2 1 true 2 (rMx 1 2 true 1 (rMx 0 0 true 0 (rZ0 S)))).2.2 = 1) : zMet l g yX10_mixed wsX10_mixed 6 0 0 [.ref q, vI 1, vI 2, vI 1] zX0 [[mdl q a (uI x 9 S.2.2)], [((a 0), .inl (g.2 1, 88, .inr (.inl (aL S.1))))], [((a 1), .inl (g.2 1, 88, .inr (.inl (aL S.2.1))))]] (qi g (fun (_ : Unit) => (-2000000004)) (fun (_ : Unit) => True) (fun (_ : Unit) => [[mdl q a (uI x 9 (rMx 2 1 true 2 (rMx 1 2 true 1 (rMx 0 0 true 0 (rZ0 S)))).2.2)], [((a 0), .inl (g.2 1, 88, .inr (.inl (aL (rMx 2 1 true 2 (rMx 1 2 true 1 (rMx 0 0 true 0 (rZ0 S)))).1))))], [((a 1), .inl (g.2 1, 88, .inr (.inl (aL (rMx 2 1 true 2 (rMx 1 2 true 1 (rMx 0 0 true 0 (rZ0 S)))).2.1))))]])) := by
  refine z_ent (cc := cX10_mixed) (maxL := 5) (ret := (some .int)) (by decide) rfl (Nat.le_of_ble_eq_true rfl) ?_
  intro p e s m below meth c A ls hx hb hr hml hown hts hlocks hin0 hA hK hP hD hS hXX hl
  have hown : s.vm.findClass RX10 = some m.cls := hown
  have hin10_ : ∀ w ∈ wsX100, w ∈ wsX10_mixed := zw_in [61, 62, 63, 64, 65, 66, 67, 68, 69, 70, 71, 72, 73, 74, 75, 76, 77, 78, 79, 80, 81, 82, 83, 84, 85, 86] rfl
  have hl : lv_has ls 5 [(0, .ref q), (1, vI 1), (2, vI 2), (3, vI 1)] := hl
  refine lv_aload_n hx hb dX10_mixed_0 rfl (lv_at hl 0 rfl) ?_
  refine z_iconst hx hb dX10_mixed_1 rfl ?_
  refine z_put hx hb hts hin10_ tyX10 tyX10_ok nmX10 hown hK hP hD hS 0 rfl rfl 22 (by decide) (hts _ (List.mem_of_getElem? (i := 1) rfl)) rfl (nar_z (by decide)) (fit_z (by decide)) (Nat.le_of_ble_eq_true rfl) dX10_mixed_2 [[mdl q a (uI x 9 0)], [((a 0), .inl (g.2 1, 88, .inr (.inl (aL S.1))))], [((a 1), .inl (g.2 1, 88, .inr (.inl (aL S.2.1))))]] rfl (fun H locs hP hD hS => ?_)
  obtain ⟨T_1, hT_1⟩ : ∃ T : RS, T = rZ0  S := ⟨_, rfl⟩
  have hP : zP g [[mdl q a (uI x 9 T_1.2.2)], [((a 0), .inl (g.2 1, 88, .inr (.inl (aL T_1.1))))], [((a 1), .inl (g.2 1, 88, .inr (.inl (aL T_1.2.1))))]] H := by rw [hT_1]; exact hP
  have hD : zD A [[mdl q a (uI x 9 T_1.2.2)], [((a 0), .inl (g.2 1, 88, .inr (.inl (aL T_1.1))))], [((a 1), .inl (g.2 1, 88, .inr (.inl (aL T_1.2.1))))]] := by rw [hT_1]; exact hD
  have hZT_1 : T_1.2.2 = 0 ∨ T_1.2.2 = 1 := by rw [hT_1]; exact rZ0_01 hz
  have hNT_1_0 : T_1.2.2 = 0 → rk T_1 0 := by rw [hT_1]; exact rZ0_r (hk 0 (by decide)) 
  have hNT_1_1 : T_1.2.2 = 0 → rk T_1 1 := by rw [hT_1]; exact rZ0_r (hk 1 (by decide)) 
  have hNT_1_2 : T_1.2.2 = 0 → rk T_1 2 := by rw [hT_1]; exact rZ0_r (hk 2 (by decide)) 
  have hNT_1_3 : T_1.2.2 = 0 → rk T_1 3 := by rw [hT_1]; exact rZ0_r (hk 3 (by decide)) 
  have hNT_1_4 : T_1.2.2 = 0 → rk T_1 4 := by rw [hT_1]; exact rZ0_r (hk 4 (by decide)) 
  have hNT_1_5 : T_1.2.2 = 0 → rk T_1 5 := by rw [hT_1]; exact rZ0_r (hk 5 (by decide)) 
  refine z_iconst hx hb dX10_mixed_5 rfl ?_
  refine lv_istore (lv' := [(4, vI 0), (0, .ref q), (1, vI 1), (2, vI 2), (3, vI 1)]) hx hb dX10_mixed_6 hl (by decide) rfl (fun ls hl => ?_)
  refine lv_iload hx hb dX10_mixed_8 (lv_at hl 0 rfl) ?_
  refine z_iconst hx hb dX10_mixed_10 rfl ?_
  refine z_icmp_ge (tgt := 72) hx hb (by decide) (by decide) dX10_mixed_11 (by decide) (fun cq2 => False.elim (by omega)) (fun cq2 => ?_)
  refine lv_aload_n hx hb dX10_mixed_14 rfl (lv_at hl 1 rfl) ?_
  refine z_bipush hx hb 72 dX10_mixed_15 rfl ?_
  refine z_iconst hx hb dX10_mixed_17 rfl ?_
  refine z_cVv (As := [vI 72, vI 0]) (rest := []) ⟨hx, hb, hml, hown, hts⟩ hK hP hD hS hA [0, 1, 2] [] rfl rfl rfl (c_X10_copyTo l g q a (uI x 9 T_1.2.2) T_1 72 0 (by omega) (by omega)) (cwV 2 hts gX10_mixed_X10_copyTo rfl rfl rfl (by decide +kernel) ⟨Nat.le_of_ble_eq_true rfl, Nat.le_of_ble_eq_true rfl⟩) 10 0 rfl rfl rfl (fun _ _ _ _ _ _ => trivial) (fun _ _ _ => trivial) rfl hl.1 (Nat.le_of_ble_eq_true rfl) rfl dX10_mixed_18 ⟨Nat.le_of_ble_eq_true rfl, Nat.le_of_ble_eq_true rfl⟩ (fun u_3 H locs hwu_3 hP hD hS => ?_)
  try dsimp only at hwu_3
  have hP : zP g [[mdl q a (uI x 9 T_1.2.2)], [((a 0), .inl (g.2 1, 88, .inr (.inl (aL (rCp 72 0 T_1).1))))], [((a 1), .inl (g.2 1, 88, .inr (.inl (aL (rCp 72 0 T_1).2.1))))]] H := hP
  have hD : zD A [[mdl q a (uI x 9 T_1.2.2)], [((a 0), .inl (g.2 1, 88, .inr (.inl (aL (rCp 72 0 T_1).1))))], [((a 1), .inl (g.2 1, 88, .inr (.inl (aL (rCp 72 0 T_1).2.1))))]] := hD
  obtain ⟨T_4, hT_4⟩ : ∃ T : RS, T = rCp 72 0 T_1 := ⟨_, rfl⟩
  have hP : zP g [[mdl q a (uI x 9 T_4.2.2)], [((a 0), .inl (g.2 1, 88, .inr (.inl (aL T_4.1))))], [((a 1), .inl (g.2 1, 88, .inr (.inl (aL T_4.2.1))))]] H := by rw [hT_4]; exact hP
  have hD : zD A [[mdl q a (uI x 9 T_4.2.2)], [((a 0), .inl (g.2 1, 88, .inr (.inl (aL T_4.1))))], [((a 1), .inl (g.2 1, 88, .inr (.inl (aL T_4.2.1))))]] := by rw [hT_4]; exact hD
  have hZT_4 : T_4.2.2 = 0 ∨ T_4.2.2 = 1 := by rw [hT_4]; exact hZT_1
  have hRT_4_0 : T_4.2.2 = 0 → rk T_4 0 := by rw [hT_4]; exact rCp_rk (by omega) (by omega) hNT_1_0
  have hRT_4_1 : T_4.2.2 = 0 → rk T_4 1 := by rw [hT_4]; exact rCp_rk (by omega) (by omega) hNT_1_1
  have hRT_4_2 : T_4.2.2 = 0 → rk T_4 2 := by rw [hT_4]; exact rCp_rk (by omega) (by omega) hNT_1_2
  have hRT_4_3 : T_4.2.2 = 0 → rk T_4 3 := by rw [hT_4]; exact rCp_rk (by omega) (by omega) hNT_1_3
  have hRT_4_4 : T_4.2.2 = 0 → rk T_4 4 := by rw [hT_4]; exact rCp_rk (by omega) (by omega) hNT_1_4
  have hRT_4_5 : T_4.2.2 = 0 → rk T_4 5 := by rw [hT_4]; exact rCp_rk (by omega) (by omega) hNT_1_5
  have hNT_4_0 : T_4.2.2 = 0 → rk T_4 72 := by rw [hT_4]; exact rCp_r0 hNT_1_0
  have hNT_4_1 : T_4.2.2 = 0 → rk T_4 73 := by rw [hT_4]; exact rCp_r1 (by omega) hNT_1_1
  refine lv_aload_n hx hb dX10_mixed_21 rfl (lv_at hl 1 rfl) ?_
  refine z_iconst hx hb dX10_mixed_22 rfl ?_
  refine lv_iload hx hb dX10_mixed_23 (lv_at hl 0 rfl) ?_
  refine lv_iload_n hx hb dX10_mixed_25 rfl (lv_at hl 2 rfl) ?_
  refine z_imul hx hb 0 rfl dX10_mixed_26 ?_
  refine z_iconst hx hb dX10_mixed_27 rfl ?_
  refine z_irem hx hb 0 (by decide) (by decide) rfl dX10_mixed_28 ?_
  refine z_cVv (As := [vI 2, vI 0]) (rest := []) ⟨hx, hb, hml, hown, hts⟩ hK hP hD hS hA [0, 1, 2] [] rfl rfl rfl (c_X10_addTurned0 l g q a (uI x 9 T_4.2.2) T_4 2 (by omega) hZT_4 hRT_4_2 hRT_4_3 hNT_4_0 hNT_4_1) (cwV 2 hts gX10_mixed_X10_addTurned rfl rfl rfl (by decide +kernel) ⟨Nat.le_of_ble_eq_true rfl, Nat.le_of_ble_eq_true rfl⟩) 10 0 rfl rfl rfl (fun _ _ _ _ _ _ => trivial) (fun _ _ _ => trivial) rfl hl.1 (Nat.le_of_ble_eq_true rfl) rfl dX10_mixed_29 ⟨Nat.le_of_ble_eq_true rfl, Nat.le_of_ble_eq_true rfl⟩ (fun u_5 H locs hwu_5 hP hD hS => ?_)
  try dsimp only at hwu_5
  have hP : zP g [[mdl q a (uI x 9 (rAt 2 0 T_4).2.2)], [((a 0), .inl (g.2 1, 88, .inr (.inl (aL (rAt 2 0 T_4).1))))], [((a 1), .inl (g.2 1, 88, .inr (.inl (aL (rAt 2 0 T_4).2.1))))]] H := hP
  have hD : zD A [[mdl q a (uI x 9 (rAt 2 0 T_4).2.2)], [((a 0), .inl (g.2 1, 88, .inr (.inl (aL (rAt 2 0 T_4).1))))], [((a 1), .inl (g.2 1, 88, .inr (.inl (aL (rAt 2 0 T_4).2.1))))]] := hD
  obtain ⟨T_6, hT_6⟩ : ∃ T : RS, T = rAt 2 0 T_4 := ⟨_, rfl⟩
  have hP : zP g [[mdl q a (uI x 9 T_6.2.2)], [((a 0), .inl (g.2 1, 88, .inr (.inl (aL T_6.1))))], [((a 1), .inl (g.2 1, 88, .inr (.inl (aL T_6.2.1))))]] H := by rw [hT_6]; exact hP
  have hD : zD A [[mdl q a (uI x 9 T_6.2.2)], [((a 0), .inl (g.2 1, 88, .inr (.inl (aL T_6.1))))], [((a 1), .inl (g.2 1, 88, .inr (.inl (aL T_6.2.1))))]] := by rw [hT_6]; exact hD
  have hZT_6 : T_6.2.2 = 0 ∨ T_6.2.2 = 1 := by rw [hT_6]; exact rAt_01 hZT_4
  have hRT_6_0 : T_6.2.2 = 0 → rk T_6 0 := by rw [hT_6]; exact rAt_rk (by omega) hRT_4_0
  have hRT_6_1 : T_6.2.2 = 0 → rk T_6 1 := by rw [hT_6]; exact rAt_rk (by omega) hRT_4_1
  have hRT_6_2 : T_6.2.2 = 0 → rk T_6 2 := by rw [hT_6]; exact rAt_rk (by omega) hRT_4_2
  have hRT_6_3 : T_6.2.2 = 0 → rk T_6 3 := by rw [hT_6]; exact rAt_rk (by omega) hRT_4_3
  have hRT_6_4 : T_6.2.2 = 0 → rk T_6 4 := by rw [hT_6]; exact rAt_rk (by omega) hRT_4_4
  have hRT_6_5 : T_6.2.2 = 0 → rk T_6 5 := by rw [hT_6]; exact rAt_rk (by omega) hRT_4_5
  have hNT_6_0 : T_6.2.2 = 0 → rk T_6 72 := by rw [hT_6]; exact rAt_r0 (by omega) hRT_4_2 hRT_4_3 hNT_4_0
  have hNT_6_1 : T_6.2.2 = 0 → rk T_6 73 := by rw [hT_6]; exact rAt_r1 (by omega) hRT_4_2 hRT_4_3 hNT_4_1
  refine lv_aload_n hx hb dX10_mixed_32 rfl (lv_at hl 1 rfl) ?_
  refine z_iconst hx hb dX10_mixed_33 rfl ?_
  refine lv_iload hx hb dX10_mixed_34 (lv_at hl 0 rfl) ?_
  refine lv_iload_n hx hb dX10_mixed_36 rfl (lv_at hl 3 rfl) ?_
  refine z_imul hx hb 0 rfl dX10_mixed_37 ?_
  refine z_iconst hx hb dX10_mixed_38 rfl ?_
  refine z_irem hx hb 0 (by decide) (by decide) rfl dX10_mixed_39 ?_
  refine z_cVv (As := [vI 4, vI 0]) (rest := []) ⟨hx, hb, hml, hown, hts⟩ hK hP hD hS hA [0, 1, 2] [] rfl rfl rfl (c_X10_addTurned0 l g q a (uI x 9 T_6.2.2) T_6 4 (by omega) hZT_6 hRT_6_4 hRT_6_5 hNT_6_0 hNT_6_1) (cwV 2 hts gX10_mixed_X10_addTurned rfl rfl rfl (by decide +kernel) ⟨Nat.le_of_ble_eq_true rfl, Nat.le_of_ble_eq_true rfl⟩) 10 0 rfl rfl rfl (fun _ _ _ _ _ _ => trivial) (fun _ _ _ => trivial) rfl hl.1 (Nat.le_of_ble_eq_true rfl) rfl dX10_mixed_40 ⟨Nat.le_of_ble_eq_true rfl, Nat.le_of_ble_eq_true rfl⟩ (fun u_7 H locs hwu_7 hP hD hS => ?_)
  try dsimp only at hwu_7
  have hP : zP g [[mdl q a (uI x 9 (rAt 4 0 T_6).2.2)], [((a 0), .inl (g.2 1, 88, .inr (.inl (aL (rAt 4 0 T_6).1))))], [((a 1), .inl (g.2 1, 88, .inr (.inl (aL (rAt 4 0 T_6).2.1))))]] H := hP
  have hD : zD A [[mdl q a (uI x 9 (rAt 4 0 T_6).2.2)], [((a 0), .inl (g.2 1, 88, .inr (.inl (aL (rAt 4 0 T_6).1))))], [((a 1), .inl (g.2 1, 88, .inr (.inl (aL (rAt 4 0 T_6).2.1))))]] := hD
  obtain ⟨T_8, hT_8⟩ : ∃ T : RS, T = rAt 4 0 T_6 := ⟨_, rfl⟩
  have hP : zP g [[mdl q a (uI x 9 T_8.2.2)], [((a 0), .inl (g.2 1, 88, .inr (.inl (aL T_8.1))))], [((a 1), .inl (g.2 1, 88, .inr (.inl (aL T_8.2.1))))]] H := by rw [hT_8]; exact hP
  have hD : zD A [[mdl q a (uI x 9 T_8.2.2)], [((a 0), .inl (g.2 1, 88, .inr (.inl (aL T_8.1))))], [((a 1), .inl (g.2 1, 88, .inr (.inl (aL T_8.2.1))))]] := by rw [hT_8]; exact hD
  have hZT_8 : T_8.2.2 = 0 ∨ T_8.2.2 = 1 := by rw [hT_8]; exact rAt_01 hZT_6
  have hRT_8_0 : T_8.2.2 = 0 → rk T_8 0 := by rw [hT_8]; exact rAt_rk (by omega) hRT_6_0
  have hRT_8_1 : T_8.2.2 = 0 → rk T_8 1 := by rw [hT_8]; exact rAt_rk (by omega) hRT_6_1
  have hRT_8_2 : T_8.2.2 = 0 → rk T_8 2 := by rw [hT_8]; exact rAt_rk (by omega) hRT_6_2
  have hRT_8_3 : T_8.2.2 = 0 → rk T_8 3 := by rw [hT_8]; exact rAt_rk (by omega) hRT_6_3
  have hRT_8_4 : T_8.2.2 = 0 → rk T_8 4 := by rw [hT_8]; exact rAt_rk (by omega) hRT_6_4
  have hRT_8_5 : T_8.2.2 = 0 → rk T_8 5 := by rw [hT_8]; exact rAt_rk (by omega) hRT_6_5
  have hNT_8_0 : T_8.2.2 = 0 → rk T_8 72 := by rw [hT_8]; exact rAt_r0 (by omega) hRT_6_4 hRT_6_5 hNT_6_0
  have hNT_8_1 : T_8.2.2 = 0 → rk T_8 73 := by rw [hT_8]; exact rAt_r1 (by omega) hRT_6_4 hRT_6_5 hNT_6_1
  refine lv_iload_n hx hb dX10_mixed_43 rfl (lv_at hl 4 rfl) ?_
  refine z_if_eq (tgt := 53) hx hb (by decide) dX10_mixed_44 (by decide) (fun cq9 => False.elim (by omega)) (fun cq9 => ?_)
  refine lv_aload_n hx hb dX10_mixed_47 rfl (lv_at hl 1 rfl) ?_
  refine z_bipush hx hb 72 dX10_mixed_48 rfl ?_
  refine z_cVv (As := [vI 72]) (rest := []) ⟨hx, hb, hml, hown, hts⟩ hK hP hD hS hA [0, 1, 2] [] rfl rfl rfl (c_X10_third l g q a (uI x 9 T_8.2.2) T_8 72 (by omega) hZT_8 hNT_8_0 hNT_8_1) (cwV 1 hts gX10_mixed_X10_third rfl rfl rfl (by decide +kernel) ⟨Nat.le_of_ble_eq_true rfl, Nat.le_of_ble_eq_true rfl⟩) 10 0 rfl rfl rfl (fun _ _ _ _ _ _ => trivial) (fun _ _ _ => trivial) rfl hl.1 (Nat.le_of_ble_eq_true rfl) rfl dX10_mixed_50 ⟨Nat.le_of_ble_eq_true rfl, Nat.le_of_ble_eq_true rfl⟩ (fun u_10 H locs hwu_10 hP hD hS => ?_)
  try dsimp only at hwu_10
  have hP : zP g [[mdl q a (uI x 9 (rTh 72 T_8).2.2)], [((a 0), .inl (g.2 1, 88, .inr (.inl (aL (rTh 72 T_8).1))))], [((a 1), .inl (g.2 1, 88, .inr (.inl (aL (rTh 72 T_8).2.1))))]] H := hP
  have hD : zD A [[mdl q a (uI x 9 (rTh 72 T_8).2.2)], [((a 0), .inl (g.2 1, 88, .inr (.inl (aL (rTh 72 T_8).1))))], [((a 1), .inl (g.2 1, 88, .inr (.inl (aL (rTh 72 T_8).2.1))))]] := hD
  obtain ⟨T_11, hT_11⟩ : ∃ T : RS, T = rTh 72 T_8 := ⟨_, rfl⟩
  have hP : zP g [[mdl q a (uI x 9 T_11.2.2)], [((a 0), .inl (g.2 1, 88, .inr (.inl (aL T_11.1))))], [((a 1), .inl (g.2 1, 88, .inr (.inl (aL T_11.2.1))))]] H := by rw [hT_11]; exact hP
  have hD : zD A [[mdl q a (uI x 9 T_11.2.2)], [((a 0), .inl (g.2 1, 88, .inr (.inl (aL T_11.1))))], [((a 1), .inl (g.2 1, 88, .inr (.inl (aL T_11.2.1))))]] := by rw [hT_11]; exact hD
  have hZT_11 : T_11.2.2 = 0 ∨ T_11.2.2 = 1 := by rw [hT_11]; exact rTh_01 hZT_8
  have hRT_11_0 : T_11.2.2 = 0 → rk T_11 0 := by rw [hT_11]; exact rTh_rk (by omega) (by omega) (by omega) hRT_8_0
  have hRT_11_1 : T_11.2.2 = 0 → rk T_11 1 := by rw [hT_11]; exact rTh_rk (by omega) (by omega) (by omega) hRT_8_1
  have hRT_11_2 : T_11.2.2 = 0 → rk T_11 2 := by rw [hT_11]; exact rTh_rk (by omega) (by omega) (by omega) hRT_8_2
  have hRT_11_3 : T_11.2.2 = 0 → rk T_11 3 := by rw [hT_11]; exact rTh_rk (by omega) (by omega) (by omega) hRT_8_3
  have hRT_11_4 : T_11.2.2 = 0 → rk T_11 4 := by rw [hT_11]; exact rTh_rk (by omega) (by omega) (by omega) hRT_8_4
  have hRT_11_5 : T_11.2.2 = 0 → rk T_11 5 := by rw [hT_11]; exact rTh_rk (by omega) (by omega) (by omega) hRT_8_5
  have hNT_11_0 : T_11.2.2 = 0 → rk T_11 72 := by rw [hT_11]; exact rTh_r0 (by omega) hNT_8_0
  have hNT_11_1 : T_11.2.2 = 0 → rk T_11 73 := by rw [hT_11]; exact rTh_r1 (by omega) (by omega) hNT_8_1
  refine lv_aload_n hx hb dX10_mixed_53 rfl (lv_at hl 1 rfl) ?_
  refine z_bipush hx hb 66 dX10_mixed_54 rfl ?_
  refine z_iconst hx hb dX10_mixed_56 rfl ?_
  refine lv_iload hx hb dX10_mixed_57 (lv_at hl 0 rfl) ?_
  refine z_imul hx hb 0 rfl dX10_mixed_59 ?_
  refine z_iadd hx hb 66 rfl dX10_mixed_60 ?_
  refine z_bipush hx hb 72 dX10_mixed_61 rfl ?_
  refine z_cVv (As := [vI 66, vI 72]) (rest := []) ⟨hx, hb, hml, hown, hts⟩ hK hP hD hS hA [0, 1, 2] [] rfl rfl rfl (c_X10_copyTo l g q a (uI x 9 T_11.2.2) T_11 66 72 (by omega) (by omega)) (cwV 2 hts gX10_mixed_X10_copyTo rfl rfl rfl (by decide +kernel) ⟨Nat.le_of_ble_eq_true rfl, Nat.le_of_ble_eq_true rfl⟩) 10 0 rfl rfl rfl (fun _ _ _ _ _ _ => trivial) (fun _ _ _ => trivial) rfl hl.1 (Nat.le_of_ble_eq_true rfl) rfl dX10_mixed_63 ⟨Nat.le_of_ble_eq_true rfl, Nat.le_of_ble_eq_true rfl⟩ (fun u_12 H locs hwu_12 hP hD hS => ?_)
  try dsimp only at hwu_12
  have hP : zP g [[mdl q a (uI x 9 T_11.2.2)], [((a 0), .inl (g.2 1, 88, .inr (.inl (aL (rCp 66 72 T_11).1))))], [((a 1), .inl (g.2 1, 88, .inr (.inl (aL (rCp 66 72 T_11).2.1))))]] H := hP
  have hD : zD A [[mdl q a (uI x 9 T_11.2.2)], [((a 0), .inl (g.2 1, 88, .inr (.inl (aL (rCp 66 72 T_11).1))))], [((a 1), .inl (g.2 1, 88, .inr (.inl (aL (rCp 66 72 T_11).2.1))))]] := hD
  obtain ⟨T_13, hT_13⟩ : ∃ T : RS, T = rCp 66 72 T_11 := ⟨_, rfl⟩
  have hP : zP g [[mdl q a (uI x 9 T_13.2.2)], [((a 0), .inl (g.2 1, 88, .inr (.inl (aL T_13.1))))], [((a 1), .inl (g.2 1, 88, .inr (.inl (aL T_13.2.1))))]] H := by rw [hT_13]; exact hP
  have hD : zD A [[mdl q a (uI x 9 T_13.2.2)], [((a 0), .inl (g.2 1, 88, .inr (.inl (aL T_13.1))))], [((a 1), .inl (g.2 1, 88, .inr (.inl (aL T_13.2.1))))]] := by rw [hT_13]; exact hD
  have hZT_13 : T_13.2.2 = 0 ∨ T_13.2.2 = 1 := by rw [hT_13]; exact hZT_11
  have hRT_13_0 : T_13.2.2 = 0 → rk T_13 0 := by rw [hT_13]; exact rCp_rk (by omega) (by omega) hRT_11_0
  have hRT_13_1 : T_13.2.2 = 0 → rk T_13 1 := by rw [hT_13]; exact rCp_rk (by omega) (by omega) hRT_11_1
  have hRT_13_2 : T_13.2.2 = 0 → rk T_13 2 := by rw [hT_13]; exact rCp_rk (by omega) (by omega) hRT_11_2
  have hRT_13_3 : T_13.2.2 = 0 → rk T_13 3 := by rw [hT_13]; exact rCp_rk (by omega) (by omega) hRT_11_3
  have hRT_13_4 : T_13.2.2 = 0 → rk T_13 4 := by rw [hT_13]; exact rCp_rk (by omega) (by omega) hRT_11_4
  have hRT_13_5 : T_13.2.2 = 0 → rk T_13 5 := by rw [hT_13]; exact rCp_rk (by omega) (by omega) hRT_11_5
  refine z_iinc hx hb 1 (lv' := [(4, vI 1), (0, .ref q), (1, vI 1), (2, vI 2), (3, vI 1)]) dX10_mixed_66 hl (k := 0) rfl (rfl) (by decide) rfl (fun ls hl => ?_)
  refine lv_goto (tgt := 8) hx hb dX10_mixed_69 (by decide) ?_
  refine lv_iload hx hb dX10_mixed_8 (lv_at hl 0 rfl) ?_
  refine z_iconst hx hb dX10_mixed_10 rfl ?_
  refine z_icmp_ge (tgt := 72) hx hb (by decide) (by decide) dX10_mixed_11 (by decide) (fun cq14 => False.elim (by omega)) (fun cq14 => ?_)
  refine lv_aload_n hx hb dX10_mixed_14 rfl (lv_at hl 1 rfl) ?_
  refine z_bipush hx hb 72 dX10_mixed_15 rfl ?_
  refine z_iconst hx hb dX10_mixed_17 rfl ?_
  refine z_cVv (As := [vI 72, vI 0]) (rest := []) ⟨hx, hb, hml, hown, hts⟩ hK hP hD hS hA [0, 1, 2] [] rfl rfl rfl (c_X10_copyTo l g q a (uI x 9 T_13.2.2) T_13 72 0 (by omega) (by omega)) (cwV 2 hts gX10_mixed_X10_copyTo rfl rfl rfl (by decide +kernel) ⟨Nat.le_of_ble_eq_true rfl, Nat.le_of_ble_eq_true rfl⟩) 10 0 rfl rfl rfl (fun _ _ _ _ _ _ => trivial) (fun _ _ _ => trivial) rfl hl.1 (Nat.le_of_ble_eq_true rfl) rfl dX10_mixed_18 ⟨Nat.le_of_ble_eq_true rfl, Nat.le_of_ble_eq_true rfl⟩ (fun u_15 H locs hwu_15 hP hD hS => ?_)
  try dsimp only at hwu_15
  have hP : zP g [[mdl q a (uI x 9 T_13.2.2)], [((a 0), .inl (g.2 1, 88, .inr (.inl (aL (rCp 72 0 T_13).1))))], [((a 1), .inl (g.2 1, 88, .inr (.inl (aL (rCp 72 0 T_13).2.1))))]] H := hP
  have hD : zD A [[mdl q a (uI x 9 T_13.2.2)], [((a 0), .inl (g.2 1, 88, .inr (.inl (aL (rCp 72 0 T_13).1))))], [((a 1), .inl (g.2 1, 88, .inr (.inl (aL (rCp 72 0 T_13).2.1))))]] := hD
  obtain ⟨T_16, hT_16⟩ : ∃ T : RS, T = rCp 72 0 T_13 := ⟨_, rfl⟩
  have hP : zP g [[mdl q a (uI x 9 T_16.2.2)], [((a 0), .inl (g.2 1, 88, .inr (.inl (aL T_16.1))))], [((a 1), .inl (g.2 1, 88, .inr (.inl (aL T_16.2.1))))]] H := by rw [hT_16]; exact hP
  have hD : zD A [[mdl q a (uI x 9 T_16.2.2)], [((a 0), .inl (g.2 1, 88, .inr (.inl (aL T_16.1))))], [((a 1), .inl (g.2 1, 88, .inr (.inl (aL T_16.2.1))))]] := by rw [hT_16]; exact hD
  have hZT_16 : T_16.2.2 = 0 ∨ T_16.2.2 = 1 := by rw [hT_16]; exact hZT_13
  have hRT_16_0 : T_16.2.2 = 0 → rk T_16 0 := by rw [hT_16]; exact rCp_rk (by omega) (by omega) hRT_13_0
  have hRT_16_1 : T_16.2.2 = 0 → rk T_16 1 := by rw [hT_16]; exact rCp_rk (by omega) (by omega) hRT_13_1
  have hRT_16_2 : T_16.2.2 = 0 → rk T_16 2 := by rw [hT_16]; exact rCp_rk (by omega) (by omega) hRT_13_2
  have hRT_16_3 : T_16.2.2 = 0 → rk T_16 3 := by rw [hT_16]; exact rCp_rk (by omega) (by omega) hRT_13_3
  have hRT_16_4 : T_16.2.2 = 0 → rk T_16 4 := by rw [hT_16]; exact rCp_rk (by omega) (by omega) hRT_13_4
  have hRT_16_5 : T_16.2.2 = 0 → rk T_16 5 := by rw [hT_16]; exact rCp_rk (by omega) (by omega) hRT_13_5
  have hNT_16_0 : T_16.2.2 = 0 → rk T_16 72 := by rw [hT_16]; exact rCp_r0 hRT_13_0
  have hNT_16_1 : T_16.2.2 = 0 → rk T_16 73 := by rw [hT_16]; exact rCp_r1 (by omega) hRT_13_1
  refine lv_aload_n hx hb dX10_mixed_21 rfl (lv_at hl 1 rfl) ?_
  refine z_iconst hx hb dX10_mixed_22 rfl ?_
  refine lv_iload hx hb dX10_mixed_23 (lv_at hl 0 rfl) ?_
  refine lv_iload_n hx hb dX10_mixed_25 rfl (lv_at hl 2 rfl) ?_
  refine z_imul hx hb 1 rfl dX10_mixed_26 ?_
  refine z_iconst hx hb dX10_mixed_27 rfl ?_
  refine z_irem hx hb 1 (by decide) (by decide) rfl dX10_mixed_28 ?_
  refine z_cVv (As := [vI 2, vI 1]) (rest := []) ⟨hx, hb, hml, hown, hts⟩ hK hP hD hS hA [0, 1, 2] [] rfl rfl rfl (c_X10_addTurned1 l g q a (uI x 9 T_16.2.2) T_16 2 (by omega) hZT_16 hRT_16_2 hRT_16_3 hNT_16_0 hNT_16_1) (cwV 2 hts gX10_mixed_X10_addTurned rfl rfl rfl (by decide +kernel) ⟨Nat.le_of_ble_eq_true rfl, Nat.le_of_ble_eq_true rfl⟩) 10 0 rfl rfl rfl (fun _ _ _ _ _ _ => trivial) (fun _ _ _ => trivial) rfl hl.1 (Nat.le_of_ble_eq_true rfl) rfl dX10_mixed_29 ⟨Nat.le_of_ble_eq_true rfl, Nat.le_of_ble_eq_true rfl⟩ (fun u_17 H locs hwu_17 hP hD hS => ?_)
  try dsimp only at hwu_17
  have hP : zP g [[mdl q a (uI x 9 (rAt 2 1 T_16).2.2)], [((a 0), .inl (g.2 1, 88, .inr (.inl (aL (rAt 2 1 T_16).1))))], [((a 1), .inl (g.2 1, 88, .inr (.inl (aL (rAt 2 1 T_16).2.1))))]] H := hP
  have hD : zD A [[mdl q a (uI x 9 (rAt 2 1 T_16).2.2)], [((a 0), .inl (g.2 1, 88, .inr (.inl (aL (rAt 2 1 T_16).1))))], [((a 1), .inl (g.2 1, 88, .inr (.inl (aL (rAt 2 1 T_16).2.1))))]] := hD
  obtain ⟨T_18, hT_18⟩ : ∃ T : RS, T = rAt 2 1 T_16 := ⟨_, rfl⟩
  have hP : zP g [[mdl q a (uI x 9 T_18.2.2)], [((a 0), .inl (g.2 1, 88, .inr (.inl (aL T_18.1))))], [((a 1), .inl (g.2 1, 88, .inr (.inl (aL T_18.2.1))))]] H := by rw [hT_18]; exact hP
  have hD : zD A [[mdl q a (uI x 9 T_18.2.2)], [((a 0), .inl (g.2 1, 88, .inr (.inl (aL T_18.1))))], [((a 1), .inl (g.2 1, 88, .inr (.inl (aL T_18.2.1))))]] := by rw [hT_18]; exact hD
  have hZT_18 : T_18.2.2 = 0 ∨ T_18.2.2 = 1 := by rw [hT_18]; exact rAt_01 hZT_16
  have hRT_18_0 : T_18.2.2 = 0 → rk T_18 0 := by rw [hT_18]; exact rAt_rk (by omega) hRT_16_0
  have hRT_18_1 : T_18.2.2 = 0 → rk T_18 1 := by rw [hT_18]; exact rAt_rk (by omega) hRT_16_1
  have hRT_18_2 : T_18.2.2 = 0 → rk T_18 2 := by rw [hT_18]; exact rAt_rk (by omega) hRT_16_2
  have hRT_18_3 : T_18.2.2 = 0 → rk T_18 3 := by rw [hT_18]; exact rAt_rk (by omega) hRT_16_3
  have hRT_18_4 : T_18.2.2 = 0 → rk T_18 4 := by rw [hT_18]; exact rAt_rk (by omega) hRT_16_4
  have hRT_18_5 : T_18.2.2 = 0 → rk T_18 5 := by rw [hT_18]; exact rAt_rk (by omega) hRT_16_5
  have hNT_18_0 : T_18.2.2 = 0 → rk T_18 72 := by rw [hT_18]; exact rAt_r0 (by omega) hRT_16_2 hRT_16_3 hNT_16_0
  have hNT_18_1 : T_18.2.2 = 0 → rk T_18 73 := by rw [hT_18]; exact rAt_r1 (by omega) hRT_16_2 hRT_16_3 hNT_16_1
  refine lv_aload_n hx hb dX10_mixed_32 rfl (lv_at hl 1 rfl) ?_
  refine z_iconst hx hb dX10_mixed_33 rfl ?_
  refine lv_iload hx hb dX10_mixed_34 (lv_at hl 0 rfl) ?_
  refine lv_iload_n hx hb dX10_mixed_36 rfl (lv_at hl 3 rfl) ?_
  refine z_imul hx hb 2 rfl dX10_mixed_37 ?_
  refine z_iconst hx hb dX10_mixed_38 rfl ?_
  refine z_irem hx hb 2 (by decide) (by decide) rfl dX10_mixed_39 ?_
  refine z_cVv (As := [vI 4, vI 2]) (rest := []) ⟨hx, hb, hml, hown, hts⟩ hK hP hD hS hA [0, 1, 2] [] rfl rfl rfl (c_X10_addTurned2 l g q a (uI x 9 T_18.2.2) T_18 4 (by omega) hZT_18 hRT_18_4 hRT_18_5 hNT_18_0 hNT_18_1) (cwV 2 hts gX10_mixed_X10_addTurned rfl rfl rfl (by decide +kernel) ⟨Nat.le_of_ble_eq_true rfl, Nat.le_of_ble_eq_true rfl⟩) 10 0 rfl rfl rfl (fun _ _ _ _ _ _ => trivial) (fun _ _ _ => trivial) rfl hl.1 (Nat.le_of_ble_eq_true rfl) rfl dX10_mixed_40 ⟨Nat.le_of_ble_eq_true rfl, Nat.le_of_ble_eq_true rfl⟩ (fun u_19 H locs hwu_19 hP hD hS => ?_)
  try dsimp only at hwu_19
  have hP : zP g [[mdl q a (uI x 9 (rAt 4 2 T_18).2.2)], [((a 0), .inl (g.2 1, 88, .inr (.inl (aL (rAt 4 2 T_18).1))))], [((a 1), .inl (g.2 1, 88, .inr (.inl (aL (rAt 4 2 T_18).2.1))))]] H := hP
  have hD : zD A [[mdl q a (uI x 9 (rAt 4 2 T_18).2.2)], [((a 0), .inl (g.2 1, 88, .inr (.inl (aL (rAt 4 2 T_18).1))))], [((a 1), .inl (g.2 1, 88, .inr (.inl (aL (rAt 4 2 T_18).2.1))))]] := hD
  obtain ⟨T_20, hT_20⟩ : ∃ T : RS, T = rAt 4 2 T_18 := ⟨_, rfl⟩
  have hP : zP g [[mdl q a (uI x 9 T_20.2.2)], [((a 0), .inl (g.2 1, 88, .inr (.inl (aL T_20.1))))], [((a 1), .inl (g.2 1, 88, .inr (.inl (aL T_20.2.1))))]] H := by rw [hT_20]; exact hP
  have hD : zD A [[mdl q a (uI x 9 T_20.2.2)], [((a 0), .inl (g.2 1, 88, .inr (.inl (aL T_20.1))))], [((a 1), .inl (g.2 1, 88, .inr (.inl (aL T_20.2.1))))]] := by rw [hT_20]; exact hD
  have hZT_20 : T_20.2.2 = 0 ∨ T_20.2.2 = 1 := by rw [hT_20]; exact rAt_01 hZT_18
  have hRT_20_0 : T_20.2.2 = 0 → rk T_20 0 := by rw [hT_20]; exact rAt_rk (by omega) hRT_18_0
  have hRT_20_1 : T_20.2.2 = 0 → rk T_20 1 := by rw [hT_20]; exact rAt_rk (by omega) hRT_18_1
  have hRT_20_2 : T_20.2.2 = 0 → rk T_20 2 := by rw [hT_20]; exact rAt_rk (by omega) hRT_18_2
  have hRT_20_3 : T_20.2.2 = 0 → rk T_20 3 := by rw [hT_20]; exact rAt_rk (by omega) hRT_18_3
  have hRT_20_4 : T_20.2.2 = 0 → rk T_20 4 := by rw [hT_20]; exact rAt_rk (by omega) hRT_18_4
  have hRT_20_5 : T_20.2.2 = 0 → rk T_20 5 := by rw [hT_20]; exact rAt_rk (by omega) hRT_18_5
  have hNT_20_0 : T_20.2.2 = 0 → rk T_20 72 := by rw [hT_20]; exact rAt_r0 (by omega) hRT_18_4 hRT_18_5 hNT_18_0
  have hNT_20_1 : T_20.2.2 = 0 → rk T_20 73 := by rw [hT_20]; exact rAt_r1 (by omega) hRT_18_4 hRT_18_5 hNT_18_1
  refine lv_iload_n hx hb dX10_mixed_43 rfl (lv_at hl 4 rfl) ?_
  refine z_if_eq (tgt := 53) hx hb (by decide) dX10_mixed_44 (by decide) (fun cq21 => False.elim (by omega)) (fun cq21 => ?_)
  refine lv_aload_n hx hb dX10_mixed_47 rfl (lv_at hl 1 rfl) ?_
  refine z_bipush hx hb 72 dX10_mixed_48 rfl ?_
  refine z_cVv (As := [vI 72]) (rest := []) ⟨hx, hb, hml, hown, hts⟩ hK hP hD hS hA [0, 1, 2] [] rfl rfl rfl (c_X10_third l g q a (uI x 9 T_20.2.2) T_20 72 (by omega) hZT_20 hNT_20_0 hNT_20_1) (cwV 1 hts gX10_mixed_X10_third rfl rfl rfl (by decide +kernel) ⟨Nat.le_of_ble_eq_true rfl, Nat.le_of_ble_eq_true rfl⟩) 10 0 rfl rfl rfl (fun _ _ _ _ _ _ => trivial) (fun _ _ _ => trivial) rfl hl.1 (Nat.le_of_ble_eq_true rfl) rfl dX10_mixed_50 ⟨Nat.le_of_ble_eq_true rfl, Nat.le_of_ble_eq_true rfl⟩ (fun u_22 H locs hwu_22 hP hD hS => ?_)
  try dsimp only at hwu_22
  have hP : zP g [[mdl q a (uI x 9 (rTh 72 T_20).2.2)], [((a 0), .inl (g.2 1, 88, .inr (.inl (aL (rTh 72 T_20).1))))], [((a 1), .inl (g.2 1, 88, .inr (.inl (aL (rTh 72 T_20).2.1))))]] H := hP
  have hD : zD A [[mdl q a (uI x 9 (rTh 72 T_20).2.2)], [((a 0), .inl (g.2 1, 88, .inr (.inl (aL (rTh 72 T_20).1))))], [((a 1), .inl (g.2 1, 88, .inr (.inl (aL (rTh 72 T_20).2.1))))]] := hD
  obtain ⟨T_23, hT_23⟩ : ∃ T : RS, T = rTh 72 T_20 := ⟨_, rfl⟩
  have hP : zP g [[mdl q a (uI x 9 T_23.2.2)], [((a 0), .inl (g.2 1, 88, .inr (.inl (aL T_23.1))))], [((a 1), .inl (g.2 1, 88, .inr (.inl (aL T_23.2.1))))]] H := by rw [hT_23]; exact hP
  have hD : zD A [[mdl q a (uI x 9 T_23.2.2)], [((a 0), .inl (g.2 1, 88, .inr (.inl (aL T_23.1))))], [((a 1), .inl (g.2 1, 88, .inr (.inl (aL T_23.2.1))))]] := by rw [hT_23]; exact hD
  have hZT_23 : T_23.2.2 = 0 ∨ T_23.2.2 = 1 := by rw [hT_23]; exact rTh_01 hZT_20
  have hRT_23_0 : T_23.2.2 = 0 → rk T_23 0 := by rw [hT_23]; exact rTh_rk (by omega) (by omega) (by omega) hRT_20_0
  have hRT_23_1 : T_23.2.2 = 0 → rk T_23 1 := by rw [hT_23]; exact rTh_rk (by omega) (by omega) (by omega) hRT_20_1
  have hRT_23_2 : T_23.2.2 = 0 → rk T_23 2 := by rw [hT_23]; exact rTh_rk (by omega) (by omega) (by omega) hRT_20_2
  have hRT_23_3 : T_23.2.2 = 0 → rk T_23 3 := by rw [hT_23]; exact rTh_rk (by omega) (by omega) (by omega) hRT_20_3
  have hRT_23_4 : T_23.2.2 = 0 → rk T_23 4 := by rw [hT_23]; exact rTh_rk (by omega) (by omega) (by omega) hRT_20_4
  have hRT_23_5 : T_23.2.2 = 0 → rk T_23 5 := by rw [hT_23]; exact rTh_rk (by omega) (by omega) (by omega) hRT_20_5
  have hNT_23_0 : T_23.2.2 = 0 → rk T_23 72 := by rw [hT_23]; exact rTh_r0 (by omega) hNT_20_0
  have hNT_23_1 : T_23.2.2 = 0 → rk T_23 73 := by rw [hT_23]; exact rTh_r1 (by omega) (by omega) hNT_20_1
  refine lv_aload_n hx hb dX10_mixed_53 rfl (lv_at hl 1 rfl) ?_
  refine z_bipush hx hb 66 dX10_mixed_54 rfl ?_
  refine z_iconst hx hb dX10_mixed_56 rfl ?_
  refine lv_iload hx hb dX10_mixed_57 (lv_at hl 0 rfl) ?_
  refine z_imul hx hb 2 rfl dX10_mixed_59 ?_
  refine z_iadd hx hb 68 rfl dX10_mixed_60 ?_
  refine z_bipush hx hb 72 dX10_mixed_61 rfl ?_
  refine z_cVv (As := [vI 68, vI 72]) (rest := []) ⟨hx, hb, hml, hown, hts⟩ hK hP hD hS hA [0, 1, 2] [] rfl rfl rfl (c_X10_copyTo l g q a (uI x 9 T_23.2.2) T_23 68 72 (by omega) (by omega)) (cwV 2 hts gX10_mixed_X10_copyTo rfl rfl rfl (by decide +kernel) ⟨Nat.le_of_ble_eq_true rfl, Nat.le_of_ble_eq_true rfl⟩) 10 0 rfl rfl rfl (fun _ _ _ _ _ _ => trivial) (fun _ _ _ => trivial) rfl hl.1 (Nat.le_of_ble_eq_true rfl) rfl dX10_mixed_63 ⟨Nat.le_of_ble_eq_true rfl, Nat.le_of_ble_eq_true rfl⟩ (fun u_24 H locs hwu_24 hP hD hS => ?_)
  try dsimp only at hwu_24
  have hP : zP g [[mdl q a (uI x 9 T_23.2.2)], [((a 0), .inl (g.2 1, 88, .inr (.inl (aL (rCp 68 72 T_23).1))))], [((a 1), .inl (g.2 1, 88, .inr (.inl (aL (rCp 68 72 T_23).2.1))))]] H := hP
  have hD : zD A [[mdl q a (uI x 9 T_23.2.2)], [((a 0), .inl (g.2 1, 88, .inr (.inl (aL (rCp 68 72 T_23).1))))], [((a 1), .inl (g.2 1, 88, .inr (.inl (aL (rCp 68 72 T_23).2.1))))]] := hD
  obtain ⟨T_25, hT_25⟩ : ∃ T : RS, T = rCp 68 72 T_23 := ⟨_, rfl⟩
  have hP : zP g [[mdl q a (uI x 9 T_25.2.2)], [((a 0), .inl (g.2 1, 88, .inr (.inl (aL T_25.1))))], [((a 1), .inl (g.2 1, 88, .inr (.inl (aL T_25.2.1))))]] H := by rw [hT_25]; exact hP
  have hD : zD A [[mdl q a (uI x 9 T_25.2.2)], [((a 0), .inl (g.2 1, 88, .inr (.inl (aL T_25.1))))], [((a 1), .inl (g.2 1, 88, .inr (.inl (aL T_25.2.1))))]] := by rw [hT_25]; exact hD
  have hZT_25 : T_25.2.2 = 0 ∨ T_25.2.2 = 1 := by rw [hT_25]; exact hZT_23
  have hRT_25_0 : T_25.2.2 = 0 → rk T_25 0 := by rw [hT_25]; exact rCp_rk (by omega) (by omega) hRT_23_0
  have hRT_25_1 : T_25.2.2 = 0 → rk T_25 1 := by rw [hT_25]; exact rCp_rk (by omega) (by omega) hRT_23_1
  have hRT_25_2 : T_25.2.2 = 0 → rk T_25 2 := by rw [hT_25]; exact rCp_rk (by omega) (by omega) hRT_23_2
  have hRT_25_3 : T_25.2.2 = 0 → rk T_25 3 := by rw [hT_25]; exact rCp_rk (by omega) (by omega) hRT_23_3
  have hRT_25_4 : T_25.2.2 = 0 → rk T_25 4 := by rw [hT_25]; exact rCp_rk (by omega) (by omega) hRT_23_4
  have hRT_25_5 : T_25.2.2 = 0 → rk T_25 5 := by rw [hT_25]; exact rCp_rk (by omega) (by omega) hRT_23_5
  refine z_iinc hx hb 2 (lv' := [(4, vI 2), (0, .ref q), (1, vI 1), (2, vI 2), (3, vI 1)]) dX10_mixed_66 hl (k := 0) rfl (rfl) (by decide) rfl (fun ls hl => ?_)
  refine lv_goto (tgt := 8) hx hb dX10_mixed_69 (by decide) ?_
  refine lv_iload hx hb dX10_mixed_8 (lv_at hl 0 rfl) ?_
  refine z_iconst hx hb dX10_mixed_10 rfl ?_
  refine z_icmp_ge (tgt := 72) hx hb (by decide) (by decide) dX10_mixed_11 (by decide) (fun cq26 => False.elim (by omega)) (fun cq26 => ?_)
  refine lv_aload_n hx hb dX10_mixed_14 rfl (lv_at hl 1 rfl) ?_
  refine z_bipush hx hb 72 dX10_mixed_15 rfl ?_
  refine z_iconst hx hb dX10_mixed_17 rfl ?_
  refine z_cVv (As := [vI 72, vI 0]) (rest := []) ⟨hx, hb, hml, hown, hts⟩ hK hP hD hS hA [0, 1, 2] [] rfl rfl rfl (c_X10_copyTo l g q a (uI x 9 T_25.2.2) T_25 72 0 (by omega) (by omega)) (cwV 2 hts gX10_mixed_X10_copyTo rfl rfl rfl (by decide +kernel) ⟨Nat.le_of_ble_eq_true rfl, Nat.le_of_ble_eq_true rfl⟩) 10 0 rfl rfl rfl (fun _ _ _ _ _ _ => trivial) (fun _ _ _ => trivial) rfl hl.1 (Nat.le_of_ble_eq_true rfl) rfl dX10_mixed_18 ⟨Nat.le_of_ble_eq_true rfl, Nat.le_of_ble_eq_true rfl⟩ (fun u_27 H locs hwu_27 hP hD hS => ?_)
  try dsimp only at hwu_27
  have hP : zP g [[mdl q a (uI x 9 T_25.2.2)], [((a 0), .inl (g.2 1, 88, .inr (.inl (aL (rCp 72 0 T_25).1))))], [((a 1), .inl (g.2 1, 88, .inr (.inl (aL (rCp 72 0 T_25).2.1))))]] H := hP
  have hD : zD A [[mdl q a (uI x 9 T_25.2.2)], [((a 0), .inl (g.2 1, 88, .inr (.inl (aL (rCp 72 0 T_25).1))))], [((a 1), .inl (g.2 1, 88, .inr (.inl (aL (rCp 72 0 T_25).2.1))))]] := hD
  obtain ⟨T_28, hT_28⟩ : ∃ T : RS, T = rCp 72 0 T_25 := ⟨_, rfl⟩
  have hP : zP g [[mdl q a (uI x 9 T_28.2.2)], [((a 0), .inl (g.2 1, 88, .inr (.inl (aL T_28.1))))], [((a 1), .inl (g.2 1, 88, .inr (.inl (aL T_28.2.1))))]] H := by rw [hT_28]; exact hP
  have hD : zD A [[mdl q a (uI x 9 T_28.2.2)], [((a 0), .inl (g.2 1, 88, .inr (.inl (aL T_28.1))))], [((a 1), .inl (g.2 1, 88, .inr (.inl (aL T_28.2.1))))]] := by rw [hT_28]; exact hD
  have hZT_28 : T_28.2.2 = 0 ∨ T_28.2.2 = 1 := by rw [hT_28]; exact hZT_25
  have hRT_28_0 : T_28.2.2 = 0 → rk T_28 0 := by rw [hT_28]; exact rCp_rk (by omega) (by omega) hRT_25_0
  have hRT_28_1 : T_28.2.2 = 0 → rk T_28 1 := by rw [hT_28]; exact rCp_rk (by omega) (by omega) hRT_25_1
  have hRT_28_2 : T_28.2.2 = 0 → rk T_28 2 := by rw [hT_28]; exact rCp_rk (by omega) (by omega) hRT_25_2
  have hRT_28_3 : T_28.2.2 = 0 → rk T_28 3 := by rw [hT_28]; exact rCp_rk (by omega) (by omega) hRT_25_3
  have hRT_28_4 : T_28.2.2 = 0 → rk T_28 4 := by rw [hT_28]; exact rCp_rk (by omega) (by omega) hRT_25_4
  have hRT_28_5 : T_28.2.2 = 0 → rk T_28 5 := by rw [hT_28]; exact rCp_rk (by omega) (by omega) hRT_25_5
  have hNT_28_0 : T_28.2.2 = 0 → rk T_28 72 := by rw [hT_28]; exact rCp_r0 hRT_25_0
  have hNT_28_1 : T_28.2.2 = 0 → rk T_28 73 := by rw [hT_28]; exact rCp_r1 (by omega) hRT_25_1
  refine lv_aload_n hx hb dX10_mixed_21 rfl (lv_at hl 1 rfl) ?_
  refine z_iconst hx hb dX10_mixed_22 rfl ?_
  refine lv_iload hx hb dX10_mixed_23 (lv_at hl 0 rfl) ?_
  refine lv_iload_n hx hb dX10_mixed_25 rfl (lv_at hl 2 rfl) ?_
  refine z_imul hx hb 2 rfl dX10_mixed_26 ?_
  refine z_iconst hx hb dX10_mixed_27 rfl ?_
  refine z_irem hx hb 2 (by decide) (by decide) rfl dX10_mixed_28 ?_
  refine z_cVv (As := [vI 2, vI 2]) (rest := []) ⟨hx, hb, hml, hown, hts⟩ hK hP hD hS hA [0, 1, 2] [] rfl rfl rfl (c_X10_addTurned2 l g q a (uI x 9 T_28.2.2) T_28 2 (by omega) hZT_28 hRT_28_2 hRT_28_3 hNT_28_0 hNT_28_1) (cwV 2 hts gX10_mixed_X10_addTurned rfl rfl rfl (by decide +kernel) ⟨Nat.le_of_ble_eq_true rfl, Nat.le_of_ble_eq_true rfl⟩) 10 0 rfl rfl rfl (fun _ _ _ _ _ _ => trivial) (fun _ _ _ => trivial) rfl hl.1 (Nat.le_of_ble_eq_true rfl) rfl dX10_mixed_29 ⟨Nat.le_of_ble_eq_true rfl, Nat.le_of_ble_eq_true rfl⟩ (fun u_29 H locs hwu_29 hP hD hS => ?_)
  try dsimp only at hwu_29
  have hP : zP g [[mdl q a (uI x 9 (rAt 2 2 T_28).2.2)], [((a 0), .inl (g.2 1, 88, .inr (.inl (aL (rAt 2 2 T_28).1))))], [((a 1), .inl (g.2 1, 88, .inr (.inl (aL (rAt 2 2 T_28).2.1))))]] H := hP
  have hD : zD A [[mdl q a (uI x 9 (rAt 2 2 T_28).2.2)], [((a 0), .inl (g.2 1, 88, .inr (.inl (aL (rAt 2 2 T_28).1))))], [((a 1), .inl (g.2 1, 88, .inr (.inl (aL (rAt 2 2 T_28).2.1))))]] := hD
  obtain ⟨T_30, hT_30⟩ : ∃ T : RS, T = rAt 2 2 T_28 := ⟨_, rfl⟩
  have hP : zP g [[mdl q a (uI x 9 T_30.2.2)], [((a 0), .inl (g.2 1, 88, .inr (.inl (aL T_30.1))))], [((a 1), .inl (g.2 1, 88, .inr (.inl (aL T_30.2.1))))]] H := by rw [hT_30]; exact hP
  have hD : zD A [[mdl q a (uI x 9 T_30.2.2)], [((a 0), .inl (g.2 1, 88, .inr (.inl (aL T_30.1))))], [((a 1), .inl (g.2 1, 88, .inr (.inl (aL T_30.2.1))))]] := by rw [hT_30]; exact hD
  have hZT_30 : T_30.2.2 = 0 ∨ T_30.2.2 = 1 := by rw [hT_30]; exact rAt_01 hZT_28
  have hRT_30_0 : T_30.2.2 = 0 → rk T_30 0 := by rw [hT_30]; exact rAt_rk (by omega) hRT_28_0
  have hRT_30_1 : T_30.2.2 = 0 → rk T_30 1 := by rw [hT_30]; exact rAt_rk (by omega) hRT_28_1
  have hRT_30_2 : T_30.2.2 = 0 → rk T_30 2 := by rw [hT_30]; exact rAt_rk (by omega) hRT_28_2
  have hRT_30_3 : T_30.2.2 = 0 → rk T_30 3 := by rw [hT_30]; exact rAt_rk (by omega) hRT_28_3
  have hRT_30_4 : T_30.2.2 = 0 → rk T_30 4 := by rw [hT_30]; exact rAt_rk (by omega) hRT_28_4
  have hRT_30_5 : T_30.2.2 = 0 → rk T_30 5 := by rw [hT_30]; exact rAt_rk (by omega) hRT_28_5
  have hNT_30_0 : T_30.2.2 = 0 → rk T_30 72 := by rw [hT_30]; exact rAt_r0 (by omega) hRT_28_2 hRT_28_3 hNT_28_0
  have hNT_30_1 : T_30.2.2 = 0 → rk T_30 73 := by rw [hT_30]; exact rAt_r1 (by omega) hRT_28_2 hRT_28_3 hNT_28_1
  refine lv_aload_n hx hb dX10_mixed_32 rfl (lv_at hl 1 rfl) ?_
  refine z_iconst hx hb dX10_mixed_33 rfl ?_
  refine lv_iload hx hb dX10_mixed_34 (lv_at hl 0 rfl) ?_
  refine lv_iload_n hx hb dX10_mixed_36 rfl (lv_at hl 3 rfl) ?_
  refine z_imul hx hb 4 rfl dX10_mixed_37 ?_
  refine z_iconst hx hb dX10_mixed_38 rfl ?_
  refine z_irem hx hb 1 (by decide) (by decide) rfl dX10_mixed_39 ?_
  refine z_cVv (As := [vI 4, vI 1]) (rest := []) ⟨hx, hb, hml, hown, hts⟩ hK hP hD hS hA [0, 1, 2] [] rfl rfl rfl (c_X10_addTurned1 l g q a (uI x 9 T_30.2.2) T_30 4 (by omega) hZT_30 hRT_30_4 hRT_30_5 hNT_30_0 hNT_30_1) (cwV 2 hts gX10_mixed_X10_addTurned rfl rfl rfl (by decide +kernel) ⟨Nat.le_of_ble_eq_true rfl, Nat.le_of_ble_eq_true rfl⟩) 10 0 rfl rfl rfl (fun _ _ _ _ _ _ => trivial) (fun _ _ _ => trivial) rfl hl.1 (Nat.le_of_ble_eq_true rfl) rfl dX10_mixed_40 ⟨Nat.le_of_ble_eq_true rfl, Nat.le_of_ble_eq_true rfl⟩ (fun u_31 H locs hwu_31 hP hD hS => ?_)
  try dsimp only at hwu_31
  have hP : zP g [[mdl q a (uI x 9 (rAt 4 1 T_30).2.2)], [((a 0), .inl (g.2 1, 88, .inr (.inl (aL (rAt 4 1 T_30).1))))], [((a 1), .inl (g.2 1, 88, .inr (.inl (aL (rAt 4 1 T_30).2.1))))]] H := hP
  have hD : zD A [[mdl q a (uI x 9 (rAt 4 1 T_30).2.2)], [((a 0), .inl (g.2 1, 88, .inr (.inl (aL (rAt 4 1 T_30).1))))], [((a 1), .inl (g.2 1, 88, .inr (.inl (aL (rAt 4 1 T_30).2.1))))]] := hD
  obtain ⟨T_32, hT_32⟩ : ∃ T : RS, T = rAt 4 1 T_30 := ⟨_, rfl⟩
  have hP : zP g [[mdl q a (uI x 9 T_32.2.2)], [((a 0), .inl (g.2 1, 88, .inr (.inl (aL T_32.1))))], [((a 1), .inl (g.2 1, 88, .inr (.inl (aL T_32.2.1))))]] H := by rw [hT_32]; exact hP
  have hD : zD A [[mdl q a (uI x 9 T_32.2.2)], [((a 0), .inl (g.2 1, 88, .inr (.inl (aL T_32.1))))], [((a 1), .inl (g.2 1, 88, .inr (.inl (aL T_32.2.1))))]] := by rw [hT_32]; exact hD
  have hZT_32 : T_32.2.2 = 0 ∨ T_32.2.2 = 1 := by rw [hT_32]; exact rAt_01 hZT_30
  have hRT_32_0 : T_32.2.2 = 0 → rk T_32 0 := by rw [hT_32]; exact rAt_rk (by omega) hRT_30_0
  have hRT_32_1 : T_32.2.2 = 0 → rk T_32 1 := by rw [hT_32]; exact rAt_rk (by omega) hRT_30_1
  have hRT_32_2 : T_32.2.2 = 0 → rk T_32 2 := by rw [hT_32]; exact rAt_rk (by omega) hRT_30_2
  have hRT_32_3 : T_32.2.2 = 0 → rk T_32 3 := by rw [hT_32]; exact rAt_rk (by omega) hRT_30_3
  have hRT_32_4 : T_32.2.2 = 0 → rk T_32 4 := by rw [hT_32]; exact rAt_rk (by omega) hRT_30_4
  have hRT_32_5 : T_32.2.2 = 0 → rk T_32 5 := by rw [hT_32]; exact rAt_rk (by omega) hRT_30_5
  have hNT_32_0 : T_32.2.2 = 0 → rk T_32 72 := by rw [hT_32]; exact rAt_r0 (by omega) hRT_30_4 hRT_30_5 hNT_30_0
  have hNT_32_1 : T_32.2.2 = 0 → rk T_32 73 := by rw [hT_32]; exact rAt_r1 (by omega) hRT_30_4 hRT_30_5 hNT_30_1
  refine lv_iload_n hx hb dX10_mixed_43 rfl (lv_at hl 4 rfl) ?_
  refine z_if_eq (tgt := 53) hx hb (by decide) dX10_mixed_44 (by decide) (fun cq33 => False.elim (by omega)) (fun cq33 => ?_)
  refine lv_aload_n hx hb dX10_mixed_47 rfl (lv_at hl 1 rfl) ?_
  refine z_bipush hx hb 72 dX10_mixed_48 rfl ?_
  refine z_cVv (As := [vI 72]) (rest := []) ⟨hx, hb, hml, hown, hts⟩ hK hP hD hS hA [0, 1, 2] [] rfl rfl rfl (c_X10_third l g q a (uI x 9 T_32.2.2) T_32 72 (by omega) hZT_32 hNT_32_0 hNT_32_1) (cwV 1 hts gX10_mixed_X10_third rfl rfl rfl (by decide +kernel) ⟨Nat.le_of_ble_eq_true rfl, Nat.le_of_ble_eq_true rfl⟩) 10 0 rfl rfl rfl (fun _ _ _ _ _ _ => trivial) (fun _ _ _ => trivial) rfl hl.1 (Nat.le_of_ble_eq_true rfl) rfl dX10_mixed_50 ⟨Nat.le_of_ble_eq_true rfl, Nat.le_of_ble_eq_true rfl⟩ (fun u_34 H locs hwu_34 hP hD hS => ?_)
  try dsimp only at hwu_34
  have hP : zP g [[mdl q a (uI x 9 (rTh 72 T_32).2.2)], [((a 0), .inl (g.2 1, 88, .inr (.inl (aL (rTh 72 T_32).1))))], [((a 1), .inl (g.2 1, 88, .inr (.inl (aL (rTh 72 T_32).2.1))))]] H := hP
  have hD : zD A [[mdl q a (uI x 9 (rTh 72 T_32).2.2)], [((a 0), .inl (g.2 1, 88, .inr (.inl (aL (rTh 72 T_32).1))))], [((a 1), .inl (g.2 1, 88, .inr (.inl (aL (rTh 72 T_32).2.1))))]] := hD
  obtain ⟨T_35, hT_35⟩ : ∃ T : RS, T = rTh 72 T_32 := ⟨_, rfl⟩
  have hP : zP g [[mdl q a (uI x 9 T_35.2.2)], [((a 0), .inl (g.2 1, 88, .inr (.inl (aL T_35.1))))], [((a 1), .inl (g.2 1, 88, .inr (.inl (aL T_35.2.1))))]] H := by rw [hT_35]; exact hP
  have hD : zD A [[mdl q a (uI x 9 T_35.2.2)], [((a 0), .inl (g.2 1, 88, .inr (.inl (aL T_35.1))))], [((a 1), .inl (g.2 1, 88, .inr (.inl (aL T_35.2.1))))]] := by rw [hT_35]; exact hD
  have hZT_35 : T_35.2.2 = 0 ∨ T_35.2.2 = 1 := by rw [hT_35]; exact rTh_01 hZT_32
  have hRT_35_0 : T_35.2.2 = 0 → rk T_35 0 := by rw [hT_35]; exact rTh_rk (by omega) (by omega) (by omega) hRT_32_0
  have hRT_35_1 : T_35.2.2 = 0 → rk T_35 1 := by rw [hT_35]; exact rTh_rk (by omega) (by omega) (by omega) hRT_32_1
  have hRT_35_2 : T_35.2.2 = 0 → rk T_35 2 := by rw [hT_35]; exact rTh_rk (by omega) (by omega) (by omega) hRT_32_2
  have hRT_35_3 : T_35.2.2 = 0 → rk T_35 3 := by rw [hT_35]; exact rTh_rk (by omega) (by omega) (by omega) hRT_32_3
  have hRT_35_4 : T_35.2.2 = 0 → rk T_35 4 := by rw [hT_35]; exact rTh_rk (by omega) (by omega) (by omega) hRT_32_4
  have hRT_35_5 : T_35.2.2 = 0 → rk T_35 5 := by rw [hT_35]; exact rTh_rk (by omega) (by omega) (by omega) hRT_32_5
  have hNT_35_0 : T_35.2.2 = 0 → rk T_35 72 := by rw [hT_35]; exact rTh_r0 (by omega) hNT_32_0
  have hNT_35_1 : T_35.2.2 = 0 → rk T_35 73 := by rw [hT_35]; exact rTh_r1 (by omega) (by omega) hNT_32_1
  refine lv_aload_n hx hb dX10_mixed_53 rfl (lv_at hl 1 rfl) ?_
  refine z_bipush hx hb 66 dX10_mixed_54 rfl ?_
  refine z_iconst hx hb dX10_mixed_56 rfl ?_
  refine lv_iload hx hb dX10_mixed_57 (lv_at hl 0 rfl) ?_
  refine z_imul hx hb 4 rfl dX10_mixed_59 ?_
  refine z_iadd hx hb 70 rfl dX10_mixed_60 ?_
  refine z_bipush hx hb 72 dX10_mixed_61 rfl ?_
  refine z_cVv (As := [vI 70, vI 72]) (rest := []) ⟨hx, hb, hml, hown, hts⟩ hK hP hD hS hA [0, 1, 2] [] rfl rfl rfl (c_X10_copyTo l g q a (uI x 9 T_35.2.2) T_35 70 72 (by omega) (by omega)) (cwV 2 hts gX10_mixed_X10_copyTo rfl rfl rfl (by decide +kernel) ⟨Nat.le_of_ble_eq_true rfl, Nat.le_of_ble_eq_true rfl⟩) 10 0 rfl rfl rfl (fun _ _ _ _ _ _ => trivial) (fun _ _ _ => trivial) rfl hl.1 (Nat.le_of_ble_eq_true rfl) rfl dX10_mixed_63 ⟨Nat.le_of_ble_eq_true rfl, Nat.le_of_ble_eq_true rfl⟩ (fun u_36 H locs hwu_36 hP hD hS => ?_)
  try dsimp only at hwu_36
  have hP : zP g [[mdl q a (uI x 9 T_35.2.2)], [((a 0), .inl (g.2 1, 88, .inr (.inl (aL (rCp 70 72 T_35).1))))], [((a 1), .inl (g.2 1, 88, .inr (.inl (aL (rCp 70 72 T_35).2.1))))]] H := hP
  have hD : zD A [[mdl q a (uI x 9 T_35.2.2)], [((a 0), .inl (g.2 1, 88, .inr (.inl (aL (rCp 70 72 T_35).1))))], [((a 1), .inl (g.2 1, 88, .inr (.inl (aL (rCp 70 72 T_35).2.1))))]] := hD
  obtain ⟨T_37, hT_37⟩ : ∃ T : RS, T = rCp 70 72 T_35 := ⟨_, rfl⟩
  have hP : zP g [[mdl q a (uI x 9 T_37.2.2)], [((a 0), .inl (g.2 1, 88, .inr (.inl (aL T_37.1))))], [((a 1), .inl (g.2 1, 88, .inr (.inl (aL T_37.2.1))))]] H := by rw [hT_37]; exact hP
  have hD : zD A [[mdl q a (uI x 9 T_37.2.2)], [((a 0), .inl (g.2 1, 88, .inr (.inl (aL T_37.1))))], [((a 1), .inl (g.2 1, 88, .inr (.inl (aL T_37.2.1))))]] := by rw [hT_37]; exact hD
  have hZT_37 : T_37.2.2 = 0 ∨ T_37.2.2 = 1 := by rw [hT_37]; exact hZT_35
  have hRT_37_0 : T_37.2.2 = 0 → rk T_37 0 := by rw [hT_37]; exact rCp_rk (by omega) (by omega) hRT_35_0
  have hRT_37_1 : T_37.2.2 = 0 → rk T_37 1 := by rw [hT_37]; exact rCp_rk (by omega) (by omega) hRT_35_1
  have hRT_37_2 : T_37.2.2 = 0 → rk T_37 2 := by rw [hT_37]; exact rCp_rk (by omega) (by omega) hRT_35_2
  have hRT_37_3 : T_37.2.2 = 0 → rk T_37 3 := by rw [hT_37]; exact rCp_rk (by omega) (by omega) hRT_35_3
  have hRT_37_4 : T_37.2.2 = 0 → rk T_37 4 := by rw [hT_37]; exact rCp_rk (by omega) (by omega) hRT_35_4
  have hRT_37_5 : T_37.2.2 = 0 → rk T_37 5 := by rw [hT_37]; exact rCp_rk (by omega) (by omega) hRT_35_5
  refine z_iinc hx hb 3 (lv' := [(4, vI 3), (0, .ref q), (1, vI 1), (2, vI 2), (3, vI 1)]) dX10_mixed_66 hl (k := 0) rfl (rfl) (by decide) rfl (fun ls hl => ?_)
  refine lv_goto (tgt := 8) hx hb dX10_mixed_69 (by decide) ?_
  refine lv_iload hx hb dX10_mixed_8 (lv_at hl 0 rfl) ?_
  refine z_iconst hx hb dX10_mixed_10 rfl ?_
  refine z_icmp_ge (tgt := 72) hx hb (by decide) (by decide) dX10_mixed_11 (by decide) (fun cq38 => ?_) (fun cq38 => False.elim (by omega))
  have hE : T_37 = (rMx 2 1 true 2 (rMx 1 2 true 1 (rMx 0 0 true 0 (rZ0 S)))) := by rw [hT_37, hT_35, hT_32, hT_30, hT_28, hT_25, hT_23, hT_20, hT_18, hT_16, hT_13, hT_11, hT_8, hT_6, hT_4, hT_1]; rfl
  rw [← hE] at hM
  refine lv_aload_n hx hb dX10_mixed_72 rfl (lv_at hl 1 rfl) ?_
  refine z_get hx hb hts hin10_ hown hK hP 0 rfl rfl 22 (by decide) (hts _ (List.mem_of_getElem? (i := 1) rfl)) rfl dX10_mixed_73 ?_
  refine z_toI T_37.2.2 rfl ?_
  refine z_if_eq (tgt := 82) hx hb (by omega) dX10_mixed_76 (by decide) (fun cq39 => False.elim (by omega)) (fun cq39 => ?_)
  refine z_ldc hx hb (-2000000004) hown (hts _ (List.mem_of_getElem? (i := 2) rfl)) rfl dX10_mixed_79 ?_
  exact z_reti () [0, 1, 2] hx hb hr rfl hlocks hK hP hD hS (rfl) trivial rfl rfl (by rw [← hE]; rfl) (Nat.le_of_ble_eq_true rfl) (Nat.le_of_ble_eq_true rfl) dX10_mixed_81

set_option maxHeartbeats 4000000 in
set_option maxRecDepth 100000 in
theorem c_X10_split_over (l : Launch) (g : zG) (q : Nat) (a : Nat → Nat) (x : Nat → Int) (S : RS) (hz : S.2.2 = 0 ∨ S.2.2 = 1) (hk : ∀ j, j < 6 → rk S j) (hM : (rMx 2 1 true 2 (rMx 1 2 true 1 (rMx 0 0 true 0 (rZ0 S)))).2.2 = 1) : zMet l g yX10_split wsX10_split 7 0 0 [.ref q] zX0 [[mdl q a (uI x 9 S.2.2)], [((a 0), .inl (g.2 1, 88, .inr (.inl (aL S.1))))], [((a 1), .inl (g.2 1, 88, .inr (.inl (aL S.2.1))))]] (qi g (fun (_ : Unit) => (-2000000004)) (fun (_ : Unit) => True) (fun (_ : Unit) => [[mdl q a (uI x 9 (rMx 2 1 true 2 (rMx 1 2 true 1 (rMx 0 0 true 0 (rZ0 S)))).2.2)], [((a 0), .inl (g.2 1, 88, .inr (.inl (aL (rMx 2 1 true 2 (rMx 1 2 true 1 (rMx 0 0 true 0 (rZ0 S)))).1))))], [((a 1), .inl (g.2 1, 88, .inr (.inl (aL (rMx 2 1 true 2 (rMx 1 2 true 1 (rMx 0 0 true 0 (rZ0 S)))).2.1))))]])) := by
  refine z_ent (cc := cX10_split) (maxL := 1) (ret := (some .int)) (by decide) rfl (Nat.le_of_ble_eq_true rfl) ?_
  intro p e s m below meth c A ls hx hb hr hml hown hts hlocks hin0 hA hK hP hD hS hXX hl
  have hown : s.vm.findClass RX10 = some m.cls := hown
  have hl : lv_has ls 1 [(0, .ref q)] := hl
  refine lv_aload_n hx hb dX10_split_0 rfl (lv_at hl 0 rfl) ?_
  refine z_iconst hx hb dX10_split_1 rfl ?_
  refine z_iconst hx hb dX10_split_2 rfl ?_
  refine z_iconst hx hb dX10_split_3 rfl ?_
  refine z_cVi (As := [vI 1, vI 2, vI 1]) (rest := []) ⟨hx, hb, hml, hown, hts⟩ hK hP hD hS hA [0, 1, 2] [] rfl rfl rfl (c_X10_mixS_over l g q a (uI x 9 S.2.2) S (by assumption) hk hM) (cwV 3 hts gX10_split_X10_mixed rfl rfl rfl (by decide +kernel) ⟨Nat.le_of_ble_eq_true rfl, Nat.le_of_ble_eq_true rfl⟩) 10 0 rfl rfl rfl (fun _ _ _ _ _ _ => trivial) (fun _ _ _ => trivial) rfl hl.1 (Nat.le_of_ble_eq_true rfl) rfl dX10_split_4 ⟨Nat.le_of_ble_eq_true rfl, Nat.le_of_ble_eq_true rfl⟩ (fun u_1 H locs hwu_1 hP hD hS => ?_)
  try dsimp only at hwu_1
  have hP : zP g [[mdl q a (uI x 9 (rMx 2 1 true 2 (rMx 1 2 true 1 (rMx 0 0 true 0 (rZ0 S)))).2.2)], [((a 0), .inl (g.2 1, 88, .inr (.inl (aL (rMx 2 1 true 2 (rMx 1 2 true 1 (rMx 0 0 true 0 (rZ0 S)))).1))))], [((a 1), .inl (g.2 1, 88, .inr (.inl (aL (rMx 2 1 true 2 (rMx 1 2 true 1 (rMx 0 0 true 0 (rZ0 S)))).2.1))))]] H := hP
  have hD : zD A [[mdl q a (uI x 9 (rMx 2 1 true 2 (rMx 1 2 true 1 (rMx 0 0 true 0 (rZ0 S)))).2.2)], [((a 0), .inl (g.2 1, 88, .inr (.inl (aL (rMx 2 1 true 2 (rMx 1 2 true 1 (rMx 0 0 true 0 (rZ0 S)))).1))))], [((a 1), .inl (g.2 1, 88, .inr (.inl (aL (rMx 2 1 true 2 (rMx 1 2 true 1 (rMx 0 0 true 0 (rZ0 S)))).2.1))))]] := hD
  refine z_toI (-2000000004) rfl ?_
  exact z_reti () [0, 1, 2] hx hb hr rfl hlocks hK hP hD hS (rfl) trivial rfl rfl (rfl) (Nat.le_of_ble_eq_true rfl) (Nat.le_of_ble_eq_true rfl) dX10_split_7

set_option maxHeartbeats 4000000 in
set_option maxRecDepth 100000 in
theorem c_X10_mixS_ok (l : Launch) (g : zG) (q : Nat) (a : Nat → Nat) (x : Nat → Int) (S : RS) (u : Nat) (hz : S.2.2 = 0 ∨ S.2.2 = 1) (hk : ∀ j, j < 6 → rk S j) (hM : (rMx 2 1 true 2 (rMx 1 2 true 1 (rMx 0 0 true 0 (rZ0 S)))).2.2 = 0) (hu : x 2 = (u : Int)) (hu8 : u ≤ 8) : zMet l g yX10_mixed wsX10_mixed 6 0 0 [.ref q, vI 1, vI 2, vI 1] zX0 [[mdl q a (uI x 9 S.2.2)], [((a 0), .inl (g.2 1, 88, .inr (.inl (aL S.1))))], [((a 1), .inl (g.2 1, 88, .inr (.inl (aL S.2.1))))]] (qi g (fun (_ : Unit) => 1) (fun (_ : Unit) => True) (fun (_ : Unit) => [[mdl q a (uI (uI x 2 (((min (u + 1) 8) : Nat) : Int)) 9 (rMx 2 1 true 2 (rMx 1 2 true 1 (rMx 0 0 true 0 (rZ0 S)))).2.2)], [((a 0), .inl (g.2 1, 88, .inr (.inl (aL (rC6 66 0 (kpS u (rMx 2 1 true 2 (rMx 1 2 true 1 (rMx 0 0 true 0 (rZ0 S)))))).1))))], [((a 1), .inl (g.2 1, 88, .inr (.inl (aL (rC6 66 0 (kpS u (rMx 2 1 true 2 (rMx 1 2 true 1 (rMx 0 0 true 0 (rZ0 S)))))).2.1))))]])) := by
  refine z_ent (cc := cX10_mixed) (maxL := 5) (ret := (some .int)) (by decide) rfl (Nat.le_of_ble_eq_true rfl) ?_
  intro p e s m below meth c A ls hx hb hr hml hown hts hlocks hin0 hA hK hP hD hS hXX hl
  have hown : s.vm.findClass RX10 = some m.cls := hown
  have hin10_ : ∀ w ∈ wsX100, w ∈ wsX10_mixed := zw_in [61, 62, 63, 64, 65, 66, 67, 68, 69, 70, 71, 72, 73, 74, 75, 76, 77, 78, 79, 80, 81, 82, 83, 84, 85, 86] rfl
  have hl : lv_has ls 5 [(0, .ref q), (1, vI 1), (2, vI 2), (3, vI 1)] := hl
  refine lv_aload_n hx hb dX10_mixed_0 rfl (lv_at hl 0 rfl) ?_
  refine z_iconst hx hb dX10_mixed_1 rfl ?_
  refine z_put hx hb hts hin10_ tyX10 tyX10_ok nmX10 hown hK hP hD hS 0 rfl rfl 22 (by decide) (hts _ (List.mem_of_getElem? (i := 1) rfl)) rfl (nar_z (by decide)) (fit_z (by decide)) (Nat.le_of_ble_eq_true rfl) dX10_mixed_2 [[mdl q a (uI x 9 0)], [((a 0), .inl (g.2 1, 88, .inr (.inl (aL S.1))))], [((a 1), .inl (g.2 1, 88, .inr (.inl (aL S.2.1))))]] rfl (fun H locs hP hD hS => ?_)
  obtain ⟨T_1, hT_1⟩ : ∃ T : RS, T = rZ0  S := ⟨_, rfl⟩
  have hP : zP g [[mdl q a (uI x 9 T_1.2.2)], [((a 0), .inl (g.2 1, 88, .inr (.inl (aL T_1.1))))], [((a 1), .inl (g.2 1, 88, .inr (.inl (aL T_1.2.1))))]] H := by rw [hT_1]; exact hP
  have hD : zD A [[mdl q a (uI x 9 T_1.2.2)], [((a 0), .inl (g.2 1, 88, .inr (.inl (aL T_1.1))))], [((a 1), .inl (g.2 1, 88, .inr (.inl (aL T_1.2.1))))]] := by rw [hT_1]; exact hD
  have hZT_1 : T_1.2.2 = 0 ∨ T_1.2.2 = 1 := by rw [hT_1]; exact rZ0_01 hz
  have hNT_1_0 : T_1.2.2 = 0 → rk T_1 0 := by rw [hT_1]; exact rZ0_r (hk 0 (by decide)) 
  have hNT_1_1 : T_1.2.2 = 0 → rk T_1 1 := by rw [hT_1]; exact rZ0_r (hk 1 (by decide)) 
  have hNT_1_2 : T_1.2.2 = 0 → rk T_1 2 := by rw [hT_1]; exact rZ0_r (hk 2 (by decide)) 
  have hNT_1_3 : T_1.2.2 = 0 → rk T_1 3 := by rw [hT_1]; exact rZ0_r (hk 3 (by decide)) 
  have hNT_1_4 : T_1.2.2 = 0 → rk T_1 4 := by rw [hT_1]; exact rZ0_r (hk 4 (by decide)) 
  have hNT_1_5 : T_1.2.2 = 0 → rk T_1 5 := by rw [hT_1]; exact rZ0_r (hk 5 (by decide)) 
  refine z_iconst hx hb dX10_mixed_5 rfl ?_
  refine lv_istore (lv' := [(4, vI 0), (0, .ref q), (1, vI 1), (2, vI 2), (3, vI 1)]) hx hb dX10_mixed_6 hl (by decide) rfl (fun ls hl => ?_)
  refine lv_iload hx hb dX10_mixed_8 (lv_at hl 0 rfl) ?_
  refine z_iconst hx hb dX10_mixed_10 rfl ?_
  refine z_icmp_ge (tgt := 72) hx hb (by decide) (by decide) dX10_mixed_11 (by decide) (fun cq2 => False.elim (by omega)) (fun cq2 => ?_)
  refine lv_aload_n hx hb dX10_mixed_14 rfl (lv_at hl 1 rfl) ?_
  refine z_bipush hx hb 72 dX10_mixed_15 rfl ?_
  refine z_iconst hx hb dX10_mixed_17 rfl ?_
  refine z_cVv (As := [vI 72, vI 0]) (rest := []) ⟨hx, hb, hml, hown, hts⟩ hK hP hD hS hA [0, 1, 2] [] rfl rfl rfl (c_X10_copyTo l g q a (uI x 9 T_1.2.2) T_1 72 0 (by omega) (by omega)) (cwV 2 hts gX10_mixed_X10_copyTo rfl rfl rfl (by decide +kernel) ⟨Nat.le_of_ble_eq_true rfl, Nat.le_of_ble_eq_true rfl⟩) 10 0 rfl rfl rfl (fun _ _ _ _ _ _ => trivial) (fun _ _ _ => trivial) rfl hl.1 (Nat.le_of_ble_eq_true rfl) rfl dX10_mixed_18 ⟨Nat.le_of_ble_eq_true rfl, Nat.le_of_ble_eq_true rfl⟩ (fun u_3 H locs hwu_3 hP hD hS => ?_)
  try dsimp only at hwu_3
  have hP : zP g [[mdl q a (uI x 9 T_1.2.2)], [((a 0), .inl (g.2 1, 88, .inr (.inl (aL (rCp 72 0 T_1).1))))], [((a 1), .inl (g.2 1, 88, .inr (.inl (aL (rCp 72 0 T_1).2.1))))]] H := hP
  have hD : zD A [[mdl q a (uI x 9 T_1.2.2)], [((a 0), .inl (g.2 1, 88, .inr (.inl (aL (rCp 72 0 T_1).1))))], [((a 1), .inl (g.2 1, 88, .inr (.inl (aL (rCp 72 0 T_1).2.1))))]] := hD
  obtain ⟨T_4, hT_4⟩ : ∃ T : RS, T = rCp 72 0 T_1 := ⟨_, rfl⟩
  have hP : zP g [[mdl q a (uI x 9 T_4.2.2)], [((a 0), .inl (g.2 1, 88, .inr (.inl (aL T_4.1))))], [((a 1), .inl (g.2 1, 88, .inr (.inl (aL T_4.2.1))))]] H := by rw [hT_4]; exact hP
  have hD : zD A [[mdl q a (uI x 9 T_4.2.2)], [((a 0), .inl (g.2 1, 88, .inr (.inl (aL T_4.1))))], [((a 1), .inl (g.2 1, 88, .inr (.inl (aL T_4.2.1))))]] := by rw [hT_4]; exact hD
  have hZT_4 : T_4.2.2 = 0 ∨ T_4.2.2 = 1 := by rw [hT_4]; exact hZT_1
  have hRT_4_0 : T_4.2.2 = 0 → rk T_4 0 := by rw [hT_4]; exact rCp_rk (by omega) (by omega) hNT_1_0
  have hRT_4_1 : T_4.2.2 = 0 → rk T_4 1 := by rw [hT_4]; exact rCp_rk (by omega) (by omega) hNT_1_1
  have hRT_4_2 : T_4.2.2 = 0 → rk T_4 2 := by rw [hT_4]; exact rCp_rk (by omega) (by omega) hNT_1_2
  have hRT_4_3 : T_4.2.2 = 0 → rk T_4 3 := by rw [hT_4]; exact rCp_rk (by omega) (by omega) hNT_1_3
  have hRT_4_4 : T_4.2.2 = 0 → rk T_4 4 := by rw [hT_4]; exact rCp_rk (by omega) (by omega) hNT_1_4
  have hRT_4_5 : T_4.2.2 = 0 → rk T_4 5 := by rw [hT_4]; exact rCp_rk (by omega) (by omega) hNT_1_5
  have hNT_4_0 : T_4.2.2 = 0 → rk T_4 72 := by rw [hT_4]; exact rCp_r0 hNT_1_0
  have hNT_4_1 : T_4.2.2 = 0 → rk T_4 73 := by rw [hT_4]; exact rCp_r1 (by omega) hNT_1_1
  refine lv_aload_n hx hb dX10_mixed_21 rfl (lv_at hl 1 rfl) ?_
  refine z_iconst hx hb dX10_mixed_22 rfl ?_
  refine lv_iload hx hb dX10_mixed_23 (lv_at hl 0 rfl) ?_
  refine lv_iload_n hx hb dX10_mixed_25 rfl (lv_at hl 2 rfl) ?_
  refine z_imul hx hb 0 rfl dX10_mixed_26 ?_
  refine z_iconst hx hb dX10_mixed_27 rfl ?_
  refine z_irem hx hb 0 (by decide) (by decide) rfl dX10_mixed_28 ?_
  refine z_cVv (As := [vI 2, vI 0]) (rest := []) ⟨hx, hb, hml, hown, hts⟩ hK hP hD hS hA [0, 1, 2] [] rfl rfl rfl (c_X10_addTurned0 l g q a (uI x 9 T_4.2.2) T_4 2 (by omega) hZT_4 hRT_4_2 hRT_4_3 hNT_4_0 hNT_4_1) (cwV 2 hts gX10_mixed_X10_addTurned rfl rfl rfl (by decide +kernel) ⟨Nat.le_of_ble_eq_true rfl, Nat.le_of_ble_eq_true rfl⟩) 10 0 rfl rfl rfl (fun _ _ _ _ _ _ => trivial) (fun _ _ _ => trivial) rfl hl.1 (Nat.le_of_ble_eq_true rfl) rfl dX10_mixed_29 ⟨Nat.le_of_ble_eq_true rfl, Nat.le_of_ble_eq_true rfl⟩ (fun u_5 H locs hwu_5 hP hD hS => ?_)
  try dsimp only at hwu_5
  have hP : zP g [[mdl q a (uI x 9 (rAt 2 0 T_4).2.2)], [((a 0), .inl (g.2 1, 88, .inr (.inl (aL (rAt 2 0 T_4).1))))], [((a 1), .inl (g.2 1, 88, .inr (.inl (aL (rAt 2 0 T_4).2.1))))]] H := hP
  have hD : zD A [[mdl q a (uI x 9 (rAt 2 0 T_4).2.2)], [((a 0), .inl (g.2 1, 88, .inr (.inl (aL (rAt 2 0 T_4).1))))], [((a 1), .inl (g.2 1, 88, .inr (.inl (aL (rAt 2 0 T_4).2.1))))]] := hD
  obtain ⟨T_6, hT_6⟩ : ∃ T : RS, T = rAt 2 0 T_4 := ⟨_, rfl⟩
  have hP : zP g [[mdl q a (uI x 9 T_6.2.2)], [((a 0), .inl (g.2 1, 88, .inr (.inl (aL T_6.1))))], [((a 1), .inl (g.2 1, 88, .inr (.inl (aL T_6.2.1))))]] H := by rw [hT_6]; exact hP
  have hD : zD A [[mdl q a (uI x 9 T_6.2.2)], [((a 0), .inl (g.2 1, 88, .inr (.inl (aL T_6.1))))], [((a 1), .inl (g.2 1, 88, .inr (.inl (aL T_6.2.1))))]] := by rw [hT_6]; exact hD
  have hZT_6 : T_6.2.2 = 0 ∨ T_6.2.2 = 1 := by rw [hT_6]; exact rAt_01 hZT_4
  have hRT_6_0 : T_6.2.2 = 0 → rk T_6 0 := by rw [hT_6]; exact rAt_rk (by omega) hRT_4_0
  have hRT_6_1 : T_6.2.2 = 0 → rk T_6 1 := by rw [hT_6]; exact rAt_rk (by omega) hRT_4_1
  have hRT_6_2 : T_6.2.2 = 0 → rk T_6 2 := by rw [hT_6]; exact rAt_rk (by omega) hRT_4_2
  have hRT_6_3 : T_6.2.2 = 0 → rk T_6 3 := by rw [hT_6]; exact rAt_rk (by omega) hRT_4_3
  have hRT_6_4 : T_6.2.2 = 0 → rk T_6 4 := by rw [hT_6]; exact rAt_rk (by omega) hRT_4_4
  have hRT_6_5 : T_6.2.2 = 0 → rk T_6 5 := by rw [hT_6]; exact rAt_rk (by omega) hRT_4_5
  have hNT_6_0 : T_6.2.2 = 0 → rk T_6 72 := by rw [hT_6]; exact rAt_r0 (by omega) hRT_4_2 hRT_4_3 hNT_4_0
  have hNT_6_1 : T_6.2.2 = 0 → rk T_6 73 := by rw [hT_6]; exact rAt_r1 (by omega) hRT_4_2 hRT_4_3 hNT_4_1
  refine lv_aload_n hx hb dX10_mixed_32 rfl (lv_at hl 1 rfl) ?_
  refine z_iconst hx hb dX10_mixed_33 rfl ?_
  refine lv_iload hx hb dX10_mixed_34 (lv_at hl 0 rfl) ?_
  refine lv_iload_n hx hb dX10_mixed_36 rfl (lv_at hl 3 rfl) ?_
  refine z_imul hx hb 0 rfl dX10_mixed_37 ?_
  refine z_iconst hx hb dX10_mixed_38 rfl ?_
  refine z_irem hx hb 0 (by decide) (by decide) rfl dX10_mixed_39 ?_
  refine z_cVv (As := [vI 4, vI 0]) (rest := []) ⟨hx, hb, hml, hown, hts⟩ hK hP hD hS hA [0, 1, 2] [] rfl rfl rfl (c_X10_addTurned0 l g q a (uI x 9 T_6.2.2) T_6 4 (by omega) hZT_6 hRT_6_4 hRT_6_5 hNT_6_0 hNT_6_1) (cwV 2 hts gX10_mixed_X10_addTurned rfl rfl rfl (by decide +kernel) ⟨Nat.le_of_ble_eq_true rfl, Nat.le_of_ble_eq_true rfl⟩) 10 0 rfl rfl rfl (fun _ _ _ _ _ _ => trivial) (fun _ _ _ => trivial) rfl hl.1 (Nat.le_of_ble_eq_true rfl) rfl dX10_mixed_40 ⟨Nat.le_of_ble_eq_true rfl, Nat.le_of_ble_eq_true rfl⟩ (fun u_7 H locs hwu_7 hP hD hS => ?_)
  try dsimp only at hwu_7
  have hP : zP g [[mdl q a (uI x 9 (rAt 4 0 T_6).2.2)], [((a 0), .inl (g.2 1, 88, .inr (.inl (aL (rAt 4 0 T_6).1))))], [((a 1), .inl (g.2 1, 88, .inr (.inl (aL (rAt 4 0 T_6).2.1))))]] H := hP
  have hD : zD A [[mdl q a (uI x 9 (rAt 4 0 T_6).2.2)], [((a 0), .inl (g.2 1, 88, .inr (.inl (aL (rAt 4 0 T_6).1))))], [((a 1), .inl (g.2 1, 88, .inr (.inl (aL (rAt 4 0 T_6).2.1))))]] := hD
  obtain ⟨T_8, hT_8⟩ : ∃ T : RS, T = rAt 4 0 T_6 := ⟨_, rfl⟩
  have hP : zP g [[mdl q a (uI x 9 T_8.2.2)], [((a 0), .inl (g.2 1, 88, .inr (.inl (aL T_8.1))))], [((a 1), .inl (g.2 1, 88, .inr (.inl (aL T_8.2.1))))]] H := by rw [hT_8]; exact hP
  have hD : zD A [[mdl q a (uI x 9 T_8.2.2)], [((a 0), .inl (g.2 1, 88, .inr (.inl (aL T_8.1))))], [((a 1), .inl (g.2 1, 88, .inr (.inl (aL T_8.2.1))))]] := by rw [hT_8]; exact hD
  have hZT_8 : T_8.2.2 = 0 ∨ T_8.2.2 = 1 := by rw [hT_8]; exact rAt_01 hZT_6
  have hRT_8_0 : T_8.2.2 = 0 → rk T_8 0 := by rw [hT_8]; exact rAt_rk (by omega) hRT_6_0
  have hRT_8_1 : T_8.2.2 = 0 → rk T_8 1 := by rw [hT_8]; exact rAt_rk (by omega) hRT_6_1
  have hRT_8_2 : T_8.2.2 = 0 → rk T_8 2 := by rw [hT_8]; exact rAt_rk (by omega) hRT_6_2
  have hRT_8_3 : T_8.2.2 = 0 → rk T_8 3 := by rw [hT_8]; exact rAt_rk (by omega) hRT_6_3
  have hRT_8_4 : T_8.2.2 = 0 → rk T_8 4 := by rw [hT_8]; exact rAt_rk (by omega) hRT_6_4
  have hRT_8_5 : T_8.2.2 = 0 → rk T_8 5 := by rw [hT_8]; exact rAt_rk (by omega) hRT_6_5
  have hNT_8_0 : T_8.2.2 = 0 → rk T_8 72 := by rw [hT_8]; exact rAt_r0 (by omega) hRT_6_4 hRT_6_5 hNT_6_0
  have hNT_8_1 : T_8.2.2 = 0 → rk T_8 73 := by rw [hT_8]; exact rAt_r1 (by omega) hRT_6_4 hRT_6_5 hNT_6_1
  refine lv_iload_n hx hb dX10_mixed_43 rfl (lv_at hl 4 rfl) ?_
  refine z_if_eq (tgt := 53) hx hb (by decide) dX10_mixed_44 (by decide) (fun cq9 => False.elim (by omega)) (fun cq9 => ?_)
  refine lv_aload_n hx hb dX10_mixed_47 rfl (lv_at hl 1 rfl) ?_
  refine z_bipush hx hb 72 dX10_mixed_48 rfl ?_
  refine z_cVv (As := [vI 72]) (rest := []) ⟨hx, hb, hml, hown, hts⟩ hK hP hD hS hA [0, 1, 2] [] rfl rfl rfl (c_X10_third l g q a (uI x 9 T_8.2.2) T_8 72 (by omega) hZT_8 hNT_8_0 hNT_8_1) (cwV 1 hts gX10_mixed_X10_third rfl rfl rfl (by decide +kernel) ⟨Nat.le_of_ble_eq_true rfl, Nat.le_of_ble_eq_true rfl⟩) 10 0 rfl rfl rfl (fun _ _ _ _ _ _ => trivial) (fun _ _ _ => trivial) rfl hl.1 (Nat.le_of_ble_eq_true rfl) rfl dX10_mixed_50 ⟨Nat.le_of_ble_eq_true rfl, Nat.le_of_ble_eq_true rfl⟩ (fun u_10 H locs hwu_10 hP hD hS => ?_)
  try dsimp only at hwu_10
  have hP : zP g [[mdl q a (uI x 9 (rTh 72 T_8).2.2)], [((a 0), .inl (g.2 1, 88, .inr (.inl (aL (rTh 72 T_8).1))))], [((a 1), .inl (g.2 1, 88, .inr (.inl (aL (rTh 72 T_8).2.1))))]] H := hP
  have hD : zD A [[mdl q a (uI x 9 (rTh 72 T_8).2.2)], [((a 0), .inl (g.2 1, 88, .inr (.inl (aL (rTh 72 T_8).1))))], [((a 1), .inl (g.2 1, 88, .inr (.inl (aL (rTh 72 T_8).2.1))))]] := hD
  obtain ⟨T_11, hT_11⟩ : ∃ T : RS, T = rTh 72 T_8 := ⟨_, rfl⟩
  have hP : zP g [[mdl q a (uI x 9 T_11.2.2)], [((a 0), .inl (g.2 1, 88, .inr (.inl (aL T_11.1))))], [((a 1), .inl (g.2 1, 88, .inr (.inl (aL T_11.2.1))))]] H := by rw [hT_11]; exact hP
  have hD : zD A [[mdl q a (uI x 9 T_11.2.2)], [((a 0), .inl (g.2 1, 88, .inr (.inl (aL T_11.1))))], [((a 1), .inl (g.2 1, 88, .inr (.inl (aL T_11.2.1))))]] := by rw [hT_11]; exact hD
  have hZT_11 : T_11.2.2 = 0 ∨ T_11.2.2 = 1 := by rw [hT_11]; exact rTh_01 hZT_8
  have hRT_11_0 : T_11.2.2 = 0 → rk T_11 0 := by rw [hT_11]; exact rTh_rk (by omega) (by omega) (by omega) hRT_8_0
  have hRT_11_1 : T_11.2.2 = 0 → rk T_11 1 := by rw [hT_11]; exact rTh_rk (by omega) (by omega) (by omega) hRT_8_1
  have hRT_11_2 : T_11.2.2 = 0 → rk T_11 2 := by rw [hT_11]; exact rTh_rk (by omega) (by omega) (by omega) hRT_8_2
  have hRT_11_3 : T_11.2.2 = 0 → rk T_11 3 := by rw [hT_11]; exact rTh_rk (by omega) (by omega) (by omega) hRT_8_3
  have hRT_11_4 : T_11.2.2 = 0 → rk T_11 4 := by rw [hT_11]; exact rTh_rk (by omega) (by omega) (by omega) hRT_8_4
  have hRT_11_5 : T_11.2.2 = 0 → rk T_11 5 := by rw [hT_11]; exact rTh_rk (by omega) (by omega) (by omega) hRT_8_5
  have hNT_11_0 : T_11.2.2 = 0 → rk T_11 72 := by rw [hT_11]; exact rTh_r0 (by omega) hNT_8_0
  have hNT_11_1 : T_11.2.2 = 0 → rk T_11 73 := by rw [hT_11]; exact rTh_r1 (by omega) (by omega) hNT_8_1
  refine lv_aload_n hx hb dX10_mixed_53 rfl (lv_at hl 1 rfl) ?_
  refine z_bipush hx hb 66 dX10_mixed_54 rfl ?_
  refine z_iconst hx hb dX10_mixed_56 rfl ?_
  refine lv_iload hx hb dX10_mixed_57 (lv_at hl 0 rfl) ?_
  refine z_imul hx hb 0 rfl dX10_mixed_59 ?_
  refine z_iadd hx hb 66 rfl dX10_mixed_60 ?_
  refine z_bipush hx hb 72 dX10_mixed_61 rfl ?_
  refine z_cVv (As := [vI 66, vI 72]) (rest := []) ⟨hx, hb, hml, hown, hts⟩ hK hP hD hS hA [0, 1, 2] [] rfl rfl rfl (c_X10_copyTo l g q a (uI x 9 T_11.2.2) T_11 66 72 (by omega) (by omega)) (cwV 2 hts gX10_mixed_X10_copyTo rfl rfl rfl (by decide +kernel) ⟨Nat.le_of_ble_eq_true rfl, Nat.le_of_ble_eq_true rfl⟩) 10 0 rfl rfl rfl (fun _ _ _ _ _ _ => trivial) (fun _ _ _ => trivial) rfl hl.1 (Nat.le_of_ble_eq_true rfl) rfl dX10_mixed_63 ⟨Nat.le_of_ble_eq_true rfl, Nat.le_of_ble_eq_true rfl⟩ (fun u_12 H locs hwu_12 hP hD hS => ?_)
  try dsimp only at hwu_12
  have hP : zP g [[mdl q a (uI x 9 T_11.2.2)], [((a 0), .inl (g.2 1, 88, .inr (.inl (aL (rCp 66 72 T_11).1))))], [((a 1), .inl (g.2 1, 88, .inr (.inl (aL (rCp 66 72 T_11).2.1))))]] H := hP
  have hD : zD A [[mdl q a (uI x 9 T_11.2.2)], [((a 0), .inl (g.2 1, 88, .inr (.inl (aL (rCp 66 72 T_11).1))))], [((a 1), .inl (g.2 1, 88, .inr (.inl (aL (rCp 66 72 T_11).2.1))))]] := hD
  obtain ⟨T_13, hT_13⟩ : ∃ T : RS, T = rCp 66 72 T_11 := ⟨_, rfl⟩
  have hP : zP g [[mdl q a (uI x 9 T_13.2.2)], [((a 0), .inl (g.2 1, 88, .inr (.inl (aL T_13.1))))], [((a 1), .inl (g.2 1, 88, .inr (.inl (aL T_13.2.1))))]] H := by rw [hT_13]; exact hP
  have hD : zD A [[mdl q a (uI x 9 T_13.2.2)], [((a 0), .inl (g.2 1, 88, .inr (.inl (aL T_13.1))))], [((a 1), .inl (g.2 1, 88, .inr (.inl (aL T_13.2.1))))]] := by rw [hT_13]; exact hD
  have hZT_13 : T_13.2.2 = 0 ∨ T_13.2.2 = 1 := by rw [hT_13]; exact hZT_11
  have hRT_13_0 : T_13.2.2 = 0 → rk T_13 0 := by rw [hT_13]; exact rCp_rk (by omega) (by omega) hRT_11_0
  have hRT_13_1 : T_13.2.2 = 0 → rk T_13 1 := by rw [hT_13]; exact rCp_rk (by omega) (by omega) hRT_11_1
  have hRT_13_2 : T_13.2.2 = 0 → rk T_13 2 := by rw [hT_13]; exact rCp_rk (by omega) (by omega) hRT_11_2
  have hRT_13_3 : T_13.2.2 = 0 → rk T_13 3 := by rw [hT_13]; exact rCp_rk (by omega) (by omega) hRT_11_3
  have hRT_13_4 : T_13.2.2 = 0 → rk T_13 4 := by rw [hT_13]; exact rCp_rk (by omega) (by omega) hRT_11_4
  have hRT_13_5 : T_13.2.2 = 0 → rk T_13 5 := by rw [hT_13]; exact rCp_rk (by omega) (by omega) hRT_11_5
  refine z_iinc hx hb 1 (lv' := [(4, vI 1), (0, .ref q), (1, vI 1), (2, vI 2), (3, vI 1)]) dX10_mixed_66 hl (k := 0) rfl (rfl) (by decide) rfl (fun ls hl => ?_)
  refine lv_goto (tgt := 8) hx hb dX10_mixed_69 (by decide) ?_
  refine lv_iload hx hb dX10_mixed_8 (lv_at hl 0 rfl) ?_
  refine z_iconst hx hb dX10_mixed_10 rfl ?_
  refine z_icmp_ge (tgt := 72) hx hb (by decide) (by decide) dX10_mixed_11 (by decide) (fun cq14 => False.elim (by omega)) (fun cq14 => ?_)
  refine lv_aload_n hx hb dX10_mixed_14 rfl (lv_at hl 1 rfl) ?_
  refine z_bipush hx hb 72 dX10_mixed_15 rfl ?_
  refine z_iconst hx hb dX10_mixed_17 rfl ?_
  refine z_cVv (As := [vI 72, vI 0]) (rest := []) ⟨hx, hb, hml, hown, hts⟩ hK hP hD hS hA [0, 1, 2] [] rfl rfl rfl (c_X10_copyTo l g q a (uI x 9 T_13.2.2) T_13 72 0 (by omega) (by omega)) (cwV 2 hts gX10_mixed_X10_copyTo rfl rfl rfl (by decide +kernel) ⟨Nat.le_of_ble_eq_true rfl, Nat.le_of_ble_eq_true rfl⟩) 10 0 rfl rfl rfl (fun _ _ _ _ _ _ => trivial) (fun _ _ _ => trivial) rfl hl.1 (Nat.le_of_ble_eq_true rfl) rfl dX10_mixed_18 ⟨Nat.le_of_ble_eq_true rfl, Nat.le_of_ble_eq_true rfl⟩ (fun u_15 H locs hwu_15 hP hD hS => ?_)
  try dsimp only at hwu_15
  have hP : zP g [[mdl q a (uI x 9 T_13.2.2)], [((a 0), .inl (g.2 1, 88, .inr (.inl (aL (rCp 72 0 T_13).1))))], [((a 1), .inl (g.2 1, 88, .inr (.inl (aL (rCp 72 0 T_13).2.1))))]] H := hP
  have hD : zD A [[mdl q a (uI x 9 T_13.2.2)], [((a 0), .inl (g.2 1, 88, .inr (.inl (aL (rCp 72 0 T_13).1))))], [((a 1), .inl (g.2 1, 88, .inr (.inl (aL (rCp 72 0 T_13).2.1))))]] := hD
  obtain ⟨T_16, hT_16⟩ : ∃ T : RS, T = rCp 72 0 T_13 := ⟨_, rfl⟩
  have hP : zP g [[mdl q a (uI x 9 T_16.2.2)], [((a 0), .inl (g.2 1, 88, .inr (.inl (aL T_16.1))))], [((a 1), .inl (g.2 1, 88, .inr (.inl (aL T_16.2.1))))]] H := by rw [hT_16]; exact hP
  have hD : zD A [[mdl q a (uI x 9 T_16.2.2)], [((a 0), .inl (g.2 1, 88, .inr (.inl (aL T_16.1))))], [((a 1), .inl (g.2 1, 88, .inr (.inl (aL T_16.2.1))))]] := by rw [hT_16]; exact hD
  have hZT_16 : T_16.2.2 = 0 ∨ T_16.2.2 = 1 := by rw [hT_16]; exact hZT_13
  have hRT_16_0 : T_16.2.2 = 0 → rk T_16 0 := by rw [hT_16]; exact rCp_rk (by omega) (by omega) hRT_13_0
  have hRT_16_1 : T_16.2.2 = 0 → rk T_16 1 := by rw [hT_16]; exact rCp_rk (by omega) (by omega) hRT_13_1
  have hRT_16_2 : T_16.2.2 = 0 → rk T_16 2 := by rw [hT_16]; exact rCp_rk (by omega) (by omega) hRT_13_2
  have hRT_16_3 : T_16.2.2 = 0 → rk T_16 3 := by rw [hT_16]; exact rCp_rk (by omega) (by omega) hRT_13_3
  have hRT_16_4 : T_16.2.2 = 0 → rk T_16 4 := by rw [hT_16]; exact rCp_rk (by omega) (by omega) hRT_13_4
  have hRT_16_5 : T_16.2.2 = 0 → rk T_16 5 := by rw [hT_16]; exact rCp_rk (by omega) (by omega) hRT_13_5
  have hNT_16_0 : T_16.2.2 = 0 → rk T_16 72 := by rw [hT_16]; exact rCp_r0 hRT_13_0
  have hNT_16_1 : T_16.2.2 = 0 → rk T_16 73 := by rw [hT_16]; exact rCp_r1 (by omega) hRT_13_1
  refine lv_aload_n hx hb dX10_mixed_21 rfl (lv_at hl 1 rfl) ?_
  refine z_iconst hx hb dX10_mixed_22 rfl ?_
  refine lv_iload hx hb dX10_mixed_23 (lv_at hl 0 rfl) ?_
  refine lv_iload_n hx hb dX10_mixed_25 rfl (lv_at hl 2 rfl) ?_
  refine z_imul hx hb 1 rfl dX10_mixed_26 ?_
  refine z_iconst hx hb dX10_mixed_27 rfl ?_
  refine z_irem hx hb 1 (by decide) (by decide) rfl dX10_mixed_28 ?_
  refine z_cVv (As := [vI 2, vI 1]) (rest := []) ⟨hx, hb, hml, hown, hts⟩ hK hP hD hS hA [0, 1, 2] [] rfl rfl rfl (c_X10_addTurned1 l g q a (uI x 9 T_16.2.2) T_16 2 (by omega) hZT_16 hRT_16_2 hRT_16_3 hNT_16_0 hNT_16_1) (cwV 2 hts gX10_mixed_X10_addTurned rfl rfl rfl (by decide +kernel) ⟨Nat.le_of_ble_eq_true rfl, Nat.le_of_ble_eq_true rfl⟩) 10 0 rfl rfl rfl (fun _ _ _ _ _ _ => trivial) (fun _ _ _ => trivial) rfl hl.1 (Nat.le_of_ble_eq_true rfl) rfl dX10_mixed_29 ⟨Nat.le_of_ble_eq_true rfl, Nat.le_of_ble_eq_true rfl⟩ (fun u_17 H locs hwu_17 hP hD hS => ?_)
  try dsimp only at hwu_17
  have hP : zP g [[mdl q a (uI x 9 (rAt 2 1 T_16).2.2)], [((a 0), .inl (g.2 1, 88, .inr (.inl (aL (rAt 2 1 T_16).1))))], [((a 1), .inl (g.2 1, 88, .inr (.inl (aL (rAt 2 1 T_16).2.1))))]] H := hP
  have hD : zD A [[mdl q a (uI x 9 (rAt 2 1 T_16).2.2)], [((a 0), .inl (g.2 1, 88, .inr (.inl (aL (rAt 2 1 T_16).1))))], [((a 1), .inl (g.2 1, 88, .inr (.inl (aL (rAt 2 1 T_16).2.1))))]] := hD
  obtain ⟨T_18, hT_18⟩ : ∃ T : RS, T = rAt 2 1 T_16 := ⟨_, rfl⟩
  have hP : zP g [[mdl q a (uI x 9 T_18.2.2)], [((a 0), .inl (g.2 1, 88, .inr (.inl (aL T_18.1))))], [((a 1), .inl (g.2 1, 88, .inr (.inl (aL T_18.2.1))))]] H := by rw [hT_18]; exact hP
  have hD : zD A [[mdl q a (uI x 9 T_18.2.2)], [((a 0), .inl (g.2 1, 88, .inr (.inl (aL T_18.1))))], [((a 1), .inl (g.2 1, 88, .inr (.inl (aL T_18.2.1))))]] := by rw [hT_18]; exact hD
  have hZT_18 : T_18.2.2 = 0 ∨ T_18.2.2 = 1 := by rw [hT_18]; exact rAt_01 hZT_16
  have hRT_18_0 : T_18.2.2 = 0 → rk T_18 0 := by rw [hT_18]; exact rAt_rk (by omega) hRT_16_0
  have hRT_18_1 : T_18.2.2 = 0 → rk T_18 1 := by rw [hT_18]; exact rAt_rk (by omega) hRT_16_1
  have hRT_18_2 : T_18.2.2 = 0 → rk T_18 2 := by rw [hT_18]; exact rAt_rk (by omega) hRT_16_2
  have hRT_18_3 : T_18.2.2 = 0 → rk T_18 3 := by rw [hT_18]; exact rAt_rk (by omega) hRT_16_3
  have hRT_18_4 : T_18.2.2 = 0 → rk T_18 4 := by rw [hT_18]; exact rAt_rk (by omega) hRT_16_4
  have hRT_18_5 : T_18.2.2 = 0 → rk T_18 5 := by rw [hT_18]; exact rAt_rk (by omega) hRT_16_5
  have hNT_18_0 : T_18.2.2 = 0 → rk T_18 72 := by rw [hT_18]; exact rAt_r0 (by omega) hRT_16_2 hRT_16_3 hNT_16_0
  have hNT_18_1 : T_18.2.2 = 0 → rk T_18 73 := by rw [hT_18]; exact rAt_r1 (by omega) hRT_16_2 hRT_16_3 hNT_16_1
  refine lv_aload_n hx hb dX10_mixed_32 rfl (lv_at hl 1 rfl) ?_
  refine z_iconst hx hb dX10_mixed_33 rfl ?_
  refine lv_iload hx hb dX10_mixed_34 (lv_at hl 0 rfl) ?_
  refine lv_iload_n hx hb dX10_mixed_36 rfl (lv_at hl 3 rfl) ?_
  refine z_imul hx hb 2 rfl dX10_mixed_37 ?_
  refine z_iconst hx hb dX10_mixed_38 rfl ?_
  refine z_irem hx hb 2 (by decide) (by decide) rfl dX10_mixed_39 ?_
  refine z_cVv (As := [vI 4, vI 2]) (rest := []) ⟨hx, hb, hml, hown, hts⟩ hK hP hD hS hA [0, 1, 2] [] rfl rfl rfl (c_X10_addTurned2 l g q a (uI x 9 T_18.2.2) T_18 4 (by omega) hZT_18 hRT_18_4 hRT_18_5 hNT_18_0 hNT_18_1) (cwV 2 hts gX10_mixed_X10_addTurned rfl rfl rfl (by decide +kernel) ⟨Nat.le_of_ble_eq_true rfl, Nat.le_of_ble_eq_true rfl⟩) 10 0 rfl rfl rfl (fun _ _ _ _ _ _ => trivial) (fun _ _ _ => trivial) rfl hl.1 (Nat.le_of_ble_eq_true rfl) rfl dX10_mixed_40 ⟨Nat.le_of_ble_eq_true rfl, Nat.le_of_ble_eq_true rfl⟩ (fun u_19 H locs hwu_19 hP hD hS => ?_)
  try dsimp only at hwu_19
  have hP : zP g [[mdl q a (uI x 9 (rAt 4 2 T_18).2.2)], [((a 0), .inl (g.2 1, 88, .inr (.inl (aL (rAt 4 2 T_18).1))))], [((a 1), .inl (g.2 1, 88, .inr (.inl (aL (rAt 4 2 T_18).2.1))))]] H := hP
  have hD : zD A [[mdl q a (uI x 9 (rAt 4 2 T_18).2.2)], [((a 0), .inl (g.2 1, 88, .inr (.inl (aL (rAt 4 2 T_18).1))))], [((a 1), .inl (g.2 1, 88, .inr (.inl (aL (rAt 4 2 T_18).2.1))))]] := hD
  obtain ⟨T_20, hT_20⟩ : ∃ T : RS, T = rAt 4 2 T_18 := ⟨_, rfl⟩
  have hP : zP g [[mdl q a (uI x 9 T_20.2.2)], [((a 0), .inl (g.2 1, 88, .inr (.inl (aL T_20.1))))], [((a 1), .inl (g.2 1, 88, .inr (.inl (aL T_20.2.1))))]] H := by rw [hT_20]; exact hP
  have hD : zD A [[mdl q a (uI x 9 T_20.2.2)], [((a 0), .inl (g.2 1, 88, .inr (.inl (aL T_20.1))))], [((a 1), .inl (g.2 1, 88, .inr (.inl (aL T_20.2.1))))]] := by rw [hT_20]; exact hD
  have hZT_20 : T_20.2.2 = 0 ∨ T_20.2.2 = 1 := by rw [hT_20]; exact rAt_01 hZT_18
  have hRT_20_0 : T_20.2.2 = 0 → rk T_20 0 := by rw [hT_20]; exact rAt_rk (by omega) hRT_18_0
  have hRT_20_1 : T_20.2.2 = 0 → rk T_20 1 := by rw [hT_20]; exact rAt_rk (by omega) hRT_18_1
  have hRT_20_2 : T_20.2.2 = 0 → rk T_20 2 := by rw [hT_20]; exact rAt_rk (by omega) hRT_18_2
  have hRT_20_3 : T_20.2.2 = 0 → rk T_20 3 := by rw [hT_20]; exact rAt_rk (by omega) hRT_18_3
  have hRT_20_4 : T_20.2.2 = 0 → rk T_20 4 := by rw [hT_20]; exact rAt_rk (by omega) hRT_18_4
  have hRT_20_5 : T_20.2.2 = 0 → rk T_20 5 := by rw [hT_20]; exact rAt_rk (by omega) hRT_18_5
  have hNT_20_0 : T_20.2.2 = 0 → rk T_20 72 := by rw [hT_20]; exact rAt_r0 (by omega) hRT_18_4 hRT_18_5 hNT_18_0
  have hNT_20_1 : T_20.2.2 = 0 → rk T_20 73 := by rw [hT_20]; exact rAt_r1 (by omega) hRT_18_4 hRT_18_5 hNT_18_1
  refine lv_iload_n hx hb dX10_mixed_43 rfl (lv_at hl 4 rfl) ?_
  refine z_if_eq (tgt := 53) hx hb (by decide) dX10_mixed_44 (by decide) (fun cq21 => False.elim (by omega)) (fun cq21 => ?_)
  refine lv_aload_n hx hb dX10_mixed_47 rfl (lv_at hl 1 rfl) ?_
  refine z_bipush hx hb 72 dX10_mixed_48 rfl ?_
  refine z_cVv (As := [vI 72]) (rest := []) ⟨hx, hb, hml, hown, hts⟩ hK hP hD hS hA [0, 1, 2] [] rfl rfl rfl (c_X10_third l g q a (uI x 9 T_20.2.2) T_20 72 (by omega) hZT_20 hNT_20_0 hNT_20_1) (cwV 1 hts gX10_mixed_X10_third rfl rfl rfl (by decide +kernel) ⟨Nat.le_of_ble_eq_true rfl, Nat.le_of_ble_eq_true rfl⟩) 10 0 rfl rfl rfl (fun _ _ _ _ _ _ => trivial) (fun _ _ _ => trivial) rfl hl.1 (Nat.le_of_ble_eq_true rfl) rfl dX10_mixed_50 ⟨Nat.le_of_ble_eq_true rfl, Nat.le_of_ble_eq_true rfl⟩ (fun u_22 H locs hwu_22 hP hD hS => ?_)
  try dsimp only at hwu_22
  have hP : zP g [[mdl q a (uI x 9 (rTh 72 T_20).2.2)], [((a 0), .inl (g.2 1, 88, .inr (.inl (aL (rTh 72 T_20).1))))], [((a 1), .inl (g.2 1, 88, .inr (.inl (aL (rTh 72 T_20).2.1))))]] H := hP
  have hD : zD A [[mdl q a (uI x 9 (rTh 72 T_20).2.2)], [((a 0), .inl (g.2 1, 88, .inr (.inl (aL (rTh 72 T_20).1))))], [((a 1), .inl (g.2 1, 88, .inr (.inl (aL (rTh 72 T_20).2.1))))]] := hD
  obtain ⟨T_23, hT_23⟩ : ∃ T : RS, T = rTh 72 T_20 := ⟨_, rfl⟩
  have hP : zP g [[mdl q a (uI x 9 T_23.2.2)], [((a 0), .inl (g.2 1, 88, .inr (.inl (aL T_23.1))))], [((a 1), .inl (g.2 1, 88, .inr (.inl (aL T_23.2.1))))]] H := by rw [hT_23]; exact hP
  have hD : zD A [[mdl q a (uI x 9 T_23.2.2)], [((a 0), .inl (g.2 1, 88, .inr (.inl (aL T_23.1))))], [((a 1), .inl (g.2 1, 88, .inr (.inl (aL T_23.2.1))))]] := by rw [hT_23]; exact hD
  have hZT_23 : T_23.2.2 = 0 ∨ T_23.2.2 = 1 := by rw [hT_23]; exact rTh_01 hZT_20
  have hRT_23_0 : T_23.2.2 = 0 → rk T_23 0 := by rw [hT_23]; exact rTh_rk (by omega) (by omega) (by omega) hRT_20_0
  have hRT_23_1 : T_23.2.2 = 0 → rk T_23 1 := by rw [hT_23]; exact rTh_rk (by omega) (by omega) (by omega) hRT_20_1
  have hRT_23_2 : T_23.2.2 = 0 → rk T_23 2 := by rw [hT_23]; exact rTh_rk (by omega) (by omega) (by omega) hRT_20_2
  have hRT_23_3 : T_23.2.2 = 0 → rk T_23 3 := by rw [hT_23]; exact rTh_rk (by omega) (by omega) (by omega) hRT_20_3
  have hRT_23_4 : T_23.2.2 = 0 → rk T_23 4 := by rw [hT_23]; exact rTh_rk (by omega) (by omega) (by omega) hRT_20_4
  have hRT_23_5 : T_23.2.2 = 0 → rk T_23 5 := by rw [hT_23]; exact rTh_rk (by omega) (by omega) (by omega) hRT_20_5
  have hNT_23_0 : T_23.2.2 = 0 → rk T_23 72 := by rw [hT_23]; exact rTh_r0 (by omega) hNT_20_0
  have hNT_23_1 : T_23.2.2 = 0 → rk T_23 73 := by rw [hT_23]; exact rTh_r1 (by omega) (by omega) hNT_20_1
  refine lv_aload_n hx hb dX10_mixed_53 rfl (lv_at hl 1 rfl) ?_
  refine z_bipush hx hb 66 dX10_mixed_54 rfl ?_
  refine z_iconst hx hb dX10_mixed_56 rfl ?_
  refine lv_iload hx hb dX10_mixed_57 (lv_at hl 0 rfl) ?_
  refine z_imul hx hb 2 rfl dX10_mixed_59 ?_
  refine z_iadd hx hb 68 rfl dX10_mixed_60 ?_
  refine z_bipush hx hb 72 dX10_mixed_61 rfl ?_
  refine z_cVv (As := [vI 68, vI 72]) (rest := []) ⟨hx, hb, hml, hown, hts⟩ hK hP hD hS hA [0, 1, 2] [] rfl rfl rfl (c_X10_copyTo l g q a (uI x 9 T_23.2.2) T_23 68 72 (by omega) (by omega)) (cwV 2 hts gX10_mixed_X10_copyTo rfl rfl rfl (by decide +kernel) ⟨Nat.le_of_ble_eq_true rfl, Nat.le_of_ble_eq_true rfl⟩) 10 0 rfl rfl rfl (fun _ _ _ _ _ _ => trivial) (fun _ _ _ => trivial) rfl hl.1 (Nat.le_of_ble_eq_true rfl) rfl dX10_mixed_63 ⟨Nat.le_of_ble_eq_true rfl, Nat.le_of_ble_eq_true rfl⟩ (fun u_24 H locs hwu_24 hP hD hS => ?_)
  try dsimp only at hwu_24
  have hP : zP g [[mdl q a (uI x 9 T_23.2.2)], [((a 0), .inl (g.2 1, 88, .inr (.inl (aL (rCp 68 72 T_23).1))))], [((a 1), .inl (g.2 1, 88, .inr (.inl (aL (rCp 68 72 T_23).2.1))))]] H := hP
  have hD : zD A [[mdl q a (uI x 9 T_23.2.2)], [((a 0), .inl (g.2 1, 88, .inr (.inl (aL (rCp 68 72 T_23).1))))], [((a 1), .inl (g.2 1, 88, .inr (.inl (aL (rCp 68 72 T_23).2.1))))]] := hD
  obtain ⟨T_25, hT_25⟩ : ∃ T : RS, T = rCp 68 72 T_23 := ⟨_, rfl⟩
  have hP : zP g [[mdl q a (uI x 9 T_25.2.2)], [((a 0), .inl (g.2 1, 88, .inr (.inl (aL T_25.1))))], [((a 1), .inl (g.2 1, 88, .inr (.inl (aL T_25.2.1))))]] H := by rw [hT_25]; exact hP
  have hD : zD A [[mdl q a (uI x 9 T_25.2.2)], [((a 0), .inl (g.2 1, 88, .inr (.inl (aL T_25.1))))], [((a 1), .inl (g.2 1, 88, .inr (.inl (aL T_25.2.1))))]] := by rw [hT_25]; exact hD
  have hZT_25 : T_25.2.2 = 0 ∨ T_25.2.2 = 1 := by rw [hT_25]; exact hZT_23
  have hRT_25_0 : T_25.2.2 = 0 → rk T_25 0 := by rw [hT_25]; exact rCp_rk (by omega) (by omega) hRT_23_0
  have hRT_25_1 : T_25.2.2 = 0 → rk T_25 1 := by rw [hT_25]; exact rCp_rk (by omega) (by omega) hRT_23_1
  have hRT_25_2 : T_25.2.2 = 0 → rk T_25 2 := by rw [hT_25]; exact rCp_rk (by omega) (by omega) hRT_23_2
  have hRT_25_3 : T_25.2.2 = 0 → rk T_25 3 := by rw [hT_25]; exact rCp_rk (by omega) (by omega) hRT_23_3
  have hRT_25_4 : T_25.2.2 = 0 → rk T_25 4 := by rw [hT_25]; exact rCp_rk (by omega) (by omega) hRT_23_4
  have hRT_25_5 : T_25.2.2 = 0 → rk T_25 5 := by rw [hT_25]; exact rCp_rk (by omega) (by omega) hRT_23_5
  refine z_iinc hx hb 2 (lv' := [(4, vI 2), (0, .ref q), (1, vI 1), (2, vI 2), (3, vI 1)]) dX10_mixed_66 hl (k := 0) rfl (rfl) (by decide) rfl (fun ls hl => ?_)
  refine lv_goto (tgt := 8) hx hb dX10_mixed_69 (by decide) ?_
  refine lv_iload hx hb dX10_mixed_8 (lv_at hl 0 rfl) ?_
  refine z_iconst hx hb dX10_mixed_10 rfl ?_
  refine z_icmp_ge (tgt := 72) hx hb (by decide) (by decide) dX10_mixed_11 (by decide) (fun cq26 => False.elim (by omega)) (fun cq26 => ?_)
  refine lv_aload_n hx hb dX10_mixed_14 rfl (lv_at hl 1 rfl) ?_
  refine z_bipush hx hb 72 dX10_mixed_15 rfl ?_
  refine z_iconst hx hb dX10_mixed_17 rfl ?_
  refine z_cVv (As := [vI 72, vI 0]) (rest := []) ⟨hx, hb, hml, hown, hts⟩ hK hP hD hS hA [0, 1, 2] [] rfl rfl rfl (c_X10_copyTo l g q a (uI x 9 T_25.2.2) T_25 72 0 (by omega) (by omega)) (cwV 2 hts gX10_mixed_X10_copyTo rfl rfl rfl (by decide +kernel) ⟨Nat.le_of_ble_eq_true rfl, Nat.le_of_ble_eq_true rfl⟩) 10 0 rfl rfl rfl (fun _ _ _ _ _ _ => trivial) (fun _ _ _ => trivial) rfl hl.1 (Nat.le_of_ble_eq_true rfl) rfl dX10_mixed_18 ⟨Nat.le_of_ble_eq_true rfl, Nat.le_of_ble_eq_true rfl⟩ (fun u_27 H locs hwu_27 hP hD hS => ?_)
  try dsimp only at hwu_27
  have hP : zP g [[mdl q a (uI x 9 T_25.2.2)], [((a 0), .inl (g.2 1, 88, .inr (.inl (aL (rCp 72 0 T_25).1))))], [((a 1), .inl (g.2 1, 88, .inr (.inl (aL (rCp 72 0 T_25).2.1))))]] H := hP
  have hD : zD A [[mdl q a (uI x 9 T_25.2.2)], [((a 0), .inl (g.2 1, 88, .inr (.inl (aL (rCp 72 0 T_25).1))))], [((a 1), .inl (g.2 1, 88, .inr (.inl (aL (rCp 72 0 T_25).2.1))))]] := hD
  obtain ⟨T_28, hT_28⟩ : ∃ T : RS, T = rCp 72 0 T_25 := ⟨_, rfl⟩
  have hP : zP g [[mdl q a (uI x 9 T_28.2.2)], [((a 0), .inl (g.2 1, 88, .inr (.inl (aL T_28.1))))], [((a 1), .inl (g.2 1, 88, .inr (.inl (aL T_28.2.1))))]] H := by rw [hT_28]; exact hP
  have hD : zD A [[mdl q a (uI x 9 T_28.2.2)], [((a 0), .inl (g.2 1, 88, .inr (.inl (aL T_28.1))))], [((a 1), .inl (g.2 1, 88, .inr (.inl (aL T_28.2.1))))]] := by rw [hT_28]; exact hD
  have hZT_28 : T_28.2.2 = 0 ∨ T_28.2.2 = 1 := by rw [hT_28]; exact hZT_25
  have hRT_28_0 : T_28.2.2 = 0 → rk T_28 0 := by rw [hT_28]; exact rCp_rk (by omega) (by omega) hRT_25_0
  have hRT_28_1 : T_28.2.2 = 0 → rk T_28 1 := by rw [hT_28]; exact rCp_rk (by omega) (by omega) hRT_25_1
  have hRT_28_2 : T_28.2.2 = 0 → rk T_28 2 := by rw [hT_28]; exact rCp_rk (by omega) (by omega) hRT_25_2
  have hRT_28_3 : T_28.2.2 = 0 → rk T_28 3 := by rw [hT_28]; exact rCp_rk (by omega) (by omega) hRT_25_3
  have hRT_28_4 : T_28.2.2 = 0 → rk T_28 4 := by rw [hT_28]; exact rCp_rk (by omega) (by omega) hRT_25_4
  have hRT_28_5 : T_28.2.2 = 0 → rk T_28 5 := by rw [hT_28]; exact rCp_rk (by omega) (by omega) hRT_25_5
  have hNT_28_0 : T_28.2.2 = 0 → rk T_28 72 := by rw [hT_28]; exact rCp_r0 hRT_25_0
  have hNT_28_1 : T_28.2.2 = 0 → rk T_28 73 := by rw [hT_28]; exact rCp_r1 (by omega) hRT_25_1
  refine lv_aload_n hx hb dX10_mixed_21 rfl (lv_at hl 1 rfl) ?_
  refine z_iconst hx hb dX10_mixed_22 rfl ?_
  refine lv_iload hx hb dX10_mixed_23 (lv_at hl 0 rfl) ?_
  refine lv_iload_n hx hb dX10_mixed_25 rfl (lv_at hl 2 rfl) ?_
  refine z_imul hx hb 2 rfl dX10_mixed_26 ?_
  refine z_iconst hx hb dX10_mixed_27 rfl ?_
  refine z_irem hx hb 2 (by decide) (by decide) rfl dX10_mixed_28 ?_
  refine z_cVv (As := [vI 2, vI 2]) (rest := []) ⟨hx, hb, hml, hown, hts⟩ hK hP hD hS hA [0, 1, 2] [] rfl rfl rfl (c_X10_addTurned2 l g q a (uI x 9 T_28.2.2) T_28 2 (by omega) hZT_28 hRT_28_2 hRT_28_3 hNT_28_0 hNT_28_1) (cwV 2 hts gX10_mixed_X10_addTurned rfl rfl rfl (by decide +kernel) ⟨Nat.le_of_ble_eq_true rfl, Nat.le_of_ble_eq_true rfl⟩) 10 0 rfl rfl rfl (fun _ _ _ _ _ _ => trivial) (fun _ _ _ => trivial) rfl hl.1 (Nat.le_of_ble_eq_true rfl) rfl dX10_mixed_29 ⟨Nat.le_of_ble_eq_true rfl, Nat.le_of_ble_eq_true rfl⟩ (fun u_29 H locs hwu_29 hP hD hS => ?_)
  try dsimp only at hwu_29
  have hP : zP g [[mdl q a (uI x 9 (rAt 2 2 T_28).2.2)], [((a 0), .inl (g.2 1, 88, .inr (.inl (aL (rAt 2 2 T_28).1))))], [((a 1), .inl (g.2 1, 88, .inr (.inl (aL (rAt 2 2 T_28).2.1))))]] H := hP
  have hD : zD A [[mdl q a (uI x 9 (rAt 2 2 T_28).2.2)], [((a 0), .inl (g.2 1, 88, .inr (.inl (aL (rAt 2 2 T_28).1))))], [((a 1), .inl (g.2 1, 88, .inr (.inl (aL (rAt 2 2 T_28).2.1))))]] := hD
  obtain ⟨T_30, hT_30⟩ : ∃ T : RS, T = rAt 2 2 T_28 := ⟨_, rfl⟩
  have hP : zP g [[mdl q a (uI x 9 T_30.2.2)], [((a 0), .inl (g.2 1, 88, .inr (.inl (aL T_30.1))))], [((a 1), .inl (g.2 1, 88, .inr (.inl (aL T_30.2.1))))]] H := by rw [hT_30]; exact hP
  have hD : zD A [[mdl q a (uI x 9 T_30.2.2)], [((a 0), .inl (g.2 1, 88, .inr (.inl (aL T_30.1))))], [((a 1), .inl (g.2 1, 88, .inr (.inl (aL T_30.2.1))))]] := by rw [hT_30]; exact hD
  have hZT_30 : T_30.2.2 = 0 ∨ T_30.2.2 = 1 := by rw [hT_30]; exact rAt_01 hZT_28
  have hRT_30_0 : T_30.2.2 = 0 → rk T_30 0 := by rw [hT_30]; exact rAt_rk (by omega) hRT_28_0
  have hRT_30_1 : T_30.2.2 = 0 → rk T_30 1 := by rw [hT_30]; exact rAt_rk (by omega) hRT_28_1
  have hRT_30_2 : T_30.2.2 = 0 → rk T_30 2 := by rw [hT_30]; exact rAt_rk (by omega) hRT_28_2
  have hRT_30_3 : T_30.2.2 = 0 → rk T_30 3 := by rw [hT_30]; exact rAt_rk (by omega) hRT_28_3
  have hRT_30_4 : T_30.2.2 = 0 → rk T_30 4 := by rw [hT_30]; exact rAt_rk (by omega) hRT_28_4
  have hRT_30_5 : T_30.2.2 = 0 → rk T_30 5 := by rw [hT_30]; exact rAt_rk (by omega) hRT_28_5
  have hNT_30_0 : T_30.2.2 = 0 → rk T_30 72 := by rw [hT_30]; exact rAt_r0 (by omega) hRT_28_2 hRT_28_3 hNT_28_0
  have hNT_30_1 : T_30.2.2 = 0 → rk T_30 73 := by rw [hT_30]; exact rAt_r1 (by omega) hRT_28_2 hRT_28_3 hNT_28_1
  refine lv_aload_n hx hb dX10_mixed_32 rfl (lv_at hl 1 rfl) ?_
  refine z_iconst hx hb dX10_mixed_33 rfl ?_
  refine lv_iload hx hb dX10_mixed_34 (lv_at hl 0 rfl) ?_
  refine lv_iload_n hx hb dX10_mixed_36 rfl (lv_at hl 3 rfl) ?_
  refine z_imul hx hb 4 rfl dX10_mixed_37 ?_
  refine z_iconst hx hb dX10_mixed_38 rfl ?_
  refine z_irem hx hb 1 (by decide) (by decide) rfl dX10_mixed_39 ?_
  refine z_cVv (As := [vI 4, vI 1]) (rest := []) ⟨hx, hb, hml, hown, hts⟩ hK hP hD hS hA [0, 1, 2] [] rfl rfl rfl (c_X10_addTurned1 l g q a (uI x 9 T_30.2.2) T_30 4 (by omega) hZT_30 hRT_30_4 hRT_30_5 hNT_30_0 hNT_30_1) (cwV 2 hts gX10_mixed_X10_addTurned rfl rfl rfl (by decide +kernel) ⟨Nat.le_of_ble_eq_true rfl, Nat.le_of_ble_eq_true rfl⟩) 10 0 rfl rfl rfl (fun _ _ _ _ _ _ => trivial) (fun _ _ _ => trivial) rfl hl.1 (Nat.le_of_ble_eq_true rfl) rfl dX10_mixed_40 ⟨Nat.le_of_ble_eq_true rfl, Nat.le_of_ble_eq_true rfl⟩ (fun u_31 H locs hwu_31 hP hD hS => ?_)
  try dsimp only at hwu_31
  have hP : zP g [[mdl q a (uI x 9 (rAt 4 1 T_30).2.2)], [((a 0), .inl (g.2 1, 88, .inr (.inl (aL (rAt 4 1 T_30).1))))], [((a 1), .inl (g.2 1, 88, .inr (.inl (aL (rAt 4 1 T_30).2.1))))]] H := hP
  have hD : zD A [[mdl q a (uI x 9 (rAt 4 1 T_30).2.2)], [((a 0), .inl (g.2 1, 88, .inr (.inl (aL (rAt 4 1 T_30).1))))], [((a 1), .inl (g.2 1, 88, .inr (.inl (aL (rAt 4 1 T_30).2.1))))]] := hD
  obtain ⟨T_32, hT_32⟩ : ∃ T : RS, T = rAt 4 1 T_30 := ⟨_, rfl⟩
  have hP : zP g [[mdl q a (uI x 9 T_32.2.2)], [((a 0), .inl (g.2 1, 88, .inr (.inl (aL T_32.1))))], [((a 1), .inl (g.2 1, 88, .inr (.inl (aL T_32.2.1))))]] H := by rw [hT_32]; exact hP
  have hD : zD A [[mdl q a (uI x 9 T_32.2.2)], [((a 0), .inl (g.2 1, 88, .inr (.inl (aL T_32.1))))], [((a 1), .inl (g.2 1, 88, .inr (.inl (aL T_32.2.1))))]] := by rw [hT_32]; exact hD
  have hZT_32 : T_32.2.2 = 0 ∨ T_32.2.2 = 1 := by rw [hT_32]; exact rAt_01 hZT_30
  have hRT_32_0 : T_32.2.2 = 0 → rk T_32 0 := by rw [hT_32]; exact rAt_rk (by omega) hRT_30_0
  have hRT_32_1 : T_32.2.2 = 0 → rk T_32 1 := by rw [hT_32]; exact rAt_rk (by omega) hRT_30_1
  have hRT_32_2 : T_32.2.2 = 0 → rk T_32 2 := by rw [hT_32]; exact rAt_rk (by omega) hRT_30_2
  have hRT_32_3 : T_32.2.2 = 0 → rk T_32 3 := by rw [hT_32]; exact rAt_rk (by omega) hRT_30_3
  have hRT_32_4 : T_32.2.2 = 0 → rk T_32 4 := by rw [hT_32]; exact rAt_rk (by omega) hRT_30_4
  have hRT_32_5 : T_32.2.2 = 0 → rk T_32 5 := by rw [hT_32]; exact rAt_rk (by omega) hRT_30_5
  have hNT_32_0 : T_32.2.2 = 0 → rk T_32 72 := by rw [hT_32]; exact rAt_r0 (by omega) hRT_30_4 hRT_30_5 hNT_30_0
  have hNT_32_1 : T_32.2.2 = 0 → rk T_32 73 := by rw [hT_32]; exact rAt_r1 (by omega) hRT_30_4 hRT_30_5 hNT_30_1
  refine lv_iload_n hx hb dX10_mixed_43 rfl (lv_at hl 4 rfl) ?_
  refine z_if_eq (tgt := 53) hx hb (by decide) dX10_mixed_44 (by decide) (fun cq33 => False.elim (by omega)) (fun cq33 => ?_)
  refine lv_aload_n hx hb dX10_mixed_47 rfl (lv_at hl 1 rfl) ?_
  refine z_bipush hx hb 72 dX10_mixed_48 rfl ?_
  refine z_cVv (As := [vI 72]) (rest := []) ⟨hx, hb, hml, hown, hts⟩ hK hP hD hS hA [0, 1, 2] [] rfl rfl rfl (c_X10_third l g q a (uI x 9 T_32.2.2) T_32 72 (by omega) hZT_32 hNT_32_0 hNT_32_1) (cwV 1 hts gX10_mixed_X10_third rfl rfl rfl (by decide +kernel) ⟨Nat.le_of_ble_eq_true rfl, Nat.le_of_ble_eq_true rfl⟩) 10 0 rfl rfl rfl (fun _ _ _ _ _ _ => trivial) (fun _ _ _ => trivial) rfl hl.1 (Nat.le_of_ble_eq_true rfl) rfl dX10_mixed_50 ⟨Nat.le_of_ble_eq_true rfl, Nat.le_of_ble_eq_true rfl⟩ (fun u_34 H locs hwu_34 hP hD hS => ?_)
  try dsimp only at hwu_34
  have hP : zP g [[mdl q a (uI x 9 (rTh 72 T_32).2.2)], [((a 0), .inl (g.2 1, 88, .inr (.inl (aL (rTh 72 T_32).1))))], [((a 1), .inl (g.2 1, 88, .inr (.inl (aL (rTh 72 T_32).2.1))))]] H := hP
  have hD : zD A [[mdl q a (uI x 9 (rTh 72 T_32).2.2)], [((a 0), .inl (g.2 1, 88, .inr (.inl (aL (rTh 72 T_32).1))))], [((a 1), .inl (g.2 1, 88, .inr (.inl (aL (rTh 72 T_32).2.1))))]] := hD
  obtain ⟨T_35, hT_35⟩ : ∃ T : RS, T = rTh 72 T_32 := ⟨_, rfl⟩
  have hP : zP g [[mdl q a (uI x 9 T_35.2.2)], [((a 0), .inl (g.2 1, 88, .inr (.inl (aL T_35.1))))], [((a 1), .inl (g.2 1, 88, .inr (.inl (aL T_35.2.1))))]] H := by rw [hT_35]; exact hP
  have hD : zD A [[mdl q a (uI x 9 T_35.2.2)], [((a 0), .inl (g.2 1, 88, .inr (.inl (aL T_35.1))))], [((a 1), .inl (g.2 1, 88, .inr (.inl (aL T_35.2.1))))]] := by rw [hT_35]; exact hD
  have hZT_35 : T_35.2.2 = 0 ∨ T_35.2.2 = 1 := by rw [hT_35]; exact rTh_01 hZT_32
  have hRT_35_0 : T_35.2.2 = 0 → rk T_35 0 := by rw [hT_35]; exact rTh_rk (by omega) (by omega) (by omega) hRT_32_0
  have hRT_35_1 : T_35.2.2 = 0 → rk T_35 1 := by rw [hT_35]; exact rTh_rk (by omega) (by omega) (by omega) hRT_32_1
  have hRT_35_2 : T_35.2.2 = 0 → rk T_35 2 := by rw [hT_35]; exact rTh_rk (by omega) (by omega) (by omega) hRT_32_2
  have hRT_35_3 : T_35.2.2 = 0 → rk T_35 3 := by rw [hT_35]; exact rTh_rk (by omega) (by omega) (by omega) hRT_32_3
  have hRT_35_4 : T_35.2.2 = 0 → rk T_35 4 := by rw [hT_35]; exact rTh_rk (by omega) (by omega) (by omega) hRT_32_4
  have hRT_35_5 : T_35.2.2 = 0 → rk T_35 5 := by rw [hT_35]; exact rTh_rk (by omega) (by omega) (by omega) hRT_32_5
  have hNT_35_0 : T_35.2.2 = 0 → rk T_35 72 := by rw [hT_35]; exact rTh_r0 (by omega) hNT_32_0
  have hNT_35_1 : T_35.2.2 = 0 → rk T_35 73 := by rw [hT_35]; exact rTh_r1 (by omega) (by omega) hNT_32_1
  refine lv_aload_n hx hb dX10_mixed_53 rfl (lv_at hl 1 rfl) ?_
  refine z_bipush hx hb 66 dX10_mixed_54 rfl ?_
  refine z_iconst hx hb dX10_mixed_56 rfl ?_
  refine lv_iload hx hb dX10_mixed_57 (lv_at hl 0 rfl) ?_
  refine z_imul hx hb 4 rfl dX10_mixed_59 ?_
  refine z_iadd hx hb 70 rfl dX10_mixed_60 ?_
  refine z_bipush hx hb 72 dX10_mixed_61 rfl ?_
  refine z_cVv (As := [vI 70, vI 72]) (rest := []) ⟨hx, hb, hml, hown, hts⟩ hK hP hD hS hA [0, 1, 2] [] rfl rfl rfl (c_X10_copyTo l g q a (uI x 9 T_35.2.2) T_35 70 72 (by omega) (by omega)) (cwV 2 hts gX10_mixed_X10_copyTo rfl rfl rfl (by decide +kernel) ⟨Nat.le_of_ble_eq_true rfl, Nat.le_of_ble_eq_true rfl⟩) 10 0 rfl rfl rfl (fun _ _ _ _ _ _ => trivial) (fun _ _ _ => trivial) rfl hl.1 (Nat.le_of_ble_eq_true rfl) rfl dX10_mixed_63 ⟨Nat.le_of_ble_eq_true rfl, Nat.le_of_ble_eq_true rfl⟩ (fun u_36 H locs hwu_36 hP hD hS => ?_)
  try dsimp only at hwu_36
  have hP : zP g [[mdl q a (uI x 9 T_35.2.2)], [((a 0), .inl (g.2 1, 88, .inr (.inl (aL (rCp 70 72 T_35).1))))], [((a 1), .inl (g.2 1, 88, .inr (.inl (aL (rCp 70 72 T_35).2.1))))]] H := hP
  have hD : zD A [[mdl q a (uI x 9 T_35.2.2)], [((a 0), .inl (g.2 1, 88, .inr (.inl (aL (rCp 70 72 T_35).1))))], [((a 1), .inl (g.2 1, 88, .inr (.inl (aL (rCp 70 72 T_35).2.1))))]] := hD
  obtain ⟨T_37, hT_37⟩ : ∃ T : RS, T = rCp 70 72 T_35 := ⟨_, rfl⟩
  have hP : zP g [[mdl q a (uI x 9 T_37.2.2)], [((a 0), .inl (g.2 1, 88, .inr (.inl (aL T_37.1))))], [((a 1), .inl (g.2 1, 88, .inr (.inl (aL T_37.2.1))))]] H := by rw [hT_37]; exact hP
  have hD : zD A [[mdl q a (uI x 9 T_37.2.2)], [((a 0), .inl (g.2 1, 88, .inr (.inl (aL T_37.1))))], [((a 1), .inl (g.2 1, 88, .inr (.inl (aL T_37.2.1))))]] := by rw [hT_37]; exact hD
  have hZT_37 : T_37.2.2 = 0 ∨ T_37.2.2 = 1 := by rw [hT_37]; exact hZT_35
  have hRT_37_0 : T_37.2.2 = 0 → rk T_37 0 := by rw [hT_37]; exact rCp_rk (by omega) (by omega) hRT_35_0
  have hRT_37_1 : T_37.2.2 = 0 → rk T_37 1 := by rw [hT_37]; exact rCp_rk (by omega) (by omega) hRT_35_1
  have hRT_37_2 : T_37.2.2 = 0 → rk T_37 2 := by rw [hT_37]; exact rCp_rk (by omega) (by omega) hRT_35_2
  have hRT_37_3 : T_37.2.2 = 0 → rk T_37 3 := by rw [hT_37]; exact rCp_rk (by omega) (by omega) hRT_35_3
  have hRT_37_4 : T_37.2.2 = 0 → rk T_37 4 := by rw [hT_37]; exact rCp_rk (by omega) (by omega) hRT_35_4
  have hRT_37_5 : T_37.2.2 = 0 → rk T_37 5 := by rw [hT_37]; exact rCp_rk (by omega) (by omega) hRT_35_5
  refine z_iinc hx hb 3 (lv' := [(4, vI 3), (0, .ref q), (1, vI 1), (2, vI 2), (3, vI 1)]) dX10_mixed_66 hl (k := 0) rfl (rfl) (by decide) rfl (fun ls hl => ?_)
  refine lv_goto (tgt := 8) hx hb dX10_mixed_69 (by decide) ?_
  refine lv_iload hx hb dX10_mixed_8 (lv_at hl 0 rfl) ?_
  refine z_iconst hx hb dX10_mixed_10 rfl ?_
  refine z_icmp_ge (tgt := 72) hx hb (by decide) (by decide) dX10_mixed_11 (by decide) (fun cq38 => ?_) (fun cq38 => False.elim (by omega))
  have hE : T_37 = (rMx 2 1 true 2 (rMx 1 2 true 1 (rMx 0 0 true 0 (rZ0 S)))) := by rw [hT_37, hT_35, hT_32, hT_30, hT_28, hT_25, hT_23, hT_20, hT_18, hT_16, hT_13, hT_11, hT_8, hT_6, hT_4, hT_1]; rfl
  rw [← hE] at hM
  refine lv_aload_n hx hb dX10_mixed_72 rfl (lv_at hl 1 rfl) ?_
  refine z_get hx hb hts hin10_ hown hK hP 0 rfl rfl 22 (by decide) (hts _ (List.mem_of_getElem? (i := 1) rfl)) rfl dX10_mixed_73 ?_
  refine z_toI T_37.2.2 rfl ?_
  refine z_if_eq (tgt := 82) hx hb (by omega) dX10_mixed_76 (by decide) (fun cq39 => ?_) (fun cq39 => False.elim (by omega))
  refine lv_aload_n hx hb dX10_mixed_82 rfl (lv_at hl 1 rfl) ?_
  refine z_cVv (As := []) (rest := []) ⟨hx, hb, hml, hown, hts⟩ hK hP hD hS hA [0, 1, 2] [] rfl rfl rfl (c_X10_kp l g q a (uI x 9 T_37.2.2) T_37 u hu hu8) (cwV 0 hts gX10_mixed_X10_keepPast rfl rfl rfl (by decide +kernel) ⟨Nat.le_of_ble_eq_true rfl, Nat.le_of_ble_eq_true rfl⟩) 10 0 rfl rfl rfl (fun _ _ _ _ _ _ => trivial) (fun _ _ _ => trivial) rfl hl.1 (Nat.le_of_ble_eq_true rfl) rfl dX10_mixed_83 ⟨Nat.le_of_ble_eq_true rfl, Nat.le_of_ble_eq_true rfl⟩ (fun u_40 H locs hwu_40 hP hD hS => ?_)
  try dsimp only at hwu_40
  have hP : zP g [[mdl q a (uI (uI x 2 (((min (u + 1) 8) : Nat) : Int)) 9 T_37.2.2)], [((a 0), .inl (g.2 1, 88, .inr (.inl (aL (kpS u T_37).1))))], [((a 1), .inl (g.2 1, 88, .inr (.inl (aL (kpS u T_37).2.1))))]] H := hP
  have hD : zD A [[mdl q a (uI (uI x 2 (((min (u + 1) 8) : Nat) : Int)) 9 T_37.2.2)], [((a 0), .inl (g.2 1, 88, .inr (.inl (aL (kpS u T_37).1))))], [((a 1), .inl (g.2 1, 88, .inr (.inl (aL (kpS u T_37).2.1))))]] := hD
  refine lv_aload_n hx hb dX10_mixed_86 rfl (lv_at hl 1 rfl) ?_
  refine z_bipush hx hb 66 dX10_mixed_87 rfl ?_
  refine z_iconst hx hb dX10_mixed_89 rfl ?_
  refine z_cVv (As := [vI 66, vI 0]) (rest := []) ⟨hx, hb, hml, hown, hts⟩ hK hP hD hS hA [0, 1, 2] [] rfl rfl rfl (c_X10_copyPhases l g q a (uI (uI x 2 (((min (u + 1) 8) : Nat) : Int)) 9 T_37.2.2) (kpS u T_37) 66 0 (by decide) (by decide)) (cwV 2 hts gX10_mixed_X10_copyPhases rfl rfl rfl (by decide +kernel) ⟨Nat.le_of_ble_eq_true rfl, Nat.le_of_ble_eq_true rfl⟩) 10 0 rfl rfl rfl (fun _ _ _ _ _ _ => trivial) (fun _ _ _ => trivial) rfl hl.1 (Nat.le_of_ble_eq_true rfl) rfl dX10_mixed_90 ⟨Nat.le_of_ble_eq_true rfl, Nat.le_of_ble_eq_true rfl⟩ (fun u_41 H locs hwu_41 hP hD hS => ?_)
  try dsimp only at hwu_41
  have hP : zP g [[mdl q a (uI (uI x 2 (((min (u + 1) 8) : Nat) : Int)) 9 T_37.2.2)], [((a 0), .inl (g.2 1, 88, .inr (.inl (aL (rC6 66 0 (kpS u T_37)).1))))], [((a 1), .inl (g.2 1, 88, .inr (.inl (aL (rC6 66 0 (kpS u T_37)).2.1))))]] H := hP
  have hD : zD A [[mdl q a (uI (uI x 2 (((min (u + 1) 8) : Nat) : Int)) 9 T_37.2.2)], [((a 0), .inl (g.2 1, 88, .inr (.inl (aL (rC6 66 0 (kpS u T_37)).1))))], [((a 1), .inl (g.2 1, 88, .inr (.inl (aL (rC6 66 0 (kpS u T_37)).2.1))))]] := hD
  refine z_iconst hx hb dX10_mixed_93 rfl ?_
  exact z_reti () [0, 1, 2] hx hb hr rfl hlocks hK hP hD hS (rfl) trivial rfl rfl (by rw [← hE]; rfl) (Nat.le_of_ble_eq_true rfl) (Nat.le_of_ble_eq_true rfl) dX10_mixed_94

set_option maxHeartbeats 4000000 in
set_option maxRecDepth 100000 in
theorem c_X10_split_ok (l : Launch) (g : zG) (q : Nat) (a : Nat → Nat) (x : Nat → Int) (S : RS) (u : Nat) (hz : S.2.2 = 0 ∨ S.2.2 = 1) (hk : ∀ j, j < 6 → rk S j) (hM : (rMx 2 1 true 2 (rMx 1 2 true 1 (rMx 0 0 true 0 (rZ0 S)))).2.2 = 0) (hu : x 2 = (u : Int)) (hu8 : u ≤ 8) : zMet l g yX10_split wsX10_split 7 0 0 [.ref q] zX0 [[mdl q a (uI x 9 S.2.2)], [((a 0), .inl (g.2 1, 88, .inr (.inl (aL S.1))))], [((a 1), .inl (g.2 1, 88, .inr (.inl (aL S.2.1))))]] (qi g (fun (_ : Unit) => 1) (fun (_ : Unit) => True) (fun (_ : Unit) => [[mdl q a (uI (uI x 2 (((min (u + 1) 8) : Nat) : Int)) 9 (rMx 2 1 true 2 (rMx 1 2 true 1 (rMx 0 0 true 0 (rZ0 S)))).2.2)], [((a 0), .inl (g.2 1, 88, .inr (.inl (aL (rC6 66 0 (kpS u (rMx 2 1 true 2 (rMx 1 2 true 1 (rMx 0 0 true 0 (rZ0 S)))))).1))))], [((a 1), .inl (g.2 1, 88, .inr (.inl (aL (rC6 66 0 (kpS u (rMx 2 1 true 2 (rMx 1 2 true 1 (rMx 0 0 true 0 (rZ0 S)))))).2.1))))]])) := by
  refine z_ent (cc := cX10_split) (maxL := 1) (ret := (some .int)) (by decide) rfl (Nat.le_of_ble_eq_true rfl) ?_
  intro p e s m below meth c A ls hx hb hr hml hown hts hlocks hin0 hA hK hP hD hS hXX hl
  have hown : s.vm.findClass RX10 = some m.cls := hown
  have hl : lv_has ls 1 [(0, .ref q)] := hl
  refine lv_aload_n hx hb dX10_split_0 rfl (lv_at hl 0 rfl) ?_
  refine z_iconst hx hb dX10_split_1 rfl ?_
  refine z_iconst hx hb dX10_split_2 rfl ?_
  refine z_iconst hx hb dX10_split_3 rfl ?_
  refine z_cVi (As := [vI 1, vI 2, vI 1]) (rest := []) ⟨hx, hb, hml, hown, hts⟩ hK hP hD hS hA [0, 1, 2] [] rfl rfl rfl (c_X10_mixS_ok l g q a (uI x 9 S.2.2) S u (by assumption) hk hM (by assumption) (by assumption)) (cwV 3 hts gX10_split_X10_mixed rfl rfl rfl (by decide +kernel) ⟨Nat.le_of_ble_eq_true rfl, Nat.le_of_ble_eq_true rfl⟩) 10 0 rfl rfl rfl (fun _ _ _ _ _ _ => trivial) (fun _ _ _ => trivial) rfl hl.1 (Nat.le_of_ble_eq_true rfl) rfl dX10_split_4 ⟨Nat.le_of_ble_eq_true rfl, Nat.le_of_ble_eq_true rfl⟩ (fun u_1 H locs hwu_1 hP hD hS => ?_)
  try dsimp only at hwu_1
  have hP : zP g [[mdl q a (uI (uI x 2 (((min (u + 1) 8) : Nat) : Int)) 9 (rMx 2 1 true 2 (rMx 1 2 true 1 (rMx 0 0 true 0 (rZ0 S)))).2.2)], [((a 0), .inl (g.2 1, 88, .inr (.inl (aL (rC6 66 0 (kpS u (rMx 2 1 true 2 (rMx 1 2 true 1 (rMx 0 0 true 0 (rZ0 S)))))).1))))], [((a 1), .inl (g.2 1, 88, .inr (.inl (aL (rC6 66 0 (kpS u (rMx 2 1 true 2 (rMx 1 2 true 1 (rMx 0 0 true 0 (rZ0 S)))))).2.1))))]] H := hP
  have hD : zD A [[mdl q a (uI (uI x 2 (((min (u + 1) 8) : Nat) : Int)) 9 (rMx 2 1 true 2 (rMx 1 2 true 1 (rMx 0 0 true 0 (rZ0 S)))).2.2)], [((a 0), .inl (g.2 1, 88, .inr (.inl (aL (rC6 66 0 (kpS u (rMx 2 1 true 2 (rMx 1 2 true 1 (rMx 0 0 true 0 (rZ0 S)))))).1))))], [((a 1), .inl (g.2 1, 88, .inr (.inl (aL (rC6 66 0 (kpS u (rMx 2 1 true 2 (rMx 1 2 true 1 (rMx 0 0 true 0 (rZ0 S)))))).2.1))))]] := hD
  refine z_toI 1 rfl ?_
  exact z_reti () [0, 1, 2] hx hb hr rfl hlocks hK hP hD hS (rfl) trivial rfl rfl (rfl) (Nat.le_of_ble_eq_true rfl) (Nat.le_of_ble_eq_true rfl) dX10_split_7

set_option maxHeartbeats 4000000 in
set_option maxRecDepth 100000 in
theorem c_X10_mixJ_over (l : Launch) (g : zG) (q : Nat) (a : Nat → Nat) (x : Nat → Int) (S : RS) (hz : S.2.2 = 0 ∨ S.2.2 = 1) (hk : ∀ j, j < 6 → rk S j) (hM : (rMx 1 2 false 2 (rMx 2 1 false 1 (rMx 0 0 false 0 (rZ0 S)))).2.2 = 1) : zMet l g yX10_mixed wsX10_mixed 6 0 0 [.ref q, vI 2, vI 1, vI 0] zX0 [[mdl q a (uI x 9 S.2.2)], [((a 0), .inl (g.2 1, 88, .inr (.inl (aL S.1))))], [((a 1), .inl (g.2 1, 88, .inr (.inl (aL S.2.1))))]] (qi g (fun (_ : Unit) => (-2000000004)) (fun (_ : Unit) => True) (fun (_ : Unit) => [[mdl q a (uI x 9 (rMx 1 2 false 2 (rMx 2 1 false 1 (rMx 0 0 false 0 (rZ0 S)))).2.2)], [((a 0), .inl (g.2 1, 88, .inr (.inl (aL (rMx 1 2 false 2 (rMx 2 1 false 1 (rMx 0 0 false 0 (rZ0 S)))).1))))], [((a 1), .inl (g.2 1, 88, .inr (.inl (aL (rMx 1 2 false 2 (rMx 2 1 false 1 (rMx 0 0 false 0 (rZ0 S)))).2.1))))]])) := by
  refine z_ent (cc := cX10_mixed) (maxL := 5) (ret := (some .int)) (by decide) rfl (Nat.le_of_ble_eq_true rfl) ?_
  intro p e s m below meth c A ls hx hb hr hml hown hts hlocks hin0 hA hK hP hD hS hXX hl
  have hown : s.vm.findClass RX10 = some m.cls := hown
  have hin10_ : ∀ w ∈ wsX100, w ∈ wsX10_mixed := zw_in [61, 62, 63, 64, 65, 66, 67, 68, 69, 70, 71, 72, 73, 74, 75, 76, 77, 78, 79, 80, 81, 82, 83, 84, 85, 86] rfl
  have hl : lv_has ls 5 [(0, .ref q), (1, vI 2), (2, vI 1), (3, vI 0)] := hl
  refine lv_aload_n hx hb dX10_mixed_0 rfl (lv_at hl 0 rfl) ?_
  refine z_iconst hx hb dX10_mixed_1 rfl ?_
  refine z_put hx hb hts hin10_ tyX10 tyX10_ok nmX10 hown hK hP hD hS 0 rfl rfl 22 (by decide) (hts _ (List.mem_of_getElem? (i := 1) rfl)) rfl (nar_z (by decide)) (fit_z (by decide)) (Nat.le_of_ble_eq_true rfl) dX10_mixed_2 [[mdl q a (uI x 9 0)], [((a 0), .inl (g.2 1, 88, .inr (.inl (aL S.1))))], [((a 1), .inl (g.2 1, 88, .inr (.inl (aL S.2.1))))]] rfl (fun H locs hP hD hS => ?_)
  obtain ⟨T_1, hT_1⟩ : ∃ T : RS, T = rZ0  S := ⟨_, rfl⟩
  have hP : zP g [[mdl q a (uI x 9 T_1.2.2)], [((a 0), .inl (g.2 1, 88, .inr (.inl (aL T_1.1))))], [((a 1), .inl (g.2 1, 88, .inr (.inl (aL T_1.2.1))))]] H := by rw [hT_1]; exact hP
  have hD : zD A [[mdl q a (uI x 9 T_1.2.2)], [((a 0), .inl (g.2 1, 88, .inr (.inl (aL T_1.1))))], [((a 1), .inl (g.2 1, 88, .inr (.inl (aL T_1.2.1))))]] := by rw [hT_1]; exact hD
  have hZT_1 : T_1.2.2 = 0 ∨ T_1.2.2 = 1 := by rw [hT_1]; exact rZ0_01 hz
  have hNT_1_0 : T_1.2.2 = 0 → rk T_1 0 := by rw [hT_1]; exact rZ0_r (hk 0 (by decide)) 
  have hNT_1_1 : T_1.2.2 = 0 → rk T_1 1 := by rw [hT_1]; exact rZ0_r (hk 1 (by decide)) 
  have hNT_1_2 : T_1.2.2 = 0 → rk T_1 2 := by rw [hT_1]; exact rZ0_r (hk 2 (by decide)) 
  have hNT_1_3 : T_1.2.2 = 0 → rk T_1 3 := by rw [hT_1]; exact rZ0_r (hk 3 (by decide)) 
  have hNT_1_4 : T_1.2.2 = 0 → rk T_1 4 := by rw [hT_1]; exact rZ0_r (hk 4 (by decide)) 
  have hNT_1_5 : T_1.2.2 = 0 → rk T_1 5 := by rw [hT_1]; exact rZ0_r (hk 5 (by decide)) 
  refine z_iconst hx hb dX10_mixed_5 rfl ?_
  refine lv_istore (lv' := [(4, vI 0), (0, .ref q), (1, vI 2), (2, vI 1), (3, vI 0)]) hx hb dX10_mixed_6 hl (by decide) rfl (fun ls hl => ?_)
  refine lv_iload hx hb dX10_mixed_8 (lv_at hl 0 rfl) ?_
  refine z_iconst hx hb dX10_mixed_10 rfl ?_
  refine z_icmp_ge (tgt := 72) hx hb (by decide) (by decide) dX10_mixed_11 (by decide) (fun cq2 => False.elim (by omega)) (fun cq2 => ?_)
  refine lv_aload_n hx hb dX10_mixed_14 rfl (lv_at hl 1 rfl) ?_
  refine z_bipush hx hb 72 dX10_mixed_15 rfl ?_
  refine z_iconst hx hb dX10_mixed_17 rfl ?_
  refine z_cVv (As := [vI 72, vI 0]) (rest := []) ⟨hx, hb, hml, hown, hts⟩ hK hP hD hS hA [0, 1, 2] [] rfl rfl rfl (c_X10_copyTo l g q a (uI x 9 T_1.2.2) T_1 72 0 (by omega) (by omega)) (cwV 2 hts gX10_mixed_X10_copyTo rfl rfl rfl (by decide +kernel) ⟨Nat.le_of_ble_eq_true rfl, Nat.le_of_ble_eq_true rfl⟩) 10 0 rfl rfl rfl (fun _ _ _ _ _ _ => trivial) (fun _ _ _ => trivial) rfl hl.1 (Nat.le_of_ble_eq_true rfl) rfl dX10_mixed_18 ⟨Nat.le_of_ble_eq_true rfl, Nat.le_of_ble_eq_true rfl⟩ (fun u_3 H locs hwu_3 hP hD hS => ?_)
  try dsimp only at hwu_3
  have hP : zP g [[mdl q a (uI x 9 T_1.2.2)], [((a 0), .inl (g.2 1, 88, .inr (.inl (aL (rCp 72 0 T_1).1))))], [((a 1), .inl (g.2 1, 88, .inr (.inl (aL (rCp 72 0 T_1).2.1))))]] H := hP
  have hD : zD A [[mdl q a (uI x 9 T_1.2.2)], [((a 0), .inl (g.2 1, 88, .inr (.inl (aL (rCp 72 0 T_1).1))))], [((a 1), .inl (g.2 1, 88, .inr (.inl (aL (rCp 72 0 T_1).2.1))))]] := hD
  obtain ⟨T_4, hT_4⟩ : ∃ T : RS, T = rCp 72 0 T_1 := ⟨_, rfl⟩
  have hP : zP g [[mdl q a (uI x 9 T_4.2.2)], [((a 0), .inl (g.2 1, 88, .inr (.inl (aL T_4.1))))], [((a 1), .inl (g.2 1, 88, .inr (.inl (aL T_4.2.1))))]] H := by rw [hT_4]; exact hP
  have hD : zD A [[mdl q a (uI x 9 T_4.2.2)], [((a 0), .inl (g.2 1, 88, .inr (.inl (aL T_4.1))))], [((a 1), .inl (g.2 1, 88, .inr (.inl (aL T_4.2.1))))]] := by rw [hT_4]; exact hD
  have hZT_4 : T_4.2.2 = 0 ∨ T_4.2.2 = 1 := by rw [hT_4]; exact hZT_1
  have hRT_4_0 : T_4.2.2 = 0 → rk T_4 0 := by rw [hT_4]; exact rCp_rk (by omega) (by omega) hNT_1_0
  have hRT_4_1 : T_4.2.2 = 0 → rk T_4 1 := by rw [hT_4]; exact rCp_rk (by omega) (by omega) hNT_1_1
  have hRT_4_2 : T_4.2.2 = 0 → rk T_4 2 := by rw [hT_4]; exact rCp_rk (by omega) (by omega) hNT_1_2
  have hRT_4_3 : T_4.2.2 = 0 → rk T_4 3 := by rw [hT_4]; exact rCp_rk (by omega) (by omega) hNT_1_3
  have hRT_4_4 : T_4.2.2 = 0 → rk T_4 4 := by rw [hT_4]; exact rCp_rk (by omega) (by omega) hNT_1_4
  have hRT_4_5 : T_4.2.2 = 0 → rk T_4 5 := by rw [hT_4]; exact rCp_rk (by omega) (by omega) hNT_1_5
  have hNT_4_0 : T_4.2.2 = 0 → rk T_4 72 := by rw [hT_4]; exact rCp_r0 hNT_1_0
  have hNT_4_1 : T_4.2.2 = 0 → rk T_4 73 := by rw [hT_4]; exact rCp_r1 (by omega) hNT_1_1
  refine lv_aload_n hx hb dX10_mixed_21 rfl (lv_at hl 1 rfl) ?_
  refine z_iconst hx hb dX10_mixed_22 rfl ?_
  refine lv_iload hx hb dX10_mixed_23 (lv_at hl 0 rfl) ?_
  refine lv_iload_n hx hb dX10_mixed_25 rfl (lv_at hl 2 rfl) ?_
  refine z_imul hx hb 0 rfl dX10_mixed_26 ?_
  refine z_iconst hx hb dX10_mixed_27 rfl ?_
  refine z_irem hx hb 0 (by decide) (by decide) rfl dX10_mixed_28 ?_
  refine z_cVv (As := [vI 2, vI 0]) (rest := []) ⟨hx, hb, hml, hown, hts⟩ hK hP hD hS hA [0, 1, 2] [] rfl rfl rfl (c_X10_addTurned0 l g q a (uI x 9 T_4.2.2) T_4 2 (by omega) hZT_4 hRT_4_2 hRT_4_3 hNT_4_0 hNT_4_1) (cwV 2 hts gX10_mixed_X10_addTurned rfl rfl rfl (by decide +kernel) ⟨Nat.le_of_ble_eq_true rfl, Nat.le_of_ble_eq_true rfl⟩) 10 0 rfl rfl rfl (fun _ _ _ _ _ _ => trivial) (fun _ _ _ => trivial) rfl hl.1 (Nat.le_of_ble_eq_true rfl) rfl dX10_mixed_29 ⟨Nat.le_of_ble_eq_true rfl, Nat.le_of_ble_eq_true rfl⟩ (fun u_5 H locs hwu_5 hP hD hS => ?_)
  try dsimp only at hwu_5
  have hP : zP g [[mdl q a (uI x 9 (rAt 2 0 T_4).2.2)], [((a 0), .inl (g.2 1, 88, .inr (.inl (aL (rAt 2 0 T_4).1))))], [((a 1), .inl (g.2 1, 88, .inr (.inl (aL (rAt 2 0 T_4).2.1))))]] H := hP
  have hD : zD A [[mdl q a (uI x 9 (rAt 2 0 T_4).2.2)], [((a 0), .inl (g.2 1, 88, .inr (.inl (aL (rAt 2 0 T_4).1))))], [((a 1), .inl (g.2 1, 88, .inr (.inl (aL (rAt 2 0 T_4).2.1))))]] := hD
  obtain ⟨T_6, hT_6⟩ : ∃ T : RS, T = rAt 2 0 T_4 := ⟨_, rfl⟩
  have hP : zP g [[mdl q a (uI x 9 T_6.2.2)], [((a 0), .inl (g.2 1, 88, .inr (.inl (aL T_6.1))))], [((a 1), .inl (g.2 1, 88, .inr (.inl (aL T_6.2.1))))]] H := by rw [hT_6]; exact hP
  have hD : zD A [[mdl q a (uI x 9 T_6.2.2)], [((a 0), .inl (g.2 1, 88, .inr (.inl (aL T_6.1))))], [((a 1), .inl (g.2 1, 88, .inr (.inl (aL T_6.2.1))))]] := by rw [hT_6]; exact hD
  have hZT_6 : T_6.2.2 = 0 ∨ T_6.2.2 = 1 := by rw [hT_6]; exact rAt_01 hZT_4
  have hRT_6_0 : T_6.2.2 = 0 → rk T_6 0 := by rw [hT_6]; exact rAt_rk (by omega) hRT_4_0
  have hRT_6_1 : T_6.2.2 = 0 → rk T_6 1 := by rw [hT_6]; exact rAt_rk (by omega) hRT_4_1
  have hRT_6_2 : T_6.2.2 = 0 → rk T_6 2 := by rw [hT_6]; exact rAt_rk (by omega) hRT_4_2
  have hRT_6_3 : T_6.2.2 = 0 → rk T_6 3 := by rw [hT_6]; exact rAt_rk (by omega) hRT_4_3
  have hRT_6_4 : T_6.2.2 = 0 → rk T_6 4 := by rw [hT_6]; exact rAt_rk (by omega) hRT_4_4
  have hRT_6_5 : T_6.2.2 = 0 → rk T_6 5 := by rw [hT_6]; exact rAt_rk (by omega) hRT_4_5
  have hNT_6_0 : T_6.2.2 = 0 → rk T_6 72 := by rw [hT_6]; exact rAt_r0 (by omega) hRT_4_2 hRT_4_3 hNT_4_0
  have hNT_6_1 : T_6.2.2 = 0 → rk T_6 73 := by rw [hT_6]; exact rAt_r1 (by omega) hRT_4_2 hRT_4_3 hNT_4_1
  refine lv_aload_n hx hb dX10_mixed_32 rfl (lv_at hl 1 rfl) ?_
  refine z_iconst hx hb dX10_mixed_33 rfl ?_
  refine lv_iload hx hb dX10_mixed_34 (lv_at hl 0 rfl) ?_
  refine lv_iload_n hx hb dX10_mixed_36 rfl (lv_at hl 3 rfl) ?_
  refine z_imul hx hb 0 rfl dX10_mixed_37 ?_
  refine z_iconst hx hb dX10_mixed_38 rfl ?_
  refine z_irem hx hb 0 (by decide) (by decide) rfl dX10_mixed_39 ?_
  refine z_cVv (As := [vI 4, vI 0]) (rest := []) ⟨hx, hb, hml, hown, hts⟩ hK hP hD hS hA [0, 1, 2] [] rfl rfl rfl (c_X10_addTurned0 l g q a (uI x 9 T_6.2.2) T_6 4 (by omega) hZT_6 hRT_6_4 hRT_6_5 hNT_6_0 hNT_6_1) (cwV 2 hts gX10_mixed_X10_addTurned rfl rfl rfl (by decide +kernel) ⟨Nat.le_of_ble_eq_true rfl, Nat.le_of_ble_eq_true rfl⟩) 10 0 rfl rfl rfl (fun _ _ _ _ _ _ => trivial) (fun _ _ _ => trivial) rfl hl.1 (Nat.le_of_ble_eq_true rfl) rfl dX10_mixed_40 ⟨Nat.le_of_ble_eq_true rfl, Nat.le_of_ble_eq_true rfl⟩ (fun u_7 H locs hwu_7 hP hD hS => ?_)
  try dsimp only at hwu_7
  have hP : zP g [[mdl q a (uI x 9 (rAt 4 0 T_6).2.2)], [((a 0), .inl (g.2 1, 88, .inr (.inl (aL (rAt 4 0 T_6).1))))], [((a 1), .inl (g.2 1, 88, .inr (.inl (aL (rAt 4 0 T_6).2.1))))]] H := hP
  have hD : zD A [[mdl q a (uI x 9 (rAt 4 0 T_6).2.2)], [((a 0), .inl (g.2 1, 88, .inr (.inl (aL (rAt 4 0 T_6).1))))], [((a 1), .inl (g.2 1, 88, .inr (.inl (aL (rAt 4 0 T_6).2.1))))]] := hD
  obtain ⟨T_8, hT_8⟩ : ∃ T : RS, T = rAt 4 0 T_6 := ⟨_, rfl⟩
  have hP : zP g [[mdl q a (uI x 9 T_8.2.2)], [((a 0), .inl (g.2 1, 88, .inr (.inl (aL T_8.1))))], [((a 1), .inl (g.2 1, 88, .inr (.inl (aL T_8.2.1))))]] H := by rw [hT_8]; exact hP
  have hD : zD A [[mdl q a (uI x 9 T_8.2.2)], [((a 0), .inl (g.2 1, 88, .inr (.inl (aL T_8.1))))], [((a 1), .inl (g.2 1, 88, .inr (.inl (aL T_8.2.1))))]] := by rw [hT_8]; exact hD
  have hZT_8 : T_8.2.2 = 0 ∨ T_8.2.2 = 1 := by rw [hT_8]; exact rAt_01 hZT_6
  have hRT_8_0 : T_8.2.2 = 0 → rk T_8 0 := by rw [hT_8]; exact rAt_rk (by omega) hRT_6_0
  have hRT_8_1 : T_8.2.2 = 0 → rk T_8 1 := by rw [hT_8]; exact rAt_rk (by omega) hRT_6_1
  have hRT_8_2 : T_8.2.2 = 0 → rk T_8 2 := by rw [hT_8]; exact rAt_rk (by omega) hRT_6_2
  have hRT_8_3 : T_8.2.2 = 0 → rk T_8 3 := by rw [hT_8]; exact rAt_rk (by omega) hRT_6_3
  have hRT_8_4 : T_8.2.2 = 0 → rk T_8 4 := by rw [hT_8]; exact rAt_rk (by omega) hRT_6_4
  have hRT_8_5 : T_8.2.2 = 0 → rk T_8 5 := by rw [hT_8]; exact rAt_rk (by omega) hRT_6_5
  have hNT_8_0 : T_8.2.2 = 0 → rk T_8 72 := by rw [hT_8]; exact rAt_r0 (by omega) hRT_6_4 hRT_6_5 hNT_6_0
  have hNT_8_1 : T_8.2.2 = 0 → rk T_8 73 := by rw [hT_8]; exact rAt_r1 (by omega) hRT_6_4 hRT_6_5 hNT_6_1
  refine lv_iload_n hx hb dX10_mixed_43 rfl (lv_at hl 4 rfl) ?_
  refine z_if_eq (tgt := 53) hx hb (by decide) dX10_mixed_44 (by decide) (fun cq9 => ?_) (fun cq9 => False.elim (by omega))
  refine lv_aload_n hx hb dX10_mixed_53 rfl (lv_at hl 1 rfl) ?_
  refine z_bipush hx hb 66 dX10_mixed_54 rfl ?_
  refine z_iconst hx hb dX10_mixed_56 rfl ?_
  refine lv_iload hx hb dX10_mixed_57 (lv_at hl 0 rfl) ?_
  refine z_imul hx hb 0 rfl dX10_mixed_59 ?_
  refine z_iadd hx hb 66 rfl dX10_mixed_60 ?_
  refine z_bipush hx hb 72 dX10_mixed_61 rfl ?_
  refine z_cVv (As := [vI 66, vI 72]) (rest := []) ⟨hx, hb, hml, hown, hts⟩ hK hP hD hS hA [0, 1, 2] [] rfl rfl rfl (c_X10_copyTo l g q a (uI x 9 T_8.2.2) T_8 66 72 (by omega) (by omega)) (cwV 2 hts gX10_mixed_X10_copyTo rfl rfl rfl (by decide +kernel) ⟨Nat.le_of_ble_eq_true rfl, Nat.le_of_ble_eq_true rfl⟩) 10 0 rfl rfl rfl (fun _ _ _ _ _ _ => trivial) (fun _ _ _ => trivial) rfl hl.1 (Nat.le_of_ble_eq_true rfl) rfl dX10_mixed_63 ⟨Nat.le_of_ble_eq_true rfl, Nat.le_of_ble_eq_true rfl⟩ (fun u_10 H locs hwu_10 hP hD hS => ?_)
  try dsimp only at hwu_10
  have hP : zP g [[mdl q a (uI x 9 T_8.2.2)], [((a 0), .inl (g.2 1, 88, .inr (.inl (aL (rCp 66 72 T_8).1))))], [((a 1), .inl (g.2 1, 88, .inr (.inl (aL (rCp 66 72 T_8).2.1))))]] H := hP
  have hD : zD A [[mdl q a (uI x 9 T_8.2.2)], [((a 0), .inl (g.2 1, 88, .inr (.inl (aL (rCp 66 72 T_8).1))))], [((a 1), .inl (g.2 1, 88, .inr (.inl (aL (rCp 66 72 T_8).2.1))))]] := hD
  obtain ⟨T_11, hT_11⟩ : ∃ T : RS, T = rCp 66 72 T_8 := ⟨_, rfl⟩
  have hP : zP g [[mdl q a (uI x 9 T_11.2.2)], [((a 0), .inl (g.2 1, 88, .inr (.inl (aL T_11.1))))], [((a 1), .inl (g.2 1, 88, .inr (.inl (aL T_11.2.1))))]] H := by rw [hT_11]; exact hP
  have hD : zD A [[mdl q a (uI x 9 T_11.2.2)], [((a 0), .inl (g.2 1, 88, .inr (.inl (aL T_11.1))))], [((a 1), .inl (g.2 1, 88, .inr (.inl (aL T_11.2.1))))]] := by rw [hT_11]; exact hD
  have hZT_11 : T_11.2.2 = 0 ∨ T_11.2.2 = 1 := by rw [hT_11]; exact hZT_8
  have hRT_11_0 : T_11.2.2 = 0 → rk T_11 0 := by rw [hT_11]; exact rCp_rk (by omega) (by omega) hRT_8_0
  have hRT_11_1 : T_11.2.2 = 0 → rk T_11 1 := by rw [hT_11]; exact rCp_rk (by omega) (by omega) hRT_8_1
  have hRT_11_2 : T_11.2.2 = 0 → rk T_11 2 := by rw [hT_11]; exact rCp_rk (by omega) (by omega) hRT_8_2
  have hRT_11_3 : T_11.2.2 = 0 → rk T_11 3 := by rw [hT_11]; exact rCp_rk (by omega) (by omega) hRT_8_3
  have hRT_11_4 : T_11.2.2 = 0 → rk T_11 4 := by rw [hT_11]; exact rCp_rk (by omega) (by omega) hRT_8_4
  have hRT_11_5 : T_11.2.2 = 0 → rk T_11 5 := by rw [hT_11]; exact rCp_rk (by omega) (by omega) hRT_8_5
  refine z_iinc hx hb 1 (lv' := [(4, vI 1), (0, .ref q), (1, vI 2), (2, vI 1), (3, vI 0)]) dX10_mixed_66 hl (k := 0) rfl (rfl) (by decide) rfl (fun ls hl => ?_)
  refine lv_goto (tgt := 8) hx hb dX10_mixed_69 (by decide) ?_
  refine lv_iload hx hb dX10_mixed_8 (lv_at hl 0 rfl) ?_
  refine z_iconst hx hb dX10_mixed_10 rfl ?_
  refine z_icmp_ge (tgt := 72) hx hb (by decide) (by decide) dX10_mixed_11 (by decide) (fun cq12 => False.elim (by omega)) (fun cq12 => ?_)
  refine lv_aload_n hx hb dX10_mixed_14 rfl (lv_at hl 1 rfl) ?_
  refine z_bipush hx hb 72 dX10_mixed_15 rfl ?_
  refine z_iconst hx hb dX10_mixed_17 rfl ?_
  refine z_cVv (As := [vI 72, vI 0]) (rest := []) ⟨hx, hb, hml, hown, hts⟩ hK hP hD hS hA [0, 1, 2] [] rfl rfl rfl (c_X10_copyTo l g q a (uI x 9 T_11.2.2) T_11 72 0 (by omega) (by omega)) (cwV 2 hts gX10_mixed_X10_copyTo rfl rfl rfl (by decide +kernel) ⟨Nat.le_of_ble_eq_true rfl, Nat.le_of_ble_eq_true rfl⟩) 10 0 rfl rfl rfl (fun _ _ _ _ _ _ => trivial) (fun _ _ _ => trivial) rfl hl.1 (Nat.le_of_ble_eq_true rfl) rfl dX10_mixed_18 ⟨Nat.le_of_ble_eq_true rfl, Nat.le_of_ble_eq_true rfl⟩ (fun u_13 H locs hwu_13 hP hD hS => ?_)
  try dsimp only at hwu_13
  have hP : zP g [[mdl q a (uI x 9 T_11.2.2)], [((a 0), .inl (g.2 1, 88, .inr (.inl (aL (rCp 72 0 T_11).1))))], [((a 1), .inl (g.2 1, 88, .inr (.inl (aL (rCp 72 0 T_11).2.1))))]] H := hP
  have hD : zD A [[mdl q a (uI x 9 T_11.2.2)], [((a 0), .inl (g.2 1, 88, .inr (.inl (aL (rCp 72 0 T_11).1))))], [((a 1), .inl (g.2 1, 88, .inr (.inl (aL (rCp 72 0 T_11).2.1))))]] := hD
  obtain ⟨T_14, hT_14⟩ : ∃ T : RS, T = rCp 72 0 T_11 := ⟨_, rfl⟩
  have hP : zP g [[mdl q a (uI x 9 T_14.2.2)], [((a 0), .inl (g.2 1, 88, .inr (.inl (aL T_14.1))))], [((a 1), .inl (g.2 1, 88, .inr (.inl (aL T_14.2.1))))]] H := by rw [hT_14]; exact hP
  have hD : zD A [[mdl q a (uI x 9 T_14.2.2)], [((a 0), .inl (g.2 1, 88, .inr (.inl (aL T_14.1))))], [((a 1), .inl (g.2 1, 88, .inr (.inl (aL T_14.2.1))))]] := by rw [hT_14]; exact hD
  have hZT_14 : T_14.2.2 = 0 ∨ T_14.2.2 = 1 := by rw [hT_14]; exact hZT_11
  have hRT_14_0 : T_14.2.2 = 0 → rk T_14 0 := by rw [hT_14]; exact rCp_rk (by omega) (by omega) hRT_11_0
  have hRT_14_1 : T_14.2.2 = 0 → rk T_14 1 := by rw [hT_14]; exact rCp_rk (by omega) (by omega) hRT_11_1
  have hRT_14_2 : T_14.2.2 = 0 → rk T_14 2 := by rw [hT_14]; exact rCp_rk (by omega) (by omega) hRT_11_2
  have hRT_14_3 : T_14.2.2 = 0 → rk T_14 3 := by rw [hT_14]; exact rCp_rk (by omega) (by omega) hRT_11_3
  have hRT_14_4 : T_14.2.2 = 0 → rk T_14 4 := by rw [hT_14]; exact rCp_rk (by omega) (by omega) hRT_11_4
  have hRT_14_5 : T_14.2.2 = 0 → rk T_14 5 := by rw [hT_14]; exact rCp_rk (by omega) (by omega) hRT_11_5
  have hNT_14_0 : T_14.2.2 = 0 → rk T_14 72 := by rw [hT_14]; exact rCp_r0 hRT_11_0
  have hNT_14_1 : T_14.2.2 = 0 → rk T_14 73 := by rw [hT_14]; exact rCp_r1 (by omega) hRT_11_1
  refine lv_aload_n hx hb dX10_mixed_21 rfl (lv_at hl 1 rfl) ?_
  refine z_iconst hx hb dX10_mixed_22 rfl ?_
  refine lv_iload hx hb dX10_mixed_23 (lv_at hl 0 rfl) ?_
  refine lv_iload_n hx hb dX10_mixed_25 rfl (lv_at hl 2 rfl) ?_
  refine z_imul hx hb 2 rfl dX10_mixed_26 ?_
  refine z_iconst hx hb dX10_mixed_27 rfl ?_
  refine z_irem hx hb 2 (by decide) (by decide) rfl dX10_mixed_28 ?_
  refine z_cVv (As := [vI 2, vI 2]) (rest := []) ⟨hx, hb, hml, hown, hts⟩ hK hP hD hS hA [0, 1, 2] [] rfl rfl rfl (c_X10_addTurned2 l g q a (uI x 9 T_14.2.2) T_14 2 (by omega) hZT_14 hRT_14_2 hRT_14_3 hNT_14_0 hNT_14_1) (cwV 2 hts gX10_mixed_X10_addTurned rfl rfl rfl (by decide +kernel) ⟨Nat.le_of_ble_eq_true rfl, Nat.le_of_ble_eq_true rfl⟩) 10 0 rfl rfl rfl (fun _ _ _ _ _ _ => trivial) (fun _ _ _ => trivial) rfl hl.1 (Nat.le_of_ble_eq_true rfl) rfl dX10_mixed_29 ⟨Nat.le_of_ble_eq_true rfl, Nat.le_of_ble_eq_true rfl⟩ (fun u_15 H locs hwu_15 hP hD hS => ?_)
  try dsimp only at hwu_15
  have hP : zP g [[mdl q a (uI x 9 (rAt 2 2 T_14).2.2)], [((a 0), .inl (g.2 1, 88, .inr (.inl (aL (rAt 2 2 T_14).1))))], [((a 1), .inl (g.2 1, 88, .inr (.inl (aL (rAt 2 2 T_14).2.1))))]] H := hP
  have hD : zD A [[mdl q a (uI x 9 (rAt 2 2 T_14).2.2)], [((a 0), .inl (g.2 1, 88, .inr (.inl (aL (rAt 2 2 T_14).1))))], [((a 1), .inl (g.2 1, 88, .inr (.inl (aL (rAt 2 2 T_14).2.1))))]] := hD
  obtain ⟨T_16, hT_16⟩ : ∃ T : RS, T = rAt 2 2 T_14 := ⟨_, rfl⟩
  have hP : zP g [[mdl q a (uI x 9 T_16.2.2)], [((a 0), .inl (g.2 1, 88, .inr (.inl (aL T_16.1))))], [((a 1), .inl (g.2 1, 88, .inr (.inl (aL T_16.2.1))))]] H := by rw [hT_16]; exact hP
  have hD : zD A [[mdl q a (uI x 9 T_16.2.2)], [((a 0), .inl (g.2 1, 88, .inr (.inl (aL T_16.1))))], [((a 1), .inl (g.2 1, 88, .inr (.inl (aL T_16.2.1))))]] := by rw [hT_16]; exact hD
  have hZT_16 : T_16.2.2 = 0 ∨ T_16.2.2 = 1 := by rw [hT_16]; exact rAt_01 hZT_14
  have hRT_16_0 : T_16.2.2 = 0 → rk T_16 0 := by rw [hT_16]; exact rAt_rk (by omega) hRT_14_0
  have hRT_16_1 : T_16.2.2 = 0 → rk T_16 1 := by rw [hT_16]; exact rAt_rk (by omega) hRT_14_1
  have hRT_16_2 : T_16.2.2 = 0 → rk T_16 2 := by rw [hT_16]; exact rAt_rk (by omega) hRT_14_2
  have hRT_16_3 : T_16.2.2 = 0 → rk T_16 3 := by rw [hT_16]; exact rAt_rk (by omega) hRT_14_3
  have hRT_16_4 : T_16.2.2 = 0 → rk T_16 4 := by rw [hT_16]; exact rAt_rk (by omega) hRT_14_4
  have hRT_16_5 : T_16.2.2 = 0 → rk T_16 5 := by rw [hT_16]; exact rAt_rk (by omega) hRT_14_5
  have hNT_16_0 : T_16.2.2 = 0 → rk T_16 72 := by rw [hT_16]; exact rAt_r0 (by omega) hRT_14_2 hRT_14_3 hNT_14_0
  have hNT_16_1 : T_16.2.2 = 0 → rk T_16 73 := by rw [hT_16]; exact rAt_r1 (by omega) hRT_14_2 hRT_14_3 hNT_14_1
  refine lv_aload_n hx hb dX10_mixed_32 rfl (lv_at hl 1 rfl) ?_
  refine z_iconst hx hb dX10_mixed_33 rfl ?_
  refine lv_iload hx hb dX10_mixed_34 (lv_at hl 0 rfl) ?_
  refine lv_iload_n hx hb dX10_mixed_36 rfl (lv_at hl 3 rfl) ?_
  refine z_imul hx hb 1 rfl dX10_mixed_37 ?_
  refine z_iconst hx hb dX10_mixed_38 rfl ?_
  refine z_irem hx hb 1 (by decide) (by decide) rfl dX10_mixed_39 ?_
  refine z_cVv (As := [vI 4, vI 1]) (rest := []) ⟨hx, hb, hml, hown, hts⟩ hK hP hD hS hA [0, 1, 2] [] rfl rfl rfl (c_X10_addTurned1 l g q a (uI x 9 T_16.2.2) T_16 4 (by omega) hZT_16 hRT_16_4 hRT_16_5 hNT_16_0 hNT_16_1) (cwV 2 hts gX10_mixed_X10_addTurned rfl rfl rfl (by decide +kernel) ⟨Nat.le_of_ble_eq_true rfl, Nat.le_of_ble_eq_true rfl⟩) 10 0 rfl rfl rfl (fun _ _ _ _ _ _ => trivial) (fun _ _ _ => trivial) rfl hl.1 (Nat.le_of_ble_eq_true rfl) rfl dX10_mixed_40 ⟨Nat.le_of_ble_eq_true rfl, Nat.le_of_ble_eq_true rfl⟩ (fun u_17 H locs hwu_17 hP hD hS => ?_)
  try dsimp only at hwu_17
  have hP : zP g [[mdl q a (uI x 9 (rAt 4 1 T_16).2.2)], [((a 0), .inl (g.2 1, 88, .inr (.inl (aL (rAt 4 1 T_16).1))))], [((a 1), .inl (g.2 1, 88, .inr (.inl (aL (rAt 4 1 T_16).2.1))))]] H := hP
  have hD : zD A [[mdl q a (uI x 9 (rAt 4 1 T_16).2.2)], [((a 0), .inl (g.2 1, 88, .inr (.inl (aL (rAt 4 1 T_16).1))))], [((a 1), .inl (g.2 1, 88, .inr (.inl (aL (rAt 4 1 T_16).2.1))))]] := hD
  obtain ⟨T_18, hT_18⟩ : ∃ T : RS, T = rAt 4 1 T_16 := ⟨_, rfl⟩
  have hP : zP g [[mdl q a (uI x 9 T_18.2.2)], [((a 0), .inl (g.2 1, 88, .inr (.inl (aL T_18.1))))], [((a 1), .inl (g.2 1, 88, .inr (.inl (aL T_18.2.1))))]] H := by rw [hT_18]; exact hP
  have hD : zD A [[mdl q a (uI x 9 T_18.2.2)], [((a 0), .inl (g.2 1, 88, .inr (.inl (aL T_18.1))))], [((a 1), .inl (g.2 1, 88, .inr (.inl (aL T_18.2.1))))]] := by rw [hT_18]; exact hD
  have hZT_18 : T_18.2.2 = 0 ∨ T_18.2.2 = 1 := by rw [hT_18]; exact rAt_01 hZT_16
  have hRT_18_0 : T_18.2.2 = 0 → rk T_18 0 := by rw [hT_18]; exact rAt_rk (by omega) hRT_16_0
  have hRT_18_1 : T_18.2.2 = 0 → rk T_18 1 := by rw [hT_18]; exact rAt_rk (by omega) hRT_16_1
  have hRT_18_2 : T_18.2.2 = 0 → rk T_18 2 := by rw [hT_18]; exact rAt_rk (by omega) hRT_16_2
  have hRT_18_3 : T_18.2.2 = 0 → rk T_18 3 := by rw [hT_18]; exact rAt_rk (by omega) hRT_16_3
  have hRT_18_4 : T_18.2.2 = 0 → rk T_18 4 := by rw [hT_18]; exact rAt_rk (by omega) hRT_16_4
  have hRT_18_5 : T_18.2.2 = 0 → rk T_18 5 := by rw [hT_18]; exact rAt_rk (by omega) hRT_16_5
  have hNT_18_0 : T_18.2.2 = 0 → rk T_18 72 := by rw [hT_18]; exact rAt_r0 (by omega) hRT_16_4 hRT_16_5 hNT_16_0
  have hNT_18_1 : T_18.2.2 = 0 → rk T_18 73 := by rw [hT_18]; exact rAt_r1 (by omega) hRT_16_4 hRT_16_5 hNT_16_1
  refine lv_iload_n hx hb dX10_mixed_43 rfl (lv_at hl 4 rfl) ?_
  refine z_if_eq (tgt := 53) hx hb (by decide) dX10_mixed_44 (by decide) (fun cq19 => ?_) (fun cq19 => False.elim (by omega))
  refine lv_aload_n hx hb dX10_mixed_53 rfl (lv_at hl 1 rfl) ?_
  refine z_bipush hx hb 66 dX10_mixed_54 rfl ?_
  refine z_iconst hx hb dX10_mixed_56 rfl ?_
  refine lv_iload hx hb dX10_mixed_57 (lv_at hl 0 rfl) ?_
  refine z_imul hx hb 2 rfl dX10_mixed_59 ?_
  refine z_iadd hx hb 68 rfl dX10_mixed_60 ?_
  refine z_bipush hx hb 72 dX10_mixed_61 rfl ?_
  refine z_cVv (As := [vI 68, vI 72]) (rest := []) ⟨hx, hb, hml, hown, hts⟩ hK hP hD hS hA [0, 1, 2] [] rfl rfl rfl (c_X10_copyTo l g q a (uI x 9 T_18.2.2) T_18 68 72 (by omega) (by omega)) (cwV 2 hts gX10_mixed_X10_copyTo rfl rfl rfl (by decide +kernel) ⟨Nat.le_of_ble_eq_true rfl, Nat.le_of_ble_eq_true rfl⟩) 10 0 rfl rfl rfl (fun _ _ _ _ _ _ => trivial) (fun _ _ _ => trivial) rfl hl.1 (Nat.le_of_ble_eq_true rfl) rfl dX10_mixed_63 ⟨Nat.le_of_ble_eq_true rfl, Nat.le_of_ble_eq_true rfl⟩ (fun u_20 H locs hwu_20 hP hD hS => ?_)
  try dsimp only at hwu_20
  have hP : zP g [[mdl q a (uI x 9 T_18.2.2)], [((a 0), .inl (g.2 1, 88, .inr (.inl (aL (rCp 68 72 T_18).1))))], [((a 1), .inl (g.2 1, 88, .inr (.inl (aL (rCp 68 72 T_18).2.1))))]] H := hP
  have hD : zD A [[mdl q a (uI x 9 T_18.2.2)], [((a 0), .inl (g.2 1, 88, .inr (.inl (aL (rCp 68 72 T_18).1))))], [((a 1), .inl (g.2 1, 88, .inr (.inl (aL (rCp 68 72 T_18).2.1))))]] := hD
  obtain ⟨T_21, hT_21⟩ : ∃ T : RS, T = rCp 68 72 T_18 := ⟨_, rfl⟩
  have hP : zP g [[mdl q a (uI x 9 T_21.2.2)], [((a 0), .inl (g.2 1, 88, .inr (.inl (aL T_21.1))))], [((a 1), .inl (g.2 1, 88, .inr (.inl (aL T_21.2.1))))]] H := by rw [hT_21]; exact hP
  have hD : zD A [[mdl q a (uI x 9 T_21.2.2)], [((a 0), .inl (g.2 1, 88, .inr (.inl (aL T_21.1))))], [((a 1), .inl (g.2 1, 88, .inr (.inl (aL T_21.2.1))))]] := by rw [hT_21]; exact hD
  have hZT_21 : T_21.2.2 = 0 ∨ T_21.2.2 = 1 := by rw [hT_21]; exact hZT_18
  have hRT_21_0 : T_21.2.2 = 0 → rk T_21 0 := by rw [hT_21]; exact rCp_rk (by omega) (by omega) hRT_18_0
  have hRT_21_1 : T_21.2.2 = 0 → rk T_21 1 := by rw [hT_21]; exact rCp_rk (by omega) (by omega) hRT_18_1
  have hRT_21_2 : T_21.2.2 = 0 → rk T_21 2 := by rw [hT_21]; exact rCp_rk (by omega) (by omega) hRT_18_2
  have hRT_21_3 : T_21.2.2 = 0 → rk T_21 3 := by rw [hT_21]; exact rCp_rk (by omega) (by omega) hRT_18_3
  have hRT_21_4 : T_21.2.2 = 0 → rk T_21 4 := by rw [hT_21]; exact rCp_rk (by omega) (by omega) hRT_18_4
  have hRT_21_5 : T_21.2.2 = 0 → rk T_21 5 := by rw [hT_21]; exact rCp_rk (by omega) (by omega) hRT_18_5
  refine z_iinc hx hb 2 (lv' := [(4, vI 2), (0, .ref q), (1, vI 2), (2, vI 1), (3, vI 0)]) dX10_mixed_66 hl (k := 0) rfl (rfl) (by decide) rfl (fun ls hl => ?_)
  refine lv_goto (tgt := 8) hx hb dX10_mixed_69 (by decide) ?_
  refine lv_iload hx hb dX10_mixed_8 (lv_at hl 0 rfl) ?_
  refine z_iconst hx hb dX10_mixed_10 rfl ?_
  refine z_icmp_ge (tgt := 72) hx hb (by decide) (by decide) dX10_mixed_11 (by decide) (fun cq22 => False.elim (by omega)) (fun cq22 => ?_)
  refine lv_aload_n hx hb dX10_mixed_14 rfl (lv_at hl 1 rfl) ?_
  refine z_bipush hx hb 72 dX10_mixed_15 rfl ?_
  refine z_iconst hx hb dX10_mixed_17 rfl ?_
  refine z_cVv (As := [vI 72, vI 0]) (rest := []) ⟨hx, hb, hml, hown, hts⟩ hK hP hD hS hA [0, 1, 2] [] rfl rfl rfl (c_X10_copyTo l g q a (uI x 9 T_21.2.2) T_21 72 0 (by omega) (by omega)) (cwV 2 hts gX10_mixed_X10_copyTo rfl rfl rfl (by decide +kernel) ⟨Nat.le_of_ble_eq_true rfl, Nat.le_of_ble_eq_true rfl⟩) 10 0 rfl rfl rfl (fun _ _ _ _ _ _ => trivial) (fun _ _ _ => trivial) rfl hl.1 (Nat.le_of_ble_eq_true rfl) rfl dX10_mixed_18 ⟨Nat.le_of_ble_eq_true rfl, Nat.le_of_ble_eq_true rfl⟩ (fun u_23 H locs hwu_23 hP hD hS => ?_)
  try dsimp only at hwu_23
  have hP : zP g [[mdl q a (uI x 9 T_21.2.2)], [((a 0), .inl (g.2 1, 88, .inr (.inl (aL (rCp 72 0 T_21).1))))], [((a 1), .inl (g.2 1, 88, .inr (.inl (aL (rCp 72 0 T_21).2.1))))]] H := hP
  have hD : zD A [[mdl q a (uI x 9 T_21.2.2)], [((a 0), .inl (g.2 1, 88, .inr (.inl (aL (rCp 72 0 T_21).1))))], [((a 1), .inl (g.2 1, 88, .inr (.inl (aL (rCp 72 0 T_21).2.1))))]] := hD
  obtain ⟨T_24, hT_24⟩ : ∃ T : RS, T = rCp 72 0 T_21 := ⟨_, rfl⟩
  have hP : zP g [[mdl q a (uI x 9 T_24.2.2)], [((a 0), .inl (g.2 1, 88, .inr (.inl (aL T_24.1))))], [((a 1), .inl (g.2 1, 88, .inr (.inl (aL T_24.2.1))))]] H := by rw [hT_24]; exact hP
  have hD : zD A [[mdl q a (uI x 9 T_24.2.2)], [((a 0), .inl (g.2 1, 88, .inr (.inl (aL T_24.1))))], [((a 1), .inl (g.2 1, 88, .inr (.inl (aL T_24.2.1))))]] := by rw [hT_24]; exact hD
  have hZT_24 : T_24.2.2 = 0 ∨ T_24.2.2 = 1 := by rw [hT_24]; exact hZT_21
  have hRT_24_0 : T_24.2.2 = 0 → rk T_24 0 := by rw [hT_24]; exact rCp_rk (by omega) (by omega) hRT_21_0
  have hRT_24_1 : T_24.2.2 = 0 → rk T_24 1 := by rw [hT_24]; exact rCp_rk (by omega) (by omega) hRT_21_1
  have hRT_24_2 : T_24.2.2 = 0 → rk T_24 2 := by rw [hT_24]; exact rCp_rk (by omega) (by omega) hRT_21_2
  have hRT_24_3 : T_24.2.2 = 0 → rk T_24 3 := by rw [hT_24]; exact rCp_rk (by omega) (by omega) hRT_21_3
  have hRT_24_4 : T_24.2.2 = 0 → rk T_24 4 := by rw [hT_24]; exact rCp_rk (by omega) (by omega) hRT_21_4
  have hRT_24_5 : T_24.2.2 = 0 → rk T_24 5 := by rw [hT_24]; exact rCp_rk (by omega) (by omega) hRT_21_5
  have hNT_24_0 : T_24.2.2 = 0 → rk T_24 72 := by rw [hT_24]; exact rCp_r0 hRT_21_0
  have hNT_24_1 : T_24.2.2 = 0 → rk T_24 73 := by rw [hT_24]; exact rCp_r1 (by omega) hRT_21_1
  refine lv_aload_n hx hb dX10_mixed_21 rfl (lv_at hl 1 rfl) ?_
  refine z_iconst hx hb dX10_mixed_22 rfl ?_
  refine lv_iload hx hb dX10_mixed_23 (lv_at hl 0 rfl) ?_
  refine lv_iload_n hx hb dX10_mixed_25 rfl (lv_at hl 2 rfl) ?_
  refine z_imul hx hb 4 rfl dX10_mixed_26 ?_
  refine z_iconst hx hb dX10_mixed_27 rfl ?_
  refine z_irem hx hb 1 (by decide) (by decide) rfl dX10_mixed_28 ?_
  refine z_cVv (As := [vI 2, vI 1]) (rest := []) ⟨hx, hb, hml, hown, hts⟩ hK hP hD hS hA [0, 1, 2] [] rfl rfl rfl (c_X10_addTurned1 l g q a (uI x 9 T_24.2.2) T_24 2 (by omega) hZT_24 hRT_24_2 hRT_24_3 hNT_24_0 hNT_24_1) (cwV 2 hts gX10_mixed_X10_addTurned rfl rfl rfl (by decide +kernel) ⟨Nat.le_of_ble_eq_true rfl, Nat.le_of_ble_eq_true rfl⟩) 10 0 rfl rfl rfl (fun _ _ _ _ _ _ => trivial) (fun _ _ _ => trivial) rfl hl.1 (Nat.le_of_ble_eq_true rfl) rfl dX10_mixed_29 ⟨Nat.le_of_ble_eq_true rfl, Nat.le_of_ble_eq_true rfl⟩ (fun u_25 H locs hwu_25 hP hD hS => ?_)
  try dsimp only at hwu_25
  have hP : zP g [[mdl q a (uI x 9 (rAt 2 1 T_24).2.2)], [((a 0), .inl (g.2 1, 88, .inr (.inl (aL (rAt 2 1 T_24).1))))], [((a 1), .inl (g.2 1, 88, .inr (.inl (aL (rAt 2 1 T_24).2.1))))]] H := hP
  have hD : zD A [[mdl q a (uI x 9 (rAt 2 1 T_24).2.2)], [((a 0), .inl (g.2 1, 88, .inr (.inl (aL (rAt 2 1 T_24).1))))], [((a 1), .inl (g.2 1, 88, .inr (.inl (aL (rAt 2 1 T_24).2.1))))]] := hD
  obtain ⟨T_26, hT_26⟩ : ∃ T : RS, T = rAt 2 1 T_24 := ⟨_, rfl⟩
  have hP : zP g [[mdl q a (uI x 9 T_26.2.2)], [((a 0), .inl (g.2 1, 88, .inr (.inl (aL T_26.1))))], [((a 1), .inl (g.2 1, 88, .inr (.inl (aL T_26.2.1))))]] H := by rw [hT_26]; exact hP
  have hD : zD A [[mdl q a (uI x 9 T_26.2.2)], [((a 0), .inl (g.2 1, 88, .inr (.inl (aL T_26.1))))], [((a 1), .inl (g.2 1, 88, .inr (.inl (aL T_26.2.1))))]] := by rw [hT_26]; exact hD
  have hZT_26 : T_26.2.2 = 0 ∨ T_26.2.2 = 1 := by rw [hT_26]; exact rAt_01 hZT_24
  have hRT_26_0 : T_26.2.2 = 0 → rk T_26 0 := by rw [hT_26]; exact rAt_rk (by omega) hRT_24_0
  have hRT_26_1 : T_26.2.2 = 0 → rk T_26 1 := by rw [hT_26]; exact rAt_rk (by omega) hRT_24_1
  have hRT_26_2 : T_26.2.2 = 0 → rk T_26 2 := by rw [hT_26]; exact rAt_rk (by omega) hRT_24_2
  have hRT_26_3 : T_26.2.2 = 0 → rk T_26 3 := by rw [hT_26]; exact rAt_rk (by omega) hRT_24_3
  have hRT_26_4 : T_26.2.2 = 0 → rk T_26 4 := by rw [hT_26]; exact rAt_rk (by omega) hRT_24_4
  have hRT_26_5 : T_26.2.2 = 0 → rk T_26 5 := by rw [hT_26]; exact rAt_rk (by omega) hRT_24_5
  have hNT_26_0 : T_26.2.2 = 0 → rk T_26 72 := by rw [hT_26]; exact rAt_r0 (by omega) hRT_24_2 hRT_24_3 hNT_24_0
  have hNT_26_1 : T_26.2.2 = 0 → rk T_26 73 := by rw [hT_26]; exact rAt_r1 (by omega) hRT_24_2 hRT_24_3 hNT_24_1
  refine lv_aload_n hx hb dX10_mixed_32 rfl (lv_at hl 1 rfl) ?_
  refine z_iconst hx hb dX10_mixed_33 rfl ?_
  refine lv_iload hx hb dX10_mixed_34 (lv_at hl 0 rfl) ?_
  refine lv_iload_n hx hb dX10_mixed_36 rfl (lv_at hl 3 rfl) ?_
  refine z_imul hx hb 2 rfl dX10_mixed_37 ?_
  refine z_iconst hx hb dX10_mixed_38 rfl ?_
  refine z_irem hx hb 2 (by decide) (by decide) rfl dX10_mixed_39 ?_
  refine z_cVv (As := [vI 4, vI 2]) (rest := []) ⟨hx, hb, hml, hown, hts⟩ hK hP hD hS hA [0, 1, 2] [] rfl rfl rfl (c_X10_addTurned2 l g q a (uI x 9 T_26.2.2) T_26 4 (by omega) hZT_26 hRT_26_4 hRT_26_5 hNT_26_0 hNT_26_1) (cwV 2 hts gX10_mixed_X10_addTurned rfl rfl rfl (by decide +kernel) ⟨Nat.le_of_ble_eq_true rfl, Nat.le_of_ble_eq_true rfl⟩) 10 0 rfl rfl rfl (fun _ _ _ _ _ _ => trivial) (fun _ _ _ => trivial) rfl hl.1 (Nat.le_of_ble_eq_true rfl) rfl dX10_mixed_40 ⟨Nat.le_of_ble_eq_true rfl, Nat.le_of_ble_eq_true rfl⟩ (fun u_27 H locs hwu_27 hP hD hS => ?_)
  try dsimp only at hwu_27
  have hP : zP g [[mdl q a (uI x 9 (rAt 4 2 T_26).2.2)], [((a 0), .inl (g.2 1, 88, .inr (.inl (aL (rAt 4 2 T_26).1))))], [((a 1), .inl (g.2 1, 88, .inr (.inl (aL (rAt 4 2 T_26).2.1))))]] H := hP
  have hD : zD A [[mdl q a (uI x 9 (rAt 4 2 T_26).2.2)], [((a 0), .inl (g.2 1, 88, .inr (.inl (aL (rAt 4 2 T_26).1))))], [((a 1), .inl (g.2 1, 88, .inr (.inl (aL (rAt 4 2 T_26).2.1))))]] := hD
  obtain ⟨T_28, hT_28⟩ : ∃ T : RS, T = rAt 4 2 T_26 := ⟨_, rfl⟩
  have hP : zP g [[mdl q a (uI x 9 T_28.2.2)], [((a 0), .inl (g.2 1, 88, .inr (.inl (aL T_28.1))))], [((a 1), .inl (g.2 1, 88, .inr (.inl (aL T_28.2.1))))]] H := by rw [hT_28]; exact hP
  have hD : zD A [[mdl q a (uI x 9 T_28.2.2)], [((a 0), .inl (g.2 1, 88, .inr (.inl (aL T_28.1))))], [((a 1), .inl (g.2 1, 88, .inr (.inl (aL T_28.2.1))))]] := by rw [hT_28]; exact hD
  have hZT_28 : T_28.2.2 = 0 ∨ T_28.2.2 = 1 := by rw [hT_28]; exact rAt_01 hZT_26
  have hRT_28_0 : T_28.2.2 = 0 → rk T_28 0 := by rw [hT_28]; exact rAt_rk (by omega) hRT_26_0
  have hRT_28_1 : T_28.2.2 = 0 → rk T_28 1 := by rw [hT_28]; exact rAt_rk (by omega) hRT_26_1
  have hRT_28_2 : T_28.2.2 = 0 → rk T_28 2 := by rw [hT_28]; exact rAt_rk (by omega) hRT_26_2
  have hRT_28_3 : T_28.2.2 = 0 → rk T_28 3 := by rw [hT_28]; exact rAt_rk (by omega) hRT_26_3
  have hRT_28_4 : T_28.2.2 = 0 → rk T_28 4 := by rw [hT_28]; exact rAt_rk (by omega) hRT_26_4
  have hRT_28_5 : T_28.2.2 = 0 → rk T_28 5 := by rw [hT_28]; exact rAt_rk (by omega) hRT_26_5
  have hNT_28_0 : T_28.2.2 = 0 → rk T_28 72 := by rw [hT_28]; exact rAt_r0 (by omega) hRT_26_4 hRT_26_5 hNT_26_0
  have hNT_28_1 : T_28.2.2 = 0 → rk T_28 73 := by rw [hT_28]; exact rAt_r1 (by omega) hRT_26_4 hRT_26_5 hNT_26_1
  refine lv_iload_n hx hb dX10_mixed_43 rfl (lv_at hl 4 rfl) ?_
  refine z_if_eq (tgt := 53) hx hb (by decide) dX10_mixed_44 (by decide) (fun cq29 => ?_) (fun cq29 => False.elim (by omega))
  refine lv_aload_n hx hb dX10_mixed_53 rfl (lv_at hl 1 rfl) ?_
  refine z_bipush hx hb 66 dX10_mixed_54 rfl ?_
  refine z_iconst hx hb dX10_mixed_56 rfl ?_
  refine lv_iload hx hb dX10_mixed_57 (lv_at hl 0 rfl) ?_
  refine z_imul hx hb 4 rfl dX10_mixed_59 ?_
  refine z_iadd hx hb 70 rfl dX10_mixed_60 ?_
  refine z_bipush hx hb 72 dX10_mixed_61 rfl ?_
  refine z_cVv (As := [vI 70, vI 72]) (rest := []) ⟨hx, hb, hml, hown, hts⟩ hK hP hD hS hA [0, 1, 2] [] rfl rfl rfl (c_X10_copyTo l g q a (uI x 9 T_28.2.2) T_28 70 72 (by omega) (by omega)) (cwV 2 hts gX10_mixed_X10_copyTo rfl rfl rfl (by decide +kernel) ⟨Nat.le_of_ble_eq_true rfl, Nat.le_of_ble_eq_true rfl⟩) 10 0 rfl rfl rfl (fun _ _ _ _ _ _ => trivial) (fun _ _ _ => trivial) rfl hl.1 (Nat.le_of_ble_eq_true rfl) rfl dX10_mixed_63 ⟨Nat.le_of_ble_eq_true rfl, Nat.le_of_ble_eq_true rfl⟩ (fun u_30 H locs hwu_30 hP hD hS => ?_)
  try dsimp only at hwu_30
  have hP : zP g [[mdl q a (uI x 9 T_28.2.2)], [((a 0), .inl (g.2 1, 88, .inr (.inl (aL (rCp 70 72 T_28).1))))], [((a 1), .inl (g.2 1, 88, .inr (.inl (aL (rCp 70 72 T_28).2.1))))]] H := hP
  have hD : zD A [[mdl q a (uI x 9 T_28.2.2)], [((a 0), .inl (g.2 1, 88, .inr (.inl (aL (rCp 70 72 T_28).1))))], [((a 1), .inl (g.2 1, 88, .inr (.inl (aL (rCp 70 72 T_28).2.1))))]] := hD
  obtain ⟨T_31, hT_31⟩ : ∃ T : RS, T = rCp 70 72 T_28 := ⟨_, rfl⟩
  have hP : zP g [[mdl q a (uI x 9 T_31.2.2)], [((a 0), .inl (g.2 1, 88, .inr (.inl (aL T_31.1))))], [((a 1), .inl (g.2 1, 88, .inr (.inl (aL T_31.2.1))))]] H := by rw [hT_31]; exact hP
  have hD : zD A [[mdl q a (uI x 9 T_31.2.2)], [((a 0), .inl (g.2 1, 88, .inr (.inl (aL T_31.1))))], [((a 1), .inl (g.2 1, 88, .inr (.inl (aL T_31.2.1))))]] := by rw [hT_31]; exact hD
  have hZT_31 : T_31.2.2 = 0 ∨ T_31.2.2 = 1 := by rw [hT_31]; exact hZT_28
  have hRT_31_0 : T_31.2.2 = 0 → rk T_31 0 := by rw [hT_31]; exact rCp_rk (by omega) (by omega) hRT_28_0
  have hRT_31_1 : T_31.2.2 = 0 → rk T_31 1 := by rw [hT_31]; exact rCp_rk (by omega) (by omega) hRT_28_1
  have hRT_31_2 : T_31.2.2 = 0 → rk T_31 2 := by rw [hT_31]; exact rCp_rk (by omega) (by omega) hRT_28_2
  have hRT_31_3 : T_31.2.2 = 0 → rk T_31 3 := by rw [hT_31]; exact rCp_rk (by omega) (by omega) hRT_28_3
  have hRT_31_4 : T_31.2.2 = 0 → rk T_31 4 := by rw [hT_31]; exact rCp_rk (by omega) (by omega) hRT_28_4
  have hRT_31_5 : T_31.2.2 = 0 → rk T_31 5 := by rw [hT_31]; exact rCp_rk (by omega) (by omega) hRT_28_5
  refine z_iinc hx hb 3 (lv' := [(4, vI 3), (0, .ref q), (1, vI 2), (2, vI 1), (3, vI 0)]) dX10_mixed_66 hl (k := 0) rfl (rfl) (by decide) rfl (fun ls hl => ?_)
  refine lv_goto (tgt := 8) hx hb dX10_mixed_69 (by decide) ?_
  refine lv_iload hx hb dX10_mixed_8 (lv_at hl 0 rfl) ?_
  refine z_iconst hx hb dX10_mixed_10 rfl ?_
  refine z_icmp_ge (tgt := 72) hx hb (by decide) (by decide) dX10_mixed_11 (by decide) (fun cq32 => ?_) (fun cq32 => False.elim (by omega))
  have hE : T_31 = (rMx 1 2 false 2 (rMx 2 1 false 1 (rMx 0 0 false 0 (rZ0 S)))) := by rw [hT_31, hT_28, hT_26, hT_24, hT_21, hT_18, hT_16, hT_14, hT_11, hT_8, hT_6, hT_4, hT_1]; rfl
  rw [← hE] at hM
  refine lv_aload_n hx hb dX10_mixed_72 rfl (lv_at hl 1 rfl) ?_
  refine z_get hx hb hts hin10_ hown hK hP 0 rfl rfl 22 (by decide) (hts _ (List.mem_of_getElem? (i := 1) rfl)) rfl dX10_mixed_73 ?_
  refine z_toI T_31.2.2 rfl ?_
  refine z_if_eq (tgt := 82) hx hb (by omega) dX10_mixed_76 (by decide) (fun cq33 => False.elim (by omega)) (fun cq33 => ?_)
  refine z_ldc hx hb (-2000000004) hown (hts _ (List.mem_of_getElem? (i := 2) rfl)) rfl dX10_mixed_79 ?_
  exact z_reti () [0, 1, 2] hx hb hr rfl hlocks hK hP hD hS (rfl) trivial rfl rfl (by rw [← hE]; rfl) (Nat.le_of_ble_eq_true rfl) (Nat.le_of_ble_eq_true rfl) dX10_mixed_81

set_option maxHeartbeats 4000000 in
set_option maxRecDepth 100000 in
theorem c_X10_join_over (l : Launch) (g : zG) (q : Nat) (a : Nat → Nat) (x : Nat → Int) (S : RS) (hz : S.2.2 = 0 ∨ S.2.2 = 1) (hk : ∀ j, j < 6 → rk S j) (hM : (rMx 1 2 false 2 (rMx 2 1 false 1 (rMx 0 0 false 0 (rZ0 S)))).2.2 = 1) : zMet l g yX10_join wsX10_join 7 0 0 [.ref q] zX0 [[mdl q a (uI x 9 S.2.2)], [((a 0), .inl (g.2 1, 88, .inr (.inl (aL S.1))))], [((a 1), .inl (g.2 1, 88, .inr (.inl (aL S.2.1))))]] (qi g (fun (_ : Unit) => (-2000000004)) (fun (_ : Unit) => True) (fun (_ : Unit) => [[mdl q a (uI x 9 (rMx 1 2 false 2 (rMx 2 1 false 1 (rMx 0 0 false 0 (rZ0 S)))).2.2)], [((a 0), .inl (g.2 1, 88, .inr (.inl (aL (rMx 1 2 false 2 (rMx 2 1 false 1 (rMx 0 0 false 0 (rZ0 S)))).1))))], [((a 1), .inl (g.2 1, 88, .inr (.inl (aL (rMx 1 2 false 2 (rMx 2 1 false 1 (rMx 0 0 false 0 (rZ0 S)))).2.1))))]])) := by
  refine z_ent (cc := cX10_join) (maxL := 1) (ret := (some .int)) (by decide) rfl (Nat.le_of_ble_eq_true rfl) ?_
  intro p e s m below meth c A ls hx hb hr hml hown hts hlocks hin0 hA hK hP hD hS hXX hl
  have hown : s.vm.findClass RX10 = some m.cls := hown
  have hl : lv_has ls 1 [(0, .ref q)] := hl
  refine lv_aload_n hx hb dX10_join_0 rfl (lv_at hl 0 rfl) ?_
  refine z_iconst hx hb dX10_join_1 rfl ?_
  refine z_iconst hx hb dX10_join_2 rfl ?_
  refine z_iconst hx hb dX10_join_3 rfl ?_
  refine z_cVi (As := [vI 2, vI 1, vI 0]) (rest := []) ⟨hx, hb, hml, hown, hts⟩ hK hP hD hS hA [0, 1, 2] [] rfl rfl rfl (c_X10_mixJ_over l g q a (uI x 9 S.2.2) S (by assumption) hk hM) (cwV 3 hts gX10_join_X10_mixed rfl rfl rfl (by decide +kernel) ⟨Nat.le_of_ble_eq_true rfl, Nat.le_of_ble_eq_true rfl⟩) 10 0 rfl rfl rfl (fun _ _ _ _ _ _ => trivial) (fun _ _ _ => trivial) rfl hl.1 (Nat.le_of_ble_eq_true rfl) rfl dX10_join_4 ⟨Nat.le_of_ble_eq_true rfl, Nat.le_of_ble_eq_true rfl⟩ (fun u_1 H locs hwu_1 hP hD hS => ?_)
  try dsimp only at hwu_1
  have hP : zP g [[mdl q a (uI x 9 (rMx 1 2 false 2 (rMx 2 1 false 1 (rMx 0 0 false 0 (rZ0 S)))).2.2)], [((a 0), .inl (g.2 1, 88, .inr (.inl (aL (rMx 1 2 false 2 (rMx 2 1 false 1 (rMx 0 0 false 0 (rZ0 S)))).1))))], [((a 1), .inl (g.2 1, 88, .inr (.inl (aL (rMx 1 2 false 2 (rMx 2 1 false 1 (rMx 0 0 false 0 (rZ0 S)))).2.1))))]] H := hP
  have hD : zD A [[mdl q a (uI x 9 (rMx 1 2 false 2 (rMx 2 1 false 1 (rMx 0 0 false 0 (rZ0 S)))).2.2)], [((a 0), .inl (g.2 1, 88, .inr (.inl (aL (rMx 1 2 false 2 (rMx 2 1 false 1 (rMx 0 0 false 0 (rZ0 S)))).1))))], [((a 1), .inl (g.2 1, 88, .inr (.inl (aL (rMx 1 2 false 2 (rMx 2 1 false 1 (rMx 0 0 false 0 (rZ0 S)))).2.1))))]] := hD
  refine z_toI (-2000000004) rfl ?_
  exact z_reti () [0, 1, 2] hx hb hr rfl hlocks hK hP hD hS (rfl) trivial rfl rfl (rfl) (Nat.le_of_ble_eq_true rfl) (Nat.le_of_ble_eq_true rfl) dX10_join_7

set_option maxHeartbeats 4000000 in
set_option maxRecDepth 100000 in
theorem c_X10_mixJ_ok (l : Launch) (g : zG) (q : Nat) (a : Nat → Nat) (x : Nat → Int) (S : RS) (u : Nat) (hz : S.2.2 = 0 ∨ S.2.2 = 1) (hk : ∀ j, j < 6 → rk S j) (hM : (rMx 1 2 false 2 (rMx 2 1 false 1 (rMx 0 0 false 0 (rZ0 S)))).2.2 = 0) (hu : x 2 = (u : Int)) (hu8 : u ≤ 8) : zMet l g yX10_mixed wsX10_mixed 6 0 0 [.ref q, vI 2, vI 1, vI 0] zX0 [[mdl q a (uI x 9 S.2.2)], [((a 0), .inl (g.2 1, 88, .inr (.inl (aL S.1))))], [((a 1), .inl (g.2 1, 88, .inr (.inl (aL S.2.1))))]] (qi g (fun (_ : Unit) => 1) (fun (_ : Unit) => True) (fun (_ : Unit) => [[mdl q a (uI (uI x 2 (((min (u + 1) 8) : Nat) : Int)) 9 (rMx 1 2 false 2 (rMx 2 1 false 1 (rMx 0 0 false 0 (rZ0 S)))).2.2)], [((a 0), .inl (g.2 1, 88, .inr (.inl (aL (rC6 66 0 (kpS u (rMx 1 2 false 2 (rMx 2 1 false 1 (rMx 0 0 false 0 (rZ0 S)))))).1))))], [((a 1), .inl (g.2 1, 88, .inr (.inl (aL (rC6 66 0 (kpS u (rMx 1 2 false 2 (rMx 2 1 false 1 (rMx 0 0 false 0 (rZ0 S)))))).2.1))))]])) := by
  refine z_ent (cc := cX10_mixed) (maxL := 5) (ret := (some .int)) (by decide) rfl (Nat.le_of_ble_eq_true rfl) ?_
  intro p e s m below meth c A ls hx hb hr hml hown hts hlocks hin0 hA hK hP hD hS hXX hl
  have hown : s.vm.findClass RX10 = some m.cls := hown
  have hin10_ : ∀ w ∈ wsX100, w ∈ wsX10_mixed := zw_in [61, 62, 63, 64, 65, 66, 67, 68, 69, 70, 71, 72, 73, 74, 75, 76, 77, 78, 79, 80, 81, 82, 83, 84, 85, 86] rfl
  have hl : lv_has ls 5 [(0, .ref q), (1, vI 2), (2, vI 1), (3, vI 0)] := hl
  refine lv_aload_n hx hb dX10_mixed_0 rfl (lv_at hl 0 rfl) ?_
  refine z_iconst hx hb dX10_mixed_1 rfl ?_
  refine z_put hx hb hts hin10_ tyX10 tyX10_ok nmX10 hown hK hP hD hS 0 rfl rfl 22 (by decide) (hts _ (List.mem_of_getElem? (i := 1) rfl)) rfl (nar_z (by decide)) (fit_z (by decide)) (Nat.le_of_ble_eq_true rfl) dX10_mixed_2 [[mdl q a (uI x 9 0)], [((a 0), .inl (g.2 1, 88, .inr (.inl (aL S.1))))], [((a 1), .inl (g.2 1, 88, .inr (.inl (aL S.2.1))))]] rfl (fun H locs hP hD hS => ?_)
  obtain ⟨T_1, hT_1⟩ : ∃ T : RS, T = rZ0  S := ⟨_, rfl⟩
  have hP : zP g [[mdl q a (uI x 9 T_1.2.2)], [((a 0), .inl (g.2 1, 88, .inr (.inl (aL T_1.1))))], [((a 1), .inl (g.2 1, 88, .inr (.inl (aL T_1.2.1))))]] H := by rw [hT_1]; exact hP
  have hD : zD A [[mdl q a (uI x 9 T_1.2.2)], [((a 0), .inl (g.2 1, 88, .inr (.inl (aL T_1.1))))], [((a 1), .inl (g.2 1, 88, .inr (.inl (aL T_1.2.1))))]] := by rw [hT_1]; exact hD
  have hZT_1 : T_1.2.2 = 0 ∨ T_1.2.2 = 1 := by rw [hT_1]; exact rZ0_01 hz
  have hNT_1_0 : T_1.2.2 = 0 → rk T_1 0 := by rw [hT_1]; exact rZ0_r (hk 0 (by decide)) 
  have hNT_1_1 : T_1.2.2 = 0 → rk T_1 1 := by rw [hT_1]; exact rZ0_r (hk 1 (by decide)) 
  have hNT_1_2 : T_1.2.2 = 0 → rk T_1 2 := by rw [hT_1]; exact rZ0_r (hk 2 (by decide)) 
  have hNT_1_3 : T_1.2.2 = 0 → rk T_1 3 := by rw [hT_1]; exact rZ0_r (hk 3 (by decide)) 
  have hNT_1_4 : T_1.2.2 = 0 → rk T_1 4 := by rw [hT_1]; exact rZ0_r (hk 4 (by decide)) 
  have hNT_1_5 : T_1.2.2 = 0 → rk T_1 5 := by rw [hT_1]; exact rZ0_r (hk 5 (by decide)) 
  refine z_iconst hx hb dX10_mixed_5 rfl ?_
  refine lv_istore (lv' := [(4, vI 0), (0, .ref q), (1, vI 2), (2, vI 1), (3, vI 0)]) hx hb dX10_mixed_6 hl (by decide) rfl (fun ls hl => ?_)
  refine lv_iload hx hb dX10_mixed_8 (lv_at hl 0 rfl) ?_
  refine z_iconst hx hb dX10_mixed_10 rfl ?_
  refine z_icmp_ge (tgt := 72) hx hb (by decide) (by decide) dX10_mixed_11 (by decide) (fun cq2 => False.elim (by omega)) (fun cq2 => ?_)
  refine lv_aload_n hx hb dX10_mixed_14 rfl (lv_at hl 1 rfl) ?_
  refine z_bipush hx hb 72 dX10_mixed_15 rfl ?_
  refine z_iconst hx hb dX10_mixed_17 rfl ?_
  refine z_cVv (As := [vI 72, vI 0]) (rest := []) ⟨hx, hb, hml, hown, hts⟩ hK hP hD hS hA [0, 1, 2] [] rfl rfl rfl (c_X10_copyTo l g q a (uI x 9 T_1.2.2) T_1 72 0 (by omega) (by omega)) (cwV 2 hts gX10_mixed_X10_copyTo rfl rfl rfl (by decide +kernel) ⟨Nat.le_of_ble_eq_true rfl, Nat.le_of_ble_eq_true rfl⟩) 10 0 rfl rfl rfl (fun _ _ _ _ _ _ => trivial) (fun _ _ _ => trivial) rfl hl.1 (Nat.le_of_ble_eq_true rfl) rfl dX10_mixed_18 ⟨Nat.le_of_ble_eq_true rfl, Nat.le_of_ble_eq_true rfl⟩ (fun u_3 H locs hwu_3 hP hD hS => ?_)
  try dsimp only at hwu_3
  have hP : zP g [[mdl q a (uI x 9 T_1.2.2)], [((a 0), .inl (g.2 1, 88, .inr (.inl (aL (rCp 72 0 T_1).1))))], [((a 1), .inl (g.2 1, 88, .inr (.inl (aL (rCp 72 0 T_1).2.1))))]] H := hP
  have hD : zD A [[mdl q a (uI x 9 T_1.2.2)], [((a 0), .inl (g.2 1, 88, .inr (.inl (aL (rCp 72 0 T_1).1))))], [((a 1), .inl (g.2 1, 88, .inr (.inl (aL (rCp 72 0 T_1).2.1))))]] := hD
  obtain ⟨T_4, hT_4⟩ : ∃ T : RS, T = rCp 72 0 T_1 := ⟨_, rfl⟩
  have hP : zP g [[mdl q a (uI x 9 T_4.2.2)], [((a 0), .inl (g.2 1, 88, .inr (.inl (aL T_4.1))))], [((a 1), .inl (g.2 1, 88, .inr (.inl (aL T_4.2.1))))]] H := by rw [hT_4]; exact hP
  have hD : zD A [[mdl q a (uI x 9 T_4.2.2)], [((a 0), .inl (g.2 1, 88, .inr (.inl (aL T_4.1))))], [((a 1), .inl (g.2 1, 88, .inr (.inl (aL T_4.2.1))))]] := by rw [hT_4]; exact hD
  have hZT_4 : T_4.2.2 = 0 ∨ T_4.2.2 = 1 := by rw [hT_4]; exact hZT_1
  have hRT_4_0 : T_4.2.2 = 0 → rk T_4 0 := by rw [hT_4]; exact rCp_rk (by omega) (by omega) hNT_1_0
  have hRT_4_1 : T_4.2.2 = 0 → rk T_4 1 := by rw [hT_4]; exact rCp_rk (by omega) (by omega) hNT_1_1
  have hRT_4_2 : T_4.2.2 = 0 → rk T_4 2 := by rw [hT_4]; exact rCp_rk (by omega) (by omega) hNT_1_2
  have hRT_4_3 : T_4.2.2 = 0 → rk T_4 3 := by rw [hT_4]; exact rCp_rk (by omega) (by omega) hNT_1_3
  have hRT_4_4 : T_4.2.2 = 0 → rk T_4 4 := by rw [hT_4]; exact rCp_rk (by omega) (by omega) hNT_1_4
  have hRT_4_5 : T_4.2.2 = 0 → rk T_4 5 := by rw [hT_4]; exact rCp_rk (by omega) (by omega) hNT_1_5
  have hNT_4_0 : T_4.2.2 = 0 → rk T_4 72 := by rw [hT_4]; exact rCp_r0 hNT_1_0
  have hNT_4_1 : T_4.2.2 = 0 → rk T_4 73 := by rw [hT_4]; exact rCp_r1 (by omega) hNT_1_1
  refine lv_aload_n hx hb dX10_mixed_21 rfl (lv_at hl 1 rfl) ?_
  refine z_iconst hx hb dX10_mixed_22 rfl ?_
  refine lv_iload hx hb dX10_mixed_23 (lv_at hl 0 rfl) ?_
  refine lv_iload_n hx hb dX10_mixed_25 rfl (lv_at hl 2 rfl) ?_
  refine z_imul hx hb 0 rfl dX10_mixed_26 ?_
  refine z_iconst hx hb dX10_mixed_27 rfl ?_
  refine z_irem hx hb 0 (by decide) (by decide) rfl dX10_mixed_28 ?_
  refine z_cVv (As := [vI 2, vI 0]) (rest := []) ⟨hx, hb, hml, hown, hts⟩ hK hP hD hS hA [0, 1, 2] [] rfl rfl rfl (c_X10_addTurned0 l g q a (uI x 9 T_4.2.2) T_4 2 (by omega) hZT_4 hRT_4_2 hRT_4_3 hNT_4_0 hNT_4_1) (cwV 2 hts gX10_mixed_X10_addTurned rfl rfl rfl (by decide +kernel) ⟨Nat.le_of_ble_eq_true rfl, Nat.le_of_ble_eq_true rfl⟩) 10 0 rfl rfl rfl (fun _ _ _ _ _ _ => trivial) (fun _ _ _ => trivial) rfl hl.1 (Nat.le_of_ble_eq_true rfl) rfl dX10_mixed_29 ⟨Nat.le_of_ble_eq_true rfl, Nat.le_of_ble_eq_true rfl⟩ (fun u_5 H locs hwu_5 hP hD hS => ?_)
  try dsimp only at hwu_5
  have hP : zP g [[mdl q a (uI x 9 (rAt 2 0 T_4).2.2)], [((a 0), .inl (g.2 1, 88, .inr (.inl (aL (rAt 2 0 T_4).1))))], [((a 1), .inl (g.2 1, 88, .inr (.inl (aL (rAt 2 0 T_4).2.1))))]] H := hP
  have hD : zD A [[mdl q a (uI x 9 (rAt 2 0 T_4).2.2)], [((a 0), .inl (g.2 1, 88, .inr (.inl (aL (rAt 2 0 T_4).1))))], [((a 1), .inl (g.2 1, 88, .inr (.inl (aL (rAt 2 0 T_4).2.1))))]] := hD
  obtain ⟨T_6, hT_6⟩ : ∃ T : RS, T = rAt 2 0 T_4 := ⟨_, rfl⟩
  have hP : zP g [[mdl q a (uI x 9 T_6.2.2)], [((a 0), .inl (g.2 1, 88, .inr (.inl (aL T_6.1))))], [((a 1), .inl (g.2 1, 88, .inr (.inl (aL T_6.2.1))))]] H := by rw [hT_6]; exact hP
  have hD : zD A [[mdl q a (uI x 9 T_6.2.2)], [((a 0), .inl (g.2 1, 88, .inr (.inl (aL T_6.1))))], [((a 1), .inl (g.2 1, 88, .inr (.inl (aL T_6.2.1))))]] := by rw [hT_6]; exact hD
  have hZT_6 : T_6.2.2 = 0 ∨ T_6.2.2 = 1 := by rw [hT_6]; exact rAt_01 hZT_4
  have hRT_6_0 : T_6.2.2 = 0 → rk T_6 0 := by rw [hT_6]; exact rAt_rk (by omega) hRT_4_0
  have hRT_6_1 : T_6.2.2 = 0 → rk T_6 1 := by rw [hT_6]; exact rAt_rk (by omega) hRT_4_1
  have hRT_6_2 : T_6.2.2 = 0 → rk T_6 2 := by rw [hT_6]; exact rAt_rk (by omega) hRT_4_2
  have hRT_6_3 : T_6.2.2 = 0 → rk T_6 3 := by rw [hT_6]; exact rAt_rk (by omega) hRT_4_3
  have hRT_6_4 : T_6.2.2 = 0 → rk T_6 4 := by rw [hT_6]; exact rAt_rk (by omega) hRT_4_4
  have hRT_6_5 : T_6.2.2 = 0 → rk T_6 5 := by rw [hT_6]; exact rAt_rk (by omega) hRT_4_5
  have hNT_6_0 : T_6.2.2 = 0 → rk T_6 72 := by rw [hT_6]; exact rAt_r0 (by omega) hRT_4_2 hRT_4_3 hNT_4_0
  have hNT_6_1 : T_6.2.2 = 0 → rk T_6 73 := by rw [hT_6]; exact rAt_r1 (by omega) hRT_4_2 hRT_4_3 hNT_4_1
  refine lv_aload_n hx hb dX10_mixed_32 rfl (lv_at hl 1 rfl) ?_
  refine z_iconst hx hb dX10_mixed_33 rfl ?_
  refine lv_iload hx hb dX10_mixed_34 (lv_at hl 0 rfl) ?_
  refine lv_iload_n hx hb dX10_mixed_36 rfl (lv_at hl 3 rfl) ?_
  refine z_imul hx hb 0 rfl dX10_mixed_37 ?_
  refine z_iconst hx hb dX10_mixed_38 rfl ?_
  refine z_irem hx hb 0 (by decide) (by decide) rfl dX10_mixed_39 ?_
  refine z_cVv (As := [vI 4, vI 0]) (rest := []) ⟨hx, hb, hml, hown, hts⟩ hK hP hD hS hA [0, 1, 2] [] rfl rfl rfl (c_X10_addTurned0 l g q a (uI x 9 T_6.2.2) T_6 4 (by omega) hZT_6 hRT_6_4 hRT_6_5 hNT_6_0 hNT_6_1) (cwV 2 hts gX10_mixed_X10_addTurned rfl rfl rfl (by decide +kernel) ⟨Nat.le_of_ble_eq_true rfl, Nat.le_of_ble_eq_true rfl⟩) 10 0 rfl rfl rfl (fun _ _ _ _ _ _ => trivial) (fun _ _ _ => trivial) rfl hl.1 (Nat.le_of_ble_eq_true rfl) rfl dX10_mixed_40 ⟨Nat.le_of_ble_eq_true rfl, Nat.le_of_ble_eq_true rfl⟩ (fun u_7 H locs hwu_7 hP hD hS => ?_)
  try dsimp only at hwu_7
  have hP : zP g [[mdl q a (uI x 9 (rAt 4 0 T_6).2.2)], [((a 0), .inl (g.2 1, 88, .inr (.inl (aL (rAt 4 0 T_6).1))))], [((a 1), .inl (g.2 1, 88, .inr (.inl (aL (rAt 4 0 T_6).2.1))))]] H := hP
  have hD : zD A [[mdl q a (uI x 9 (rAt 4 0 T_6).2.2)], [((a 0), .inl (g.2 1, 88, .inr (.inl (aL (rAt 4 0 T_6).1))))], [((a 1), .inl (g.2 1, 88, .inr (.inl (aL (rAt 4 0 T_6).2.1))))]] := hD
  obtain ⟨T_8, hT_8⟩ : ∃ T : RS, T = rAt 4 0 T_6 := ⟨_, rfl⟩
  have hP : zP g [[mdl q a (uI x 9 T_8.2.2)], [((a 0), .inl (g.2 1, 88, .inr (.inl (aL T_8.1))))], [((a 1), .inl (g.2 1, 88, .inr (.inl (aL T_8.2.1))))]] H := by rw [hT_8]; exact hP
  have hD : zD A [[mdl q a (uI x 9 T_8.2.2)], [((a 0), .inl (g.2 1, 88, .inr (.inl (aL T_8.1))))], [((a 1), .inl (g.2 1, 88, .inr (.inl (aL T_8.2.1))))]] := by rw [hT_8]; exact hD
  have hZT_8 : T_8.2.2 = 0 ∨ T_8.2.2 = 1 := by rw [hT_8]; exact rAt_01 hZT_6
  have hRT_8_0 : T_8.2.2 = 0 → rk T_8 0 := by rw [hT_8]; exact rAt_rk (by omega) hRT_6_0
  have hRT_8_1 : T_8.2.2 = 0 → rk T_8 1 := by rw [hT_8]; exact rAt_rk (by omega) hRT_6_1
  have hRT_8_2 : T_8.2.2 = 0 → rk T_8 2 := by rw [hT_8]; exact rAt_rk (by omega) hRT_6_2
  have hRT_8_3 : T_8.2.2 = 0 → rk T_8 3 := by rw [hT_8]; exact rAt_rk (by omega) hRT_6_3
  have hRT_8_4 : T_8.2.2 = 0 → rk T_8 4 := by rw [hT_8]; exact rAt_rk (by omega) hRT_6_4
  have hRT_8_5 : T_8.2.2 = 0 → rk T_8 5 := by rw [hT_8]; exact rAt_rk (by omega) hRT_6_5
  have hNT_8_0 : T_8.2.2 = 0 → rk T_8 72 := by rw [hT_8]; exact rAt_r0 (by omega) hRT_6_4 hRT_6_5 hNT_6_0
  have hNT_8_1 : T_8.2.2 = 0 → rk T_8 73 := by rw [hT_8]; exact rAt_r1 (by omega) hRT_6_4 hRT_6_5 hNT_6_1
  refine lv_iload_n hx hb dX10_mixed_43 rfl (lv_at hl 4 rfl) ?_
  refine z_if_eq (tgt := 53) hx hb (by decide) dX10_mixed_44 (by decide) (fun cq9 => ?_) (fun cq9 => False.elim (by omega))
  refine lv_aload_n hx hb dX10_mixed_53 rfl (lv_at hl 1 rfl) ?_
  refine z_bipush hx hb 66 dX10_mixed_54 rfl ?_
  refine z_iconst hx hb dX10_mixed_56 rfl ?_
  refine lv_iload hx hb dX10_mixed_57 (lv_at hl 0 rfl) ?_
  refine z_imul hx hb 0 rfl dX10_mixed_59 ?_
  refine z_iadd hx hb 66 rfl dX10_mixed_60 ?_
  refine z_bipush hx hb 72 dX10_mixed_61 rfl ?_
  refine z_cVv (As := [vI 66, vI 72]) (rest := []) ⟨hx, hb, hml, hown, hts⟩ hK hP hD hS hA [0, 1, 2] [] rfl rfl rfl (c_X10_copyTo l g q a (uI x 9 T_8.2.2) T_8 66 72 (by omega) (by omega)) (cwV 2 hts gX10_mixed_X10_copyTo rfl rfl rfl (by decide +kernel) ⟨Nat.le_of_ble_eq_true rfl, Nat.le_of_ble_eq_true rfl⟩) 10 0 rfl rfl rfl (fun _ _ _ _ _ _ => trivial) (fun _ _ _ => trivial) rfl hl.1 (Nat.le_of_ble_eq_true rfl) rfl dX10_mixed_63 ⟨Nat.le_of_ble_eq_true rfl, Nat.le_of_ble_eq_true rfl⟩ (fun u_10 H locs hwu_10 hP hD hS => ?_)
  try dsimp only at hwu_10
  have hP : zP g [[mdl q a (uI x 9 T_8.2.2)], [((a 0), .inl (g.2 1, 88, .inr (.inl (aL (rCp 66 72 T_8).1))))], [((a 1), .inl (g.2 1, 88, .inr (.inl (aL (rCp 66 72 T_8).2.1))))]] H := hP
  have hD : zD A [[mdl q a (uI x 9 T_8.2.2)], [((a 0), .inl (g.2 1, 88, .inr (.inl (aL (rCp 66 72 T_8).1))))], [((a 1), .inl (g.2 1, 88, .inr (.inl (aL (rCp 66 72 T_8).2.1))))]] := hD
  obtain ⟨T_11, hT_11⟩ : ∃ T : RS, T = rCp 66 72 T_8 := ⟨_, rfl⟩
  have hP : zP g [[mdl q a (uI x 9 T_11.2.2)], [((a 0), .inl (g.2 1, 88, .inr (.inl (aL T_11.1))))], [((a 1), .inl (g.2 1, 88, .inr (.inl (aL T_11.2.1))))]] H := by rw [hT_11]; exact hP
  have hD : zD A [[mdl q a (uI x 9 T_11.2.2)], [((a 0), .inl (g.2 1, 88, .inr (.inl (aL T_11.1))))], [((a 1), .inl (g.2 1, 88, .inr (.inl (aL T_11.2.1))))]] := by rw [hT_11]; exact hD
  have hZT_11 : T_11.2.2 = 0 ∨ T_11.2.2 = 1 := by rw [hT_11]; exact hZT_8
  have hRT_11_0 : T_11.2.2 = 0 → rk T_11 0 := by rw [hT_11]; exact rCp_rk (by omega) (by omega) hRT_8_0
  have hRT_11_1 : T_11.2.2 = 0 → rk T_11 1 := by rw [hT_11]; exact rCp_rk (by omega) (by omega) hRT_8_1
  have hRT_11_2 : T_11.2.2 = 0 → rk T_11 2 := by rw [hT_11]; exact rCp_rk (by omega) (by omega) hRT_8_2
  have hRT_11_3 : T_11.2.2 = 0 → rk T_11 3 := by rw [hT_11]; exact rCp_rk (by omega) (by omega) hRT_8_3
  have hRT_11_4 : T_11.2.2 = 0 → rk T_11 4 := by rw [hT_11]; exact rCp_rk (by omega) (by omega) hRT_8_4
  have hRT_11_5 : T_11.2.2 = 0 → rk T_11 5 := by rw [hT_11]; exact rCp_rk (by omega) (by omega) hRT_8_5
  refine z_iinc hx hb 1 (lv' := [(4, vI 1), (0, .ref q), (1, vI 2), (2, vI 1), (3, vI 0)]) dX10_mixed_66 hl (k := 0) rfl (rfl) (by decide) rfl (fun ls hl => ?_)
  refine lv_goto (tgt := 8) hx hb dX10_mixed_69 (by decide) ?_
  refine lv_iload hx hb dX10_mixed_8 (lv_at hl 0 rfl) ?_
  refine z_iconst hx hb dX10_mixed_10 rfl ?_
  refine z_icmp_ge (tgt := 72) hx hb (by decide) (by decide) dX10_mixed_11 (by decide) (fun cq12 => False.elim (by omega)) (fun cq12 => ?_)
  refine lv_aload_n hx hb dX10_mixed_14 rfl (lv_at hl 1 rfl) ?_
  refine z_bipush hx hb 72 dX10_mixed_15 rfl ?_
  refine z_iconst hx hb dX10_mixed_17 rfl ?_
  refine z_cVv (As := [vI 72, vI 0]) (rest := []) ⟨hx, hb, hml, hown, hts⟩ hK hP hD hS hA [0, 1, 2] [] rfl rfl rfl (c_X10_copyTo l g q a (uI x 9 T_11.2.2) T_11 72 0 (by omega) (by omega)) (cwV 2 hts gX10_mixed_X10_copyTo rfl rfl rfl (by decide +kernel) ⟨Nat.le_of_ble_eq_true rfl, Nat.le_of_ble_eq_true rfl⟩) 10 0 rfl rfl rfl (fun _ _ _ _ _ _ => trivial) (fun _ _ _ => trivial) rfl hl.1 (Nat.le_of_ble_eq_true rfl) rfl dX10_mixed_18 ⟨Nat.le_of_ble_eq_true rfl, Nat.le_of_ble_eq_true rfl⟩ (fun u_13 H locs hwu_13 hP hD hS => ?_)
  try dsimp only at hwu_13
  have hP : zP g [[mdl q a (uI x 9 T_11.2.2)], [((a 0), .inl (g.2 1, 88, .inr (.inl (aL (rCp 72 0 T_11).1))))], [((a 1), .inl (g.2 1, 88, .inr (.inl (aL (rCp 72 0 T_11).2.1))))]] H := hP
  have hD : zD A [[mdl q a (uI x 9 T_11.2.2)], [((a 0), .inl (g.2 1, 88, .inr (.inl (aL (rCp 72 0 T_11).1))))], [((a 1), .inl (g.2 1, 88, .inr (.inl (aL (rCp 72 0 T_11).2.1))))]] := hD
  obtain ⟨T_14, hT_14⟩ : ∃ T : RS, T = rCp 72 0 T_11 := ⟨_, rfl⟩
  have hP : zP g [[mdl q a (uI x 9 T_14.2.2)], [((a 0), .inl (g.2 1, 88, .inr (.inl (aL T_14.1))))], [((a 1), .inl (g.2 1, 88, .inr (.inl (aL T_14.2.1))))]] H := by rw [hT_14]; exact hP
  have hD : zD A [[mdl q a (uI x 9 T_14.2.2)], [((a 0), .inl (g.2 1, 88, .inr (.inl (aL T_14.1))))], [((a 1), .inl (g.2 1, 88, .inr (.inl (aL T_14.2.1))))]] := by rw [hT_14]; exact hD
  have hZT_14 : T_14.2.2 = 0 ∨ T_14.2.2 = 1 := by rw [hT_14]; exact hZT_11
  have hRT_14_0 : T_14.2.2 = 0 → rk T_14 0 := by rw [hT_14]; exact rCp_rk (by omega) (by omega) hRT_11_0
  have hRT_14_1 : T_14.2.2 = 0 → rk T_14 1 := by rw [hT_14]; exact rCp_rk (by omega) (by omega) hRT_11_1
  have hRT_14_2 : T_14.2.2 = 0 → rk T_14 2 := by rw [hT_14]; exact rCp_rk (by omega) (by omega) hRT_11_2
  have hRT_14_3 : T_14.2.2 = 0 → rk T_14 3 := by rw [hT_14]; exact rCp_rk (by omega) (by omega) hRT_11_3
  have hRT_14_4 : T_14.2.2 = 0 → rk T_14 4 := by rw [hT_14]; exact rCp_rk (by omega) (by omega) hRT_11_4
  have hRT_14_5 : T_14.2.2 = 0 → rk T_14 5 := by rw [hT_14]; exact rCp_rk (by omega) (by omega) hRT_11_5
  have hNT_14_0 : T_14.2.2 = 0 → rk T_14 72 := by rw [hT_14]; exact rCp_r0 hRT_11_0
  have hNT_14_1 : T_14.2.2 = 0 → rk T_14 73 := by rw [hT_14]; exact rCp_r1 (by omega) hRT_11_1
  refine lv_aload_n hx hb dX10_mixed_21 rfl (lv_at hl 1 rfl) ?_
  refine z_iconst hx hb dX10_mixed_22 rfl ?_
  refine lv_iload hx hb dX10_mixed_23 (lv_at hl 0 rfl) ?_
  refine lv_iload_n hx hb dX10_mixed_25 rfl (lv_at hl 2 rfl) ?_
  refine z_imul hx hb 2 rfl dX10_mixed_26 ?_
  refine z_iconst hx hb dX10_mixed_27 rfl ?_
  refine z_irem hx hb 2 (by decide) (by decide) rfl dX10_mixed_28 ?_
  refine z_cVv (As := [vI 2, vI 2]) (rest := []) ⟨hx, hb, hml, hown, hts⟩ hK hP hD hS hA [0, 1, 2] [] rfl rfl rfl (c_X10_addTurned2 l g q a (uI x 9 T_14.2.2) T_14 2 (by omega) hZT_14 hRT_14_2 hRT_14_3 hNT_14_0 hNT_14_1) (cwV 2 hts gX10_mixed_X10_addTurned rfl rfl rfl (by decide +kernel) ⟨Nat.le_of_ble_eq_true rfl, Nat.le_of_ble_eq_true rfl⟩) 10 0 rfl rfl rfl (fun _ _ _ _ _ _ => trivial) (fun _ _ _ => trivial) rfl hl.1 (Nat.le_of_ble_eq_true rfl) rfl dX10_mixed_29 ⟨Nat.le_of_ble_eq_true rfl, Nat.le_of_ble_eq_true rfl⟩ (fun u_15 H locs hwu_15 hP hD hS => ?_)
  try dsimp only at hwu_15
  have hP : zP g [[mdl q a (uI x 9 (rAt 2 2 T_14).2.2)], [((a 0), .inl (g.2 1, 88, .inr (.inl (aL (rAt 2 2 T_14).1))))], [((a 1), .inl (g.2 1, 88, .inr (.inl (aL (rAt 2 2 T_14).2.1))))]] H := hP
  have hD : zD A [[mdl q a (uI x 9 (rAt 2 2 T_14).2.2)], [((a 0), .inl (g.2 1, 88, .inr (.inl (aL (rAt 2 2 T_14).1))))], [((a 1), .inl (g.2 1, 88, .inr (.inl (aL (rAt 2 2 T_14).2.1))))]] := hD
  obtain ⟨T_16, hT_16⟩ : ∃ T : RS, T = rAt 2 2 T_14 := ⟨_, rfl⟩
  have hP : zP g [[mdl q a (uI x 9 T_16.2.2)], [((a 0), .inl (g.2 1, 88, .inr (.inl (aL T_16.1))))], [((a 1), .inl (g.2 1, 88, .inr (.inl (aL T_16.2.1))))]] H := by rw [hT_16]; exact hP
  have hD : zD A [[mdl q a (uI x 9 T_16.2.2)], [((a 0), .inl (g.2 1, 88, .inr (.inl (aL T_16.1))))], [((a 1), .inl (g.2 1, 88, .inr (.inl (aL T_16.2.1))))]] := by rw [hT_16]; exact hD
  have hZT_16 : T_16.2.2 = 0 ∨ T_16.2.2 = 1 := by rw [hT_16]; exact rAt_01 hZT_14
  have hRT_16_0 : T_16.2.2 = 0 → rk T_16 0 := by rw [hT_16]; exact rAt_rk (by omega) hRT_14_0
  have hRT_16_1 : T_16.2.2 = 0 → rk T_16 1 := by rw [hT_16]; exact rAt_rk (by omega) hRT_14_1
  have hRT_16_2 : T_16.2.2 = 0 → rk T_16 2 := by rw [hT_16]; exact rAt_rk (by omega) hRT_14_2
  have hRT_16_3 : T_16.2.2 = 0 → rk T_16 3 := by rw [hT_16]; exact rAt_rk (by omega) hRT_14_3
  have hRT_16_4 : T_16.2.2 = 0 → rk T_16 4 := by rw [hT_16]; exact rAt_rk (by omega) hRT_14_4
  have hRT_16_5 : T_16.2.2 = 0 → rk T_16 5 := by rw [hT_16]; exact rAt_rk (by omega) hRT_14_5
  have hNT_16_0 : T_16.2.2 = 0 → rk T_16 72 := by rw [hT_16]; exact rAt_r0 (by omega) hRT_14_2 hRT_14_3 hNT_14_0
  have hNT_16_1 : T_16.2.2 = 0 → rk T_16 73 := by rw [hT_16]; exact rAt_r1 (by omega) hRT_14_2 hRT_14_3 hNT_14_1
  refine lv_aload_n hx hb dX10_mixed_32 rfl (lv_at hl 1 rfl) ?_
  refine z_iconst hx hb dX10_mixed_33 rfl ?_
  refine lv_iload hx hb dX10_mixed_34 (lv_at hl 0 rfl) ?_
  refine lv_iload_n hx hb dX10_mixed_36 rfl (lv_at hl 3 rfl) ?_
  refine z_imul hx hb 1 rfl dX10_mixed_37 ?_
  refine z_iconst hx hb dX10_mixed_38 rfl ?_
  refine z_irem hx hb 1 (by decide) (by decide) rfl dX10_mixed_39 ?_
  refine z_cVv (As := [vI 4, vI 1]) (rest := []) ⟨hx, hb, hml, hown, hts⟩ hK hP hD hS hA [0, 1, 2] [] rfl rfl rfl (c_X10_addTurned1 l g q a (uI x 9 T_16.2.2) T_16 4 (by omega) hZT_16 hRT_16_4 hRT_16_5 hNT_16_0 hNT_16_1) (cwV 2 hts gX10_mixed_X10_addTurned rfl rfl rfl (by decide +kernel) ⟨Nat.le_of_ble_eq_true rfl, Nat.le_of_ble_eq_true rfl⟩) 10 0 rfl rfl rfl (fun _ _ _ _ _ _ => trivial) (fun _ _ _ => trivial) rfl hl.1 (Nat.le_of_ble_eq_true rfl) rfl dX10_mixed_40 ⟨Nat.le_of_ble_eq_true rfl, Nat.le_of_ble_eq_true rfl⟩ (fun u_17 H locs hwu_17 hP hD hS => ?_)
  try dsimp only at hwu_17
  have hP : zP g [[mdl q a (uI x 9 (rAt 4 1 T_16).2.2)], [((a 0), .inl (g.2 1, 88, .inr (.inl (aL (rAt 4 1 T_16).1))))], [((a 1), .inl (g.2 1, 88, .inr (.inl (aL (rAt 4 1 T_16).2.1))))]] H := hP
  have hD : zD A [[mdl q a (uI x 9 (rAt 4 1 T_16).2.2)], [((a 0), .inl (g.2 1, 88, .inr (.inl (aL (rAt 4 1 T_16).1))))], [((a 1), .inl (g.2 1, 88, .inr (.inl (aL (rAt 4 1 T_16).2.1))))]] := hD
  obtain ⟨T_18, hT_18⟩ : ∃ T : RS, T = rAt 4 1 T_16 := ⟨_, rfl⟩
  have hP : zP g [[mdl q a (uI x 9 T_18.2.2)], [((a 0), .inl (g.2 1, 88, .inr (.inl (aL T_18.1))))], [((a 1), .inl (g.2 1, 88, .inr (.inl (aL T_18.2.1))))]] H := by rw [hT_18]; exact hP
  have hD : zD A [[mdl q a (uI x 9 T_18.2.2)], [((a 0), .inl (g.2 1, 88, .inr (.inl (aL T_18.1))))], [((a 1), .inl (g.2 1, 88, .inr (.inl (aL T_18.2.1))))]] := by rw [hT_18]; exact hD
  have hZT_18 : T_18.2.2 = 0 ∨ T_18.2.2 = 1 := by rw [hT_18]; exact rAt_01 hZT_16
  have hRT_18_0 : T_18.2.2 = 0 → rk T_18 0 := by rw [hT_18]; exact rAt_rk (by omega) hRT_16_0
  have hRT_18_1 : T_18.2.2 = 0 → rk T_18 1 := by rw [hT_18]; exact rAt_rk (by omega) hRT_16_1
  have hRT_18_2 : T_18.2.2 = 0 → rk T_18 2 := by rw [hT_18]; exact rAt_rk (by omega) hRT_16_2
  have hRT_18_3 : T_18.2.2 = 0 → rk T_18 3 := by rw [hT_18]; exact rAt_rk (by omega) hRT_16_3
  have hRT_18_4 : T_18.2.2 = 0 → rk T_18 4 := by rw [hT_18]; exact rAt_rk (by omega) hRT_16_4
  have hRT_18_5 : T_18.2.2 = 0 → rk T_18 5 := by rw [hT_18]; exact rAt_rk (by omega) hRT_16_5
  have hNT_18_0 : T_18.2.2 = 0 → rk T_18 72 := by rw [hT_18]; exact rAt_r0 (by omega) hRT_16_4 hRT_16_5 hNT_16_0
  have hNT_18_1 : T_18.2.2 = 0 → rk T_18 73 := by rw [hT_18]; exact rAt_r1 (by omega) hRT_16_4 hRT_16_5 hNT_16_1
  refine lv_iload_n hx hb dX10_mixed_43 rfl (lv_at hl 4 rfl) ?_
  refine z_if_eq (tgt := 53) hx hb (by decide) dX10_mixed_44 (by decide) (fun cq19 => ?_) (fun cq19 => False.elim (by omega))
  refine lv_aload_n hx hb dX10_mixed_53 rfl (lv_at hl 1 rfl) ?_
  refine z_bipush hx hb 66 dX10_mixed_54 rfl ?_
  refine z_iconst hx hb dX10_mixed_56 rfl ?_
  refine lv_iload hx hb dX10_mixed_57 (lv_at hl 0 rfl) ?_
  refine z_imul hx hb 2 rfl dX10_mixed_59 ?_
  refine z_iadd hx hb 68 rfl dX10_mixed_60 ?_
  refine z_bipush hx hb 72 dX10_mixed_61 rfl ?_
  refine z_cVv (As := [vI 68, vI 72]) (rest := []) ⟨hx, hb, hml, hown, hts⟩ hK hP hD hS hA [0, 1, 2] [] rfl rfl rfl (c_X10_copyTo l g q a (uI x 9 T_18.2.2) T_18 68 72 (by omega) (by omega)) (cwV 2 hts gX10_mixed_X10_copyTo rfl rfl rfl (by decide +kernel) ⟨Nat.le_of_ble_eq_true rfl, Nat.le_of_ble_eq_true rfl⟩) 10 0 rfl rfl rfl (fun _ _ _ _ _ _ => trivial) (fun _ _ _ => trivial) rfl hl.1 (Nat.le_of_ble_eq_true rfl) rfl dX10_mixed_63 ⟨Nat.le_of_ble_eq_true rfl, Nat.le_of_ble_eq_true rfl⟩ (fun u_20 H locs hwu_20 hP hD hS => ?_)
  try dsimp only at hwu_20
  have hP : zP g [[mdl q a (uI x 9 T_18.2.2)], [((a 0), .inl (g.2 1, 88, .inr (.inl (aL (rCp 68 72 T_18).1))))], [((a 1), .inl (g.2 1, 88, .inr (.inl (aL (rCp 68 72 T_18).2.1))))]] H := hP
  have hD : zD A [[mdl q a (uI x 9 T_18.2.2)], [((a 0), .inl (g.2 1, 88, .inr (.inl (aL (rCp 68 72 T_18).1))))], [((a 1), .inl (g.2 1, 88, .inr (.inl (aL (rCp 68 72 T_18).2.1))))]] := hD
  obtain ⟨T_21, hT_21⟩ : ∃ T : RS, T = rCp 68 72 T_18 := ⟨_, rfl⟩
  have hP : zP g [[mdl q a (uI x 9 T_21.2.2)], [((a 0), .inl (g.2 1, 88, .inr (.inl (aL T_21.1))))], [((a 1), .inl (g.2 1, 88, .inr (.inl (aL T_21.2.1))))]] H := by rw [hT_21]; exact hP
  have hD : zD A [[mdl q a (uI x 9 T_21.2.2)], [((a 0), .inl (g.2 1, 88, .inr (.inl (aL T_21.1))))], [((a 1), .inl (g.2 1, 88, .inr (.inl (aL T_21.2.1))))]] := by rw [hT_21]; exact hD
  have hZT_21 : T_21.2.2 = 0 ∨ T_21.2.2 = 1 := by rw [hT_21]; exact hZT_18
  have hRT_21_0 : T_21.2.2 = 0 → rk T_21 0 := by rw [hT_21]; exact rCp_rk (by omega) (by omega) hRT_18_0
  have hRT_21_1 : T_21.2.2 = 0 → rk T_21 1 := by rw [hT_21]; exact rCp_rk (by omega) (by omega) hRT_18_1
  have hRT_21_2 : T_21.2.2 = 0 → rk T_21 2 := by rw [hT_21]; exact rCp_rk (by omega) (by omega) hRT_18_2
  have hRT_21_3 : T_21.2.2 = 0 → rk T_21 3 := by rw [hT_21]; exact rCp_rk (by omega) (by omega) hRT_18_3
  have hRT_21_4 : T_21.2.2 = 0 → rk T_21 4 := by rw [hT_21]; exact rCp_rk (by omega) (by omega) hRT_18_4
  have hRT_21_5 : T_21.2.2 = 0 → rk T_21 5 := by rw [hT_21]; exact rCp_rk (by omega) (by omega) hRT_18_5
  refine z_iinc hx hb 2 (lv' := [(4, vI 2), (0, .ref q), (1, vI 2), (2, vI 1), (3, vI 0)]) dX10_mixed_66 hl (k := 0) rfl (rfl) (by decide) rfl (fun ls hl => ?_)
  refine lv_goto (tgt := 8) hx hb dX10_mixed_69 (by decide) ?_
  refine lv_iload hx hb dX10_mixed_8 (lv_at hl 0 rfl) ?_
  refine z_iconst hx hb dX10_mixed_10 rfl ?_
  refine z_icmp_ge (tgt := 72) hx hb (by decide) (by decide) dX10_mixed_11 (by decide) (fun cq22 => False.elim (by omega)) (fun cq22 => ?_)
  refine lv_aload_n hx hb dX10_mixed_14 rfl (lv_at hl 1 rfl) ?_
  refine z_bipush hx hb 72 dX10_mixed_15 rfl ?_
  refine z_iconst hx hb dX10_mixed_17 rfl ?_
  refine z_cVv (As := [vI 72, vI 0]) (rest := []) ⟨hx, hb, hml, hown, hts⟩ hK hP hD hS hA [0, 1, 2] [] rfl rfl rfl (c_X10_copyTo l g q a (uI x 9 T_21.2.2) T_21 72 0 (by omega) (by omega)) (cwV 2 hts gX10_mixed_X10_copyTo rfl rfl rfl (by decide +kernel) ⟨Nat.le_of_ble_eq_true rfl, Nat.le_of_ble_eq_true rfl⟩) 10 0 rfl rfl rfl (fun _ _ _ _ _ _ => trivial) (fun _ _ _ => trivial) rfl hl.1 (Nat.le_of_ble_eq_true rfl) rfl dX10_mixed_18 ⟨Nat.le_of_ble_eq_true rfl, Nat.le_of_ble_eq_true rfl⟩ (fun u_23 H locs hwu_23 hP hD hS => ?_)
  try dsimp only at hwu_23
  have hP : zP g [[mdl q a (uI x 9 T_21.2.2)], [((a 0), .inl (g.2 1, 88, .inr (.inl (aL (rCp 72 0 T_21).1))))], [((a 1), .inl (g.2 1, 88, .inr (.inl (aL (rCp 72 0 T_21).2.1))))]] H := hP
  have hD : zD A [[mdl q a (uI x 9 T_21.2.2)], [((a 0), .inl (g.2 1, 88, .inr (.inl (aL (rCp 72 0 T_21).1))))], [((a 1), .inl (g.2 1, 88, .inr (.inl (aL (rCp 72 0 T_21).2.1))))]] := hD
  obtain ⟨T_24, hT_24⟩ : ∃ T : RS, T = rCp 72 0 T_21 := ⟨_, rfl⟩
  have hP : zP g [[mdl q a (uI x 9 T_24.2.2)], [((a 0), .inl (g.2 1, 88, .inr (.inl (aL T_24.1))))], [((a 1), .inl (g.2 1, 88, .inr (.inl (aL T_24.2.1))))]] H := by rw [hT_24]; exact hP
  have hD : zD A [[mdl q a (uI x 9 T_24.2.2)], [((a 0), .inl (g.2 1, 88, .inr (.inl (aL T_24.1))))], [((a 1), .inl (g.2 1, 88, .inr (.inl (aL T_24.2.1))))]] := by rw [hT_24]; exact hD
  have hZT_24 : T_24.2.2 = 0 ∨ T_24.2.2 = 1 := by rw [hT_24]; exact hZT_21
  have hRT_24_0 : T_24.2.2 = 0 → rk T_24 0 := by rw [hT_24]; exact rCp_rk (by omega) (by omega) hRT_21_0
  have hRT_24_1 : T_24.2.2 = 0 → rk T_24 1 := by rw [hT_24]; exact rCp_rk (by omega) (by omega) hRT_21_1
  have hRT_24_2 : T_24.2.2 = 0 → rk T_24 2 := by rw [hT_24]; exact rCp_rk (by omega) (by omega) hRT_21_2
  have hRT_24_3 : T_24.2.2 = 0 → rk T_24 3 := by rw [hT_24]; exact rCp_rk (by omega) (by omega) hRT_21_3
  have hRT_24_4 : T_24.2.2 = 0 → rk T_24 4 := by rw [hT_24]; exact rCp_rk (by omega) (by omega) hRT_21_4
  have hRT_24_5 : T_24.2.2 = 0 → rk T_24 5 := by rw [hT_24]; exact rCp_rk (by omega) (by omega) hRT_21_5
  have hNT_24_0 : T_24.2.2 = 0 → rk T_24 72 := by rw [hT_24]; exact rCp_r0 hRT_21_0
  have hNT_24_1 : T_24.2.2 = 0 → rk T_24 73 := by rw [hT_24]; exact rCp_r1 (by omega) hRT_21_1
  refine lv_aload_n hx hb dX10_mixed_21 rfl (lv_at hl 1 rfl) ?_
  refine z_iconst hx hb dX10_mixed_22 rfl ?_
  refine lv_iload hx hb dX10_mixed_23 (lv_at hl 0 rfl) ?_
  refine lv_iload_n hx hb dX10_mixed_25 rfl (lv_at hl 2 rfl) ?_
  refine z_imul hx hb 4 rfl dX10_mixed_26 ?_
  refine z_iconst hx hb dX10_mixed_27 rfl ?_
  refine z_irem hx hb 1 (by decide) (by decide) rfl dX10_mixed_28 ?_
  refine z_cVv (As := [vI 2, vI 1]) (rest := []) ⟨hx, hb, hml, hown, hts⟩ hK hP hD hS hA [0, 1, 2] [] rfl rfl rfl (c_X10_addTurned1 l g q a (uI x 9 T_24.2.2) T_24 2 (by omega) hZT_24 hRT_24_2 hRT_24_3 hNT_24_0 hNT_24_1) (cwV 2 hts gX10_mixed_X10_addTurned rfl rfl rfl (by decide +kernel) ⟨Nat.le_of_ble_eq_true rfl, Nat.le_of_ble_eq_true rfl⟩) 10 0 rfl rfl rfl (fun _ _ _ _ _ _ => trivial) (fun _ _ _ => trivial) rfl hl.1 (Nat.le_of_ble_eq_true rfl) rfl dX10_mixed_29 ⟨Nat.le_of_ble_eq_true rfl, Nat.le_of_ble_eq_true rfl⟩ (fun u_25 H locs hwu_25 hP hD hS => ?_)
  try dsimp only at hwu_25
  have hP : zP g [[mdl q a (uI x 9 (rAt 2 1 T_24).2.2)], [((a 0), .inl (g.2 1, 88, .inr (.inl (aL (rAt 2 1 T_24).1))))], [((a 1), .inl (g.2 1, 88, .inr (.inl (aL (rAt 2 1 T_24).2.1))))]] H := hP
  have hD : zD A [[mdl q a (uI x 9 (rAt 2 1 T_24).2.2)], [((a 0), .inl (g.2 1, 88, .inr (.inl (aL (rAt 2 1 T_24).1))))], [((a 1), .inl (g.2 1, 88, .inr (.inl (aL (rAt 2 1 T_24).2.1))))]] := hD
  obtain ⟨T_26, hT_26⟩ : ∃ T : RS, T = rAt 2 1 T_24 := ⟨_, rfl⟩
  have hP : zP g [[mdl q a (uI x 9 T_26.2.2)], [((a 0), .inl (g.2 1, 88, .inr (.inl (aL T_26.1))))], [((a 1), .inl (g.2 1, 88, .inr (.inl (aL T_26.2.1))))]] H := by rw [hT_26]; exact hP
  have hD : zD A [[mdl q a (uI x 9 T_26.2.2)], [((a 0), .inl (g.2 1, 88, .inr (.inl (aL T_26.1))))], [((a 1), .inl (g.2 1, 88, .inr (.inl (aL T_26.2.1))))]] := by rw [hT_26]; exact hD
  have hZT_26 : T_26.2.2 = 0 ∨ T_26.2.2 = 1 := by rw [hT_26]; exact rAt_01 hZT_24
  have hRT_26_0 : T_26.2.2 = 0 → rk T_26 0 := by rw [hT_26]; exact rAt_rk (by omega) hRT_24_0
  have hRT_26_1 : T_26.2.2 = 0 → rk T_26 1 := by rw [hT_26]; exact rAt_rk (by omega) hRT_24_1
  have hRT_26_2 : T_26.2.2 = 0 → rk T_26 2 := by rw [hT_26]; exact rAt_rk (by omega) hRT_24_2
  have hRT_26_3 : T_26.2.2 = 0 → rk T_26 3 := by rw [hT_26]; exact rAt_rk (by omega) hRT_24_3
  have hRT_26_4 : T_26.2.2 = 0 → rk T_26 4 := by rw [hT_26]; exact rAt_rk (by omega) hRT_24_4
  have hRT_26_5 : T_26.2.2 = 0 → rk T_26 5 := by rw [hT_26]; exact rAt_rk (by omega) hRT_24_5
  have hNT_26_0 : T_26.2.2 = 0 → rk T_26 72 := by rw [hT_26]; exact rAt_r0 (by omega) hRT_24_2 hRT_24_3 hNT_24_0
  have hNT_26_1 : T_26.2.2 = 0 → rk T_26 73 := by rw [hT_26]; exact rAt_r1 (by omega) hRT_24_2 hRT_24_3 hNT_24_1
  refine lv_aload_n hx hb dX10_mixed_32 rfl (lv_at hl 1 rfl) ?_
  refine z_iconst hx hb dX10_mixed_33 rfl ?_
  refine lv_iload hx hb dX10_mixed_34 (lv_at hl 0 rfl) ?_
  refine lv_iload_n hx hb dX10_mixed_36 rfl (lv_at hl 3 rfl) ?_
  refine z_imul hx hb 2 rfl dX10_mixed_37 ?_
  refine z_iconst hx hb dX10_mixed_38 rfl ?_
  refine z_irem hx hb 2 (by decide) (by decide) rfl dX10_mixed_39 ?_
  refine z_cVv (As := [vI 4, vI 2]) (rest := []) ⟨hx, hb, hml, hown, hts⟩ hK hP hD hS hA [0, 1, 2] [] rfl rfl rfl (c_X10_addTurned2 l g q a (uI x 9 T_26.2.2) T_26 4 (by omega) hZT_26 hRT_26_4 hRT_26_5 hNT_26_0 hNT_26_1) (cwV 2 hts gX10_mixed_X10_addTurned rfl rfl rfl (by decide +kernel) ⟨Nat.le_of_ble_eq_true rfl, Nat.le_of_ble_eq_true rfl⟩) 10 0 rfl rfl rfl (fun _ _ _ _ _ _ => trivial) (fun _ _ _ => trivial) rfl hl.1 (Nat.le_of_ble_eq_true rfl) rfl dX10_mixed_40 ⟨Nat.le_of_ble_eq_true rfl, Nat.le_of_ble_eq_true rfl⟩ (fun u_27 H locs hwu_27 hP hD hS => ?_)
  try dsimp only at hwu_27
  have hP : zP g [[mdl q a (uI x 9 (rAt 4 2 T_26).2.2)], [((a 0), .inl (g.2 1, 88, .inr (.inl (aL (rAt 4 2 T_26).1))))], [((a 1), .inl (g.2 1, 88, .inr (.inl (aL (rAt 4 2 T_26).2.1))))]] H := hP
  have hD : zD A [[mdl q a (uI x 9 (rAt 4 2 T_26).2.2)], [((a 0), .inl (g.2 1, 88, .inr (.inl (aL (rAt 4 2 T_26).1))))], [((a 1), .inl (g.2 1, 88, .inr (.inl (aL (rAt 4 2 T_26).2.1))))]] := hD
  obtain ⟨T_28, hT_28⟩ : ∃ T : RS, T = rAt 4 2 T_26 := ⟨_, rfl⟩
  have hP : zP g [[mdl q a (uI x 9 T_28.2.2)], [((a 0), .inl (g.2 1, 88, .inr (.inl (aL T_28.1))))], [((a 1), .inl (g.2 1, 88, .inr (.inl (aL T_28.2.1))))]] H := by rw [hT_28]; exact hP
  have hD : zD A [[mdl q a (uI x 9 T_28.2.2)], [((a 0), .inl (g.2 1, 88, .inr (.inl (aL T_28.1))))], [((a 1), .inl (g.2 1, 88, .inr (.inl (aL T_28.2.1))))]] := by rw [hT_28]; exact hD
  have hZT_28 : T_28.2.2 = 0 ∨ T_28.2.2 = 1 := by rw [hT_28]; exact rAt_01 hZT_26
  have hRT_28_0 : T_28.2.2 = 0 → rk T_28 0 := by rw [hT_28]; exact rAt_rk (by omega) hRT_26_0
  have hRT_28_1 : T_28.2.2 = 0 → rk T_28 1 := by rw [hT_28]; exact rAt_rk (by omega) hRT_26_1
  have hRT_28_2 : T_28.2.2 = 0 → rk T_28 2 := by rw [hT_28]; exact rAt_rk (by omega) hRT_26_2
  have hRT_28_3 : T_28.2.2 = 0 → rk T_28 3 := by rw [hT_28]; exact rAt_rk (by omega) hRT_26_3
  have hRT_28_4 : T_28.2.2 = 0 → rk T_28 4 := by rw [hT_28]; exact rAt_rk (by omega) hRT_26_4
  have hRT_28_5 : T_28.2.2 = 0 → rk T_28 5 := by rw [hT_28]; exact rAt_rk (by omega) hRT_26_5
  have hNT_28_0 : T_28.2.2 = 0 → rk T_28 72 := by rw [hT_28]; exact rAt_r0 (by omega) hRT_26_4 hRT_26_5 hNT_26_0
  have hNT_28_1 : T_28.2.2 = 0 → rk T_28 73 := by rw [hT_28]; exact rAt_r1 (by omega) hRT_26_4 hRT_26_5 hNT_26_1
  refine lv_iload_n hx hb dX10_mixed_43 rfl (lv_at hl 4 rfl) ?_
  refine z_if_eq (tgt := 53) hx hb (by decide) dX10_mixed_44 (by decide) (fun cq29 => ?_) (fun cq29 => False.elim (by omega))
  refine lv_aload_n hx hb dX10_mixed_53 rfl (lv_at hl 1 rfl) ?_
  refine z_bipush hx hb 66 dX10_mixed_54 rfl ?_
  refine z_iconst hx hb dX10_mixed_56 rfl ?_
  refine lv_iload hx hb dX10_mixed_57 (lv_at hl 0 rfl) ?_
  refine z_imul hx hb 4 rfl dX10_mixed_59 ?_
  refine z_iadd hx hb 70 rfl dX10_mixed_60 ?_
  refine z_bipush hx hb 72 dX10_mixed_61 rfl ?_
  refine z_cVv (As := [vI 70, vI 72]) (rest := []) ⟨hx, hb, hml, hown, hts⟩ hK hP hD hS hA [0, 1, 2] [] rfl rfl rfl (c_X10_copyTo l g q a (uI x 9 T_28.2.2) T_28 70 72 (by omega) (by omega)) (cwV 2 hts gX10_mixed_X10_copyTo rfl rfl rfl (by decide +kernel) ⟨Nat.le_of_ble_eq_true rfl, Nat.le_of_ble_eq_true rfl⟩) 10 0 rfl rfl rfl (fun _ _ _ _ _ _ => trivial) (fun _ _ _ => trivial) rfl hl.1 (Nat.le_of_ble_eq_true rfl) rfl dX10_mixed_63 ⟨Nat.le_of_ble_eq_true rfl, Nat.le_of_ble_eq_true rfl⟩ (fun u_30 H locs hwu_30 hP hD hS => ?_)
  try dsimp only at hwu_30
  have hP : zP g [[mdl q a (uI x 9 T_28.2.2)], [((a 0), .inl (g.2 1, 88, .inr (.inl (aL (rCp 70 72 T_28).1))))], [((a 1), .inl (g.2 1, 88, .inr (.inl (aL (rCp 70 72 T_28).2.1))))]] H := hP
  have hD : zD A [[mdl q a (uI x 9 T_28.2.2)], [((a 0), .inl (g.2 1, 88, .inr (.inl (aL (rCp 70 72 T_28).1))))], [((a 1), .inl (g.2 1, 88, .inr (.inl (aL (rCp 70 72 T_28).2.1))))]] := hD
  obtain ⟨T_31, hT_31⟩ : ∃ T : RS, T = rCp 70 72 T_28 := ⟨_, rfl⟩
  have hP : zP g [[mdl q a (uI x 9 T_31.2.2)], [((a 0), .inl (g.2 1, 88, .inr (.inl (aL T_31.1))))], [((a 1), .inl (g.2 1, 88, .inr (.inl (aL T_31.2.1))))]] H := by rw [hT_31]; exact hP
  have hD : zD A [[mdl q a (uI x 9 T_31.2.2)], [((a 0), .inl (g.2 1, 88, .inr (.inl (aL T_31.1))))], [((a 1), .inl (g.2 1, 88, .inr (.inl (aL T_31.2.1))))]] := by rw [hT_31]; exact hD
  have hZT_31 : T_31.2.2 = 0 ∨ T_31.2.2 = 1 := by rw [hT_31]; exact hZT_28
  have hRT_31_0 : T_31.2.2 = 0 → rk T_31 0 := by rw [hT_31]; exact rCp_rk (by omega) (by omega) hRT_28_0
  have hRT_31_1 : T_31.2.2 = 0 → rk T_31 1 := by rw [hT_31]; exact rCp_rk (by omega) (by omega) hRT_28_1
  have hRT_31_2 : T_31.2.2 = 0 → rk T_31 2 := by rw [hT_31]; exact rCp_rk (by omega) (by omega) hRT_28_2
  have hRT_31_3 : T_31.2.2 = 0 → rk T_31 3 := by rw [hT_31]; exact rCp_rk (by omega) (by omega) hRT_28_3
  have hRT_31_4 : T_31.2.2 = 0 → rk T_31 4 := by rw [hT_31]; exact rCp_rk (by omega) (by omega) hRT_28_4
  have hRT_31_5 : T_31.2.2 = 0 → rk T_31 5 := by rw [hT_31]; exact rCp_rk (by omega) (by omega) hRT_28_5
  refine z_iinc hx hb 3 (lv' := [(4, vI 3), (0, .ref q), (1, vI 2), (2, vI 1), (3, vI 0)]) dX10_mixed_66 hl (k := 0) rfl (rfl) (by decide) rfl (fun ls hl => ?_)
  refine lv_goto (tgt := 8) hx hb dX10_mixed_69 (by decide) ?_
  refine lv_iload hx hb dX10_mixed_8 (lv_at hl 0 rfl) ?_
  refine z_iconst hx hb dX10_mixed_10 rfl ?_
  refine z_icmp_ge (tgt := 72) hx hb (by decide) (by decide) dX10_mixed_11 (by decide) (fun cq32 => ?_) (fun cq32 => False.elim (by omega))
  have hE : T_31 = (rMx 1 2 false 2 (rMx 2 1 false 1 (rMx 0 0 false 0 (rZ0 S)))) := by rw [hT_31, hT_28, hT_26, hT_24, hT_21, hT_18, hT_16, hT_14, hT_11, hT_8, hT_6, hT_4, hT_1]; rfl
  rw [← hE] at hM
  refine lv_aload_n hx hb dX10_mixed_72 rfl (lv_at hl 1 rfl) ?_
  refine z_get hx hb hts hin10_ hown hK hP 0 rfl rfl 22 (by decide) (hts _ (List.mem_of_getElem? (i := 1) rfl)) rfl dX10_mixed_73 ?_
  refine z_toI T_31.2.2 rfl ?_
  refine z_if_eq (tgt := 82) hx hb (by omega) dX10_mixed_76 (by decide) (fun cq33 => ?_) (fun cq33 => False.elim (by omega))
  refine lv_aload_n hx hb dX10_mixed_82 rfl (lv_at hl 1 rfl) ?_
  refine z_cVv (As := []) (rest := []) ⟨hx, hb, hml, hown, hts⟩ hK hP hD hS hA [0, 1, 2] [] rfl rfl rfl (c_X10_kp l g q a (uI x 9 T_31.2.2) T_31 u hu hu8) (cwV 0 hts gX10_mixed_X10_keepPast rfl rfl rfl (by decide +kernel) ⟨Nat.le_of_ble_eq_true rfl, Nat.le_of_ble_eq_true rfl⟩) 10 0 rfl rfl rfl (fun _ _ _ _ _ _ => trivial) (fun _ _ _ => trivial) rfl hl.1 (Nat.le_of_ble_eq_true rfl) rfl dX10_mixed_83 ⟨Nat.le_of_ble_eq_true rfl, Nat.le_of_ble_eq_true rfl⟩ (fun u_34 H locs hwu_34 hP hD hS => ?_)
  try dsimp only at hwu_34
  have hP : zP g [[mdl q a (uI (uI x 2 (((min (u + 1) 8) : Nat) : Int)) 9 T_31.2.2)], [((a 0), .inl (g.2 1, 88, .inr (.inl (aL (kpS u T_31).1))))], [((a 1), .inl (g.2 1, 88, .inr (.inl (aL (kpS u T_31).2.1))))]] H := hP
  have hD : zD A [[mdl q a (uI (uI x 2 (((min (u + 1) 8) : Nat) : Int)) 9 T_31.2.2)], [((a 0), .inl (g.2 1, 88, .inr (.inl (aL (kpS u T_31).1))))], [((a 1), .inl (g.2 1, 88, .inr (.inl (aL (kpS u T_31).2.1))))]] := hD
  refine lv_aload_n hx hb dX10_mixed_86 rfl (lv_at hl 1 rfl) ?_
  refine z_bipush hx hb 66 dX10_mixed_87 rfl ?_
  refine z_iconst hx hb dX10_mixed_89 rfl ?_
  refine z_cVv (As := [vI 66, vI 0]) (rest := []) ⟨hx, hb, hml, hown, hts⟩ hK hP hD hS hA [0, 1, 2] [] rfl rfl rfl (c_X10_copyPhases l g q a (uI (uI x 2 (((min (u + 1) 8) : Nat) : Int)) 9 T_31.2.2) (kpS u T_31) 66 0 (by decide) (by decide)) (cwV 2 hts gX10_mixed_X10_copyPhases rfl rfl rfl (by decide +kernel) ⟨Nat.le_of_ble_eq_true rfl, Nat.le_of_ble_eq_true rfl⟩) 10 0 rfl rfl rfl (fun _ _ _ _ _ _ => trivial) (fun _ _ _ => trivial) rfl hl.1 (Nat.le_of_ble_eq_true rfl) rfl dX10_mixed_90 ⟨Nat.le_of_ble_eq_true rfl, Nat.le_of_ble_eq_true rfl⟩ (fun u_35 H locs hwu_35 hP hD hS => ?_)
  try dsimp only at hwu_35
  have hP : zP g [[mdl q a (uI (uI x 2 (((min (u + 1) 8) : Nat) : Int)) 9 T_31.2.2)], [((a 0), .inl (g.2 1, 88, .inr (.inl (aL (rC6 66 0 (kpS u T_31)).1))))], [((a 1), .inl (g.2 1, 88, .inr (.inl (aL (rC6 66 0 (kpS u T_31)).2.1))))]] H := hP
  have hD : zD A [[mdl q a (uI (uI x 2 (((min (u + 1) 8) : Nat) : Int)) 9 T_31.2.2)], [((a 0), .inl (g.2 1, 88, .inr (.inl (aL (rC6 66 0 (kpS u T_31)).1))))], [((a 1), .inl (g.2 1, 88, .inr (.inl (aL (rC6 66 0 (kpS u T_31)).2.1))))]] := hD
  refine z_iconst hx hb dX10_mixed_93 rfl ?_
  exact z_reti () [0, 1, 2] hx hb hr rfl hlocks hK hP hD hS (rfl) trivial rfl rfl (by rw [← hE]; rfl) (Nat.le_of_ble_eq_true rfl) (Nat.le_of_ble_eq_true rfl) dX10_mixed_94

set_option maxHeartbeats 4000000 in
set_option maxRecDepth 100000 in
theorem c_X10_join_ok (l : Launch) (g : zG) (q : Nat) (a : Nat → Nat) (x : Nat → Int) (S : RS) (u : Nat) (hz : S.2.2 = 0 ∨ S.2.2 = 1) (hk : ∀ j, j < 6 → rk S j) (hM : (rMx 1 2 false 2 (rMx 2 1 false 1 (rMx 0 0 false 0 (rZ0 S)))).2.2 = 0) (hu : x 2 = (u : Int)) (hu8 : u ≤ 8) : zMet l g yX10_join wsX10_join 7 0 0 [.ref q] zX0 [[mdl q a (uI x 9 S.2.2)], [((a 0), .inl (g.2 1, 88, .inr (.inl (aL S.1))))], [((a 1), .inl (g.2 1, 88, .inr (.inl (aL S.2.1))))]] (qi g (fun (_ : Unit) => 1) (fun (_ : Unit) => True) (fun (_ : Unit) => [[mdl q a (uI (uI x 2 (((min (u + 1) 8) : Nat) : Int)) 9 (rMx 1 2 false 2 (rMx 2 1 false 1 (rMx 0 0 false 0 (rZ0 S)))).2.2)], [((a 0), .inl (g.2 1, 88, .inr (.inl (aL (rC6 66 0 (kpS u (rMx 1 2 false 2 (rMx 2 1 false 1 (rMx 0 0 false 0 (rZ0 S)))))).1))))], [((a 1), .inl (g.2 1, 88, .inr (.inl (aL (rC6 66 0 (kpS u (rMx 1 2 false 2 (rMx 2 1 false 1 (rMx 0 0 false 0 (rZ0 S)))))).2.1))))]])) := by
  refine z_ent (cc := cX10_join) (maxL := 1) (ret := (some .int)) (by decide) rfl (Nat.le_of_ble_eq_true rfl) ?_
  intro p e s m below meth c A ls hx hb hr hml hown hts hlocks hin0 hA hK hP hD hS hXX hl
  have hown : s.vm.findClass RX10 = some m.cls := hown
  have hl : lv_has ls 1 [(0, .ref q)] := hl
  refine lv_aload_n hx hb dX10_join_0 rfl (lv_at hl 0 rfl) ?_
  refine z_iconst hx hb dX10_join_1 rfl ?_
  refine z_iconst hx hb dX10_join_2 rfl ?_
  refine z_iconst hx hb dX10_join_3 rfl ?_
  refine z_cVi (As := [vI 2, vI 1, vI 0]) (rest := []) ⟨hx, hb, hml, hown, hts⟩ hK hP hD hS hA [0, 1, 2] [] rfl rfl rfl (c_X10_mixJ_ok l g q a (uI x 9 S.2.2) S u (by assumption) hk hM (by assumption) (by assumption)) (cwV 3 hts gX10_join_X10_mixed rfl rfl rfl (by decide +kernel) ⟨Nat.le_of_ble_eq_true rfl, Nat.le_of_ble_eq_true rfl⟩) 10 0 rfl rfl rfl (fun _ _ _ _ _ _ => trivial) (fun _ _ _ => trivial) rfl hl.1 (Nat.le_of_ble_eq_true rfl) rfl dX10_join_4 ⟨Nat.le_of_ble_eq_true rfl, Nat.le_of_ble_eq_true rfl⟩ (fun u_1 H locs hwu_1 hP hD hS => ?_)
  try dsimp only at hwu_1
  have hP : zP g [[mdl q a (uI (uI x 2 (((min (u + 1) 8) : Nat) : Int)) 9 (rMx 1 2 false 2 (rMx 2 1 false 1 (rMx 0 0 false 0 (rZ0 S)))).2.2)], [((a 0), .inl (g.2 1, 88, .inr (.inl (aL (rC6 66 0 (kpS u (rMx 1 2 false 2 (rMx 2 1 false 1 (rMx 0 0 false 0 (rZ0 S)))))).1))))], [((a 1), .inl (g.2 1, 88, .inr (.inl (aL (rC6 66 0 (kpS u (rMx 1 2 false 2 (rMx 2 1 false 1 (rMx 0 0 false 0 (rZ0 S)))))).2.1))))]] H := hP
  have hD : zD A [[mdl q a (uI (uI x 2 (((min (u + 1) 8) : Nat) : Int)) 9 (rMx 1 2 false 2 (rMx 2 1 false 1 (rMx 0 0 false 0 (rZ0 S)))).2.2)], [((a 0), .inl (g.2 1, 88, .inr (.inl (aL (rC6 66 0 (kpS u (rMx 1 2 false 2 (rMx 2 1 false 1 (rMx 0 0 false 0 (rZ0 S)))))).1))))], [((a 1), .inl (g.2 1, 88, .inr (.inl (aL (rC6 66 0 (kpS u (rMx 1 2 false 2 (rMx 2 1 false 1 (rMx 0 0 false 0 (rZ0 S)))))).2.1))))]] := hD
  refine z_toI 1 rfl ?_
  exact z_reti () [0, 1, 2] hx hb hr rfl hlocks hK hP hD hS (rfl) trivial rfl rfl (rfl) (Nat.le_of_ble_eq_true rfl) (Nat.le_of_ble_eq_true rfl) dX10_join_7
