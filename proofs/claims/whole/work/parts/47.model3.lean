set_option maxHeartbeats 4000000 in
set_option maxRecDepth 100000 in
theorem c_X10_third (l : Launch) (g : zG) (q : Nat) (a : Nat → Nat) (x : Nat → Int) (S : RS) (to : Nat) (hb0 : to < 73) (hz : S.2.2 = 0 ∨ S.2.2 = 1) (hk0 : S.2.2 = 0 → rk S to) (hk1 : S.2.2 = 0 → rk S (to + 1)) : zMet l g yX10_third wsX10_third 4 0 0 [.ref q, vI ((to : Nat) : Int)] zX0 [[mdl q a (uI x 9 S.2.2)], [((a 0), .inl (g.2 1, 88, .inr (.inl (aL S.1))))], [((a 1), .inl (g.2 1, 88, .inr (.inl (aL S.2.1))))]] (qv g (fun (_ : Unit) => True) (fun (_ : Unit) => [[mdl q a (uI x 9 (rTh to S).2.2)], [((a 0), .inl (g.2 1, 88, .inr (.inl (aL (rTh to S).1))))], [((a 1), .inl (g.2 1, 88, .inr (.inl (aL (rTh to S).2.1))))]])) := by
  refine z_ent (cc := cX10_third) (maxL := 2) (ret := none) (by decide) rfl (Nat.le_of_ble_eq_true rfl) ?_
  intro p e s m below meth c A ls hx hb hr hml hown hts hlocks hin0 hA hK hP hD hS hXX hl
  have hown : s.vm.findClass RX10 = some m.cls := hown
  have hin10_ : ∀ w ∈ wsX100, w ∈ wsX10_third := zw_in [26, 27, 28, 29, 30, 31, 32, 33, 34, 35, 36, 37, 38, 39, 40, 41, 42, 43, 44, 45, 46, 47, 48, 49, 50, 51] rfl
  have hl : lv_has ls 2 [(0, .ref q), (1, vI ((to : Nat) : Int))] := hl
  refine lv_aload_n hx hb dX10_third_0 rfl (lv_at hl 0 rfl) ?_
  refine z_get hx hb hts hin10_ hown hK hP 0 rfl rfl 0 (by decide) (hts _ (List.mem_of_getElem? (i := 1) rfl)) rfl dX10_third_1 ?_
  refine z_bipush hx hb 74 dX10_third_4 rfl ?_
  refine z_lconst hx hb 1 dX10_third_6 rfl ?_
  refine z_last hx hb hK hP 1 hD hS rfl 74 rfl (by decide) (by decide) dX10_third_7 [[mdl q a (uI x 9 S.2.2)], [((a 0), .inl (g.2 1, 88, .inr (.inl (aL (uI S.1 74 1)))))], [((a 1), .inl (g.2 1, 88, .inr (.inl (aL S.2.1))))]] rfl (fun H locs hP hD hS => ?_)
  refine lv_aload_n hx hb dX10_third_8 rfl (lv_at hl 0 rfl) ?_
  refine z_get hx hb hts hin10_ hown hK hP 0 rfl rfl 1 (by decide) (hts _ (List.mem_of_getElem? (i := 2) rfl)) rfl dX10_third_9 ?_
  refine z_bipush hx hb 74 dX10_third_12 rfl ?_
  refine z_ldc2 hx hb 3 hown (hts _ (List.mem_of_getElem? (i := 3) rfl)) rfl dX10_third_14 ?_
  refine z_last hx hb hK hP 2 hD hS rfl 74 rfl (by decide) (by decide) dX10_third_17 [[mdl q a (uI x 9 S.2.2)], [((a 0), .inl (g.2 1, 88, .inr (.inl (aL (uI S.1 74 1)))))], [((a 1), .inl (g.2 1, 88, .inr (.inl (aL (uI S.2.1 74 3)))))]] rfl (fun H locs hP hD hS => ?_)
  obtain ⟨T_1, hT_1⟩ : ∃ T : RS, T = rT3  S := ⟨_, rfl⟩
  have hP : zP g [[mdl q a (uI x 9 T_1.2.2)], [((a 0), .inl (g.2 1, 88, .inr (.inl (aL T_1.1))))], [((a 1), .inl (g.2 1, 88, .inr (.inl (aL T_1.2.1))))]] H := by rw [hT_1]; exact hP
  have hD : zD A [[mdl q a (uI x 9 T_1.2.2)], [((a 0), .inl (g.2 1, 88, .inr (.inl (aL T_1.1))))], [((a 1), .inl (g.2 1, 88, .inr (.inl (aL T_1.2.1))))]] := by rw [hT_1]; exact hD
  have hZT_1 : T_1.2.2 = 0 ∨ T_1.2.2 = 1 := by rw [hT_1]; exact rT3_01 hz
  have hRT_1_0 : T_1.2.2 = 0 → rk T_1 to := by rw [hT_1]; exact rT3_rk (by omega) hk0
  have hRT_1_1 : T_1.2.2 = 0 → rk T_1 (to + 1) := by rw [hT_1]; exact rT3_rk (by omega) hk1
  have hNT_1_0 : T_1.2.2 = 0 → rk T_1 74 := by rw [hT_1]; exact rT3_r0 
  refine lv_aload_n hx hb dX10_third_18 rfl (lv_at hl 0 rfl) ?_
  refine lv_iload_n hx hb dX10_third_19 rfl (lv_at hl 1 rfl) ?_
  refine lv_iload_n hx hb dX10_third_20 rfl (lv_at hl 1 rfl) ?_
  refine z_bipush hx hb 74 dX10_third_21 rfl ?_
  refine z_cVv (As := [vI ((to : Nat) : Int), vI ((to : Nat) : Int), vI 74]) (rest := []) ⟨hx, hb, hml, hown, hts⟩ hK hP hD hS hA [0, 1, 2] [] rfl rfl rfl (c_X10_times l g q a (uI x 9 T_1.2.2) T_1 to to 74 (by omega) (by omega) (by omega) hZT_1 hRT_1_0 hNT_1_0) (cwV 3 hts gX10_third_X10_times rfl rfl rfl (by decide +kernel) ⟨Nat.le_of_ble_eq_true rfl, Nat.le_of_ble_eq_true rfl⟩) 10 0 rfl rfl rfl (fun _ _ _ _ _ _ => trivial) (fun _ _ _ => trivial) rfl hl.1 (Nat.le_of_ble_eq_true rfl) rfl dX10_third_23 ⟨Nat.le_of_ble_eq_true rfl, Nat.le_of_ble_eq_true rfl⟩ (fun u_2 H locs hwu_2 hP hD hS => ?_)
  try dsimp only at hwu_2
  have hP : zP g [[mdl q a (uI x 9 (rTm to to 74 T_1).2.2)], [((a 0), .inl (g.2 1, 88, .inr (.inl (aL (rTm to to 74 T_1).1))))], [((a 1), .inl (g.2 1, 88, .inr (.inl (aL (rTm to to 74 T_1).2.1))))]] H := hP
  have hD : zD A [[mdl q a (uI x 9 (rTm to to 74 T_1).2.2)], [((a 0), .inl (g.2 1, 88, .inr (.inl (aL (rTm to to 74 T_1).1))))], [((a 1), .inl (g.2 1, 88, .inr (.inl (aL (rTm to to 74 T_1).2.1))))]] := hD
  obtain ⟨T_3, hT_3⟩ : ∃ T : RS, T = rTm to to 74 T_1 := ⟨_, rfl⟩
  have hP : zP g [[mdl q a (uI x 9 T_3.2.2)], [((a 0), .inl (g.2 1, 88, .inr (.inl (aL T_3.1))))], [((a 1), .inl (g.2 1, 88, .inr (.inl (aL T_3.2.1))))]] H := by rw [hT_3]; exact hP
  have hD : zD A [[mdl q a (uI x 9 T_3.2.2)], [((a 0), .inl (g.2 1, 88, .inr (.inl (aL T_3.1))))], [((a 1), .inl (g.2 1, 88, .inr (.inl (aL T_3.2.1))))]] := by rw [hT_3]; exact hD
  have hZT_3 : T_3.2.2 = 0 ∨ T_3.2.2 = 1 := by rw [hT_3]; exact rTm_01 hZT_1
  have hRT_3_0 : T_3.2.2 = 0 → rk T_3 (to + 1) := by rw [hT_3]; exact rTm_rk (by omega) hRT_1_1
  have hRT_3_1 : T_3.2.2 = 0 → rk T_3 74 := by rw [hT_3]; exact rTm_rk (by omega) hNT_1_0
  refine lv_aload_n hx hb dX10_third_26 rfl (lv_at hl 0 rfl) ?_
  refine lv_iload_n hx hb dX10_third_27 rfl (lv_at hl 1 rfl) ?_
  refine z_iconst hx hb dX10_third_28 rfl ?_
  refine z_iadd hx hb (((to + 1) : Nat) : Int) (by omega) dX10_third_29 ?_
  refine lv_iload_n hx hb dX10_third_30 rfl (lv_at hl 1 rfl) ?_
  refine z_iconst hx hb dX10_third_31 rfl ?_
  refine z_iadd hx hb (((to + 1) : Nat) : Int) (by omega) dX10_third_32 ?_
  refine z_bipush hx hb 74 dX10_third_33 rfl ?_
  refine z_cVv (As := [vI (((to + 1) : Nat) : Int), vI (((to + 1) : Nat) : Int), vI 74]) (rest := []) ⟨hx, hb, hml, hown, hts⟩ hK hP hD hS hA [0, 1, 2] [] rfl rfl rfl (c_X10_times l g q a (uI x 9 T_3.2.2) T_3 (to + 1) (to + 1) 74 (by omega) (by omega) (by omega) hZT_3 hRT_3_0 hRT_3_1) (cwV 3 hts gX10_third_X10_times rfl rfl rfl (by decide +kernel) ⟨Nat.le_of_ble_eq_true rfl, Nat.le_of_ble_eq_true rfl⟩) 10 0 rfl rfl rfl (fun _ _ _ _ _ _ => trivial) (fun _ _ _ => trivial) rfl hl.1 (Nat.le_of_ble_eq_true rfl) rfl dX10_third_35 ⟨Nat.le_of_ble_eq_true rfl, Nat.le_of_ble_eq_true rfl⟩ (fun u_4 H locs hwu_4 hP hD hS => ?_)
  try dsimp only at hwu_4
  have hP : zP g [[mdl q a (uI x 9 (rTm (to + 1) (to + 1) 74 T_3).2.2)], [((a 0), .inl (g.2 1, 88, .inr (.inl (aL (rTm (to + 1) (to + 1) 74 T_3).1))))], [((a 1), .inl (g.2 1, 88, .inr (.inl (aL (rTm (to + 1) (to + 1) 74 T_3).2.1))))]] H := hP
  have hD : zD A [[mdl q a (uI x 9 (rTm (to + 1) (to + 1) 74 T_3).2.2)], [((a 0), .inl (g.2 1, 88, .inr (.inl (aL (rTm (to + 1) (to + 1) 74 T_3).1))))], [((a 1), .inl (g.2 1, 88, .inr (.inl (aL (rTm (to + 1) (to + 1) 74 T_3).2.1))))]] := hD
  obtain ⟨T_5, hT_5⟩ : ∃ T : RS, T = rTm (to + 1) (to + 1) 74 T_3 := ⟨_, rfl⟩
  have hP : zP g [[mdl q a (uI x 9 T_5.2.2)], [((a 0), .inl (g.2 1, 88, .inr (.inl (aL T_5.1))))], [((a 1), .inl (g.2 1, 88, .inr (.inl (aL T_5.2.1))))]] H := by rw [hT_5]; exact hP
  have hD : zD A [[mdl q a (uI x 9 T_5.2.2)], [((a 0), .inl (g.2 1, 88, .inr (.inl (aL T_5.1))))], [((a 1), .inl (g.2 1, 88, .inr (.inl (aL T_5.2.1))))]] := by rw [hT_5]; exact hD
  have hZT_5 : T_5.2.2 = 0 ∨ T_5.2.2 = 1 := by rw [hT_5]; exact rTm_01 hZT_3
  exact z_retv () [0, 1, 2] hx hb hr hlocks hK hP hD hS trivial rfl rfl (by rw [(show (rTh to S) = T_5 by (rw [hT_5, hT_3, hT_1]; rfl))]; rfl) (Nat.le_of_ble_eq_true rfl) (Nat.le_of_ble_eq_true rfl) dX10_third_38

set_option maxHeartbeats 4000000 in
set_option maxRecDepth 100000 in
theorem c_X10_norm (l : Launch) (g : zG) (q : Nat) (a : Nat → Nat) (x : Nat → Int) (S : RS) (to : Nat) (xx : Nat) (hb0 : to < 88) (hb1 : xx < 87) (hz : S.2.2 = 0 ∨ S.2.2 = 1) (hne : 77 < to ∧ to < 82 ∧ (xx < 75 ∨ 82 ≤ xx)) (hk0 : S.2.2 = 0 → rk S xx) (hk1 : S.2.2 = 0 → rk S (xx + 1)) : zMet l g yX10_norm wsX10_norm 4 0 0 [.ref q, vI ((to : Nat) : Int), vI ((xx : Nat) : Int)] zX0 [[mdl q a (uI x 9 S.2.2)], [((a 0), .inl (g.2 1, 88, .inr (.inl (aL S.1))))], [((a 1), .inl (g.2 1, 88, .inr (.inl (aL S.2.1))))]] (qv g (fun (_ : Unit) => True) (fun (_ : Unit) => [[mdl q a (uI x 9 (rNm to xx S).2.2)], [((a 0), .inl (g.2 1, 88, .inr (.inl (aL (rNm to xx S).1))))], [((a 1), .inl (g.2 1, 88, .inr (.inl (aL (rNm to xx S).2.1))))]])) := by
  refine z_ent (cc := cX10_norm) (maxL := 3) (ret := none) (by decide) rfl (Nat.le_of_ble_eq_true rfl) ?_
  intro p e s m below meth c A ls hx hb hr hml hown hts hlocks hin0 hA hK hP hD hS hXX hl
  have hown : s.vm.findClass RX10 = some m.cls := hown
  have hl : lv_has ls 3 [(0, .ref q), (1, vI ((to : Nat) : Int)), (2, vI ((xx : Nat) : Int))] := hl
  refine lv_aload_n hx hb dX10_norm_0 rfl (lv_at hl 0 rfl) ?_
  refine lv_iload_n hx hb dX10_norm_1 rfl (lv_at hl 1 rfl) ?_
  refine lv_iload_n hx hb dX10_norm_2 rfl (lv_at hl 2 rfl) ?_
  refine lv_iload_n hx hb dX10_norm_3 rfl (lv_at hl 2 rfl) ?_
  refine z_cVv (As := [vI ((to : Nat) : Int), vI ((xx : Nat) : Int), vI ((xx : Nat) : Int)]) (rest := []) ⟨hx, hb, hml, hown, hts⟩ hK hP hD hS hA [0, 1, 2] [] rfl rfl rfl (c_X10_times l g q a (uI x 9 S.2.2) S to xx xx (by omega) (by omega) (by omega) hz hk0 hk0) (cwV 3 hts gX10_norm_X10_times rfl rfl rfl (by decide +kernel) ⟨Nat.le_of_ble_eq_true rfl, Nat.le_of_ble_eq_true rfl⟩) 10 0 rfl rfl rfl (fun _ _ _ _ _ _ => trivial) (fun _ _ _ => trivial) rfl hl.1 (Nat.le_of_ble_eq_true rfl) rfl dX10_norm_4 ⟨Nat.le_of_ble_eq_true rfl, Nat.le_of_ble_eq_true rfl⟩ (fun u_1 H locs hwu_1 hP hD hS => ?_)
  try dsimp only at hwu_1
  have hP : zP g [[mdl q a (uI x 9 (rTm to xx xx S).2.2)], [((a 0), .inl (g.2 1, 88, .inr (.inl (aL (rTm to xx xx S).1))))], [((a 1), .inl (g.2 1, 88, .inr (.inl (aL (rTm to xx xx S).2.1))))]] H := hP
  have hD : zD A [[mdl q a (uI x 9 (rTm to xx xx S).2.2)], [((a 0), .inl (g.2 1, 88, .inr (.inl (aL (rTm to xx xx S).1))))], [((a 1), .inl (g.2 1, 88, .inr (.inl (aL (rTm to xx xx S).2.1))))]] := hD
  obtain ⟨T_2, hT_2⟩ : ∃ T : RS, T = rTm to xx xx S := ⟨_, rfl⟩
  have hP : zP g [[mdl q a (uI x 9 T_2.2.2)], [((a 0), .inl (g.2 1, 88, .inr (.inl (aL T_2.1))))], [((a 1), .inl (g.2 1, 88, .inr (.inl (aL T_2.2.1))))]] H := by rw [hT_2]; exact hP
  have hD : zD A [[mdl q a (uI x 9 T_2.2.2)], [((a 0), .inl (g.2 1, 88, .inr (.inl (aL T_2.1))))], [((a 1), .inl (g.2 1, 88, .inr (.inl (aL T_2.2.1))))]] := by rw [hT_2]; exact hD
  have hZT_2 : T_2.2.2 = 0 ∨ T_2.2.2 = 1 := by rw [hT_2]; exact rTm_01 hz
  have hRT_2_0 : T_2.2.2 = 0 → rk T_2 xx := by rw [hT_2]; exact rTm_rk (by omega) hk0
  have hRT_2_1 : T_2.2.2 = 0 → rk T_2 (xx + 1) := by rw [hT_2]; exact rTm_rk (by omega) hk1
  have hNT_2_0 : T_2.2.2 = 0 → rk T_2 to := by rw [hT_2]; exact rTm_rt hk0 hk0
  refine lv_aload_n hx hb dX10_norm_7 rfl (lv_at hl 0 rfl) ?_
  refine z_bipush hx hb 76 dX10_norm_8 rfl ?_
  refine lv_iload_n hx hb dX10_norm_10 rfl (lv_at hl 2 rfl) ?_
  refine lv_iload_n hx hb dX10_norm_11 rfl (lv_at hl 2 rfl) ?_
  refine z_iconst hx hb dX10_norm_12 rfl ?_
  refine z_iadd hx hb (((xx + 1) : Nat) : Int) (by omega) dX10_norm_13 ?_
  refine z_cVv (As := [vI 76, vI ((xx : Nat) : Int), vI (((xx + 1) : Nat) : Int)]) (rest := []) ⟨hx, hb, hml, hown, hts⟩ hK hP hD hS hA [0, 1, 2] [] rfl rfl rfl (c_X10_times l g q a (uI x 9 T_2.2.2) T_2 76 xx (xx + 1) (by omega) (by omega) (by omega) hZT_2 hRT_2_0 hRT_2_1) (cwV 3 hts gX10_norm_X10_times rfl rfl rfl (by decide +kernel) ⟨Nat.le_of_ble_eq_true rfl, Nat.le_of_ble_eq_true rfl⟩) 10 0 rfl rfl rfl (fun _ _ _ _ _ _ => trivial) (fun _ _ _ => trivial) rfl hl.1 (Nat.le_of_ble_eq_true rfl) rfl dX10_norm_14 ⟨Nat.le_of_ble_eq_true rfl, Nat.le_of_ble_eq_true rfl⟩ (fun u_3 H locs hwu_3 hP hD hS => ?_)
  try dsimp only at hwu_3
  have hP : zP g [[mdl q a (uI x 9 (rTm 76 xx (xx + 1) T_2).2.2)], [((a 0), .inl (g.2 1, 88, .inr (.inl (aL (rTm 76 xx (xx + 1) T_2).1))))], [((a 1), .inl (g.2 1, 88, .inr (.inl (aL (rTm 76 xx (xx + 1) T_2).2.1))))]] H := hP
  have hD : zD A [[mdl q a (uI x 9 (rTm 76 xx (xx + 1) T_2).2.2)], [((a 0), .inl (g.2 1, 88, .inr (.inl (aL (rTm 76 xx (xx + 1) T_2).1))))], [((a 1), .inl (g.2 1, 88, .inr (.inl (aL (rTm 76 xx (xx + 1) T_2).2.1))))]] := hD
  obtain ⟨T_4, hT_4⟩ : ∃ T : RS, T = rTm 76 xx (xx + 1) T_2 := ⟨_, rfl⟩
  have hP : zP g [[mdl q a (uI x 9 T_4.2.2)], [((a 0), .inl (g.2 1, 88, .inr (.inl (aL T_4.1))))], [((a 1), .inl (g.2 1, 88, .inr (.inl (aL T_4.2.1))))]] H := by rw [hT_4]; exact hP
  have hD : zD A [[mdl q a (uI x 9 T_4.2.2)], [((a 0), .inl (g.2 1, 88, .inr (.inl (aL T_4.1))))], [((a 1), .inl (g.2 1, 88, .inr (.inl (aL T_4.2.1))))]] := by rw [hT_4]; exact hD
  have hZT_4 : T_4.2.2 = 0 ∨ T_4.2.2 = 1 := by rw [hT_4]; exact rTm_01 hZT_2
  have hRT_4_0 : T_4.2.2 = 0 → rk T_4 to := by rw [hT_4]; exact rTm_rk (by omega) hNT_2_0
  have hRT_4_1 : T_4.2.2 = 0 → rk T_4 (xx + 1) := by rw [hT_4]; exact rTm_rk (by omega) hRT_2_1
  have hNT_4_0 : T_4.2.2 = 0 → rk T_4 76 := by rw [hT_4]; exact rTm_rt hRT_2_0 hRT_2_1
  refine lv_aload_n hx hb dX10_norm_17 rfl (lv_at hl 0 rfl) ?_
  refine lv_iload_n hx hb dX10_norm_18 rfl (lv_at hl 1 rfl) ?_
  refine lv_iload_n hx hb dX10_norm_19 rfl (lv_at hl 1 rfl) ?_
  refine z_bipush hx hb 76 dX10_norm_20 rfl ?_
  refine z_ldc2 hx hb (-1) hown (hts _ (List.mem_of_getElem? (i := 1) rfl)) rfl dX10_norm_22 ?_
  refine z_cVv (As := [vI ((to : Nat) : Int), vI ((to : Nat) : Int), vI 76, vL (-1)]) (rest := []) ⟨hx, hb, hml, hown, hts⟩ hK hP hD hS hA [0, 1, 2] [] rfl rfl rfl (c_X10_plus l g q a (uI x 9 T_4.2.2) T_4 to to 76 (-1) (by omega) (by omega) (by omega) hZT_4 (by omega) hRT_4_0 hNT_4_0) (cwV 4 hts gX10_norm_X10_plus rfl rfl rfl (by decide +kernel) ⟨Nat.le_of_ble_eq_true rfl, Nat.le_of_ble_eq_true rfl⟩) 10 0 rfl rfl rfl (fun _ _ _ _ _ _ => trivial) (fun _ _ _ => trivial) rfl hl.1 (Nat.le_of_ble_eq_true rfl) rfl dX10_norm_25 ⟨Nat.le_of_ble_eq_true rfl, Nat.le_of_ble_eq_true rfl⟩ (fun u_5 H locs hwu_5 hP hD hS => ?_)
  try dsimp only at hwu_5
  have hP : zP g [[mdl q a (uI x 9 (rPl to to 76 (-1) T_4).2.2)], [((a 0), .inl (g.2 1, 88, .inr (.inl (aL (rPl to to 76 (-1) T_4).1))))], [((a 1), .inl (g.2 1, 88, .inr (.inl (aL (rPl to to 76 (-1) T_4).2.1))))]] H := hP
  have hD : zD A [[mdl q a (uI x 9 (rPl to to 76 (-1) T_4).2.2)], [((a 0), .inl (g.2 1, 88, .inr (.inl (aL (rPl to to 76 (-1) T_4).1))))], [((a 1), .inl (g.2 1, 88, .inr (.inl (aL (rPl to to 76 (-1) T_4).2.1))))]] := hD
  obtain ⟨T_6, hT_6⟩ : ∃ T : RS, T = rPl to to 76 (-1) T_4 := ⟨_, rfl⟩
  have hP : zP g [[mdl q a (uI x 9 T_6.2.2)], [((a 0), .inl (g.2 1, 88, .inr (.inl (aL T_6.1))))], [((a 1), .inl (g.2 1, 88, .inr (.inl (aL T_6.2.1))))]] H := by rw [hT_6]; exact hP
  have hD : zD A [[mdl q a (uI x 9 T_6.2.2)], [((a 0), .inl (g.2 1, 88, .inr (.inl (aL T_6.1))))], [((a 1), .inl (g.2 1, 88, .inr (.inl (aL T_6.2.1))))]] := by rw [hT_6]; exact hD
  have hZT_6 : T_6.2.2 = 0 ∨ T_6.2.2 = 1 := by rw [hT_6]; exact rPl_01 hZT_4
  have hRT_6_0 : T_6.2.2 = 0 → rk T_6 (xx + 1) := by rw [hT_6]; exact rPl_rk (by omega) hRT_4_1
  have hNT_6_0 : T_6.2.2 = 0 → rk T_6 to := by rw [hT_6]; exact rPl_rt hRT_4_0 hNT_4_0
  refine lv_aload_n hx hb dX10_norm_28 rfl (lv_at hl 0 rfl) ?_
  refine z_bipush hx hb 76 dX10_norm_29 rfl ?_
  refine lv_iload_n hx hb dX10_norm_31 rfl (lv_at hl 2 rfl) ?_
  refine z_iconst hx hb dX10_norm_32 rfl ?_
  refine z_iadd hx hb (((xx + 1) : Nat) : Int) (by omega) dX10_norm_33 ?_
  refine lv_iload_n hx hb dX10_norm_34 rfl (lv_at hl 2 rfl) ?_
  refine z_iconst hx hb dX10_norm_35 rfl ?_
  refine z_iadd hx hb (((xx + 1) : Nat) : Int) (by omega) dX10_norm_36 ?_
  refine z_cVv (As := [vI 76, vI (((xx + 1) : Nat) : Int), vI (((xx + 1) : Nat) : Int)]) (rest := []) ⟨hx, hb, hml, hown, hts⟩ hK hP hD hS hA [0, 1, 2] [] rfl rfl rfl (c_X10_times l g q a (uI x 9 T_6.2.2) T_6 76 (xx + 1) (xx + 1) (by omega) (by omega) (by omega) hZT_6 hRT_6_0 hRT_6_0) (cwV 3 hts gX10_norm_X10_times rfl rfl rfl (by decide +kernel) ⟨Nat.le_of_ble_eq_true rfl, Nat.le_of_ble_eq_true rfl⟩) 10 0 rfl rfl rfl (fun _ _ _ _ _ _ => trivial) (fun _ _ _ => trivial) rfl hl.1 (Nat.le_of_ble_eq_true rfl) rfl dX10_norm_37 ⟨Nat.le_of_ble_eq_true rfl, Nat.le_of_ble_eq_true rfl⟩ (fun u_7 H locs hwu_7 hP hD hS => ?_)
  try dsimp only at hwu_7
  have hP : zP g [[mdl q a (uI x 9 (rTm 76 (xx + 1) (xx + 1) T_6).2.2)], [((a 0), .inl (g.2 1, 88, .inr (.inl (aL (rTm 76 (xx + 1) (xx + 1) T_6).1))))], [((a 1), .inl (g.2 1, 88, .inr (.inl (aL (rTm 76 (xx + 1) (xx + 1) T_6).2.1))))]] H := hP
  have hD : zD A [[mdl q a (uI x 9 (rTm 76 (xx + 1) (xx + 1) T_6).2.2)], [((a 0), .inl (g.2 1, 88, .inr (.inl (aL (rTm 76 (xx + 1) (xx + 1) T_6).1))))], [((a 1), .inl (g.2 1, 88, .inr (.inl (aL (rTm 76 (xx + 1) (xx + 1) T_6).2.1))))]] := hD
  obtain ⟨T_8, hT_8⟩ : ∃ T : RS, T = rTm 76 (xx + 1) (xx + 1) T_6 := ⟨_, rfl⟩
  have hP : zP g [[mdl q a (uI x 9 T_8.2.2)], [((a 0), .inl (g.2 1, 88, .inr (.inl (aL T_8.1))))], [((a 1), .inl (g.2 1, 88, .inr (.inl (aL T_8.2.1))))]] H := by rw [hT_8]; exact hP
  have hD : zD A [[mdl q a (uI x 9 T_8.2.2)], [((a 0), .inl (g.2 1, 88, .inr (.inl (aL T_8.1))))], [((a 1), .inl (g.2 1, 88, .inr (.inl (aL T_8.2.1))))]] := by rw [hT_8]; exact hD
  have hZT_8 : T_8.2.2 = 0 ∨ T_8.2.2 = 1 := by rw [hT_8]; exact rTm_01 hZT_6
  have hRT_8_0 : T_8.2.2 = 0 → rk T_8 to := by rw [hT_8]; exact rTm_rk (by omega) hNT_6_0
  have hNT_8_0 : T_8.2.2 = 0 → rk T_8 76 := by rw [hT_8]; exact rTm_rt hRT_6_0 hRT_6_0
  refine lv_aload_n hx hb dX10_norm_40 rfl (lv_at hl 0 rfl) ?_
  refine lv_iload_n hx hb dX10_norm_41 rfl (lv_at hl 1 rfl) ?_
  refine lv_iload_n hx hb dX10_norm_42 rfl (lv_at hl 1 rfl) ?_
  refine z_bipush hx hb 76 dX10_norm_43 rfl ?_
  refine z_lconst hx hb 1 dX10_norm_45 rfl ?_
  refine z_cVv (As := [vI ((to : Nat) : Int), vI ((to : Nat) : Int), vI 76, vL 1]) (rest := []) ⟨hx, hb, hml, hown, hts⟩ hK hP hD hS hA [0, 1, 2] [] rfl rfl rfl (c_X10_plus l g q a (uI x 9 T_8.2.2) T_8 to to 76 1 (by omega) (by omega) (by omega) hZT_8 (by omega) hRT_8_0 hNT_8_0) (cwV 4 hts gX10_norm_X10_plus rfl rfl rfl (by decide +kernel) ⟨Nat.le_of_ble_eq_true rfl, Nat.le_of_ble_eq_true rfl⟩) 10 0 rfl rfl rfl (fun _ _ _ _ _ _ => trivial) (fun _ _ _ => trivial) rfl hl.1 (Nat.le_of_ble_eq_true rfl) rfl dX10_norm_46 ⟨Nat.le_of_ble_eq_true rfl, Nat.le_of_ble_eq_true rfl⟩ (fun u_9 H locs hwu_9 hP hD hS => ?_)
  try dsimp only at hwu_9
  have hP : zP g [[mdl q a (uI x 9 (rPl to to 76 1 T_8).2.2)], [((a 0), .inl (g.2 1, 88, .inr (.inl (aL (rPl to to 76 1 T_8).1))))], [((a 1), .inl (g.2 1, 88, .inr (.inl (aL (rPl to to 76 1 T_8).2.1))))]] H := hP
  have hD : zD A [[mdl q a (uI x 9 (rPl to to 76 1 T_8).2.2)], [((a 0), .inl (g.2 1, 88, .inr (.inl (aL (rPl to to 76 1 T_8).1))))], [((a 1), .inl (g.2 1, 88, .inr (.inl (aL (rPl to to 76 1 T_8).2.1))))]] := hD
  obtain ⟨T_10, hT_10⟩ : ∃ T : RS, T = rPl to to 76 1 T_8 := ⟨_, rfl⟩
  have hP : zP g [[mdl q a (uI x 9 T_10.2.2)], [((a 0), .inl (g.2 1, 88, .inr (.inl (aL T_10.1))))], [((a 1), .inl (g.2 1, 88, .inr (.inl (aL T_10.2.1))))]] H := by rw [hT_10]; exact hP
  have hD : zD A [[mdl q a (uI x 9 T_10.2.2)], [((a 0), .inl (g.2 1, 88, .inr (.inl (aL T_10.1))))], [((a 1), .inl (g.2 1, 88, .inr (.inl (aL T_10.2.1))))]] := by rw [hT_10]; exact hD
  have hZT_10 : T_10.2.2 = 0 ∨ T_10.2.2 = 1 := by rw [hT_10]; exact rPl_01 hZT_8
  exact z_retv () [0, 1, 2] hx hb hr hlocks hK hP hD hS trivial rfl rfl (by rw [(show (rNm to xx S) = T_10 by (rw [hT_10, hT_8, hT_6, hT_4, hT_2]; rfl))]; rfl) (Nat.le_of_ble_eq_true rfl) (Nat.le_of_ble_eq_true rfl) dX10_norm_49

set_option maxHeartbeats 4000000 in
set_option maxRecDepth 100000 in
theorem c_X10_addTurned0 (l : Launch) (g : zG) (q : Nat) (a : Nat → Nat) (x : Nat → Int) (S : RS) (xx : Nat) (hb1 : xx < 71) (hz : S.2.2 = 0 ∨ S.2.2 = 1) (hk0 : S.2.2 = 0 → rk S xx) (hk1 : S.2.2 = 0 → rk S (xx + 1)) (hk2 : S.2.2 = 0 → rk S 72) (hk3 : S.2.2 = 0 → rk S 73) : zMet l g yX10_addTurned wsX10_addTurned 5 0 0 [.ref q, vI ((xx : Nat) : Int), vI 0] zX0 [[mdl q a (uI x 9 S.2.2)], [((a 0), .inl (g.2 1, 88, .inr (.inl (aL S.1))))], [((a 1), .inl (g.2 1, 88, .inr (.inl (aL S.2.1))))]] (qv g (fun (_ : Unit) => True) (fun (_ : Unit) => [[mdl q a (uI x 9 (rAt xx 0 S).2.2)], [((a 0), .inl (g.2 1, 88, .inr (.inl (aL (rAt xx 0 S).1))))], [((a 1), .inl (g.2 1, 88, .inr (.inl (aL (rAt xx 0 S).2.1))))]])) := by
  refine z_ent (cc := cX10_addTurned) (maxL := 4) (ret := none) (by decide) rfl (Nat.le_of_ble_eq_true rfl) ?_
  intro p e s m below meth c A ls hx hb hr hml hown hts hlocks hin0 hA hK hP hD hS hXX hl
  have hown : s.vm.findClass RX10 = some m.cls := hown
  have hl : lv_has ls 4 [(0, .ref q), (1, vI ((xx : Nat) : Int)), (2, vI 0)] := hl
  refine lv_aload_n hx hb dX10_addTurned_0 rfl (lv_at hl 0 rfl) ?_
  refine z_bipush hx hb 74 dX10_addTurned_1 rfl ?_
  refine lv_iload_n hx hb dX10_addTurned_3 rfl (lv_at hl 1 rfl) ?_
  refine z_cVv (As := [vI 74, vI ((xx : Nat) : Int)]) (rest := []) ⟨hx, hb, hml, hown, hts⟩ hK hP hD hS hA [0, 1, 2] [] rfl rfl rfl (c_X10_copyTo l g q a (uI x 9 S.2.2) S 74 xx (by omega) (by omega)) (cwV 2 hts gX10_addTurned_X10_copyTo rfl rfl rfl (by decide +kernel) ⟨Nat.le_of_ble_eq_true rfl, Nat.le_of_ble_eq_true rfl⟩) 10 0 rfl rfl rfl (fun _ _ _ _ _ _ => trivial) (fun _ _ _ => trivial) rfl hl.1 (Nat.le_of_ble_eq_true rfl) rfl dX10_addTurned_4 ⟨Nat.le_of_ble_eq_true rfl, Nat.le_of_ble_eq_true rfl⟩ (fun u_1 H locs hwu_1 hP hD hS => ?_)
  try dsimp only at hwu_1
  have hP : zP g [[mdl q a (uI x 9 S.2.2)], [((a 0), .inl (g.2 1, 88, .inr (.inl (aL (rCp 74 xx S).1))))], [((a 1), .inl (g.2 1, 88, .inr (.inl (aL (rCp 74 xx S).2.1))))]] H := hP
  have hD : zD A [[mdl q a (uI x 9 S.2.2)], [((a 0), .inl (g.2 1, 88, .inr (.inl (aL (rCp 74 xx S).1))))], [((a 1), .inl (g.2 1, 88, .inr (.inl (aL (rCp 74 xx S).2.1))))]] := hD
  obtain ⟨T_2, hT_2⟩ : ∃ T : RS, T = rCp 74 xx S := ⟨_, rfl⟩
  have hP : zP g [[mdl q a (uI x 9 T_2.2.2)], [((a 0), .inl (g.2 1, 88, .inr (.inl (aL T_2.1))))], [((a 1), .inl (g.2 1, 88, .inr (.inl (aL T_2.2.1))))]] H := by rw [hT_2]; exact hP
  have hD : zD A [[mdl q a (uI x 9 T_2.2.2)], [((a 0), .inl (g.2 1, 88, .inr (.inl (aL T_2.1))))], [((a 1), .inl (g.2 1, 88, .inr (.inl (aL T_2.2.1))))]] := by rw [hT_2]; exact hD
  have hZT_2 : T_2.2.2 = 0 ∨ T_2.2.2 = 1 := by rw [hT_2]; exact hz
  have hRT_2_0 : T_2.2.2 = 0 → rk T_2 72 := by rw [hT_2]; exact rCp_rk (by omega) (by omega) hk2
  have hRT_2_1 : T_2.2.2 = 0 → rk T_2 73 := by rw [hT_2]; exact rCp_rk (by omega) (by omega) hk3
  have hNT_2_0 : T_2.2.2 = 0 → rk T_2 74 := by rw [hT_2]; exact rCp_r0 hk0
  have hNT_2_1 : T_2.2.2 = 0 → rk T_2 75 := by rw [hT_2]; exact rCp_r1 (by omega) hk1
  refine z_iconst hx hb dX10_addTurned_7 rfl ?_
  refine lv_istore_n (lv' := [(3, vI 0), (0, .ref q), (1, vI ((xx : Nat) : Int)), (2, vI 0)]) hx hb dX10_addTurned_8 rfl hl (by decide) rfl (fun ls hl => ?_)
  refine lv_iload_n hx hb dX10_addTurned_9 rfl (lv_at hl 0 rfl) ?_
  refine lv_iload_n hx hb dX10_addTurned_10 rfl (lv_at hl 3 rfl) ?_
  refine z_icmp_ge (tgt := 26) hx hb (by decide) (by decide) dX10_addTurned_11 (by decide) (fun cq3 => ?_) (fun cq3 => False.elim (by omega))
  refine lv_aload_n hx hb dX10_addTurned_26 rfl (lv_at hl 1 rfl) ?_
  refine z_bipush hx hb 72 dX10_addTurned_27 rfl ?_
  refine z_bipush hx hb 74 dX10_addTurned_29 rfl ?_
  refine z_lconst hx hb 1 dX10_addTurned_31 rfl ?_
  refine z_cVv (As := [vI 72, vI 74, vL 1]) (rest := []) ⟨hx, hb, hml, hown, hts⟩ hK hP hD hS hA [0, 1, 2] [] rfl rfl rfl (c_X10_add l g q a (uI x 9 T_2.2.2) T_2 72 74 1 (by omega) (by omega) hZT_2 (by omega) (by omega) hRT_2_0 hRT_2_1 hNT_2_0 hNT_2_1) (cwV 3 hts gX10_addTurned_X10_add rfl rfl rfl (by decide +kernel) ⟨Nat.le_of_ble_eq_true rfl, Nat.le_of_ble_eq_true rfl⟩) 10 0 rfl rfl rfl (fun _ _ _ _ _ _ => trivial) (fun _ _ _ => trivial) rfl hl.1 (Nat.le_of_ble_eq_true rfl) rfl dX10_addTurned_32 ⟨Nat.le_of_ble_eq_true rfl, Nat.le_of_ble_eq_true rfl⟩ (fun u_4 H locs hwu_4 hP hD hS => ?_)
  try dsimp only at hwu_4
  have hP : zP g [[mdl q a (uI x 9 (rAd 72 74 1 T_2).2.2)], [((a 0), .inl (g.2 1, 88, .inr (.inl (aL (rAd 72 74 1 T_2).1))))], [((a 1), .inl (g.2 1, 88, .inr (.inl (aL (rAd 72 74 1 T_2).2.1))))]] H := hP
  have hD : zD A [[mdl q a (uI x 9 (rAd 72 74 1 T_2).2.2)], [((a 0), .inl (g.2 1, 88, .inr (.inl (aL (rAd 72 74 1 T_2).1))))], [((a 1), .inl (g.2 1, 88, .inr (.inl (aL (rAd 72 74 1 T_2).2.1))))]] := hD
  obtain ⟨T_5, hT_5⟩ : ∃ T : RS, T = rAd 72 74 1 T_2 := ⟨_, rfl⟩
  have hP : zP g [[mdl q a (uI x 9 T_5.2.2)], [((a 0), .inl (g.2 1, 88, .inr (.inl (aL T_5.1))))], [((a 1), .inl (g.2 1, 88, .inr (.inl (aL T_5.2.1))))]] H := by rw [hT_5]; exact hP
  have hD : zD A [[mdl q a (uI x 9 T_5.2.2)], [((a 0), .inl (g.2 1, 88, .inr (.inl (aL T_5.1))))], [((a 1), .inl (g.2 1, 88, .inr (.inl (aL T_5.2.1))))]] := by rw [hT_5]; exact hD
  have hZT_5 : T_5.2.2 = 0 ∨ T_5.2.2 = 1 := by rw [hT_5]; exact rAd_01 hZT_2
  exact z_retv () [0, 1, 2] hx hb hr hlocks hK hP hD hS trivial rfl rfl (by rw [(show (rAt xx 0 S) = T_5 by (rw [hT_5, hT_2]; rfl))]; rfl) (Nat.le_of_ble_eq_true rfl) (Nat.le_of_ble_eq_true rfl) dX10_addTurned_35

set_option maxHeartbeats 4000000 in
set_option maxRecDepth 100000 in
theorem c_X10_addTurned1 (l : Launch) (g : zG) (q : Nat) (a : Nat → Nat) (x : Nat → Int) (S : RS) (xx : Nat) (hb1 : xx < 71) (hz : S.2.2 = 0 ∨ S.2.2 = 1) (hk0 : S.2.2 = 0 → rk S xx) (hk1 : S.2.2 = 0 → rk S (xx + 1)) (hk2 : S.2.2 = 0 → rk S 72) (hk3 : S.2.2 = 0 → rk S 73) : zMet l g yX10_addTurned wsX10_addTurned 5 0 0 [.ref q, vI ((xx : Nat) : Int), vI 1] zX0 [[mdl q a (uI x 9 S.2.2)], [((a 0), .inl (g.2 1, 88, .inr (.inl (aL S.1))))], [((a 1), .inl (g.2 1, 88, .inr (.inl (aL S.2.1))))]] (qv g (fun (_ : Unit) => True) (fun (_ : Unit) => [[mdl q a (uI x 9 (rAt xx 1 S).2.2)], [((a 0), .inl (g.2 1, 88, .inr (.inl (aL (rAt xx 1 S).1))))], [((a 1), .inl (g.2 1, 88, .inr (.inl (aL (rAt xx 1 S).2.1))))]])) := by
  refine z_ent (cc := cX10_addTurned) (maxL := 4) (ret := none) (by decide) rfl (Nat.le_of_ble_eq_true rfl) ?_
  intro p e s m below meth c A ls hx hb hr hml hown hts hlocks hin0 hA hK hP hD hS hXX hl
  have hown : s.vm.findClass RX10 = some m.cls := hown
  have hl : lv_has ls 4 [(0, .ref q), (1, vI ((xx : Nat) : Int)), (2, vI 1)] := hl
  refine lv_aload_n hx hb dX10_addTurned_0 rfl (lv_at hl 0 rfl) ?_
  refine z_bipush hx hb 74 dX10_addTurned_1 rfl ?_
  refine lv_iload_n hx hb dX10_addTurned_3 rfl (lv_at hl 1 rfl) ?_
  refine z_cVv (As := [vI 74, vI ((xx : Nat) : Int)]) (rest := []) ⟨hx, hb, hml, hown, hts⟩ hK hP hD hS hA [0, 1, 2] [] rfl rfl rfl (c_X10_copyTo l g q a (uI x 9 S.2.2) S 74 xx (by omega) (by omega)) (cwV 2 hts gX10_addTurned_X10_copyTo rfl rfl rfl (by decide +kernel) ⟨Nat.le_of_ble_eq_true rfl, Nat.le_of_ble_eq_true rfl⟩) 10 0 rfl rfl rfl (fun _ _ _ _ _ _ => trivial) (fun _ _ _ => trivial) rfl hl.1 (Nat.le_of_ble_eq_true rfl) rfl dX10_addTurned_4 ⟨Nat.le_of_ble_eq_true rfl, Nat.le_of_ble_eq_true rfl⟩ (fun u_1 H locs hwu_1 hP hD hS => ?_)
  try dsimp only at hwu_1
  have hP : zP g [[mdl q a (uI x 9 S.2.2)], [((a 0), .inl (g.2 1, 88, .inr (.inl (aL (rCp 74 xx S).1))))], [((a 1), .inl (g.2 1, 88, .inr (.inl (aL (rCp 74 xx S).2.1))))]] H := hP
  have hD : zD A [[mdl q a (uI x 9 S.2.2)], [((a 0), .inl (g.2 1, 88, .inr (.inl (aL (rCp 74 xx S).1))))], [((a 1), .inl (g.2 1, 88, .inr (.inl (aL (rCp 74 xx S).2.1))))]] := hD
  obtain ⟨T_2, hT_2⟩ : ∃ T : RS, T = rCp 74 xx S := ⟨_, rfl⟩
  have hP : zP g [[mdl q a (uI x 9 T_2.2.2)], [((a 0), .inl (g.2 1, 88, .inr (.inl (aL T_2.1))))], [((a 1), .inl (g.2 1, 88, .inr (.inl (aL T_2.2.1))))]] H := by rw [hT_2]; exact hP
  have hD : zD A [[mdl q a (uI x 9 T_2.2.2)], [((a 0), .inl (g.2 1, 88, .inr (.inl (aL T_2.1))))], [((a 1), .inl (g.2 1, 88, .inr (.inl (aL T_2.2.1))))]] := by rw [hT_2]; exact hD
  have hZT_2 : T_2.2.2 = 0 ∨ T_2.2.2 = 1 := by rw [hT_2]; exact hz
  have hRT_2_0 : T_2.2.2 = 0 → rk T_2 72 := by rw [hT_2]; exact rCp_rk (by omega) (by omega) hk2
  have hRT_2_1 : T_2.2.2 = 0 → rk T_2 73 := by rw [hT_2]; exact rCp_rk (by omega) (by omega) hk3
  have hNT_2_0 : T_2.2.2 = 0 → rk T_2 74 := by rw [hT_2]; exact rCp_r0 hk0
  have hNT_2_1 : T_2.2.2 = 0 → rk T_2 75 := by rw [hT_2]; exact rCp_r1 (by omega) hk1
  refine z_iconst hx hb dX10_addTurned_7 rfl ?_
  refine lv_istore_n (lv' := [(3, vI 0), (0, .ref q), (1, vI ((xx : Nat) : Int)), (2, vI 1)]) hx hb dX10_addTurned_8 rfl hl (by decide) rfl (fun ls hl => ?_)
  refine lv_iload_n hx hb dX10_addTurned_9 rfl (lv_at hl 0 rfl) ?_
  refine lv_iload_n hx hb dX10_addTurned_10 rfl (lv_at hl 3 rfl) ?_
  refine z_icmp_ge (tgt := 26) hx hb (by decide) (by decide) dX10_addTurned_11 (by decide) (fun cq3 => False.elim (by omega)) (fun cq3 => ?_)
  refine lv_aload_n hx hb dX10_addTurned_14 rfl (lv_at hl 1 rfl) ?_
  refine z_bipush hx hb 74 dX10_addTurned_15 rfl ?_
  refine z_cVv (As := [vI 74]) (rest := []) ⟨hx, hb, hml, hown, hts⟩ hK hP hD hS hA [0, 1, 2] [] rfl rfl rfl (c_X10_turnW l g q a (uI x 9 T_2.2.2) T_2 74 (by omega) hZT_2 hNT_2_0 hNT_2_1) (cwV 1 hts gX10_addTurned_X10_turnW rfl rfl rfl (by decide +kernel) ⟨Nat.le_of_ble_eq_true rfl, Nat.le_of_ble_eq_true rfl⟩) 10 0 rfl rfl rfl (fun _ _ _ _ _ _ => trivial) (fun _ _ _ => trivial) rfl hl.1 (Nat.le_of_ble_eq_true rfl) rfl dX10_addTurned_17 ⟨Nat.le_of_ble_eq_true rfl, Nat.le_of_ble_eq_true rfl⟩ (fun u_4 H locs hwu_4 hP hD hS => ?_)
  try dsimp only at hwu_4
  have hP : zP g [[mdl q a (uI x 9 (rTn 74 T_2).2.2)], [((a 0), .inl (g.2 1, 88, .inr (.inl (aL (rTn 74 T_2).1))))], [((a 1), .inl (g.2 1, 88, .inr (.inl (aL (rTn 74 T_2).2.1))))]] H := hP
  have hD : zD A [[mdl q a (uI x 9 (rTn 74 T_2).2.2)], [((a 0), .inl (g.2 1, 88, .inr (.inl (aL (rTn 74 T_2).1))))], [((a 1), .inl (g.2 1, 88, .inr (.inl (aL (rTn 74 T_2).2.1))))]] := hD
  obtain ⟨T_5, hT_5⟩ : ∃ T : RS, T = rTn 74 T_2 := ⟨_, rfl⟩
  have hP : zP g [[mdl q a (uI x 9 T_5.2.2)], [((a 0), .inl (g.2 1, 88, .inr (.inl (aL T_5.1))))], [((a 1), .inl (g.2 1, 88, .inr (.inl (aL T_5.2.1))))]] H := by rw [hT_5]; exact hP
  have hD : zD A [[mdl q a (uI x 9 T_5.2.2)], [((a 0), .inl (g.2 1, 88, .inr (.inl (aL T_5.1))))], [((a 1), .inl (g.2 1, 88, .inr (.inl (aL T_5.2.1))))]] := by rw [hT_5]; exact hD
  have hZT_5 : T_5.2.2 = 0 ∨ T_5.2.2 = 1 := by rw [hT_5]; exact rTn_01 hZT_2
  have hRT_5_0 : T_5.2.2 = 0 → rk T_5 72 := by rw [hT_5]; exact rTn_rk (by omega) (by omega) hRT_2_0
  have hRT_5_1 : T_5.2.2 = 0 → rk T_5 73 := by rw [hT_5]; exact rTn_rk (by omega) (by omega) hRT_2_1
  have hNT_5_0 : T_5.2.2 = 0 → rk T_5 74 := by rw [hT_5]; exact rTn_r0 hNT_2_1
  have hNT_5_1 : T_5.2.2 = 0 → rk T_5 75 := by rw [hT_5]; exact rTn_r1 hNT_2_0 hNT_2_1
  refine z_iinc hx hb 1 (lv' := [(3, vI 1), (0, .ref q), (1, vI ((xx : Nat) : Int)), (2, vI 1)]) dX10_addTurned_20 hl (k := 0) rfl (rfl) (by decide) rfl (fun ls hl => ?_)
  refine lv_goto (tgt := 9) hx hb dX10_addTurned_23 (by decide) ?_
  refine lv_iload_n hx hb dX10_addTurned_9 rfl (lv_at hl 0 rfl) ?_
  refine lv_iload_n hx hb dX10_addTurned_10 rfl (lv_at hl 3 rfl) ?_
  refine z_icmp_ge (tgt := 26) hx hb (by decide) (by decide) dX10_addTurned_11 (by decide) (fun cq6 => ?_) (fun cq6 => False.elim (by omega))
  refine lv_aload_n hx hb dX10_addTurned_26 rfl (lv_at hl 1 rfl) ?_
  refine z_bipush hx hb 72 dX10_addTurned_27 rfl ?_
  refine z_bipush hx hb 74 dX10_addTurned_29 rfl ?_
  refine z_lconst hx hb 1 dX10_addTurned_31 rfl ?_
  refine z_cVv (As := [vI 72, vI 74, vL 1]) (rest := []) ⟨hx, hb, hml, hown, hts⟩ hK hP hD hS hA [0, 1, 2] [] rfl rfl rfl (c_X10_add l g q a (uI x 9 T_5.2.2) T_5 72 74 1 (by omega) (by omega) hZT_5 (by omega) (by omega) hRT_5_0 hRT_5_1 hNT_5_0 hNT_5_1) (cwV 3 hts gX10_addTurned_X10_add rfl rfl rfl (by decide +kernel) ⟨Nat.le_of_ble_eq_true rfl, Nat.le_of_ble_eq_true rfl⟩) 10 0 rfl rfl rfl (fun _ _ _ _ _ _ => trivial) (fun _ _ _ => trivial) rfl hl.1 (Nat.le_of_ble_eq_true rfl) rfl dX10_addTurned_32 ⟨Nat.le_of_ble_eq_true rfl, Nat.le_of_ble_eq_true rfl⟩ (fun u_7 H locs hwu_7 hP hD hS => ?_)
  try dsimp only at hwu_7
  have hP : zP g [[mdl q a (uI x 9 (rAd 72 74 1 T_5).2.2)], [((a 0), .inl (g.2 1, 88, .inr (.inl (aL (rAd 72 74 1 T_5).1))))], [((a 1), .inl (g.2 1, 88, .inr (.inl (aL (rAd 72 74 1 T_5).2.1))))]] H := hP
  have hD : zD A [[mdl q a (uI x 9 (rAd 72 74 1 T_5).2.2)], [((a 0), .inl (g.2 1, 88, .inr (.inl (aL (rAd 72 74 1 T_5).1))))], [((a 1), .inl (g.2 1, 88, .inr (.inl (aL (rAd 72 74 1 T_5).2.1))))]] := hD
  obtain ⟨T_8, hT_8⟩ : ∃ T : RS, T = rAd 72 74 1 T_5 := ⟨_, rfl⟩
  have hP : zP g [[mdl q a (uI x 9 T_8.2.2)], [((a 0), .inl (g.2 1, 88, .inr (.inl (aL T_8.1))))], [((a 1), .inl (g.2 1, 88, .inr (.inl (aL T_8.2.1))))]] H := by rw [hT_8]; exact hP
  have hD : zD A [[mdl q a (uI x 9 T_8.2.2)], [((a 0), .inl (g.2 1, 88, .inr (.inl (aL T_8.1))))], [((a 1), .inl (g.2 1, 88, .inr (.inl (aL T_8.2.1))))]] := by rw [hT_8]; exact hD
  have hZT_8 : T_8.2.2 = 0 ∨ T_8.2.2 = 1 := by rw [hT_8]; exact rAd_01 hZT_5
  exact z_retv () [0, 1, 2] hx hb hr hlocks hK hP hD hS trivial rfl rfl (by rw [(show (rAt xx 1 S) = T_8 by (rw [hT_8, hT_5, hT_2]; rfl))]; rfl) (Nat.le_of_ble_eq_true rfl) (Nat.le_of_ble_eq_true rfl) dX10_addTurned_35

set_option maxHeartbeats 4000000 in
set_option maxRecDepth 100000 in
theorem c_X10_addTurned2 (l : Launch) (g : zG) (q : Nat) (a : Nat → Nat) (x : Nat → Int) (S : RS) (xx : Nat) (hb1 : xx < 71) (hz : S.2.2 = 0 ∨ S.2.2 = 1) (hk0 : S.2.2 = 0 → rk S xx) (hk1 : S.2.2 = 0 → rk S (xx + 1)) (hk2 : S.2.2 = 0 → rk S 72) (hk3 : S.2.2 = 0 → rk S 73) : zMet l g yX10_addTurned wsX10_addTurned 5 0 0 [.ref q, vI ((xx : Nat) : Int), vI 2] zX0 [[mdl q a (uI x 9 S.2.2)], [((a 0), .inl (g.2 1, 88, .inr (.inl (aL S.1))))], [((a 1), .inl (g.2 1, 88, .inr (.inl (aL S.2.1))))]] (qv g (fun (_ : Unit) => True) (fun (_ : Unit) => [[mdl q a (uI x 9 (rAt xx 2 S).2.2)], [((a 0), .inl (g.2 1, 88, .inr (.inl (aL (rAt xx 2 S).1))))], [((a 1), .inl (g.2 1, 88, .inr (.inl (aL (rAt xx 2 S).2.1))))]])) := by
  refine z_ent (cc := cX10_addTurned) (maxL := 4) (ret := none) (by decide) rfl (Nat.le_of_ble_eq_true rfl) ?_
  intro p e s m below meth c A ls hx hb hr hml hown hts hlocks hin0 hA hK hP hD hS hXX hl
  have hown : s.vm.findClass RX10 = some m.cls := hown
  have hl : lv_has ls 4 [(0, .ref q), (1, vI ((xx : Nat) : Int)), (2, vI 2)] := hl
  refine lv_aload_n hx hb dX10_addTurned_0 rfl (lv_at hl 0 rfl) ?_
  refine z_bipush hx hb 74 dX10_addTurned_1 rfl ?_
  refine lv_iload_n hx hb dX10_addTurned_3 rfl (lv_at hl 1 rfl) ?_
  refine z_cVv (As := [vI 74, vI ((xx : Nat) : Int)]) (rest := []) ⟨hx, hb, hml, hown, hts⟩ hK hP hD hS hA [0, 1, 2] [] rfl rfl rfl (c_X10_copyTo l g q a (uI x 9 S.2.2) S 74 xx (by omega) (by omega)) (cwV 2 hts gX10_addTurned_X10_copyTo rfl rfl rfl (by decide +kernel) ⟨Nat.le_of_ble_eq_true rfl, Nat.le_of_ble_eq_true rfl⟩) 10 0 rfl rfl rfl (fun _ _ _ _ _ _ => trivial) (fun _ _ _ => trivial) rfl hl.1 (Nat.le_of_ble_eq_true rfl) rfl dX10_addTurned_4 ⟨Nat.le_of_ble_eq_true rfl, Nat.le_of_ble_eq_true rfl⟩ (fun u_1 H locs hwu_1 hP hD hS => ?_)
  try dsimp only at hwu_1
  have hP : zP g [[mdl q a (uI x 9 S.2.2)], [((a 0), .inl (g.2 1, 88, .inr (.inl (aL (rCp 74 xx S).1))))], [((a 1), .inl (g.2 1, 88, .inr (.inl (aL (rCp 74 xx S).2.1))))]] H := hP
  have hD : zD A [[mdl q a (uI x 9 S.2.2)], [((a 0), .inl (g.2 1, 88, .inr (.inl (aL (rCp 74 xx S).1))))], [((a 1), .inl (g.2 1, 88, .inr (.inl (aL (rCp 74 xx S).2.1))))]] := hD
  obtain ⟨T_2, hT_2⟩ : ∃ T : RS, T = rCp 74 xx S := ⟨_, rfl⟩
  have hP : zP g [[mdl q a (uI x 9 T_2.2.2)], [((a 0), .inl (g.2 1, 88, .inr (.inl (aL T_2.1))))], [((a 1), .inl (g.2 1, 88, .inr (.inl (aL T_2.2.1))))]] H := by rw [hT_2]; exact hP
  have hD : zD A [[mdl q a (uI x 9 T_2.2.2)], [((a 0), .inl (g.2 1, 88, .inr (.inl (aL T_2.1))))], [((a 1), .inl (g.2 1, 88, .inr (.inl (aL T_2.2.1))))]] := by rw [hT_2]; exact hD
  have hZT_2 : T_2.2.2 = 0 ∨ T_2.2.2 = 1 := by rw [hT_2]; exact hz
  have hRT_2_0 : T_2.2.2 = 0 → rk T_2 72 := by rw [hT_2]; exact rCp_rk (by omega) (by omega) hk2
  have hRT_2_1 : T_2.2.2 = 0 → rk T_2 73 := by rw [hT_2]; exact rCp_rk (by omega) (by omega) hk3
  have hNT_2_0 : T_2.2.2 = 0 → rk T_2 74 := by rw [hT_2]; exact rCp_r0 hk0
  have hNT_2_1 : T_2.2.2 = 0 → rk T_2 75 := by rw [hT_2]; exact rCp_r1 (by omega) hk1
  refine z_iconst hx hb dX10_addTurned_7 rfl ?_
  refine lv_istore_n (lv' := [(3, vI 0), (0, .ref q), (1, vI ((xx : Nat) : Int)), (2, vI 2)]) hx hb dX10_addTurned_8 rfl hl (by decide) rfl (fun ls hl => ?_)
  refine lv_iload_n hx hb dX10_addTurned_9 rfl (lv_at hl 0 rfl) ?_
  refine lv_iload_n hx hb dX10_addTurned_10 rfl (lv_at hl 3 rfl) ?_
  refine z_icmp_ge (tgt := 26) hx hb (by decide) (by decide) dX10_addTurned_11 (by decide) (fun cq3 => False.elim (by omega)) (fun cq3 => ?_)
  refine lv_aload_n hx hb dX10_addTurned_14 rfl (lv_at hl 1 rfl) ?_
  refine z_bipush hx hb 74 dX10_addTurned_15 rfl ?_
  refine z_cVv (As := [vI 74]) (rest := []) ⟨hx, hb, hml, hown, hts⟩ hK hP hD hS hA [0, 1, 2] [] rfl rfl rfl (c_X10_turnW l g q a (uI x 9 T_2.2.2) T_2 74 (by omega) hZT_2 hNT_2_0 hNT_2_1) (cwV 1 hts gX10_addTurned_X10_turnW rfl rfl rfl (by decide +kernel) ⟨Nat.le_of_ble_eq_true rfl, Nat.le_of_ble_eq_true rfl⟩) 10 0 rfl rfl rfl (fun _ _ _ _ _ _ => trivial) (fun _ _ _ => trivial) rfl hl.1 (Nat.le_of_ble_eq_true rfl) rfl dX10_addTurned_17 ⟨Nat.le_of_ble_eq_true rfl, Nat.le_of_ble_eq_true rfl⟩ (fun u_4 H locs hwu_4 hP hD hS => ?_)
  try dsimp only at hwu_4
  have hP : zP g [[mdl q a (uI x 9 (rTn 74 T_2).2.2)], [((a 0), .inl (g.2 1, 88, .inr (.inl (aL (rTn 74 T_2).1))))], [((a 1), .inl (g.2 1, 88, .inr (.inl (aL (rTn 74 T_2).2.1))))]] H := hP
  have hD : zD A [[mdl q a (uI x 9 (rTn 74 T_2).2.2)], [((a 0), .inl (g.2 1, 88, .inr (.inl (aL (rTn 74 T_2).1))))], [((a 1), .inl (g.2 1, 88, .inr (.inl (aL (rTn 74 T_2).2.1))))]] := hD
  obtain ⟨T_5, hT_5⟩ : ∃ T : RS, T = rTn 74 T_2 := ⟨_, rfl⟩
  have hP : zP g [[mdl q a (uI x 9 T_5.2.2)], [((a 0), .inl (g.2 1, 88, .inr (.inl (aL T_5.1))))], [((a 1), .inl (g.2 1, 88, .inr (.inl (aL T_5.2.1))))]] H := by rw [hT_5]; exact hP
  have hD : zD A [[mdl q a (uI x 9 T_5.2.2)], [((a 0), .inl (g.2 1, 88, .inr (.inl (aL T_5.1))))], [((a 1), .inl (g.2 1, 88, .inr (.inl (aL T_5.2.1))))]] := by rw [hT_5]; exact hD
  have hZT_5 : T_5.2.2 = 0 ∨ T_5.2.2 = 1 := by rw [hT_5]; exact rTn_01 hZT_2
  have hRT_5_0 : T_5.2.2 = 0 → rk T_5 72 := by rw [hT_5]; exact rTn_rk (by omega) (by omega) hRT_2_0
  have hRT_5_1 : T_5.2.2 = 0 → rk T_5 73 := by rw [hT_5]; exact rTn_rk (by omega) (by omega) hRT_2_1
  have hNT_5_0 : T_5.2.2 = 0 → rk T_5 74 := by rw [hT_5]; exact rTn_r0 hNT_2_1
  have hNT_5_1 : T_5.2.2 = 0 → rk T_5 75 := by rw [hT_5]; exact rTn_r1 hNT_2_0 hNT_2_1
  refine z_iinc hx hb 1 (lv' := [(3, vI 1), (0, .ref q), (1, vI ((xx : Nat) : Int)), (2, vI 2)]) dX10_addTurned_20 hl (k := 0) rfl (rfl) (by decide) rfl (fun ls hl => ?_)
  refine lv_goto (tgt := 9) hx hb dX10_addTurned_23 (by decide) ?_
  refine lv_iload_n hx hb dX10_addTurned_9 rfl (lv_at hl 0 rfl) ?_
  refine lv_iload_n hx hb dX10_addTurned_10 rfl (lv_at hl 3 rfl) ?_
  refine z_icmp_ge (tgt := 26) hx hb (by decide) (by decide) dX10_addTurned_11 (by decide) (fun cq6 => False.elim (by omega)) (fun cq6 => ?_)
  refine lv_aload_n hx hb dX10_addTurned_14 rfl (lv_at hl 1 rfl) ?_
  refine z_bipush hx hb 74 dX10_addTurned_15 rfl ?_
  refine z_cVv (As := [vI 74]) (rest := []) ⟨hx, hb, hml, hown, hts⟩ hK hP hD hS hA [0, 1, 2] [] rfl rfl rfl (c_X10_turnW l g q a (uI x 9 T_5.2.2) T_5 74 (by omega) hZT_5 hNT_5_0 hNT_5_1) (cwV 1 hts gX10_addTurned_X10_turnW rfl rfl rfl (by decide +kernel) ⟨Nat.le_of_ble_eq_true rfl, Nat.le_of_ble_eq_true rfl⟩) 10 0 rfl rfl rfl (fun _ _ _ _ _ _ => trivial) (fun _ _ _ => trivial) rfl hl.1 (Nat.le_of_ble_eq_true rfl) rfl dX10_addTurned_17 ⟨Nat.le_of_ble_eq_true rfl, Nat.le_of_ble_eq_true rfl⟩ (fun u_7 H locs hwu_7 hP hD hS => ?_)
  try dsimp only at hwu_7
  have hP : zP g [[mdl q a (uI x 9 (rTn 74 T_5).2.2)], [((a 0), .inl (g.2 1, 88, .inr (.inl (aL (rTn 74 T_5).1))))], [((a 1), .inl (g.2 1, 88, .inr (.inl (aL (rTn 74 T_5).2.1))))]] H := hP
  have hD : zD A [[mdl q a (uI x 9 (rTn 74 T_5).2.2)], [((a 0), .inl (g.2 1, 88, .inr (.inl (aL (rTn 74 T_5).1))))], [((a 1), .inl (g.2 1, 88, .inr (.inl (aL (rTn 74 T_5).2.1))))]] := hD
  obtain ⟨T_8, hT_8⟩ : ∃ T : RS, T = rTn 74 T_5 := ⟨_, rfl⟩
  have hP : zP g [[mdl q a (uI x 9 T_8.2.2)], [((a 0), .inl (g.2 1, 88, .inr (.inl (aL T_8.1))))], [((a 1), .inl (g.2 1, 88, .inr (.inl (aL T_8.2.1))))]] H := by rw [hT_8]; exact hP
  have hD : zD A [[mdl q a (uI x 9 T_8.2.2)], [((a 0), .inl (g.2 1, 88, .inr (.inl (aL T_8.1))))], [((a 1), .inl (g.2 1, 88, .inr (.inl (aL T_8.2.1))))]] := by rw [hT_8]; exact hD
  have hZT_8 : T_8.2.2 = 0 ∨ T_8.2.2 = 1 := by rw [hT_8]; exact rTn_01 hZT_5
  have hRT_8_0 : T_8.2.2 = 0 → rk T_8 72 := by rw [hT_8]; exact rTn_rk (by omega) (by omega) hRT_5_0
  have hRT_8_1 : T_8.2.2 = 0 → rk T_8 73 := by rw [hT_8]; exact rTn_rk (by omega) (by omega) hRT_5_1
  have hNT_8_0 : T_8.2.2 = 0 → rk T_8 74 := by rw [hT_8]; exact rTn_r0 hNT_5_1
  have hNT_8_1 : T_8.2.2 = 0 → rk T_8 75 := by rw [hT_8]; exact rTn_r1 hNT_5_0 hNT_5_1
  refine z_iinc hx hb 2 (lv' := [(3, vI 2), (0, .ref q), (1, vI ((xx : Nat) : Int)), (2, vI 2)]) dX10_addTurned_20 hl (k := 0) rfl (rfl) (by decide) rfl (fun ls hl => ?_)
  refine lv_goto (tgt := 9) hx hb dX10_addTurned_23 (by decide) ?_
  refine lv_iload_n hx hb dX10_addTurned_9 rfl (lv_at hl 0 rfl) ?_
  refine lv_iload_n hx hb dX10_addTurned_10 rfl (lv_at hl 3 rfl) ?_
  refine z_icmp_ge (tgt := 26) hx hb (by decide) (by decide) dX10_addTurned_11 (by decide) (fun cq9 => ?_) (fun cq9 => False.elim (by omega))
  refine lv_aload_n hx hb dX10_addTurned_26 rfl (lv_at hl 1 rfl) ?_
  refine z_bipush hx hb 72 dX10_addTurned_27 rfl ?_
  refine z_bipush hx hb 74 dX10_addTurned_29 rfl ?_
  refine z_lconst hx hb 1 dX10_addTurned_31 rfl ?_
  refine z_cVv (As := [vI 72, vI 74, vL 1]) (rest := []) ⟨hx, hb, hml, hown, hts⟩ hK hP hD hS hA [0, 1, 2] [] rfl rfl rfl (c_X10_add l g q a (uI x 9 T_8.2.2) T_8 72 74 1 (by omega) (by omega) hZT_8 (by omega) (by omega) hRT_8_0 hRT_8_1 hNT_8_0 hNT_8_1) (cwV 3 hts gX10_addTurned_X10_add rfl rfl rfl (by decide +kernel) ⟨Nat.le_of_ble_eq_true rfl, Nat.le_of_ble_eq_true rfl⟩) 10 0 rfl rfl rfl (fun _ _ _ _ _ _ => trivial) (fun _ _ _ => trivial) rfl hl.1 (Nat.le_of_ble_eq_true rfl) rfl dX10_addTurned_32 ⟨Nat.le_of_ble_eq_true rfl, Nat.le_of_ble_eq_true rfl⟩ (fun u_10 H locs hwu_10 hP hD hS => ?_)
  try dsimp only at hwu_10
  have hP : zP g [[mdl q a (uI x 9 (rAd 72 74 1 T_8).2.2)], [((a 0), .inl (g.2 1, 88, .inr (.inl (aL (rAd 72 74 1 T_8).1))))], [((a 1), .inl (g.2 1, 88, .inr (.inl (aL (rAd 72 74 1 T_8).2.1))))]] H := hP
  have hD : zD A [[mdl q a (uI x 9 (rAd 72 74 1 T_8).2.2)], [((a 0), .inl (g.2 1, 88, .inr (.inl (aL (rAd 72 74 1 T_8).1))))], [((a 1), .inl (g.2 1, 88, .inr (.inl (aL (rAd 72 74 1 T_8).2.1))))]] := hD
  obtain ⟨T_11, hT_11⟩ : ∃ T : RS, T = rAd 72 74 1 T_8 := ⟨_, rfl⟩
  have hP : zP g [[mdl q a (uI x 9 T_11.2.2)], [((a 0), .inl (g.2 1, 88, .inr (.inl (aL T_11.1))))], [((a 1), .inl (g.2 1, 88, .inr (.inl (aL T_11.2.1))))]] H := by rw [hT_11]; exact hP
  have hD : zD A [[mdl q a (uI x 9 T_11.2.2)], [((a 0), .inl (g.2 1, 88, .inr (.inl (aL T_11.1))))], [((a 1), .inl (g.2 1, 88, .inr (.inl (aL T_11.2.1))))]] := by rw [hT_11]; exact hD
  have hZT_11 : T_11.2.2 = 0 ∨ T_11.2.2 = 1 := by rw [hT_11]; exact rAd_01 hZT_8
  exact z_retv () [0, 1, 2] hx hb hr hlocks hK hP hD hS trivial rfl rfl (by rw [(show (rAt xx 2 S) = T_11 by (rw [hT_11, hT_8, hT_5, hT_2]; rfl))]; rfl) (Nat.le_of_ble_eq_true rfl) (Nat.le_of_ble_eq_true rfl) dX10_addTurned_35

set_option maxHeartbeats 4000000 in
set_option maxRecDepth 100000 in
theorem c_X10_layNought (l : Launch) (g : zG) (q : Nat) (a : Nat → Nat) (x : Nat → Int) (S : RS) (xx : Nat) (hb1 : xx < 87) : zMet l g yX10_layNought wsX10_layNought 0 0 0 [.ref q, vI ((xx : Nat) : Int)] zX0 [[mdl q a x], [((a 0), .inl (g.2 1, 88, .inr (.inl (aL S.1))))], [((a 1), .inl (g.2 1, 88, .inr (.inl (aL S.2.1))))]] (qv g (fun (_ : Unit) => True) (fun (_ : Unit) => [[mdl q a x], [((a 0), .inl (g.2 1, 88, .inr (.inl (aL (rL0 xx S).1))))], [((a 1), .inl (g.2 1, 88, .inr (.inl (aL (rL0 xx S).2.1))))]])) := by
  refine z_ent (cc := cX10_layNought) (maxL := 3) (ret := none) (by decide) rfl (Nat.le_of_ble_eq_true rfl) ?_
  intro p e s m below meth c A ls hx hb hr hml hown hts hlocks hin0 hA hK hP hD hS hXX hl
  have hown : s.vm.findClass RX10 = some m.cls := hown
  have hin10_ : ∀ w ∈ wsX100, w ∈ wsX10_layNought := zw_in [3, 4, 5, 6, 7, 8, 9, 10, 11, 12, 13, 14, 15, 16, 17, 18, 19, 20, 21, 22, 23, 24, 25, 26, 27, 28] rfl
  have hl : lv_has ls 3 [(0, .ref q), (1, vI ((xx : Nat) : Int))] := hl
  refine z_iconst hx hb dX10_layNought_0 rfl ?_
  refine lv_istore_n (lv' := [(2, vI 0), (0, .ref q), (1, vI ((xx : Nat) : Int))]) hx hb dX10_layNought_1 rfl hl (by decide) rfl (fun ls hl => ?_)
  refine lv_iload_n hx hb dX10_layNought_2 rfl (lv_at hl 0 rfl) ?_
  refine z_iconst hx hb dX10_layNought_3 rfl ?_
  refine z_icmp_ge (tgt := 31) hx hb (by decide) (by decide) dX10_layNought_4 (by decide) (fun cq1 => False.elim (by omega)) (fun cq1 => ?_)
  refine lv_aload_n hx hb dX10_layNought_7 rfl (lv_at hl 1 rfl) ?_
  refine z_get hx hb hts hin10_ hown hK hP 0 rfl rfl 0 (by decide) (hts _ (List.mem_of_getElem? (i := 1) rfl)) rfl dX10_layNought_8 ?_
  refine lv_iload_n hx hb dX10_layNought_11 rfl (lv_at hl 2 rfl) ?_
  refine lv_iload_n hx hb dX10_layNought_12 rfl (lv_at hl 0 rfl) ?_
  refine z_iadd hx hb ((xx : Nat) : Int) (Int.add_zero _) dX10_layNought_13 ?_
  refine z_lconst hx hb 0 dX10_layNought_14 rfl ?_
  refine z_last hx hb hK hP 1 hD hS rfl xx (by omega) (by omega) (by decide) dX10_layNought_15 [[mdl q a x], [((a 0), .inl (g.2 1, 88, .inr (.inl (aL (uI S.1 xx 0)))))], [((a 1), .inl (g.2 1, 88, .inr (.inl (aL S.2.1))))]] rfl (fun H locs hP hD hS => ?_)
  refine lv_aload_n hx hb dX10_layNought_16 rfl (lv_at hl 1 rfl) ?_
  refine z_get hx hb hts hin10_ hown hK hP 0 rfl rfl 1 (by decide) (hts _ (List.mem_of_getElem? (i := 2) rfl)) rfl dX10_layNought_17 ?_
  refine lv_iload_n hx hb dX10_layNought_20 rfl (lv_at hl 2 rfl) ?_
  refine lv_iload_n hx hb dX10_layNought_21 rfl (lv_at hl 0 rfl) ?_
  refine z_iadd hx hb ((xx : Nat) : Int) (Int.add_zero _) dX10_layNought_22 ?_
  refine z_lconst hx hb 1 dX10_layNought_23 rfl ?_
  refine z_last hx hb hK hP 2 hD hS rfl xx (by omega) (by omega) (by decide) dX10_layNought_24 [[mdl q a x], [((a 0), .inl (g.2 1, 88, .inr (.inl (aL (uI S.1 xx 0)))))], [((a 1), .inl (g.2 1, 88, .inr (.inl (aL (uI S.2.1 xx 1)))))]] rfl (fun H locs hP hD hS => ?_)
  refine z_iinc hx hb 1 (lv' := [(2, vI 1), (0, .ref q), (1, vI ((xx : Nat) : Int))]) dX10_layNought_25 hl (k := 0) rfl (rfl) (by decide) rfl (fun ls hl => ?_)
  refine lv_goto (tgt := 2) hx hb dX10_layNought_28 (by decide) ?_
  refine lv_iload_n hx hb dX10_layNought_2 rfl (lv_at hl 0 rfl) ?_
  refine z_iconst hx hb dX10_layNought_3 rfl ?_
  refine z_icmp_ge (tgt := 31) hx hb (by decide) (by decide) dX10_layNought_4 (by decide) (fun cq2 => False.elim (by omega)) (fun cq2 => ?_)
  refine lv_aload_n hx hb dX10_layNought_7 rfl (lv_at hl 1 rfl) ?_
  refine z_get hx hb hts hin10_ hown hK hP 0 rfl rfl 0 (by decide) (hts _ (List.mem_of_getElem? (i := 1) rfl)) rfl dX10_layNought_8 ?_
  refine lv_iload_n hx hb dX10_layNought_11 rfl (lv_at hl 2 rfl) ?_
  refine lv_iload_n hx hb dX10_layNought_12 rfl (lv_at hl 0 rfl) ?_
  refine z_iadd hx hb (((xx + 1) : Nat) : Int) (by omega) dX10_layNought_13 ?_
  refine z_lconst hx hb 0 dX10_layNought_14 rfl ?_
  refine z_last hx hb hK hP 1 hD hS rfl (xx + 1) (by omega) (by omega) (by decide) dX10_layNought_15 [[mdl q a x], [((a 0), .inl (g.2 1, 88, .inr (.inl (aL (uI (uI S.1 xx 0) (xx + 1) 0)))))], [((a 1), .inl (g.2 1, 88, .inr (.inl (aL (uI S.2.1 xx 1)))))]] rfl (fun H locs hP hD hS => ?_)
  refine lv_aload_n hx hb dX10_layNought_16 rfl (lv_at hl 1 rfl) ?_
  refine z_get hx hb hts hin10_ hown hK hP 0 rfl rfl 1 (by decide) (hts _ (List.mem_of_getElem? (i := 2) rfl)) rfl dX10_layNought_17 ?_
  refine lv_iload_n hx hb dX10_layNought_20 rfl (lv_at hl 2 rfl) ?_
  refine lv_iload_n hx hb dX10_layNought_21 rfl (lv_at hl 0 rfl) ?_
  refine z_iadd hx hb (((xx + 1) : Nat) : Int) (by omega) dX10_layNought_22 ?_
  refine z_lconst hx hb 1 dX10_layNought_23 rfl ?_
  refine z_last hx hb hK hP 2 hD hS rfl (xx + 1) (by omega) (by omega) (by decide) dX10_layNought_24 [[mdl q a x], [((a 0), .inl (g.2 1, 88, .inr (.inl (aL (uI (uI S.1 xx 0) (xx + 1) 0)))))], [((a 1), .inl (g.2 1, 88, .inr (.inl (aL (uI (uI S.2.1 xx 1) (xx + 1) 1)))))]] rfl (fun H locs hP hD hS => ?_)
  refine z_iinc hx hb 2 (lv' := [(2, vI 2), (0, .ref q), (1, vI ((xx : Nat) : Int))]) dX10_layNought_25 hl (k := 0) rfl (rfl) (by decide) rfl (fun ls hl => ?_)
  refine lv_goto (tgt := 2) hx hb dX10_layNought_28 (by decide) ?_
  refine lv_iload_n hx hb dX10_layNought_2 rfl (lv_at hl 0 rfl) ?_
  refine z_iconst hx hb dX10_layNought_3 rfl ?_
  refine z_icmp_ge (tgt := 31) hx hb (by decide) (by decide) dX10_layNought_4 (by decide) (fun cq3 => ?_) (fun cq3 => False.elim (by omega))
  exact z_retv () [0, 1, 2] hx hb hr hlocks hK hP hD hS trivial rfl rfl (rfl) (Nat.le_of_ble_eq_true rfl) (Nat.le_of_ble_eq_true rfl) dX10_layNought_31

set_option maxHeartbeats 4000000 in
set_option maxRecDepth 100000 in
theorem c_X10_copyPhases (l : Launch) (g : zG) (q : Nat) (a : Nat → Nat) (x : Nat → Int) (S : RS) (xx : Nat) (to : Nat) (hb1 : xx < 83) (hb0 : to < 83) : zMet l g yX10_copyPhases wsX10_copyPhases 0 0 0 [.ref q, vI ((xx : Nat) : Int), vI ((to : Nat) : Int)] zX0 [[mdl q a x], [((a 0), .inl (g.2 1, 88, .inr (.inl (aL S.1))))], [((a 1), .inl (g.2 1, 88, .inr (.inl (aL S.2.1))))]] (qv g (fun (_ : Unit) => True) (fun (_ : Unit) => [[mdl q a x], [((a 0), .inl (g.2 1, 88, .inr (.inl (aL (rC6 xx to S).1))))], [((a 1), .inl (g.2 1, 88, .inr (.inl (aL (rC6 xx to S).2.1))))]])) := by
  refine z_ent (cc := cX10_copyPhases) (maxL := 4) (ret := none) (by decide) rfl (Nat.le_of_ble_eq_true rfl) ?_
  intro p e s m below meth c A ls hx hb hr hml hown hts hlocks hin0 hA hK hP hD hS hXX hl
  have hown : s.vm.findClass RX10 = some m.cls := hown
  have hin10_ : ∀ w ∈ wsX100, w ∈ wsX10_copyPhases := zw_in [3, 4, 5, 6, 7, 8, 9, 10, 11, 12, 13, 14, 15, 16, 17, 18, 19, 20, 21, 22, 23, 24, 25, 26, 27, 28] rfl
  have hl : lv_has ls 4 [(0, .ref q), (1, vI ((xx : Nat) : Int)), (2, vI ((to : Nat) : Int))] := hl
  refine z_iconst hx hb dX10_copyPhases_0 rfl ?_
  refine lv_istore_n (lv' := [(3, vI 0), (0, .ref q), (1, vI ((xx : Nat) : Int)), (2, vI ((to : Nat) : Int))]) hx hb dX10_copyPhases_1 rfl hl (by decide) rfl (fun ls hl => ?_)
  have loop2 : ∀ (N : Nat) (k : Nat) (H : Heap) (locs : List Loc) (ls : Array Slot), k ≤ 6 → (6 - k) < N → zP g [[mdl q a x], [((a 0), .inl (g.2 1, 88, .inr (.inl (aL (cpN S.1 to xx k)))))], [((a 1), .inl (g.2 1, 88, .inr (.inl (aL (cpN S.2.1 to xx k)))))]] H → zD A [[mdl q a x], [((a 0), .inl (g.2 1, 88, .inr (.inl (aL (cpN S.1 to xx k)))))], [((a 1), .inl (g.2 1, 88, .inr (.inl (aL (cpN S.2.1 to xx k)))))]] → va_S A s.heap H locs → lv_has ls 4 [(0, .ref q), (1, vI ((xx : Nat) : Int)), (2, vI ((to : Nat) : Int)), (3, vI ((k : Nat) : Int))] → W p l e (zRm 0 0 0) s m ([.ref q, vI ((xx : Nat) : Int), vI ((to : Nat) : Int)] : List Value).toArray below meth c H locs (0) (0) (MQ below ((qv g (fun (_ : Unit) => True) (fun (_ : Unit) => [[mdl q a x], [((a 0), .inl (g.2 1, 88, .inr (.inl (aL (rC6 xx to S).1))))], [((a 1), .inl (g.2 1, 88, .inr (.inl (aL (rC6 xx to S).2.1))))]])) A) ([.ref q, vI ((xx : Nat) : Int), vI ((to : Nat) : Int)] : List Value).toArray s 0 0 A) (F0 m 2 ls []) := by
    intro N
    induction N with
    | zero => intro k H locs ls hk hm; exact absurd hm (Nat.not_lt_zero _)
    | succ N ih2 =>
      intro k H locs ls hk hm hP hD hS hl
      refine lv_iload_n hx hb dX10_copyPhases_2 rfl (lv_at hl 3 rfl) ?_
      refine z_bipush hx hb 6 dX10_copyPhases_3 rfl ?_
      refine z_icmp_ge (tgt := 46) hx hb (by omega) (by decide) dX10_copyPhases_5 (by decide) (fun cq1 => ?_) (fun cq1 => ?_)
      · exact z_retv () [0, 1, 2] hx hb hr hlocks hK hP hD hS trivial rfl rfl (by rw [(show k = 6 by omega)]; rfl) (Nat.le_of_ble_eq_true rfl) (Nat.le_of_ble_eq_true rfl) dX10_copyPhases_46
      · refine lv_aload_n hx hb dX10_copyPhases_8 rfl (lv_at hl 0 rfl) ?_
        refine z_get hx hb hts hin10_ hown hK hP 0 rfl rfl 0 (by decide) (hts _ (List.mem_of_getElem? (i := 1) rfl)) rfl dX10_copyPhases_9 ?_
        refine lv_iload_n hx hb dX10_copyPhases_12 rfl (lv_at hl 2 rfl) ?_
        refine lv_iload_n hx hb dX10_copyPhases_13 rfl (lv_at hl 3 rfl) ?_
        refine z_iadd hx hb (((to + k) : Nat) : Int) (by omega) dX10_copyPhases_14 ?_
        refine lv_aload_n hx hb dX10_copyPhases_15 rfl (lv_at hl 0 rfl) ?_
        refine z_get hx hb hts hin10_ hown hK hP 0 rfl rfl 0 (by decide) (hts _ (List.mem_of_getElem? (i := 1) rfl)) rfl dX10_copyPhases_16 ?_
        refine lv_iload_n hx hb dX10_copyPhases_19 rfl (lv_at hl 1 rfl) ?_
        refine lv_iload_n hx hb dX10_copyPhases_20 rfl (lv_at hl 3 rfl) ?_
        refine z_iadd hx hb (((xx + k) : Nat) : Int) (by omega) dX10_copyPhases_21 ?_
        refine z_lald hx hb hK hP 1 rfl (xx + k) (by omega) (by omega) (by decide) dX10_copyPhases_22 ?_
        refine z_last hx hb hK hP 1 hD hS rfl (to + k) (by omega) (by omega) (by decide) dX10_copyPhases_23 [[mdl q a x], [((a 0), .inl (g.2 1, 88, .inr (.inl (aL (uI (cpN S.1 to xx k) (to + k) ((cpN S.1 to xx k) (xx + k)))))))], [((a 1), .inl (g.2 1, 88, .inr (.inl (aL (cpN S.2.1 to xx k)))))]] rfl (fun H locs hP hD hS => ?_)
        refine lv_aload_n hx hb dX10_copyPhases_24 rfl (lv_at hl 0 rfl) ?_
        refine z_get hx hb hts hin10_ hown hK hP 0 rfl rfl 1 (by decide) (hts _ (List.mem_of_getElem? (i := 2) rfl)) rfl dX10_copyPhases_25 ?_
        refine lv_iload_n hx hb dX10_copyPhases_28 rfl (lv_at hl 2 rfl) ?_
        refine lv_iload_n hx hb dX10_copyPhases_29 rfl (lv_at hl 3 rfl) ?_
        refine z_iadd hx hb (((to + k) : Nat) : Int) (by omega) dX10_copyPhases_30 ?_
        refine lv_aload_n hx hb dX10_copyPhases_31 rfl (lv_at hl 0 rfl) ?_
        refine z_get hx hb hts hin10_ hown hK hP 0 rfl rfl 1 (by decide) (hts _ (List.mem_of_getElem? (i := 2) rfl)) rfl dX10_copyPhases_32 ?_
        refine lv_iload_n hx hb dX10_copyPhases_35 rfl (lv_at hl 1 rfl) ?_
        refine lv_iload_n hx hb dX10_copyPhases_36 rfl (lv_at hl 3 rfl) ?_
        refine z_iadd hx hb (((xx + k) : Nat) : Int) (by omega) dX10_copyPhases_37 ?_
        refine z_lald hx hb hK hP 2 rfl (xx + k) (by omega) (by omega) (by decide) dX10_copyPhases_38 ?_
        refine z_last hx hb hK hP 2 hD hS rfl (to + k) (by omega) (by omega) (by decide) dX10_copyPhases_39 [[mdl q a x], [((a 0), .inl (g.2 1, 88, .inr (.inl (aL (uI (cpN S.1 to xx k) (to + k) ((cpN S.1 to xx k) (xx + k)))))))], [((a 1), .inl (g.2 1, 88, .inr (.inl (aL (uI (cpN S.2.1 to xx k) (to + k) ((cpN S.2.1 to xx k) (xx + k)))))))]] rfl (fun H locs hP hD hS => ?_)
        refine z_iinc hx hb (((k + 1) : Nat) : Int) (lv' := [(3, vI (((k + 1) : Nat) : Int)), (0, .ref q), (1, vI ((xx : Nat) : Int)), (2, vI ((to : Nat) : Int))]) dX10_copyPhases_40 hl (k := 3) rfl (by omega) (by decide) rfl (fun ls hl => ?_)
        refine lv_goto (tgt := 2) hx hb dX10_copyPhases_43 (by decide) ?_
        exact ih2 (k + 1) _ _ _ (by omega) (by omega) hP hD hS (lv_sub hl [1, 2, 3, 0] rfl)
  exact loop2 _ 0 _ _ _ (by omega) (Nat.lt_succ_self _) hP hD hS (lv_sub hl [1, 2, 3, 0] rfl)

set_option maxHeartbeats 4000000 in
set_option maxRecDepth 100000 in
theorem c_X10_isGreater (l : Launch) (g : zG) (q : Nat) (a : Nat → Nat) (x : Nat → Int) (S : RS) (xx : Nat) (y : Nat) (hb1 : xx < 88) (hb2 : y < 88) (hk0 : rk S xx) (hk1 : rk S y) : zMet l g yX10_isGreater wsX10_isGreater 0 0 0 [.ref q, vI ((xx : Nat) : Int), vI ((y : Nat) : Int)] zX0 [[mdl q a x], [((a 0), .inl (g.2 1, 88, .inr (.inl (aL S.1))))], [((a 1), .inl (g.2 1, 88, .inr (.inl (aL S.2.1))))]] (qi g (fun (_ : Unit) => (rGt xx y S)) (fun (_ : Unit) => True) (fun (_ : Unit) => [[mdl q a x], [((a 0), .inl (g.2 1, 88, .inr (.inl (aL S.1))))], [((a 1), .inl (g.2 1, 88, .inr (.inl (aL S.2.1))))]])) := by
  refine z_ent (cc := cX10_isGreater) (maxL := 3) (ret := (some .boolean)) (by decide) rfl (Nat.le_of_ble_eq_true rfl) ?_
  intro p e s m below meth c A ls hx hb hr hml hown hts hlocks hin0 hA hK hP hD hS hXX hl
  have hown : s.vm.findClass RX10 = some m.cls := hown
  have hin10_ : ∀ w ∈ wsX100, w ∈ wsX10_isGreater := zw_in [3, 4, 5, 6, 7, 8, 9, 10, 11, 12, 13, 14, 15, 16, 17, 18, 19, 20, 21, 22, 23, 24, 25, 26, 27, 28] rfl
  have hl : lv_has ls 3 [(0, .ref q), (1, vI ((xx : Nat) : Int)), (2, vI ((y : Nat) : Int))] := hl
  refine lv_aload_n hx hb dX10_isGreater_0 rfl (lv_at hl 0 rfl) ?_
  refine z_get hx hb hts hin10_ hown hK hP 0 rfl rfl 0 (by decide) (hts _ (List.mem_of_getElem? (i := 1) rfl)) rfl dX10_isGreater_1 ?_
  refine lv_iload_n hx hb dX10_isGreater_4 rfl (lv_at hl 1 rfl) ?_
  refine z_lald hx hb hK hP 1 rfl xx (by omega) (by omega) (by decide) dX10_isGreater_5 ?_
  refine lv_aload_n hx hb dX10_isGreater_6 rfl (lv_at hl 0 rfl) ?_
  refine z_get hx hb hts hin10_ hown hK hP 0 rfl rfl 1 (by decide) (hts _ (List.mem_of_getElem? (i := 2) rfl)) rfl dX10_isGreater_7 ?_
  refine lv_iload_n hx hb dX10_isGreater_10 rfl (lv_at hl 2 rfl) ?_
  refine z_lald hx hb hK hP 2 rfl y (by omega) (by omega) (by decide) dX10_isGreater_11 ?_
  refine z_lmul hx hb ((S.1 xx) * (S.2.1 y)) rfl dX10_isGreater_12 ?_
  refine lv_aload_n hx hb dX10_isGreater_13 rfl (lv_at hl 0 rfl) ?_
  refine z_get hx hb hts hin10_ hown hK hP 0 rfl rfl 0 (by decide) (hts _ (List.mem_of_getElem? (i := 1) rfl)) rfl dX10_isGreater_14 ?_
  refine lv_iload_n hx hb dX10_isGreater_17 rfl (lv_at hl 2 rfl) ?_
  refine z_lald hx hb hK hP 1 rfl y (by omega) (by omega) (by decide) dX10_isGreater_18 ?_
  refine lv_aload_n hx hb dX10_isGreater_19 rfl (lv_at hl 0 rfl) ?_
  refine z_get hx hb hts hin10_ hown hK hP 0 rfl rfl 1 (by decide) (hts _ (List.mem_of_getElem? (i := 2) rfl)) rfl dX10_isGreater_20 ?_
  refine lv_iload_n hx hb dX10_isGreater_23 rfl (lv_at hl 1 rfl) ?_
  refine z_lald hx hb hK hP 2 rfl xx (by omega) (by omega) (by decide) dX10_isGreater_24 ?_
  refine z_lmul hx hb ((S.1 y) * (S.2.1 xx)) rfl dX10_isGreater_25 ?_
  refine z_lcmp_le (tgt := 34) hx hb (rGt_b hk0 hk1) (rGt_b hk1 hk0) dX10_isGreater_26 dX10_isGreater_27 (by decide) (fun cq1 => ?_) (fun cq1 => ?_)
  · refine z_iconst hx hb dX10_isGreater_34 rfl ?_
    exact z_reti () [0, 1, 2] hx hb hr (nar_z (by first | decide | omega)) hlocks hK hP hD hS (by unfold rGt; first | rw [if_pos (by omega)] | rw [if_neg (by omega)]) trivial rfl rfl (rfl) (Nat.le_of_ble_eq_true rfl) (Nat.le_of_ble_eq_true rfl) dX10_isGreater_35
  · refine z_iconst hx hb dX10_isGreater_30 rfl ?_
    refine lv_goto (tgt := 35) hx hb dX10_isGreater_31 (by decide) ?_
    exact z_reti () [0, 1, 2] hx hb hr (nar_z (by first | decide | omega)) hlocks hK hP hD hS (by unfold rGt; first | rw [if_pos (by omega)] | rw [if_neg (by omega)]) trivial rfl rfl (rfl) (Nat.le_of_ble_eq_true rfl) (Nat.le_of_ble_eq_true rfl) dX10_isGreater_35

set_option maxHeartbeats 4000000 in
set_option maxRecDepth 100000 in
theorem c_X10_partOf (l : Launch) (g : zG) (q : Nat) (a : Nat → Nat) (x : Nat → Int) (S : RS) (xx : Nat) (j : Int) (hb1 : xx < 88) (hj : -2147483648 ≤ j ∧ j < 2147483648) : zMet l g yX10_partOf wsX10_partOf 0 0 0 [.ref q, vI ((xx : Nat) : Int), vI j] zX0 [[mdl q a x], [((a 0), .inl (g.2 1, 88, .inr (.inl (aL S.1))))], [((a 1), .inl (g.2 1, 88, .inr (.inl (aL S.2.1))))]] (ql g (fun (_ : Unit) => (if j = 0 then S.1 xx else S.2.1 xx)) (fun (_ : Unit) => True) (fun (_ : Unit) => [[mdl q a x], [((a 0), .inl (g.2 1, 88, .inr (.inl (aL S.1))))], [((a 1), .inl (g.2 1, 88, .inr (.inl (aL S.2.1))))]])) := by
  refine z_ent (cc := cX10_partOf) (maxL := 3) (ret := (some .long)) (by decide) rfl (Nat.le_of_ble_eq_true rfl) ?_
  intro p e s m below meth c A ls hx hb hr hml hown hts hlocks hin0 hA hK hP hD hS hXX hl
  have hown : s.vm.findClass RX10 = some m.cls := hown
  have hin10_ : ∀ w ∈ wsX100, w ∈ wsX10_partOf := zw_in [3, 4, 5, 6, 7, 8, 9, 10, 11, 12, 13, 14, 15, 16, 17, 18, 19, 20, 21, 22, 23, 24, 25, 26, 27, 28] rfl
  have hl : lv_has ls 3 [(0, .ref q), (1, vI ((xx : Nat) : Int)), (2, vI j)] := hl
  refine lv_iload_n hx hb dX10_partOf_0 rfl (lv_at hl 2 rfl) ?_
  refine z_if_ne (tgt := 13) hx hb (by omega) dX10_partOf_1 (by decide) (fun cq1 => ?_) (fun cq1 => ?_)
  · refine lv_aload_n hx hb dX10_partOf_13 rfl (lv_at hl 0 rfl) ?_
    refine z_get hx hb hts hin10_ hown hK hP 0 rfl rfl 1 (by decide) (hts _ (List.mem_of_getElem? (i := 2) rfl)) rfl dX10_partOf_14 ?_
    refine lv_iload_n hx hb dX10_partOf_17 rfl (lv_at hl 1 rfl) ?_
    refine z_lald hx hb hK hP 2 rfl xx (by omega) (by omega) (by decide) dX10_partOf_18 ?_
    exact z_retl () [0, 1, 2] hx hb hr hlocks hK hP hD hS (by first | rw [if_pos (by omega)] | rw [if_neg (by omega)]) trivial rfl rfl (rfl) (Nat.le_of_ble_eq_true rfl) (Nat.le_of_ble_eq_true rfl) dX10_partOf_19
  · refine lv_aload_n hx hb dX10_partOf_4 rfl (lv_at hl 0 rfl) ?_
    refine z_get hx hb hts hin10_ hown hK hP 0 rfl rfl 0 (by decide) (hts _ (List.mem_of_getElem? (i := 1) rfl)) rfl dX10_partOf_5 ?_
    refine lv_iload_n hx hb dX10_partOf_8 rfl (lv_at hl 1 rfl) ?_
    refine z_lald hx hb hK hP 1 rfl xx (by omega) (by omega) (by decide) dX10_partOf_9 ?_
    refine lv_goto (tgt := 19) hx hb dX10_partOf_10 (by decide) ?_
    exact z_retl () [0, 1, 2] hx hb hr hlocks hK hP hD hS (by first | rw [if_pos (by omega)] | rw [if_neg (by omega)]) trivial rfl rfl (rfl) (Nat.le_of_ble_eq_true rfl) (Nat.le_of_ble_eq_true rfl) dX10_partOf_19
