set_option maxHeartbeats 4000000 in
set_option maxRecDepth 100000 in
theorem c_X10_folds0 (l : Launch) (g : zG) (q : Nat) (a : Nat → Nat) (x : Nat → Int) (S : RS) (xx : Nat) (hb1 : xx < 71) (hz : S.2.2 = 0 ∨ S.2.2 = 1) (hk0 : S.2.2 = 0 → rk S 82) (hk1 : S.2.2 = 0 → rk S 83) (hk2 : S.2.2 = 0 → rk S xx) (hk3 : S.2.2 = 0 → rk S (xx + 1)) : zMet l g yX10_folds wsX10_folds 5 0 0 [.ref q, vI 0, vI ((xx : Nat) : Int)] zX0 [[mdl q a (uI x 9 S.2.2)], [((a 0), .inl (g.2 1, 88, .inr (.inl (aL S.1))))], [((a 1), .inl (g.2 1, 88, .inr (.inl (aL S.2.1))))]] (qv g (fun (_ : Unit) => True) (fun (_ : Unit) => [[mdl q a (uI x 9 (rFd 0 xx S).2.2)], [((a 0), .inl (g.2 1, 88, .inr (.inl (aL (rFd 0 xx S).1))))], [((a 1), .inl (g.2 1, 88, .inr (.inl (aL (rFd 0 xx S).2.1))))]])) := by
  refine z_ent (cc := cX10_folds) (maxL := 3) (ret := none) (by decide) rfl (Nat.le_of_ble_eq_true rfl) ?_
  intro p e s m below meth c A ls hx hb hr hml hown hts hlocks hin0 hA hK hP hD hS hXX hl
  have hown : s.vm.findClass RX10 = some m.cls := hown
  have hl : lv_has ls 3 [(0, .ref q), (1, vI 0), (2, vI ((xx : Nat) : Int))] := hl
  refine lv_iload_n hx hb dX10_folds_0 rfl (lv_at hl 1 rfl) ?_
  refine z_swIn hx hb 0 28 rfl (by decide) dX10_folds_1 (by decide) (by decide) rfl (by decide) ?_
  refine lv_aload_n hx hb dX10_folds_28 rfl (lv_at hl 0 rfl) ?_
  refine z_bipush hx hb 82 dX10_folds_29 rfl ?_
  refine lv_iload_n hx hb dX10_folds_31 rfl (lv_at hl 2 rfl) ?_
  refine z_lconst hx hb 1 dX10_folds_32 rfl ?_
  refine z_cVv (As := [vI 82, vI ((xx : Nat) : Int), vL 1]) (rest := []) ⟨hx, hb, hml, hown, hts⟩ hK hP hD hS hA [0, 1, 2] [] rfl rfl rfl (c_X10_add l g q a (uI x 9 S.2.2) S 82 xx 1 (by omega) (by omega) hz (by omega) (by omega) hk0 hk1 hk2 hk3) (cwV 3 hts gX10_folds_X10_add rfl rfl rfl (by decide +kernel) ⟨Nat.le_of_ble_eq_true rfl, Nat.le_of_ble_eq_true rfl⟩) 10 0 rfl rfl rfl (fun _ _ _ _ _ _ => trivial) (fun _ _ _ => trivial) rfl hl.1 (Nat.le_of_ble_eq_true rfl) rfl dX10_folds_33 ⟨Nat.le_of_ble_eq_true rfl, Nat.le_of_ble_eq_true rfl⟩ (fun u_1 H locs hwu_1 hP hD hS => ?_)
  try dsimp only at hwu_1
  have hP : zP g [[mdl q a (uI x 9 (rAd 82 xx 1 S).2.2)], [((a 0), .inl (g.2 1, 88, .inr (.inl (aL (rAd 82 xx 1 S).1))))], [((a 1), .inl (g.2 1, 88, .inr (.inl (aL (rAd 82 xx 1 S).2.1))))]] H := hP
  have hD : zD A [[mdl q a (uI x 9 (rAd 82 xx 1 S).2.2)], [((a 0), .inl (g.2 1, 88, .inr (.inl (aL (rAd 82 xx 1 S).1))))], [((a 1), .inl (g.2 1, 88, .inr (.inl (aL (rAd 82 xx 1 S).2.1))))]] := hD
  obtain ⟨T_2, hT_2⟩ : ∃ T : RS, T = rAd 82 xx 1 S := ⟨_, rfl⟩
  have hP : zP g [[mdl q a (uI x 9 T_2.2.2)], [((a 0), .inl (g.2 1, 88, .inr (.inl (aL T_2.1))))], [((a 1), .inl (g.2 1, 88, .inr (.inl (aL T_2.2.1))))]] H := by rw [hT_2]; exact hP
  have hD : zD A [[mdl q a (uI x 9 T_2.2.2)], [((a 0), .inl (g.2 1, 88, .inr (.inl (aL T_2.1))))], [((a 1), .inl (g.2 1, 88, .inr (.inl (aL T_2.2.1))))]] := by rw [hT_2]; exact hD
  have hZT_2 : T_2.2.2 = 0 ∨ T_2.2.2 = 1 := by rw [hT_2]; exact rAd_01 hz
  refine lv_goto (tgt := 109) hx hb dX10_folds_36 (by decide) ?_
  have hF : rFd 0 xx S = T_2 := by rw [hT_2]; rfl
  exact z_retv () [0, 1, 2] hx hb hr hlocks hK hP hD hS trivial rfl rfl (by rw [hF]; rfl) (Nat.le_of_ble_eq_true rfl) (Nat.le_of_ble_eq_true rfl) dX10_folds_109

set_option maxHeartbeats 4000000 in
set_option maxRecDepth 100000 in
theorem c_X10_folds1 (l : Launch) (g : zG) (q : Nat) (a : Nat → Nat) (x : Nat → Int) (S : RS) (xx : Nat) (hb1 : xx < 71) (hz : S.2.2 = 0 ∨ S.2.2 = 1) (hk0 : S.2.2 = 0 → rk S 82) (hk1 : S.2.2 = 0 → rk S 83) (hk2 : S.2.2 = 0 → rk S xx) (hk3 : S.2.2 = 0 → rk S (xx + 1)) : zMet l g yX10_folds wsX10_folds 5 0 0 [.ref q, vI 1, vI ((xx : Nat) : Int)] zX0 [[mdl q a (uI x 9 S.2.2)], [((a 0), .inl (g.2 1, 88, .inr (.inl (aL S.1))))], [((a 1), .inl (g.2 1, 88, .inr (.inl (aL S.2.1))))]] (qv g (fun (_ : Unit) => True) (fun (_ : Unit) => [[mdl q a (uI x 9 (rFd 1 xx S).2.2)], [((a 0), .inl (g.2 1, 88, .inr (.inl (aL (rFd 1 xx S).1))))], [((a 1), .inl (g.2 1, 88, .inr (.inl (aL (rFd 1 xx S).2.1))))]])) := by
  refine z_ent (cc := cX10_folds) (maxL := 3) (ret := none) (by decide) rfl (Nat.le_of_ble_eq_true rfl) ?_
  intro p e s m below meth c A ls hx hb hr hml hown hts hlocks hin0 hA hK hP hD hS hXX hl
  have hown : s.vm.findClass RX10 = some m.cls := hown
  have hl : lv_has ls 3 [(0, .ref q), (1, vI 1), (2, vI ((xx : Nat) : Int))] := hl
  refine lv_iload_n hx hb dX10_folds_0 rfl (lv_at hl 1 rfl) ?_
  refine z_swIn hx hb 1 39 rfl (by decide) dX10_folds_1 (by decide) (by decide) rfl (by decide) ?_
  refine lv_aload_n hx hb dX10_folds_39 rfl (lv_at hl 0 rfl) ?_
  refine z_bipush hx hb 82 dX10_folds_40 rfl ?_
  refine z_cVv (As := [vI 82]) (rest := []) ⟨hx, hb, hml, hown, hts⟩ hK hP hD hS hA [0, 1, 2] [] rfl rfl rfl (c_X10_turnW l g q a (uI x 9 S.2.2) S 82 (by omega) hz hk0 hk1) (cwV 1 hts gX10_folds_X10_turnW rfl rfl rfl (by decide +kernel) ⟨Nat.le_of_ble_eq_true rfl, Nat.le_of_ble_eq_true rfl⟩) 10 0 rfl rfl rfl (fun _ _ _ _ _ _ => trivial) (fun _ _ _ => trivial) rfl hl.1 (Nat.le_of_ble_eq_true rfl) rfl dX10_folds_42 ⟨Nat.le_of_ble_eq_true rfl, Nat.le_of_ble_eq_true rfl⟩ (fun u_1 H locs hwu_1 hP hD hS => ?_)
  try dsimp only at hwu_1
  have hP : zP g [[mdl q a (uI x 9 (rTn 82 S).2.2)], [((a 0), .inl (g.2 1, 88, .inr (.inl (aL (rTn 82 S).1))))], [((a 1), .inl (g.2 1, 88, .inr (.inl (aL (rTn 82 S).2.1))))]] H := hP
  have hD : zD A [[mdl q a (uI x 9 (rTn 82 S).2.2)], [((a 0), .inl (g.2 1, 88, .inr (.inl (aL (rTn 82 S).1))))], [((a 1), .inl (g.2 1, 88, .inr (.inl (aL (rTn 82 S).2.1))))]] := hD
  obtain ⟨T_2, hT_2⟩ : ∃ T : RS, T = rTn 82 S := ⟨_, rfl⟩
  have hP : zP g [[mdl q a (uI x 9 T_2.2.2)], [((a 0), .inl (g.2 1, 88, .inr (.inl (aL T_2.1))))], [((a 1), .inl (g.2 1, 88, .inr (.inl (aL T_2.2.1))))]] H := by rw [hT_2]; exact hP
  have hD : zD A [[mdl q a (uI x 9 T_2.2.2)], [((a 0), .inl (g.2 1, 88, .inr (.inl (aL T_2.1))))], [((a 1), .inl (g.2 1, 88, .inr (.inl (aL T_2.2.1))))]] := by rw [hT_2]; exact hD
  have hZT_2 : T_2.2.2 = 0 ∨ T_2.2.2 = 1 := by rw [hT_2]; exact rTn_01 hz
  have hRT_2_0 : T_2.2.2 = 0 → rk T_2 xx := by rw [hT_2]; exact rTn_rk (by omega) (by omega) hk2
  have hRT_2_1 : T_2.2.2 = 0 → rk T_2 (xx + 1) := by rw [hT_2]; exact rTn_rk (by omega) (by omega) hk3
  have hNT_2_0 : T_2.2.2 = 0 → rk T_2 82 := by rw [hT_2]; exact rTn_r0 hk1
  have hNT_2_1 : T_2.2.2 = 0 → rk T_2 83 := by rw [hT_2]; exact rTn_r1 hk0 hk1
  refine lv_aload_n hx hb dX10_folds_45 rfl (lv_at hl 0 rfl) ?_
  refine z_bipush hx hb 82 dX10_folds_46 rfl ?_
  refine lv_iload_n hx hb dX10_folds_48 rfl (lv_at hl 2 rfl) ?_
  refine z_lconst hx hb 1 dX10_folds_49 rfl ?_
  refine z_cVv (As := [vI 82, vI ((xx : Nat) : Int), vL 1]) (rest := []) ⟨hx, hb, hml, hown, hts⟩ hK hP hD hS hA [0, 1, 2] [] rfl rfl rfl (c_X10_add l g q a (uI x 9 T_2.2.2) T_2 82 xx 1 (by omega) (by omega) hZT_2 (by omega) (by omega) hNT_2_0 hNT_2_1 hRT_2_0 hRT_2_1) (cwV 3 hts gX10_folds_X10_add rfl rfl rfl (by decide +kernel) ⟨Nat.le_of_ble_eq_true rfl, Nat.le_of_ble_eq_true rfl⟩) 10 0 rfl rfl rfl (fun _ _ _ _ _ _ => trivial) (fun _ _ _ => trivial) rfl hl.1 (Nat.le_of_ble_eq_true rfl) rfl dX10_folds_50 ⟨Nat.le_of_ble_eq_true rfl, Nat.le_of_ble_eq_true rfl⟩ (fun u_3 H locs hwu_3 hP hD hS => ?_)
  try dsimp only at hwu_3
  have hP : zP g [[mdl q a (uI x 9 (rAd 82 xx 1 T_2).2.2)], [((a 0), .inl (g.2 1, 88, .inr (.inl (aL (rAd 82 xx 1 T_2).1))))], [((a 1), .inl (g.2 1, 88, .inr (.inl (aL (rAd 82 xx 1 T_2).2.1))))]] H := hP
  have hD : zD A [[mdl q a (uI x 9 (rAd 82 xx 1 T_2).2.2)], [((a 0), .inl (g.2 1, 88, .inr (.inl (aL (rAd 82 xx 1 T_2).1))))], [((a 1), .inl (g.2 1, 88, .inr (.inl (aL (rAd 82 xx 1 T_2).2.1))))]] := hD
  obtain ⟨T_4, hT_4⟩ : ∃ T : RS, T = rAd 82 xx 1 T_2 := ⟨_, rfl⟩
  have hP : zP g [[mdl q a (uI x 9 T_4.2.2)], [((a 0), .inl (g.2 1, 88, .inr (.inl (aL T_4.1))))], [((a 1), .inl (g.2 1, 88, .inr (.inl (aL T_4.2.1))))]] H := by rw [hT_4]; exact hP
  have hD : zD A [[mdl q a (uI x 9 T_4.2.2)], [((a 0), .inl (g.2 1, 88, .inr (.inl (aL T_4.1))))], [((a 1), .inl (g.2 1, 88, .inr (.inl (aL T_4.2.1))))]] := by rw [hT_4]; exact hD
  have hZT_4 : T_4.2.2 = 0 ∨ T_4.2.2 = 1 := by rw [hT_4]; exact rAd_01 hZT_2
  refine lv_goto (tgt := 109) hx hb dX10_folds_53 (by decide) ?_
  have hF : rFd 1 xx S = T_4 := by rw [hT_4, hT_2]; rfl
  exact z_retv () [0, 1, 2] hx hb hr hlocks hK hP hD hS trivial rfl rfl (by rw [hF]; rfl) (Nat.le_of_ble_eq_true rfl) (Nat.le_of_ble_eq_true rfl) dX10_folds_109

set_option maxHeartbeats 4000000 in
set_option maxRecDepth 100000 in
theorem c_X10_folds2 (l : Launch) (g : zG) (q : Nat) (a : Nat → Nat) (x : Nat → Int) (S : RS) (xx : Nat) (hb1 : xx < 71) (hz : S.2.2 = 0 ∨ S.2.2 = 1) (hk0 : S.2.2 = 0 → rk S 82) (hk1 : S.2.2 = 0 → rk S 83) (hk2 : S.2.2 = 0 → rk S xx) (hk3 : S.2.2 = 0 → rk S (xx + 1)) : zMet l g yX10_folds wsX10_folds 5 0 0 [.ref q, vI 2, vI ((xx : Nat) : Int)] zX0 [[mdl q a (uI x 9 S.2.2)], [((a 0), .inl (g.2 1, 88, .inr (.inl (aL S.1))))], [((a 1), .inl (g.2 1, 88, .inr (.inl (aL S.2.1))))]] (qv g (fun (_ : Unit) => True) (fun (_ : Unit) => [[mdl q a (uI x 9 (rFd 2 xx S).2.2)], [((a 0), .inl (g.2 1, 88, .inr (.inl (aL (rFd 2 xx S).1))))], [((a 1), .inl (g.2 1, 88, .inr (.inl (aL (rFd 2 xx S).2.1))))]])) := by
  refine z_ent (cc := cX10_folds) (maxL := 3) (ret := none) (by decide) rfl (Nat.le_of_ble_eq_true rfl) ?_
  intro p e s m below meth c A ls hx hb hr hml hown hts hlocks hin0 hA hK hP hD hS hXX hl
  have hown : s.vm.findClass RX10 = some m.cls := hown
  have hin10_ : ∀ w ∈ wsX100, w ∈ wsX10_folds := zw_in [50, 51, 52, 53, 54, 55, 56, 57, 58, 59, 60, 61, 62, 63, 64, 65, 66, 67, 68, 69, 70, 71, 72, 73, 74, 75] rfl
  have hl : lv_has ls 3 [(0, .ref q), (1, vI 2), (2, vI ((xx : Nat) : Int))] := hl
  refine lv_iload_n hx hb dX10_folds_0 rfl (lv_at hl 1 rfl) ?_
  refine z_swIn hx hb 2 56 rfl (by decide) dX10_folds_1 (by decide) (by decide) rfl (by decide) ?_
  refine lv_aload_n hx hb dX10_folds_56 rfl (lv_at hl 0 rfl) ?_
  refine z_bipush hx hb 78 dX10_folds_57 rfl ?_
  refine z_bipush hx hb 82 dX10_folds_59 rfl ?_
  refine z_cVv (As := [vI 78, vI 82]) (rest := []) ⟨hx, hb, hml, hown, hts⟩ hK hP hD hS hA [0, 1, 2] [] rfl rfl rfl (c_X10_norm l g q a (uI x 9 S.2.2) S 78 82 (by omega) (by omega) hz (by omega) hk0 hk1) (cwV 2 hts gX10_folds_X10_norm rfl rfl rfl (by decide +kernel) ⟨Nat.le_of_ble_eq_true rfl, Nat.le_of_ble_eq_true rfl⟩) 10 0 rfl rfl rfl (fun _ _ _ _ _ _ => trivial) (fun _ _ _ => trivial) rfl hl.1 (Nat.le_of_ble_eq_true rfl) rfl dX10_folds_61 ⟨Nat.le_of_ble_eq_true rfl, Nat.le_of_ble_eq_true rfl⟩ (fun u_1 H locs hwu_1 hP hD hS => ?_)
  try dsimp only at hwu_1
  have hP : zP g [[mdl q a (uI x 9 (rNm 78 82 S).2.2)], [((a 0), .inl (g.2 1, 88, .inr (.inl (aL (rNm 78 82 S).1))))], [((a 1), .inl (g.2 1, 88, .inr (.inl (aL (rNm 78 82 S).2.1))))]] H := hP
  have hD : zD A [[mdl q a (uI x 9 (rNm 78 82 S).2.2)], [((a 0), .inl (g.2 1, 88, .inr (.inl (aL (rNm 78 82 S).1))))], [((a 1), .inl (g.2 1, 88, .inr (.inl (aL (rNm 78 82 S).2.1))))]] := hD
  obtain ⟨T_2, hT_2⟩ : ∃ T : RS, T = rNm 78 82 S := ⟨_, rfl⟩
  have hP : zP g [[mdl q a (uI x 9 T_2.2.2)], [((a 0), .inl (g.2 1, 88, .inr (.inl (aL T_2.1))))], [((a 1), .inl (g.2 1, 88, .inr (.inl (aL T_2.2.1))))]] H := by rw [hT_2]; exact hP
  have hD : zD A [[mdl q a (uI x 9 T_2.2.2)], [((a 0), .inl (g.2 1, 88, .inr (.inl (aL T_2.1))))], [((a 1), .inl (g.2 1, 88, .inr (.inl (aL T_2.2.1))))]] := by rw [hT_2]; exact hD
  have hZT_2 : T_2.2.2 = 0 ∨ T_2.2.2 = 1 := by rw [hT_2]; exact rNm_01 hz
  have hRT_2_0 : T_2.2.2 = 0 → rk T_2 82 := by rw [hT_2]; exact rNm_rk (by omega) (by omega) hk0
  have hRT_2_1 : T_2.2.2 = 0 → rk T_2 83 := by rw [hT_2]; exact rNm_rk (by omega) (by omega) hk1
  have hRT_2_2 : T_2.2.2 = 0 → rk T_2 xx := by rw [hT_2]; exact rNm_rk (by omega) (by omega) hk2
  have hRT_2_3 : T_2.2.2 = 0 → rk T_2 (xx + 1) := by rw [hT_2]; exact rNm_rk (by omega) (by omega) hk3
  have hNT_2_0 : T_2.2.2 = 0 → rk T_2 78 := by rw [hT_2]; exact rNm_rt (by omega) (by omega) (by omega) (by omega) (by omega) hk0 hk1
  refine lv_aload_n hx hb dX10_folds_64 rfl (lv_at hl 0 rfl) ?_
  refine z_bipush hx hb 79 dX10_folds_65 rfl ?_
  refine lv_iload_n hx hb dX10_folds_67 rfl (lv_at hl 2 rfl) ?_
  refine z_cVv (As := [vI 79, vI ((xx : Nat) : Int)]) (rest := []) ⟨hx, hb, hml, hown, hts⟩ hK hP hD hS hA [0, 1, 2] [] rfl rfl rfl (c_X10_norm l g q a (uI x 9 T_2.2.2) T_2 79 xx (by omega) (by omega) hZT_2 (by omega) hRT_2_2 hRT_2_3) (cwV 2 hts gX10_folds_X10_norm rfl rfl rfl (by decide +kernel) ⟨Nat.le_of_ble_eq_true rfl, Nat.le_of_ble_eq_true rfl⟩) 10 0 rfl rfl rfl (fun _ _ _ _ _ _ => trivial) (fun _ _ _ => trivial) rfl hl.1 (Nat.le_of_ble_eq_true rfl) rfl dX10_folds_68 ⟨Nat.le_of_ble_eq_true rfl, Nat.le_of_ble_eq_true rfl⟩ (fun u_3 H locs hwu_3 hP hD hS => ?_)
  try dsimp only at hwu_3
  have hP : zP g [[mdl q a (uI x 9 (rNm 79 xx T_2).2.2)], [((a 0), .inl (g.2 1, 88, .inr (.inl (aL (rNm 79 xx T_2).1))))], [((a 1), .inl (g.2 1, 88, .inr (.inl (aL (rNm 79 xx T_2).2.1))))]] H := hP
  have hD : zD A [[mdl q a (uI x 9 (rNm 79 xx T_2).2.2)], [((a 0), .inl (g.2 1, 88, .inr (.inl (aL (rNm 79 xx T_2).1))))], [((a 1), .inl (g.2 1, 88, .inr (.inl (aL (rNm 79 xx T_2).2.1))))]] := hD
  obtain ⟨T_4, hT_4⟩ : ∃ T : RS, T = rNm 79 xx T_2 := ⟨_, rfl⟩
  have hP : zP g [[mdl q a (uI x 9 T_4.2.2)], [((a 0), .inl (g.2 1, 88, .inr (.inl (aL T_4.1))))], [((a 1), .inl (g.2 1, 88, .inr (.inl (aL T_4.2.1))))]] H := by rw [hT_4]; exact hP
  have hD : zD A [[mdl q a (uI x 9 T_4.2.2)], [((a 0), .inl (g.2 1, 88, .inr (.inl (aL T_4.1))))], [((a 1), .inl (g.2 1, 88, .inr (.inl (aL T_4.2.1))))]] := by rw [hT_4]; exact hD
  have hZT_4 : T_4.2.2 = 0 ∨ T_4.2.2 = 1 := by rw [hT_4]; exact rNm_01 hZT_2
  have hRT_4_0 : T_4.2.2 = 0 → rk T_4 78 := by rw [hT_4]; exact rNm_rk (by omega) (by omega) hNT_2_0
  have hRT_4_1 : T_4.2.2 = 0 → rk T_4 82 := by rw [hT_4]; exact rNm_rk (by omega) (by omega) hRT_2_0
  have hRT_4_2 : T_4.2.2 = 0 → rk T_4 83 := by rw [hT_4]; exact rNm_rk (by omega) (by omega) hRT_2_1
  have hRT_4_3 : T_4.2.2 = 0 → rk T_4 xx := by rw [hT_4]; exact rNm_rk (by omega) (by omega) hRT_2_2
  have hRT_4_4 : T_4.2.2 = 0 → rk T_4 (xx + 1) := by rw [hT_4]; exact rNm_rk (by omega) (by omega) hRT_2_3
  have hNT_4_0 : T_4.2.2 = 0 → rk T_4 79 := by rw [hT_4]; exact rNm_rt (by omega) (by omega) (by omega) (by omega) (by omega) hRT_2_2 hRT_2_3
  refine lv_aload_n hx hb dX10_folds_71 rfl (lv_at hl 0 rfl) ?_
  refine z_get hx hb hts hin10_ hown hK hP 0 rfl rfl 22 (by decide) (hts _ (List.mem_of_getElem? (i := 1) rfl)) rfl dX10_folds_72 ?_
  refine z_toI T_4.2.2 rfl ?_
  refine z_if_ne (tgt := 109) hx hb (by omega) dX10_folds_75 (by decide) (fun cq5 => ?_) (fun cq5 => ?_)
  · have hE : T_4 = rNm 79 xx (rNm 78 82 S) := by rw [hT_4, hT_2]
    have hF := rFd_2n hE (by omega)
    exact z_retv () [0, 1, 2] hx hb hr hlocks hK hP hD hS trivial rfl rfl (by rw [hF]; rfl) (Nat.le_of_ble_eq_true rfl) (Nat.le_of_ble_eq_true rfl) dX10_folds_109
  · refine lv_aload_n hx hb dX10_folds_78 rfl (lv_at hl 0 rfl) ?_
    refine z_bipush hx hb 79 dX10_folds_79 rfl ?_
    refine z_bipush hx hb 78 dX10_folds_81 rfl ?_
    refine z_cVi (As := [vI 79, vI 78]) (rest := []) ⟨hx, hb, hml, hown, hts⟩ hK hP hD hS hA [0, 1, 2] [] rfl rfl rfl (c_X10_isGreater l g q a (uI x 9 T_4.2.2) T_4 79 78 (by decide) (by decide) (hNT_4_0 (by omega)) (hRT_4_0 (by omega))) (cwV 2 hts gX10_folds_X10_isGreater rfl rfl rfl (by decide +kernel) ⟨Nat.le_of_ble_eq_true rfl, Nat.le_of_ble_eq_true rfl⟩) 10 0 rfl rfl rfl (fun _ _ _ _ _ _ => trivial) (fun _ _ _ => trivial) rfl hl.1 (Nat.le_of_ble_eq_true rfl) rfl dX10_folds_83 ⟨Nat.le_of_ble_eq_true rfl, Nat.le_of_ble_eq_true rfl⟩ (fun u_6 H locs hwu_6 hP hD hS => ?_)
    try dsimp only at hwu_6
    have hP : zP g [[mdl q a (uI x 9 T_4.2.2)], [((a 0), .inl (g.2 1, 88, .inr (.inl (aL T_4.1))))], [((a 1), .inl (g.2 1, 88, .inr (.inl (aL T_4.2.1))))]] H := hP
    have hD : zD A [[mdl q a (uI x 9 T_4.2.2)], [((a 0), .inl (g.2 1, 88, .inr (.inl (aL T_4.1))))], [((a 1), .inl (g.2 1, 88, .inr (.inl (aL T_4.2.1))))]] := hD
    refine z_toI (rGt 79 78 T_4) rfl ?_
    have hf_7 := rGt_01 79 78 T_4
    refine z_if_eq (tgt := 109) hx hb (by omega) dX10_folds_86 (by decide) (fun cq8 => ?_) (fun cq8 => ?_)
    · have hE : T_4 = rNm 79 xx (rNm 78 82 S) := by rw [hT_4, hT_2]
      have hF := rFd_2m hE (by omega)
      exact z_retv () [0, 1, 2] hx hb hr hlocks hK hP hD hS trivial rfl rfl (by rw [hF]; rfl) (Nat.le_of_ble_eq_true rfl) (Nat.le_of_ble_eq_true rfl) dX10_folds_109
    · refine lv_aload_n hx hb dX10_folds_89 rfl (lv_at hl 0 rfl) ?_
      refine z_bipush hx hb 82 dX10_folds_90 rfl ?_
      refine lv_iload_n hx hb dX10_folds_92 rfl (lv_at hl 2 rfl) ?_
      refine z_cVv (As := [vI 82, vI ((xx : Nat) : Int)]) (rest := []) ⟨hx, hb, hml, hown, hts⟩ hK hP hD hS hA [0, 1, 2] [] rfl rfl rfl (c_X10_copyTo l g q a (uI x 9 T_4.2.2) T_4 82 xx (by omega) (by omega)) (cwV 2 hts gX10_folds_X10_copyTo rfl rfl rfl (by decide +kernel) ⟨Nat.le_of_ble_eq_true rfl, Nat.le_of_ble_eq_true rfl⟩) 10 0 rfl rfl rfl (fun _ _ _ _ _ _ => trivial) (fun _ _ _ => trivial) rfl hl.1 (Nat.le_of_ble_eq_true rfl) rfl dX10_folds_93 ⟨Nat.le_of_ble_eq_true rfl, Nat.le_of_ble_eq_true rfl⟩ (fun u_9 H locs hwu_9 hP hD hS => ?_)
      try dsimp only at hwu_9
      have hP : zP g [[mdl q a (uI x 9 T_4.2.2)], [((a 0), .inl (g.2 1, 88, .inr (.inl (aL (rCp 82 xx T_4).1))))], [((a 1), .inl (g.2 1, 88, .inr (.inl (aL (rCp 82 xx T_4).2.1))))]] H := hP
      have hD : zD A [[mdl q a (uI x 9 T_4.2.2)], [((a 0), .inl (g.2 1, 88, .inr (.inl (aL (rCp 82 xx T_4).1))))], [((a 1), .inl (g.2 1, 88, .inr (.inl (aL (rCp 82 xx T_4).2.1))))]] := hD
      obtain ⟨T_10, hT_10⟩ : ∃ T : RS, T = rCp 82 xx T_4 := ⟨_, rfl⟩
      have hP : zP g [[mdl q a (uI x 9 T_10.2.2)], [((a 0), .inl (g.2 1, 88, .inr (.inl (aL T_10.1))))], [((a 1), .inl (g.2 1, 88, .inr (.inl (aL T_10.2.1))))]] H := by rw [hT_10]; exact hP
      have hD : zD A [[mdl q a (uI x 9 T_10.2.2)], [((a 0), .inl (g.2 1, 88, .inr (.inl (aL T_10.1))))], [((a 1), .inl (g.2 1, 88, .inr (.inl (aL T_10.2.1))))]] := by rw [hT_10]; exact hD
      have hZT_10 : T_10.2.2 = 0 ∨ T_10.2.2 = 1 := by rw [hT_10]; exact hZT_4
      refine lv_goto (tgt := 109) hx hb dX10_folds_96 (by decide) ?_
      have hE : T_4 = rNm 79 xx (rNm 78 82 S) := by rw [hT_4, hT_2]
      have hF := rFd_2y hE (by omega) (by omega)
      rw [← hT_10] at hF
      exact z_retv () [0, 1, 2] hx hb hr hlocks hK hP hD hS trivial rfl rfl (by rw [hF]; rfl) (Nat.le_of_ble_eq_true rfl) (Nat.le_of_ble_eq_true rfl) dX10_folds_109

set_option maxHeartbeats 4000000 in
set_option maxRecDepth 100000 in
theorem c_X10_folds3 (l : Launch) (g : zG) (q : Nat) (a : Nat → Nat) (x : Nat → Int) (S : RS) (xx : Nat) (hb1 : xx < 71) (hz : S.2.2 = 0 ∨ S.2.2 = 1) (hk0 : S.2.2 = 0 → rk S 82) (hk1 : S.2.2 = 0 → rk S 83) (hk2 : S.2.2 = 0 → rk S xx) (hk3 : S.2.2 = 0 → rk S (xx + 1)) : zMet l g yX10_folds wsX10_folds 5 0 0 [.ref q, vI 3, vI ((xx : Nat) : Int)] zX0 [[mdl q a (uI x 9 S.2.2)], [((a 0), .inl (g.2 1, 88, .inr (.inl (aL S.1))))], [((a 1), .inl (g.2 1, 88, .inr (.inl (aL S.2.1))))]] (qv g (fun (_ : Unit) => True) (fun (_ : Unit) => [[mdl q a (uI x 9 (rFd 3 xx S).2.2)], [((a 0), .inl (g.2 1, 88, .inr (.inl (aL (rFd 3 xx S).1))))], [((a 1), .inl (g.2 1, 88, .inr (.inl (aL (rFd 3 xx S).2.1))))]])) := by
  refine z_ent (cc := cX10_folds) (maxL := 3) (ret := none) (by decide) rfl (Nat.le_of_ble_eq_true rfl) ?_
  intro p e s m below meth c A ls hx hb hr hml hown hts hlocks hin0 hA hK hP hD hS hXX hl
  have hown : s.vm.findClass RX10 = some m.cls := hown
  have hl : lv_has ls 3 [(0, .ref q), (1, vI 3), (2, vI ((xx : Nat) : Int))] := hl
  refine lv_iload_n hx hb dX10_folds_0 rfl (lv_at hl 1 rfl) ?_
  refine z_swOut hx hb 99 (by decide) dX10_folds_1 (by decide) (by decide) ?_
  refine lv_aload_n hx hb dX10_folds_99 rfl (lv_at hl 0 rfl) ?_
  refine z_bipush hx hb 82 dX10_folds_100 rfl ?_
  refine lv_iload_n hx hb dX10_folds_102 rfl (lv_at hl 2 rfl) ?_
  refine z_ldc2 hx hb (-1) hown (hts _ (List.mem_of_getElem? (i := 2) rfl)) rfl dX10_folds_103 ?_
  refine z_cVv (As := [vI 82, vI ((xx : Nat) : Int), vL (-1)]) (rest := []) ⟨hx, hb, hml, hown, hts⟩ hK hP hD hS hA [0, 1, 2] [] rfl rfl rfl (c_X10_add l g q a (uI x 9 S.2.2) S 82 xx (-1) (by omega) (by omega) hz (by omega) (by omega) hk0 hk1 hk2 hk3) (cwV 3 hts gX10_folds_X10_add rfl rfl rfl (by decide +kernel) ⟨Nat.le_of_ble_eq_true rfl, Nat.le_of_ble_eq_true rfl⟩) 10 0 rfl rfl rfl (fun _ _ _ _ _ _ => trivial) (fun _ _ _ => trivial) rfl hl.1 (Nat.le_of_ble_eq_true rfl) rfl dX10_folds_106 ⟨Nat.le_of_ble_eq_true rfl, Nat.le_of_ble_eq_true rfl⟩ (fun u_1 H locs hwu_1 hP hD hS => ?_)
  try dsimp only at hwu_1
  have hP : zP g [[mdl q a (uI x 9 (rAd 82 xx (-1) S).2.2)], [((a 0), .inl (g.2 1, 88, .inr (.inl (aL (rAd 82 xx (-1) S).1))))], [((a 1), .inl (g.2 1, 88, .inr (.inl (aL (rAd 82 xx (-1) S).2.1))))]] H := hP
  have hD : zD A [[mdl q a (uI x 9 (rAd 82 xx (-1) S).2.2)], [((a 0), .inl (g.2 1, 88, .inr (.inl (aL (rAd 82 xx (-1) S).1))))], [((a 1), .inl (g.2 1, 88, .inr (.inl (aL (rAd 82 xx (-1) S).2.1))))]] := hD
  obtain ⟨T_2, hT_2⟩ : ∃ T : RS, T = rAd 82 xx (-1) S := ⟨_, rfl⟩
  have hP : zP g [[mdl q a (uI x 9 T_2.2.2)], [((a 0), .inl (g.2 1, 88, .inr (.inl (aL T_2.1))))], [((a 1), .inl (g.2 1, 88, .inr (.inl (aL T_2.2.1))))]] H := by rw [hT_2]; exact hP
  have hD : zD A [[mdl q a (uI x 9 T_2.2.2)], [((a 0), .inl (g.2 1, 88, .inr (.inl (aL T_2.1))))], [((a 1), .inl (g.2 1, 88, .inr (.inl (aL T_2.2.1))))]] := by rw [hT_2]; exact hD
  have hZT_2 : T_2.2.2 = 0 ∨ T_2.2.2 = 1 := by rw [hT_2]; exact rAd_01 hz
  have hF : rFd 3 xx S = T_2 := by rw [hT_2]; rfl
  exact z_retv () [0, 1, 2] hx hb hr hlocks hK hP hD hS trivial rfl rfl (by rw [hF]; rfl) (Nat.le_of_ble_eq_true rfl) (Nat.le_of_ble_eq_true rfl) dX10_folds_109
