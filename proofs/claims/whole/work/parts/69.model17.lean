set_option maxHeartbeats 4000000 in
set_option maxRecDepth 100000 in
theorem c_X10_most_out (l : Launch) (g : zG) (q : Nat) (a : Nat → Nat) (x : Nat → Int) (w : Int) (hw : -2147483648 ≤ w ∧ w < 2147483648) (ho : ¬ (0 ≤ w ∧ w ≤ 2)) : zMet l g yX10_most wsX10_most 1 0 0 [.ref q, vI w] zX0 [[mdl q a x]] (qi g (fun (_ : Unit) => (-2000000002)) (fun (_ : Unit) => True) (fun (_ : Unit) => [[mdl q a x]])) := by
  refine z_ent (cc := cX10_most) (maxL := 5) (ret := (some .int)) (by decide) rfl (Nat.le_of_ble_eq_true rfl) ?_
  intro p e s m below meth c A ls hx hb hr hml hown hts hlocks hin0 hA hK hP hD hS hXX hl
  have hown : s.vm.findClass RX10 = some m.cls := hown
  have hl : lv_has ls 5 [(0, .ref q), (1, vI w)] := hl
  refine lv_iload_n hx hb dX10_most_0 rfl (lv_at hl 1 rfl) ?_
  refine z_i2l hx hb (by omega) dX10_most_1 ?_
  refine z_lconst hx hb 0 dX10_most_2 rfl ?_
  refine z_ldc2 hx hb 2 hown (hts _ (List.mem_of_getElem? (i := 1) rfl)) rfl dX10_most_3 ?_
  refine z_cSi (As := [vL w, vL 0, vL 2]) (rest := []) ⟨hx, hb, hml, hown, hts⟩ hK hP hD hS hA [] [0] rfl rfl rfl (c_X10_in l g w 0 2 (by first | decide | omega) (by first | decide | omega) (by first | decide | omega)) (va_cwS 3 hts gX10_most_X10_in rfl rfl rfl (by decide +kernel) ⟨Nat.le_of_ble_eq_true rfl, Nat.le_of_ble_eq_true rfl⟩) (fun _ _ _ _ _ _ => trivial) (fun _ _ _ => trivial) rfl hl.1 (Nat.le_of_ble_eq_true rfl) rfl dX10_most_6 ⟨Nat.le_of_ble_eq_true rfl, Nat.le_of_ble_eq_true rfl⟩ (fun u_1 H locs hwu_1 hP hD hS => ?_)
  try dsimp only at hwu_1
  have hP : zP g [[mdl q a x]] H := hP
  have hD : zD A [[mdl q a x]] := hD
  refine z_toI (inI w 0 2) rfl ?_
  have hf_2 := inI_s w 0 2
  refine z_if_ne (tgt := 15) hx hb (by omega) dX10_most_9 (by decide) (fun cq3 => False.elim (by omega)) (fun cq3 => ?_)
  refine z_ldc hx hb (-2000000002) hown (hts _ (List.mem_of_getElem? (i := 2) rfl)) rfl dX10_most_12 ?_
  exact z_reti () [0] hx hb hr rfl hlocks hK hP hD hS (rfl) trivial rfl rfl (rfl) (Nat.le_of_ble_eq_true rfl) (Nat.le_of_ble_eq_true rfl) dX10_most_14

set_option maxHeartbeats 4000000 in
set_option maxRecDepth 100000 in
theorem c_X10_most2 (l : Launch) (g : zG) (q : Nat) (a : Nat → Nat) (x : Nat → Int) (S : RS) (hz : S.2.2 = 0 ∨ S.2.2 = 1) (hk : ∀ k, k < 6 → rk S k) : zMet l g yX10_most wsX10_most 5 0 0 [.ref q, vI 2] zX0 [[mdl q a (uI x 9 S.2.2)], [((a 0), .inl (g.2 1, 88, .inr (.inl (aL S.1))))], [((a 1), .inl (g.2 1, 88, .inr (.inl (aL S.2.1))))]] (qi g (fun (_ : Unit) => (if (rAd 82 4 1 (rAd 82 2 1 (rCp 82 0 (rZ0 S)))).2.2 = 0 then (if (rAd 82 4 1 (rAd 82 2 1 (rCp 82 0 (rZ0 S)))).1 82 = 0 ∧ (rAd 82 4 1 (rAd 82 2 1 (rCp 82 0 (rZ0 S)))).1 83 = 0 then 1 else 0) else -2000000004)) (fun (_ : Unit) => True) (fun (_ : Unit) => [[mdl q a (uI x 9 (rAd 82 4 1 (rAd 82 2 1 (rCp 82 0 (rZ0 S)))).2.2)], [((a 0), .inl (g.2 1, 88, .inr (.inl (aL (rAd 82 4 1 (rAd 82 2 1 (rCp 82 0 (rZ0 S)))).1))))], [((a 1), .inl (g.2 1, 88, .inr (.inl (aL (rAd 82 4 1 (rAd 82 2 1 (rCp 82 0 (rZ0 S)))).2.1))))]])) := by
  refine z_ent (cc := cX10_most) (maxL := 5) (ret := (some .int)) (by decide) rfl (Nat.le_of_ble_eq_true rfl) ?_
  intro p e s m below meth c A ls hx hb hr hml hown hts hlocks hin0 hA hK hP hD hS hXX hl
  have hown : s.vm.findClass RX10 = some m.cls := hown
  have hin10_ : ∀ w ∈ wsX100, w ∈ wsX10_most := zw_in [49, 50, 51, 52, 53, 54, 55, 56, 57, 58, 59, 60, 61, 62, 63, 64, 65, 66, 67, 68, 69, 70, 71, 72, 73, 74] rfl
  have hl : lv_has ls 5 [(0, .ref q), (1, vI 2)] := hl
  refine lv_iload_n hx hb dX10_most_0 rfl (lv_at hl 1 rfl) ?_
  refine z_i2l hx hb (by decide) dX10_most_1 ?_
  refine z_lconst hx hb 0 dX10_most_2 rfl ?_
  refine z_ldc2 hx hb 2 hown (hts _ (List.mem_of_getElem? (i := 1) rfl)) rfl dX10_most_3 ?_
  refine z_cSi (As := [vL 2, vL 0, vL 2]) (rest := []) ⟨hx, hb, hml, hown, hts⟩ hK hP hD hS hA [] [0, 1, 2] rfl rfl rfl (c_X10_in l g 2 0 2 (by first | decide | omega) (by first | decide | omega) (by first | decide | omega)) (va_cwS 3 hts gX10_most_X10_in rfl rfl rfl (by decide +kernel) ⟨Nat.le_of_ble_eq_true rfl, Nat.le_of_ble_eq_true rfl⟩) (fun _ _ _ _ _ _ => trivial) (fun _ _ _ => trivial) rfl hl.1 (Nat.le_of_ble_eq_true rfl) rfl dX10_most_6 ⟨Nat.le_of_ble_eq_true rfl, Nat.le_of_ble_eq_true rfl⟩ (fun u_1 H locs hwu_1 hP hD hS => ?_)
  try dsimp only at hwu_1
  have hP : zP g [[mdl q a (uI x 9 S.2.2)], [((a 0), .inl (g.2 1, 88, .inr (.inl (aL S.1))))], [((a 1), .inl (g.2 1, 88, .inr (.inl (aL S.2.1))))]] H := hP
  have hD : zD A [[mdl q a (uI x 9 S.2.2)], [((a 0), .inl (g.2 1, 88, .inr (.inl (aL S.1))))], [((a 1), .inl (g.2 1, 88, .inr (.inl (aL S.2.1))))]] := hD
  refine z_toI (inI 2 0 2) rfl ?_
  have hf_2 := inI_s 2 0 2
  refine z_if_ne (tgt := 15) hx hb (by omega) dX10_most_9 (by decide) (fun cq3 => ?_) (fun cq3 => False.elim (by omega))
  refine lv_aload_n hx hb dX10_most_15 rfl (lv_at hl 0 rfl) ?_
  refine z_iconst hx hb dX10_most_16 rfl ?_
  refine z_put hx hb hts hin10_ tyX10 tyX10_ok nmX10 hown hK hP hD hS 0 rfl rfl 22 (by decide) (hts _ (List.mem_of_getElem? (i := 3) rfl)) rfl (nar_z (by decide)) (fit_z (by decide)) (Nat.le_of_ble_eq_true rfl) dX10_most_17 [[mdl q a (uI x 9 0)], [((a 0), .inl (g.2 1, 88, .inr (.inl (aL S.1))))], [((a 1), .inl (g.2 1, 88, .inr (.inl (aL S.2.1))))]] rfl (fun H locs hP hD hS => ?_)
  obtain ⟨T_4, hT_4⟩ : ∃ T : RS, T = rZ0  S := ⟨_, rfl⟩
  have hP : zP g [[mdl q a (uI x 9 T_4.2.2)], [((a 0), .inl (g.2 1, 88, .inr (.inl (aL T_4.1))))], [((a 1), .inl (g.2 1, 88, .inr (.inl (aL T_4.2.1))))]] H := by rw [hT_4]; exact hP
  have hD : zD A [[mdl q a (uI x 9 T_4.2.2)], [((a 0), .inl (g.2 1, 88, .inr (.inl (aL T_4.1))))], [((a 1), .inl (g.2 1, 88, .inr (.inl (aL T_4.2.1))))]] := by rw [hT_4]; exact hD
  have hZT_4 : T_4.2.2 = 0 ∨ T_4.2.2 = 1 := by rw [hT_4]; exact rZ0_01 hz
  have hNT_4_0 : T_4.2.2 = 0 → rk T_4 0 := by rw [hT_4]; exact rZ0_r (hk 0 (by decide)) 
  have hNT_4_1 : T_4.2.2 = 0 → rk T_4 1 := by rw [hT_4]; exact rZ0_r (hk 1 (by decide)) 
  have hNT_4_2 : T_4.2.2 = 0 → rk T_4 2 := by rw [hT_4]; exact rZ0_r (hk 2 (by decide)) 
  have hNT_4_3 : T_4.2.2 = 0 → rk T_4 3 := by rw [hT_4]; exact rZ0_r (hk 3 (by decide)) 
  have hNT_4_4 : T_4.2.2 = 0 → rk T_4 4 := by rw [hT_4]; exact rZ0_r (hk 4 (by decide)) 
  have hNT_4_5 : T_4.2.2 = 0 → rk T_4 5 := by rw [hT_4]; exact rZ0_r (hk 5 (by decide)) 
  refine lv_iload_n hx hb dX10_most_20 rfl (lv_at hl 1 rfl) ?_
  refine z_iconst hx hb dX10_most_21 rfl ?_
  refine z_icmp_ne (tgt := 90) hx hb (by decide) (by decide) dX10_most_22 (by decide) (fun cq5 => False.elim (by omega)) (fun cq5 => ?_)
  refine lv_aload_n hx hb dX10_most_25 rfl (lv_at hl 0 rfl) ?_
  refine z_bipush hx hb 82 dX10_most_26 rfl ?_
  refine z_iconst hx hb dX10_most_28 rfl ?_
  refine z_cVv (As := [vI 82, vI 0]) (rest := []) ⟨hx, hb, hml, hown, hts⟩ hK hP hD hS hA [0, 1, 2] [] rfl rfl rfl (c_X10_copyTo l g q a (uI x 9 T_4.2.2) T_4 82 0 (by omega) (by omega)) (cwV 2 hts gX10_most_X10_copyTo rfl rfl rfl (by decide +kernel) ⟨Nat.le_of_ble_eq_true rfl, Nat.le_of_ble_eq_true rfl⟩) 10 0 rfl rfl rfl (fun _ _ _ _ _ _ => trivial) (fun _ _ _ => trivial) rfl hl.1 (Nat.le_of_ble_eq_true rfl) rfl dX10_most_29 ⟨Nat.le_of_ble_eq_true rfl, Nat.le_of_ble_eq_true rfl⟩ (fun u_6 H locs hwu_6 hP hD hS => ?_)
  try dsimp only at hwu_6
  have hP : zP g [[mdl q a (uI x 9 T_4.2.2)], [((a 0), .inl (g.2 1, 88, .inr (.inl (aL (rCp 82 0 T_4).1))))], [((a 1), .inl (g.2 1, 88, .inr (.inl (aL (rCp 82 0 T_4).2.1))))]] H := hP
  have hD : zD A [[mdl q a (uI x 9 T_4.2.2)], [((a 0), .inl (g.2 1, 88, .inr (.inl (aL (rCp 82 0 T_4).1))))], [((a 1), .inl (g.2 1, 88, .inr (.inl (aL (rCp 82 0 T_4).2.1))))]] := hD
  obtain ⟨T_7, hT_7⟩ : ∃ T : RS, T = rCp 82 0 T_4 := ⟨_, rfl⟩
  have hP : zP g [[mdl q a (uI x 9 T_7.2.2)], [((a 0), .inl (g.2 1, 88, .inr (.inl (aL T_7.1))))], [((a 1), .inl (g.2 1, 88, .inr (.inl (aL T_7.2.1))))]] H := by rw [hT_7]; exact hP
  have hD : zD A [[mdl q a (uI x 9 T_7.2.2)], [((a 0), .inl (g.2 1, 88, .inr (.inl (aL T_7.1))))], [((a 1), .inl (g.2 1, 88, .inr (.inl (aL T_7.2.1))))]] := by rw [hT_7]; exact hD
  have hZT_7 : T_7.2.2 = 0 ∨ T_7.2.2 = 1 := by rw [hT_7]; exact hZT_4
  have hRT_7_0 : T_7.2.2 = 0 → rk T_7 2 := by rw [hT_7]; exact rCp_rk (by omega) (by omega) hNT_4_2
  have hRT_7_1 : T_7.2.2 = 0 → rk T_7 3 := by rw [hT_7]; exact rCp_rk (by omega) (by omega) hNT_4_3
  have hRT_7_2 : T_7.2.2 = 0 → rk T_7 4 := by rw [hT_7]; exact rCp_rk (by omega) (by omega) hNT_4_4
  have hRT_7_3 : T_7.2.2 = 0 → rk T_7 5 := by rw [hT_7]; exact rCp_rk (by omega) (by omega) hNT_4_5
  have hNT_7_0 : T_7.2.2 = 0 → rk T_7 82 := by rw [hT_7]; exact rCp_r0 hNT_4_0
  have hNT_7_1 : T_7.2.2 = 0 → rk T_7 83 := by rw [hT_7]; exact rCp_r1 (to := 82) (by omega) hNT_4_1
  refine lv_aload_n hx hb dX10_most_32 rfl (lv_at hl 0 rfl) ?_
  refine z_bipush hx hb 82 dX10_most_33 rfl ?_
  refine z_iconst hx hb dX10_most_35 rfl ?_
  refine z_lconst hx hb 1 dX10_most_36 rfl ?_
  refine z_cVv (As := [vI 82, vI 2, vL 1]) (rest := []) ⟨hx, hb, hml, hown, hts⟩ hK hP hD hS hA [0, 1, 2] [] rfl rfl rfl (c_X10_add l g q a (uI x 9 T_7.2.2) T_7 82 2 1 (by omega) (by omega) hZT_7 (by omega) (by omega) hNT_7_0 hNT_7_1 hRT_7_0 hRT_7_1) (cwV 3 hts gX10_most_X10_add rfl rfl rfl (by decide +kernel) ⟨Nat.le_of_ble_eq_true rfl, Nat.le_of_ble_eq_true rfl⟩) 10 0 rfl rfl rfl (fun _ _ _ _ _ _ => trivial) (fun _ _ _ => trivial) rfl hl.1 (Nat.le_of_ble_eq_true rfl) rfl dX10_most_37 ⟨Nat.le_of_ble_eq_true rfl, Nat.le_of_ble_eq_true rfl⟩ (fun u_8 H locs hwu_8 hP hD hS => ?_)
  try dsimp only at hwu_8
  have hP : zP g [[mdl q a (uI x 9 (rAd 82 2 1 T_7).2.2)], [((a 0), .inl (g.2 1, 88, .inr (.inl (aL (rAd 82 2 1 T_7).1))))], [((a 1), .inl (g.2 1, 88, .inr (.inl (aL (rAd 82 2 1 T_7).2.1))))]] H := hP
  have hD : zD A [[mdl q a (uI x 9 (rAd 82 2 1 T_7).2.2)], [((a 0), .inl (g.2 1, 88, .inr (.inl (aL (rAd 82 2 1 T_7).1))))], [((a 1), .inl (g.2 1, 88, .inr (.inl (aL (rAd 82 2 1 T_7).2.1))))]] := hD
  obtain ⟨T_9, hT_9⟩ : ∃ T : RS, T = rAd 82 2 1 T_7 := ⟨_, rfl⟩
  have hP : zP g [[mdl q a (uI x 9 T_9.2.2)], [((a 0), .inl (g.2 1, 88, .inr (.inl (aL T_9.1))))], [((a 1), .inl (g.2 1, 88, .inr (.inl (aL T_9.2.1))))]] H := by rw [hT_9]; exact hP
  have hD : zD A [[mdl q a (uI x 9 T_9.2.2)], [((a 0), .inl (g.2 1, 88, .inr (.inl (aL T_9.1))))], [((a 1), .inl (g.2 1, 88, .inr (.inl (aL T_9.2.1))))]] := by rw [hT_9]; exact hD
  have hZT_9 : T_9.2.2 = 0 ∨ T_9.2.2 = 1 := by rw [hT_9]; exact rAd_01 hZT_7
  have hRT_9_0 : T_9.2.2 = 0 → rk T_9 4 := by rw [hT_9]; exact rAd_rk (by omega) (by omega) hRT_7_2
  have hRT_9_1 : T_9.2.2 = 0 → rk T_9 5 := by rw [hT_9]; exact rAd_rk (by omega) (by omega) hRT_7_3
  have hNT_9_0 : T_9.2.2 = 0 → rk T_9 82 := by rw [hT_9]; exact rAd_r0 hNT_7_0 hRT_7_0
  have hNT_9_1 : T_9.2.2 = 0 → rk T_9 83 := by rw [hT_9]; exact rAd_r1 (to := 82) (by omega) hNT_7_1 hRT_7_1
  refine lv_aload_n hx hb dX10_most_40 rfl (lv_at hl 0 rfl) ?_
  refine z_bipush hx hb 82 dX10_most_41 rfl ?_
  refine z_iconst hx hb dX10_most_43 rfl ?_
  refine z_lconst hx hb 1 dX10_most_44 rfl ?_
  refine z_cVv (As := [vI 82, vI 4, vL 1]) (rest := []) ⟨hx, hb, hml, hown, hts⟩ hK hP hD hS hA [0, 1, 2] [] rfl rfl rfl (c_X10_add l g q a (uI x 9 T_9.2.2) T_9 82 4 1 (by omega) (by omega) hZT_9 (by omega) (by omega) hNT_9_0 hNT_9_1 hRT_9_0 hRT_9_1) (cwV 3 hts gX10_most_X10_add rfl rfl rfl (by decide +kernel) ⟨Nat.le_of_ble_eq_true rfl, Nat.le_of_ble_eq_true rfl⟩) 10 0 rfl rfl rfl (fun _ _ _ _ _ _ => trivial) (fun _ _ _ => trivial) rfl hl.1 (Nat.le_of_ble_eq_true rfl) rfl dX10_most_45 ⟨Nat.le_of_ble_eq_true rfl, Nat.le_of_ble_eq_true rfl⟩ (fun u_10 H locs hwu_10 hP hD hS => ?_)
  try dsimp only at hwu_10
  have hP : zP g [[mdl q a (uI x 9 (rAd 82 4 1 T_9).2.2)], [((a 0), .inl (g.2 1, 88, .inr (.inl (aL (rAd 82 4 1 T_9).1))))], [((a 1), .inl (g.2 1, 88, .inr (.inl (aL (rAd 82 4 1 T_9).2.1))))]] H := hP
  have hD : zD A [[mdl q a (uI x 9 (rAd 82 4 1 T_9).2.2)], [((a 0), .inl (g.2 1, 88, .inr (.inl (aL (rAd 82 4 1 T_9).1))))], [((a 1), .inl (g.2 1, 88, .inr (.inl (aL (rAd 82 4 1 T_9).2.1))))]] := hD
  obtain ⟨T_11, hT_11⟩ : ∃ T : RS, T = rAd 82 4 1 T_9 := ⟨_, rfl⟩
  have hP : zP g [[mdl q a (uI x 9 T_11.2.2)], [((a 0), .inl (g.2 1, 88, .inr (.inl (aL T_11.1))))], [((a 1), .inl (g.2 1, 88, .inr (.inl (aL T_11.2.1))))]] H := by rw [hT_11]; exact hP
  have hD : zD A [[mdl q a (uI x 9 T_11.2.2)], [((a 0), .inl (g.2 1, 88, .inr (.inl (aL T_11.1))))], [((a 1), .inl (g.2 1, 88, .inr (.inl (aL T_11.2.1))))]] := by rw [hT_11]; exact hD
  have hZT_11 : T_11.2.2 = 0 ∨ T_11.2.2 = 1 := by rw [hT_11]; exact rAd_01 hZT_9
  have hRT_11_0 : T_11.2.2 = 0 → rk T_11 4 := by rw [hT_11]; exact rAd_rk (by omega) (by omega) hRT_9_0
  have hRT_11_1 : T_11.2.2 = 0 → rk T_11 5 := by rw [hT_11]; exact rAd_rk (by omega) (by omega) hRT_9_1
  have hNT_11_0 : T_11.2.2 = 0 → rk T_11 82 := by rw [hT_11]; exact rAd_r0 hNT_9_0 hRT_9_0
  have hNT_11_1 : T_11.2.2 = 0 → rk T_11 83 := by rw [hT_11]; exact rAd_r1 (to := 82) (by omega) hNT_9_1 hRT_9_1
  refine lv_aload_n hx hb dX10_most_48 rfl (lv_at hl 0 rfl) ?_
  refine z_get hx hb hts hin10_ hown hK hP 0 rfl rfl 22 (by decide) (hts _ (List.mem_of_getElem? (i := 3) rfl)) rfl dX10_most_49 ?_
  refine z_toI T_11.2.2 rfl ?_
  refine z_if_eq (tgt := 60) hx hb (by omega) dX10_most_52 (by decide) (fun cq12 => ?_) (fun cq12 => ?_)
  · refine lv_aload_n hx hb dX10_most_60 rfl (lv_at hl 0 rfl) ?_
    refine z_get hx hb hts hin10_ hown hK hP 0 rfl rfl 0 (by decide) (hts _ (List.mem_of_getElem? (i := 5) rfl)) rfl dX10_most_61 ?_
    refine z_bipush hx hb 82 dX10_most_64 rfl ?_
    refine z_lald hx hb hK hP 1 rfl 82 rfl (by decide) (by decide) dX10_most_66 ?_
    refine z_lconst hx hb 0 dX10_most_67 rfl ?_
    refine z_lcmp_ne (tgt := 88) hx hb (by have := hNT_11_0 (by omega); unfold rk at this; omega) (by decide) dX10_most_68 dX10_most_69 (by decide) (fun cq13 => ?_) (fun cq13 => ?_)
    · refine z_iconst hx hb dX10_most_88 rfl ?_
      have hE : T_11 = (rAd 82 4 1 (rAd 82 2 1 (rCp 82 0 (rZ0 S)))) := by rw [hT_11, hT_9, hT_7, hT_4]
      exact z_reti () [0, 1, 2] hx hb hr rfl hlocks hK hP hD hS (by rw [← hE]; rw [if_pos (show _ = (0 : Int) by omega)]; exact (if_neg (by omega)).symm) trivial rfl rfl (by rw [← hE]; rfl) (Nat.le_of_ble_eq_true rfl) (Nat.le_of_ble_eq_true rfl) dX10_most_89
    · refine lv_aload_n hx hb dX10_most_72 rfl (lv_at hl 0 rfl) ?_
      refine z_get hx hb hts hin10_ hown hK hP 0 rfl rfl 0 (by decide) (hts _ (List.mem_of_getElem? (i := 5) rfl)) rfl dX10_most_73 ?_
      refine z_bipush hx hb 83 dX10_most_76 rfl ?_
      refine z_lald hx hb hK hP 1 rfl 83 rfl (by decide) (by decide) dX10_most_78 ?_
      refine z_lconst hx hb 0 dX10_most_79 rfl ?_
      refine z_lcmp_ne (tgt := 88) hx hb (by have := hNT_11_1 (by omega); unfold rk at this; omega) (by decide) dX10_most_80 dX10_most_81 (by decide) (fun cq14 => ?_) (fun cq14 => ?_)
      · refine z_iconst hx hb dX10_most_88 rfl ?_
        have hE : T_11 = (rAd 82 4 1 (rAd 82 2 1 (rCp 82 0 (rZ0 S)))) := by rw [hT_11, hT_9, hT_7, hT_4]
        exact z_reti () [0, 1, 2] hx hb hr rfl hlocks hK hP hD hS (by rw [← hE]; rw [if_pos (show _ = (0 : Int) by omega)]; exact (if_neg (by omega)).symm) trivial rfl rfl (by rw [← hE]; rfl) (Nat.le_of_ble_eq_true rfl) (Nat.le_of_ble_eq_true rfl) dX10_most_89
      · refine z_iconst hx hb dX10_most_84 rfl ?_
        refine lv_goto (tgt := 89) hx hb dX10_most_85 (by decide) ?_
        have hE : T_11 = (rAd 82 4 1 (rAd 82 2 1 (rCp 82 0 (rZ0 S)))) := by rw [hT_11, hT_9, hT_7, hT_4]
        exact z_reti () [0, 1, 2] hx hb hr rfl hlocks hK hP hD hS (by rw [← hE]; rw [if_pos (show _ = (0 : Int) by omega)]; exact (if_pos (by omega)).symm) trivial rfl rfl (by rw [← hE]; rfl) (Nat.le_of_ble_eq_true rfl) (Nat.le_of_ble_eq_true rfl) dX10_most_89
  · refine z_ldc hx hb (-2000000004) hown (hts _ (List.mem_of_getElem? (i := 4) rfl)) rfl dX10_most_55 ?_
    refine lv_goto (tgt := 89) hx hb dX10_most_57 (by decide) ?_
    have hE : T_11 = (rAd 82 4 1 (rAd 82 2 1 (rCp 82 0 (rZ0 S)))) := by rw [hT_11, hT_9, hT_7, hT_4]
    exact z_reti () [0, 1, 2] hx hb hr rfl hlocks hK hP hD hS (by rw [← hE]; exact (if_neg (by omega)).symm) trivial rfl rfl (by rw [← hE]; rfl) (Nat.le_of_ble_eq_true rfl) (Nat.le_of_ble_eq_true rfl) dX10_most_89
