set_option maxHeartbeats 4000000 in
set_option maxRecDepth 100000 in
theorem c_X10_most0 (l : Launch) (g : zG) (q : Nat) (a : Nat → Nat) (x : Nat → Int) (S : RS) (hz : S.2.2 = 0 ∨ S.2.2 = 1) (hk : ∀ k, k < 6 → rk S k) : zMet l g yX10_most wsX10_most 5 0 0 [.ref q, vI 0] zX0 [[mdl q a (uI x 9 S.2.2)], [((a 0), .inl (g.2 1, 88, .inr (.inl (aL S.1))))], [((a 1), .inl (g.2 1, 88, .inr (.inl (aL S.2.1))))]] (qi g (fun (_ : Unit) => (if (rNm 80 4 (rNm 79 2 (rNm 78 0 (rZ0 S)))).2.2 = 0 then mBst (rNm 80 4 (rNm 79 2 (rNm 78 0 (rZ0 S)))) else -2000000004)) (fun (_ : Unit) => True) (fun (_ : Unit) => [[mdl q a (uI x 9 (rNm 80 4 (rNm 79 2 (rNm 78 0 (rZ0 S)))).2.2)], [((a 0), .inl (g.2 1, 88, .inr (.inl (aL (rNm 80 4 (rNm 79 2 (rNm 78 0 (rZ0 S)))).1))))], [((a 1), .inl (g.2 1, 88, .inr (.inl (aL (rNm 80 4 (rNm 79 2 (rNm 78 0 (rZ0 S)))).2.1))))]])) := by
  refine z_ent (cc := cX10_most) (maxL := 5) (ret := (some .int)) (by decide) rfl (Nat.le_of_ble_eq_true rfl) ?_
  intro p e s m below meth c A ls hx hb hr hml hown hts hlocks hin0 hA hK hP hD hS hXX hl
  have hown : s.vm.findClass RX10 = some m.cls := hown
  have hin10_ : ∀ w ∈ wsX100, w ∈ wsX10_most := zw_in [49, 50, 51, 52, 53, 54, 55, 56, 57, 58, 59, 60, 61, 62, 63, 64, 65, 66, 67, 68, 69, 70, 71, 72, 73, 74] rfl
  have hl : lv_has ls 5 [(0, .ref q), (1, vI 0)] := hl
  refine lv_iload_n hx hb dX10_most_0 rfl (lv_at hl 1 rfl) ?_
  refine z_i2l hx hb (by decide) dX10_most_1 ?_
  refine z_lconst hx hb 0 dX10_most_2 rfl ?_
  refine z_ldc2 hx hb 2 hown (hts _ (List.mem_of_getElem? (i := 1) rfl)) rfl dX10_most_3 ?_
  refine z_cSi (As := [vL 0, vL 0, vL 2]) (rest := []) ⟨hx, hb, hml, hown, hts⟩ hK hP hD hS hA [] [0, 1, 2] rfl rfl rfl (c_X10_in l g 0 0 2 (by first | decide | omega) (by first | decide | omega) (by first | decide | omega)) (va_cwS 3 hts gX10_most_X10_in rfl rfl rfl (by decide +kernel) ⟨Nat.le_of_ble_eq_true rfl, Nat.le_of_ble_eq_true rfl⟩) (fun _ _ _ _ _ _ => trivial) (fun _ _ _ => trivial) rfl hl.1 (Nat.le_of_ble_eq_true rfl) rfl dX10_most_6 ⟨Nat.le_of_ble_eq_true rfl, Nat.le_of_ble_eq_true rfl⟩ (fun u_1 H locs hwu_1 hP hD hS => ?_)
  try dsimp only at hwu_1
  have hP : zP g [[mdl q a (uI x 9 S.2.2)], [((a 0), .inl (g.2 1, 88, .inr (.inl (aL S.1))))], [((a 1), .inl (g.2 1, 88, .inr (.inl (aL S.2.1))))]] H := hP
  have hD : zD A [[mdl q a (uI x 9 S.2.2)], [((a 0), .inl (g.2 1, 88, .inr (.inl (aL S.1))))], [((a 1), .inl (g.2 1, 88, .inr (.inl (aL S.2.1))))]] := hD
  refine z_toI (inI 0 0 2) rfl ?_
  have hf_2 := inI_s 0 0 2
  refine z_if_ne (tgt := 15) hx hb (by omega) dX10_most_9 (by decide) (fun cq3 => ?_) (fun cq3 => False.elim (by omega))
  refine lv_aload_n hx hb dX10_most_15 rfl (lv_at hl 0 rfl) ?_
  refine z_iconst hx hb dX10_most_16 rfl ?_
  refine z_put hx hb hts hin10_ tyX10 tyX10_ok nmX10 hown hK hP hD hS 0 rfl rfl 22 (by decide) (hts _ (List.mem_of_getElem? (i := 3) rfl)) rfl (nar_z (by decide)) (fit_z (by decide)) (Nat.le_of_ble_eq_true rfl) dX10_most_17 [[mdl q a (uI x 9 0)], [((a 0), .inl (g.2 1, 88, .inr (.inl (aL S.1))))], [((a 1), .inl (g.2 1, 88, .inr (.inl (aL S.2.1))))]] rfl (fun H locs hP hD hS => ?_)
  obtain ⟨T_4, hT_4⟩ : ∃ T : RS, T = rZ0  S := ⟨_, rfl⟩
  have hP : zP g [[mdl q a (uI x 9 T_4.2.2)], [((a 0), .inl (g.2 1, 88, .inr (.inl (aL T_4.1))))], [((a 1), .inl (g.2 1, 88, .inr (.inl (aL T_4.2.1))))]] H := by rw [hT_4]; exact hP
  have hD : zD A [[mdl q a (uI x 9 T_4.2.2)], [((a 0), .inl (g.2 1, 88, .inr (.inl (aL T_4.1))))], [((a 1), .inl (g.2 1, 88, .inr (.inl (aL T_4.2.1))))]] := by rw [hT_4]; exact hD
  have hZT_4 : T_4.2.2 = 0 ∨ T_4.2.2 = 1 := by rw [hT_4]; exact rZ0_01 hz
  have hNT_4_0 : T_4.2.2 = 0 → rk T_4 0 := by rw [hT_4]; exact rZ0_r (hk 0 (by decide)) 
  have hNT_4_1 : T_4.2.2 = 0 → rk T_4 1 := by rw [hT_4]; exact rZ0_r (hk 1 (by decide)) 
  have hNT_4_2 : T_4.2.2 = 0 → rk T_4 2 := by rw [hT_4]; exact rZ0_r (hk 2 (by decide)) 
  have hNT_4_3 : T_4.2.2 = 0 → rk T_4 3 := by rw [hT_4]; exact rZ0_r (hk 3 (by decide)) 
  have hNT_4_4 : T_4.2.2 = 0 → rk T_4 4 := by rw [hT_4]; exact rZ0_r (hk 4 (by decide)) 
  have hNT_4_5 : T_4.2.2 = 0 → rk T_4 5 := by rw [hT_4]; exact rZ0_r (hk 5 (by decide)) 
  refine lv_iload_n hx hb dX10_most_20 rfl (lv_at hl 1 rfl) ?_
  refine z_iconst hx hb dX10_most_21 rfl ?_
  refine z_icmp_ne (tgt := 90) hx hb (by decide) (by decide) dX10_most_22 (by decide) (fun cq5 => ?_) (fun cq5 => False.elim (by omega))
  refine z_iconst hx hb dX10_most_90 rfl ?_
  refine lv_istore_n (lv' := [(2, vI 0), (0, .ref q), (1, vI 0)]) hx hb dX10_most_91 rfl hl (by decide) rfl (fun ls hl => ?_)
  refine lv_iload_n hx hb dX10_most_92 rfl (lv_at hl 0 rfl) ?_
  refine z_iconst hx hb dX10_most_93 rfl ?_
  refine z_icmp_ge (tgt := 114) hx hb (by decide) (by decide) dX10_most_94 (by decide) (fun cq6 => False.elim (by omega)) (fun cq6 => ?_)
  refine lv_aload_n hx hb dX10_most_97 rfl (lv_at hl 1 rfl) ?_
  refine z_bipush hx hb 78 dX10_most_98 rfl ?_
  refine lv_iload_n hx hb dX10_most_100 rfl (lv_at hl 0 rfl) ?_
  refine z_iadd hx hb 78 rfl dX10_most_101 ?_
  refine z_iconst hx hb dX10_most_102 rfl ?_
  refine lv_iload_n hx hb dX10_most_103 rfl (lv_at hl 0 rfl) ?_
  refine z_imul hx hb 0 rfl dX10_most_104 ?_
  refine z_cVv (As := [vI 78, vI 0]) (rest := []) ⟨hx, hb, hml, hown, hts⟩ hK hP hD hS hA [0, 1, 2] [] rfl rfl rfl (c_X10_norm l g q a (uI x 9 T_4.2.2) T_4 78 0 (by omega) (by omega) hZT_4 (by omega) hNT_4_0 hNT_4_1) (cwV 2 hts gX10_most_X10_norm rfl rfl rfl (by decide +kernel) ⟨Nat.le_of_ble_eq_true rfl, Nat.le_of_ble_eq_true rfl⟩) 10 0 rfl rfl rfl (fun _ _ _ _ _ _ => trivial) (fun _ _ _ => trivial) rfl hl.1 (Nat.le_of_ble_eq_true rfl) rfl dX10_most_105 ⟨Nat.le_of_ble_eq_true rfl, Nat.le_of_ble_eq_true rfl⟩ (fun u_7 H locs hwu_7 hP hD hS => ?_)
  try dsimp only at hwu_7
  have hP : zP g [[mdl q a (uI x 9 (rNm 78 0 T_4).2.2)], [((a 0), .inl (g.2 1, 88, .inr (.inl (aL (rNm 78 0 T_4).1))))], [((a 1), .inl (g.2 1, 88, .inr (.inl (aL (rNm 78 0 T_4).2.1))))]] H := hP
  have hD : zD A [[mdl q a (uI x 9 (rNm 78 0 T_4).2.2)], [((a 0), .inl (g.2 1, 88, .inr (.inl (aL (rNm 78 0 T_4).1))))], [((a 1), .inl (g.2 1, 88, .inr (.inl (aL (rNm 78 0 T_4).2.1))))]] := hD
  obtain ⟨T_8, hT_8⟩ : ∃ T : RS, T = rNm 78 0 T_4 := ⟨_, rfl⟩
  have hP : zP g [[mdl q a (uI x 9 T_8.2.2)], [((a 0), .inl (g.2 1, 88, .inr (.inl (aL T_8.1))))], [((a 1), .inl (g.2 1, 88, .inr (.inl (aL T_8.2.1))))]] H := by rw [hT_8]; exact hP
  have hD : zD A [[mdl q a (uI x 9 T_8.2.2)], [((a 0), .inl (g.2 1, 88, .inr (.inl (aL T_8.1))))], [((a 1), .inl (g.2 1, 88, .inr (.inl (aL T_8.2.1))))]] := by rw [hT_8]; exact hD
  have hZT_8 : T_8.2.2 = 0 ∨ T_8.2.2 = 1 := by rw [hT_8]; exact rNm_01 hZT_4
  have hRT_8_0 : T_8.2.2 = 0 → rk T_8 2 := by rw [hT_8]; exact rNm_rk (by omega) (by omega) hNT_4_2
  have hRT_8_1 : T_8.2.2 = 0 → rk T_8 3 := by rw [hT_8]; exact rNm_rk (by omega) (by omega) hNT_4_3
  have hRT_8_2 : T_8.2.2 = 0 → rk T_8 4 := by rw [hT_8]; exact rNm_rk (by omega) (by omega) hNT_4_4
  have hRT_8_3 : T_8.2.2 = 0 → rk T_8 5 := by rw [hT_8]; exact rNm_rk (by omega) (by omega) hNT_4_5
  have hNT_8_0 : T_8.2.2 = 0 → rk T_8 78 := by rw [hT_8]; exact rNm_rt (by omega) (by omega) (by omega) (by omega) (by omega) hNT_4_0 hNT_4_1
  refine z_iinc hx hb 1 (lv' := [(2, vI 1), (0, .ref q), (1, vI 0)]) dX10_most_108 hl (k := 0) rfl (rfl) (by decide) rfl (fun ls hl => ?_)
  refine lv_goto (tgt := 92) hx hb dX10_most_111 (by decide) ?_
  refine lv_iload_n hx hb dX10_most_92 rfl (lv_at hl 0 rfl) ?_
  refine z_iconst hx hb dX10_most_93 rfl ?_
  refine z_icmp_ge (tgt := 114) hx hb (by decide) (by decide) dX10_most_94 (by decide) (fun cq9 => False.elim (by omega)) (fun cq9 => ?_)
  refine lv_aload_n hx hb dX10_most_97 rfl (lv_at hl 1 rfl) ?_
  refine z_bipush hx hb 78 dX10_most_98 rfl ?_
  refine lv_iload_n hx hb dX10_most_100 rfl (lv_at hl 0 rfl) ?_
  refine z_iadd hx hb 79 rfl dX10_most_101 ?_
  refine z_iconst hx hb dX10_most_102 rfl ?_
  refine lv_iload_n hx hb dX10_most_103 rfl (lv_at hl 0 rfl) ?_
  refine z_imul hx hb 2 rfl dX10_most_104 ?_
  refine z_cVv (As := [vI 79, vI 2]) (rest := []) ⟨hx, hb, hml, hown, hts⟩ hK hP hD hS hA [0, 1, 2] [] rfl rfl rfl (c_X10_norm l g q a (uI x 9 T_8.2.2) T_8 79 2 (by omega) (by omega) hZT_8 (by omega) hRT_8_0 hRT_8_1) (cwV 2 hts gX10_most_X10_norm rfl rfl rfl (by decide +kernel) ⟨Nat.le_of_ble_eq_true rfl, Nat.le_of_ble_eq_true rfl⟩) 10 0 rfl rfl rfl (fun _ _ _ _ _ _ => trivial) (fun _ _ _ => trivial) rfl hl.1 (Nat.le_of_ble_eq_true rfl) rfl dX10_most_105 ⟨Nat.le_of_ble_eq_true rfl, Nat.le_of_ble_eq_true rfl⟩ (fun u_10 H locs hwu_10 hP hD hS => ?_)
  try dsimp only at hwu_10
  have hP : zP g [[mdl q a (uI x 9 (rNm 79 2 T_8).2.2)], [((a 0), .inl (g.2 1, 88, .inr (.inl (aL (rNm 79 2 T_8).1))))], [((a 1), .inl (g.2 1, 88, .inr (.inl (aL (rNm 79 2 T_8).2.1))))]] H := hP
  have hD : zD A [[mdl q a (uI x 9 (rNm 79 2 T_8).2.2)], [((a 0), .inl (g.2 1, 88, .inr (.inl (aL (rNm 79 2 T_8).1))))], [((a 1), .inl (g.2 1, 88, .inr (.inl (aL (rNm 79 2 T_8).2.1))))]] := hD
  obtain ⟨T_11, hT_11⟩ : ∃ T : RS, T = rNm 79 2 T_8 := ⟨_, rfl⟩
  have hP : zP g [[mdl q a (uI x 9 T_11.2.2)], [((a 0), .inl (g.2 1, 88, .inr (.inl (aL T_11.1))))], [((a 1), .inl (g.2 1, 88, .inr (.inl (aL T_11.2.1))))]] H := by rw [hT_11]; exact hP
  have hD : zD A [[mdl q a (uI x 9 T_11.2.2)], [((a 0), .inl (g.2 1, 88, .inr (.inl (aL T_11.1))))], [((a 1), .inl (g.2 1, 88, .inr (.inl (aL T_11.2.1))))]] := by rw [hT_11]; exact hD
  have hZT_11 : T_11.2.2 = 0 ∨ T_11.2.2 = 1 := by rw [hT_11]; exact rNm_01 hZT_8
  have hRT_11_0 : T_11.2.2 = 0 → rk T_11 78 := by rw [hT_11]; exact rNm_rk (by omega) (by omega) hNT_8_0
  have hRT_11_1 : T_11.2.2 = 0 → rk T_11 4 := by rw [hT_11]; exact rNm_rk (by omega) (by omega) hRT_8_2
  have hRT_11_2 : T_11.2.2 = 0 → rk T_11 5 := by rw [hT_11]; exact rNm_rk (by omega) (by omega) hRT_8_3
  have hNT_11_0 : T_11.2.2 = 0 → rk T_11 79 := by rw [hT_11]; exact rNm_rt (by omega) (by omega) (by omega) (by omega) (by omega) hRT_8_0 hRT_8_1
  refine z_iinc hx hb 2 (lv' := [(2, vI 2), (0, .ref q), (1, vI 0)]) dX10_most_108 hl (k := 0) rfl (rfl) (by decide) rfl (fun ls hl => ?_)
  refine lv_goto (tgt := 92) hx hb dX10_most_111 (by decide) ?_
  refine lv_iload_n hx hb dX10_most_92 rfl (lv_at hl 0 rfl) ?_
  refine z_iconst hx hb dX10_most_93 rfl ?_
  refine z_icmp_ge (tgt := 114) hx hb (by decide) (by decide) dX10_most_94 (by decide) (fun cq12 => False.elim (by omega)) (fun cq12 => ?_)
  refine lv_aload_n hx hb dX10_most_97 rfl (lv_at hl 1 rfl) ?_
  refine z_bipush hx hb 78 dX10_most_98 rfl ?_
  refine lv_iload_n hx hb dX10_most_100 rfl (lv_at hl 0 rfl) ?_
  refine z_iadd hx hb 80 rfl dX10_most_101 ?_
  refine z_iconst hx hb dX10_most_102 rfl ?_
  refine lv_iload_n hx hb dX10_most_103 rfl (lv_at hl 0 rfl) ?_
  refine z_imul hx hb 4 rfl dX10_most_104 ?_
  refine z_cVv (As := [vI 80, vI 4]) (rest := []) ⟨hx, hb, hml, hown, hts⟩ hK hP hD hS hA [0, 1, 2] [] rfl rfl rfl (c_X10_norm l g q a (uI x 9 T_11.2.2) T_11 80 4 (by omega) (by omega) hZT_11 (by omega) hRT_11_1 hRT_11_2) (cwV 2 hts gX10_most_X10_norm rfl rfl rfl (by decide +kernel) ⟨Nat.le_of_ble_eq_true rfl, Nat.le_of_ble_eq_true rfl⟩) 10 0 rfl rfl rfl (fun _ _ _ _ _ _ => trivial) (fun _ _ _ => trivial) rfl hl.1 (Nat.le_of_ble_eq_true rfl) rfl dX10_most_105 ⟨Nat.le_of_ble_eq_true rfl, Nat.le_of_ble_eq_true rfl⟩ (fun u_13 H locs hwu_13 hP hD hS => ?_)
  try dsimp only at hwu_13
  have hP : zP g [[mdl q a (uI x 9 (rNm 80 4 T_11).2.2)], [((a 0), .inl (g.2 1, 88, .inr (.inl (aL (rNm 80 4 T_11).1))))], [((a 1), .inl (g.2 1, 88, .inr (.inl (aL (rNm 80 4 T_11).2.1))))]] H := hP
  have hD : zD A [[mdl q a (uI x 9 (rNm 80 4 T_11).2.2)], [((a 0), .inl (g.2 1, 88, .inr (.inl (aL (rNm 80 4 T_11).1))))], [((a 1), .inl (g.2 1, 88, .inr (.inl (aL (rNm 80 4 T_11).2.1))))]] := hD
  obtain ⟨T_14, hT_14⟩ : ∃ T : RS, T = rNm 80 4 T_11 := ⟨_, rfl⟩
  have hP : zP g [[mdl q a (uI x 9 T_14.2.2)], [((a 0), .inl (g.2 1, 88, .inr (.inl (aL T_14.1))))], [((a 1), .inl (g.2 1, 88, .inr (.inl (aL T_14.2.1))))]] H := by rw [hT_14]; exact hP
  have hD : zD A [[mdl q a (uI x 9 T_14.2.2)], [((a 0), .inl (g.2 1, 88, .inr (.inl (aL T_14.1))))], [((a 1), .inl (g.2 1, 88, .inr (.inl (aL T_14.2.1))))]] := by rw [hT_14]; exact hD
  have hZT_14 : T_14.2.2 = 0 ∨ T_14.2.2 = 1 := by rw [hT_14]; exact rNm_01 hZT_11
  have hRT_14_0 : T_14.2.2 = 0 → rk T_14 78 := by rw [hT_14]; exact rNm_rk (by omega) (by omega) hRT_11_0
  have hRT_14_1 : T_14.2.2 = 0 → rk T_14 79 := by rw [hT_14]; exact rNm_rk (by omega) (by omega) hNT_11_0
  have hNT_14_0 : T_14.2.2 = 0 → rk T_14 80 := by rw [hT_14]; exact rNm_rt (by omega) (by omega) (by omega) (by omega) (by omega) hRT_11_1 hRT_11_2
  refine z_iinc hx hb 3 (lv' := [(2, vI 3), (0, .ref q), (1, vI 0)]) dX10_most_108 hl (k := 0) rfl (rfl) (by decide) rfl (fun ls hl => ?_)
  refine lv_goto (tgt := 92) hx hb dX10_most_111 (by decide) ?_
  refine lv_iload_n hx hb dX10_most_92 rfl (lv_at hl 0 rfl) ?_
  refine z_iconst hx hb dX10_most_93 rfl ?_
  refine z_icmp_ge (tgt := 114) hx hb (by decide) (by decide) dX10_most_94 (by decide) (fun cq15 => ?_) (fun cq15 => False.elim (by omega))
  refine lv_aload_n hx hb dX10_most_114 rfl (lv_at hl 1 rfl) ?_
  refine z_get hx hb hts hin10_ hown hK hP 0 rfl rfl 22 (by decide) (hts _ (List.mem_of_getElem? (i := 3) rfl)) rfl dX10_most_115 ?_
  refine z_toI T_14.2.2 rfl ?_
  refine z_if_eq (tgt := 124) hx hb (by omega) dX10_most_118 (by decide) (fun cq16 => ?_) (fun cq16 => ?_)
  · refine lv_aload_n hx hb dX10_most_124 rfl (lv_at hl 1 rfl) ?_
    refine z_bipush hx hb 79 dX10_most_125 rfl ?_
    refine z_bipush hx hb 78 dX10_most_127 rfl ?_
    refine z_cVi (As := [vI 79, vI 78]) (rest := []) ⟨hx, hb, hml, hown, hts⟩ hK hP hD hS hA [0, 1, 2] [] rfl rfl rfl (c_X10_isGreater l g q a (uI x 9 T_14.2.2) T_14 79 78 (by decide) (by decide) (hRT_14_1 (by omega)) (hRT_14_0 (by omega))) (cwV 2 hts gX10_most_X10_isGreater rfl rfl rfl (by decide +kernel) ⟨Nat.le_of_ble_eq_true rfl, Nat.le_of_ble_eq_true rfl⟩) 10 0 rfl rfl rfl (fun _ _ _ _ _ _ => trivial) (fun _ _ _ => trivial) rfl hl.1 (Nat.le_of_ble_eq_true rfl) rfl dX10_most_129 ⟨Nat.le_of_ble_eq_true rfl, Nat.le_of_ble_eq_true rfl⟩ (fun u_17 H locs hwu_17 hP hD hS => ?_)
    try dsimp only at hwu_17
    have hP : zP g [[mdl q a (uI x 9 T_14.2.2)], [((a 0), .inl (g.2 1, 88, .inr (.inl (aL T_14.1))))], [((a 1), .inl (g.2 1, 88, .inr (.inl (aL T_14.2.1))))]] H := hP
    have hD : zD A [[mdl q a (uI x 9 T_14.2.2)], [((a 0), .inl (g.2 1, 88, .inr (.inl (aL T_14.1))))], [((a 1), .inl (g.2 1, 88, .inr (.inl (aL T_14.2.1))))]] := hD
    refine z_toI (rGt 79 78 T_14) rfl ?_
    have hf_18 := rGt_01 79 78 T_14
    refine z_if_eq (tgt := 139) hx hb (by omega) dX10_most_132 (by decide) (fun cq19 => ?_) (fun cq19 => ?_)
    · refine z_iconst hx hb dX10_most_139 rfl ?_
      refine lv_istore_n (lv' := [(2, vI 0), (0, .ref q), (1, vI 0)]) hx hb dX10_most_140 rfl hl (by decide) rfl (fun ls hl => ?_)
      refine lv_aload_n hx hb dX10_most_141 rfl (lv_at hl 1 rfl) ?_
      refine z_bipush hx hb 80 dX10_most_142 rfl ?_
      refine z_bipush hx hb 78 dX10_most_144 rfl ?_
      refine lv_iload_n hx hb dX10_most_146 rfl (lv_at hl 0 rfl) ?_
      refine z_iadd hx hb 78 rfl dX10_most_147 ?_
      refine z_cVi (As := [vI 80, vI 78]) (rest := []) ⟨hx, hb, hml, hown, hts⟩ hK hP hD hS hA [0, 1, 2] [] rfl rfl rfl (c_X10_isGreater l g q a (uI x 9 T_14.2.2) T_14 80 78 (by decide) (by decide) (hNT_14_0 (by omega)) (hRT_14_0 (by omega))) (cwV 2 hts gX10_most_X10_isGreater rfl rfl rfl (by decide +kernel) ⟨Nat.le_of_ble_eq_true rfl, Nat.le_of_ble_eq_true rfl⟩) 10 0 rfl rfl rfl (fun _ _ _ _ _ _ => trivial) (fun _ _ _ => trivial) rfl hl.1 (Nat.le_of_ble_eq_true rfl) rfl dX10_most_148 ⟨Nat.le_of_ble_eq_true rfl, Nat.le_of_ble_eq_true rfl⟩ (fun u_20 H locs hwu_20 hP hD hS => ?_)
      try dsimp only at hwu_20
      have hP : zP g [[mdl q a (uI x 9 T_14.2.2)], [((a 0), .inl (g.2 1, 88, .inr (.inl (aL T_14.1))))], [((a 1), .inl (g.2 1, 88, .inr (.inl (aL T_14.2.1))))]] H := hP
      have hD : zD A [[mdl q a (uI x 9 T_14.2.2)], [((a 0), .inl (g.2 1, 88, .inr (.inl (aL T_14.1))))], [((a 1), .inl (g.2 1, 88, .inr (.inl (aL T_14.2.1))))]] := hD
      refine z_toI (rGt 80 78 T_14) rfl ?_
      have hf_21 := rGt_01 80 78 T_14
      refine z_if_eq (tgt := 158) hx hb (by omega) dX10_most_151 (by decide) (fun cq22 => ?_) (fun cq22 => ?_)
      · refine lv_iload_n hx hb dX10_most_158 rfl (lv_at hl 0 rfl) ?_
        refine lv_istore_n (lv' := [(2, vI 0), (0, .ref q), (1, vI 0)]) hx hb dX10_most_159 rfl hl (by decide) rfl (fun ls hl => ?_)
        refine z_iconst hx hb dX10_most_160 rfl ?_
        refine lv_istore_n (lv' := [(3, vI 1), (2, vI 0), (0, .ref q), (1, vI 0)]) hx hb dX10_most_161 rfl hl (by decide) rfl (fun ls hl => ?_)
        refine z_iconst hx hb dX10_most_162 rfl ?_
        refine lv_istore (lv' := [(4, vI 1), (3, vI 1), (2, vI 0), (0, .ref q), (1, vI 0)]) hx hb dX10_most_163 hl (by decide) rfl (fun ls hl => ?_)
        refine lv_iload hx hb dX10_most_165 (lv_at hl 0 rfl) ?_
        refine z_iconst hx hb dX10_most_167 rfl ?_
        refine z_icmp_ge (tgt := 215) hx hb (by decide) (by decide) dX10_most_168 (by decide) (fun cq23 => False.elim (by omega)) (fun cq23 => ?_)
        refine lv_iload_n hx hb dX10_most_171 rfl (lv_at hl 1 rfl) ?_
        refine z_if_eq (tgt := 207) hx hb (by decide) dX10_most_172 (by decide) (fun cq24 => False.elim (by omega)) (fun cq24 => ?_)
        refine lv_aload_n hx hb dX10_most_175 rfl (lv_at hl 3 rfl) ?_
        refine z_bipush hx hb 78 dX10_most_176 rfl ?_
        refine z_bipush hx hb 78 dX10_most_178 rfl ?_
        refine lv_iload hx hb dX10_most_180 (lv_at hl 0 rfl) ?_
        refine z_iadd hx hb 79 rfl dX10_most_182 ?_
        refine z_cVi (As := [vI 78, vI 79]) (rest := []) ⟨hx, hb, hml, hown, hts⟩ hK hP hD hS hA [0, 1, 2] [] rfl rfl rfl (c_X10_isGreater l g q a (uI x 9 T_14.2.2) T_14 78 79 (by decide) (by decide) (hRT_14_0 (by omega)) (hRT_14_1 (by omega))) (cwV 2 hts gX10_most_X10_isGreater rfl rfl rfl (by decide +kernel) ⟨Nat.le_of_ble_eq_true rfl, Nat.le_of_ble_eq_true rfl⟩) 10 0 rfl rfl rfl (fun _ _ _ _ _ _ => trivial) (fun _ _ _ => trivial) rfl hl.1 (Nat.le_of_ble_eq_true rfl) rfl dX10_most_183 ⟨Nat.le_of_ble_eq_true rfl, Nat.le_of_ble_eq_true rfl⟩ (fun u_25 H locs hwu_25 hP hD hS => ?_)
        try dsimp only at hwu_25
        have hP : zP g [[mdl q a (uI x 9 T_14.2.2)], [((a 0), .inl (g.2 1, 88, .inr (.inl (aL T_14.1))))], [((a 1), .inl (g.2 1, 88, .inr (.inl (aL T_14.2.1))))]] H := hP
        have hD : zD A [[mdl q a (uI x 9 T_14.2.2)], [((a 0), .inl (g.2 1, 88, .inr (.inl (aL T_14.1))))], [((a 1), .inl (g.2 1, 88, .inr (.inl (aL T_14.2.1))))]] := hD
        refine z_toI (rGt 78 79 T_14) rfl ?_
        have hf_26 := rGt_01 78 79 T_14
        refine z_if_ne (tgt := 207) hx hb (by omega) dX10_most_186 (by decide) (fun cq27 => ?_) (fun cq27 => ?_)
        · refine z_iconst hx hb dX10_most_207 rfl ?_
          refine lv_istore_n (lv' := [(3, vI 0), (4, vI 1), (2, vI 0), (0, .ref q), (1, vI 0)]) hx hb dX10_most_208 rfl hl (by decide) rfl (fun ls hl => ?_)
          refine z_iinc hx hb 2 (lv' := [(4, vI 2), (3, vI 0), (2, vI 0), (0, .ref q), (1, vI 0)]) dX10_most_209 hl (k := 1) rfl (rfl) (by decide) rfl (fun ls hl => ?_)
          refine lv_goto (tgt := 165) hx hb dX10_most_212 (by decide) ?_
          refine lv_iload hx hb dX10_most_165 (lv_at hl 0 rfl) ?_
          refine z_iconst hx hb dX10_most_167 rfl ?_
          refine z_icmp_ge (tgt := 215) hx hb (by decide) (by decide) dX10_most_168 (by decide) (fun cq28 => False.elim (by omega)) (fun cq28 => ?_)
          refine lv_iload_n hx hb dX10_most_171 rfl (lv_at hl 1 rfl) ?_
          refine z_if_eq (tgt := 207) hx hb (by decide) dX10_most_172 (by decide) (fun cq29 => ?_) (fun cq29 => False.elim (by omega))
          refine z_iconst hx hb dX10_most_207 rfl ?_
          refine lv_istore_n (lv' := [(3, vI 0), (4, vI 2), (2, vI 0), (0, .ref q), (1, vI 0)]) hx hb dX10_most_208 rfl hl (by decide) rfl (fun ls hl => ?_)
          refine z_iinc hx hb 3 (lv' := [(4, vI 3), (3, vI 0), (2, vI 0), (0, .ref q), (1, vI 0)]) dX10_most_209 hl (k := 1) rfl (rfl) (by decide) rfl (fun ls hl => ?_)
          refine lv_goto (tgt := 165) hx hb dX10_most_212 (by decide) ?_
          refine lv_iload hx hb dX10_most_165 (lv_at hl 0 rfl) ?_
          refine z_iconst hx hb dX10_most_167 rfl ?_
          refine z_icmp_ge (tgt := 215) hx hb (by decide) (by decide) dX10_most_168 (by decide) (fun cq30 => ?_) (fun cq30 => False.elim (by omega))
          refine lv_iload_n hx hb dX10_most_215 rfl (lv_at hl 4 rfl) ?_
          refine z_if_ne (tgt := 223) hx hb (by decide) dX10_most_216 (by decide) (fun cq31 => False.elim (by omega)) (fun cq31 => ?_)
          refine lv_iload_n hx hb dX10_most_219 rfl (lv_at hl 2 rfl) ?_
          refine lv_goto (tgt := 232) hx hb dX10_most_220 (by decide) ?_
          have hE : T_14 = (rNm 80 4 (rNm 79 2 (rNm 78 0 (rZ0 S)))) := by rw [hT_14, hT_11, hT_8, hT_4]
          exact z_reti () [0, 1, 2] hx hb hr rfl hlocks hK hP hD hS (by rw [← hE, if_pos (show _ = (0 : Int) by omega)]; have hm9 := mBst_s T_14; omega) trivial rfl rfl (by rw [← hE]; rfl) (Nat.le_of_ble_eq_true rfl) (Nat.le_of_ble_eq_true rfl) dX10_most_232
        · refine lv_aload_n hx hb dX10_most_189 rfl (lv_at hl 3 rfl) ?_
          refine z_bipush hx hb 78 dX10_most_190 rfl ?_
          refine lv_iload hx hb dX10_most_192 (lv_at hl 0 rfl) ?_
          refine z_iadd hx hb 79 rfl dX10_most_194 ?_
          refine z_bipush hx hb 78 dX10_most_195 rfl ?_
          refine z_cVi (As := [vI 79, vI 78]) (rest := []) ⟨hx, hb, hml, hown, hts⟩ hK hP hD hS hA [0, 1, 2] [] rfl rfl rfl (c_X10_isGreater l g q a (uI x 9 T_14.2.2) T_14 79 78 (by decide) (by decide) (hRT_14_1 (by omega)) (hRT_14_0 (by omega))) (cwV 2 hts gX10_most_X10_isGreater rfl rfl rfl (by decide +kernel) ⟨Nat.le_of_ble_eq_true rfl, Nat.le_of_ble_eq_true rfl⟩) 10 0 rfl rfl rfl (fun _ _ _ _ _ _ => trivial) (fun _ _ _ => trivial) rfl hl.1 (Nat.le_of_ble_eq_true rfl) rfl dX10_most_197 ⟨Nat.le_of_ble_eq_true rfl, Nat.le_of_ble_eq_true rfl⟩ (fun u_32 H locs hwu_32 hP hD hS => ?_)
          try dsimp only at hwu_32
          have hP : zP g [[mdl q a (uI x 9 T_14.2.2)], [((a 0), .inl (g.2 1, 88, .inr (.inl (aL T_14.1))))], [((a 1), .inl (g.2 1, 88, .inr (.inl (aL T_14.2.1))))]] H := hP
          have hD : zD A [[mdl q a (uI x 9 T_14.2.2)], [((a 0), .inl (g.2 1, 88, .inr (.inl (aL T_14.1))))], [((a 1), .inl (g.2 1, 88, .inr (.inl (aL T_14.2.1))))]] := hD
          refine z_toI (rGt 79 78 T_14) rfl ?_
          have hf_33 := rGt_01 79 78 T_14
          refine z_if_ne (tgt := 207) hx hb (by omega) dX10_most_200 (by decide) (fun cq34 => ?_) (fun cq34 => ?_)
          · refine z_iconst hx hb dX10_most_207 rfl ?_
            refine lv_istore_n (lv' := [(3, vI 0), (4, vI 1), (2, vI 0), (0, .ref q), (1, vI 0)]) hx hb dX10_most_208 rfl hl (by decide) rfl (fun ls hl => ?_)
            refine z_iinc hx hb 2 (lv' := [(4, vI 2), (3, vI 0), (2, vI 0), (0, .ref q), (1, vI 0)]) dX10_most_209 hl (k := 1) rfl (rfl) (by decide) rfl (fun ls hl => ?_)
            refine lv_goto (tgt := 165) hx hb dX10_most_212 (by decide) ?_
            refine lv_iload hx hb dX10_most_165 (lv_at hl 0 rfl) ?_
            refine z_iconst hx hb dX10_most_167 rfl ?_
            refine z_icmp_ge (tgt := 215) hx hb (by decide) (by decide) dX10_most_168 (by decide) (fun cq35 => False.elim (by omega)) (fun cq35 => ?_)
            refine lv_iload_n hx hb dX10_most_171 rfl (lv_at hl 1 rfl) ?_
            refine z_if_eq (tgt := 207) hx hb (by decide) dX10_most_172 (by decide) (fun cq36 => ?_) (fun cq36 => False.elim (by omega))
            refine z_iconst hx hb dX10_most_207 rfl ?_
            refine lv_istore_n (lv' := [(3, vI 0), (4, vI 2), (2, vI 0), (0, .ref q), (1, vI 0)]) hx hb dX10_most_208 rfl hl (by decide) rfl (fun ls hl => ?_)
            refine z_iinc hx hb 3 (lv' := [(4, vI 3), (3, vI 0), (2, vI 0), (0, .ref q), (1, vI 0)]) dX10_most_209 hl (k := 1) rfl (rfl) (by decide) rfl (fun ls hl => ?_)
            refine lv_goto (tgt := 165) hx hb dX10_most_212 (by decide) ?_
            refine lv_iload hx hb dX10_most_165 (lv_at hl 0 rfl) ?_
            refine z_iconst hx hb dX10_most_167 rfl ?_
            refine z_icmp_ge (tgt := 215) hx hb (by decide) (by decide) dX10_most_168 (by decide) (fun cq37 => ?_) (fun cq37 => False.elim (by omega))
            refine lv_iload_n hx hb dX10_most_215 rfl (lv_at hl 4 rfl) ?_
            refine z_if_ne (tgt := 223) hx hb (by decide) dX10_most_216 (by decide) (fun cq38 => False.elim (by omega)) (fun cq38 => ?_)
            refine lv_iload_n hx hb dX10_most_219 rfl (lv_at hl 2 rfl) ?_
            refine lv_goto (tgt := 232) hx hb dX10_most_220 (by decide) ?_
            have hE : T_14 = (rNm 80 4 (rNm 79 2 (rNm 78 0 (rZ0 S)))) := by rw [hT_14, hT_11, hT_8, hT_4]
            exact z_reti () [0, 1, 2] hx hb hr rfl hlocks hK hP hD hS (by rw [← hE, if_pos (show _ = (0 : Int) by omega)]; have hm9 := mBst_s T_14; omega) trivial rfl rfl (by rw [← hE]; rfl) (Nat.le_of_ble_eq_true rfl) (Nat.le_of_ble_eq_true rfl) dX10_most_232
          · refine z_iconst hx hb dX10_most_203 rfl ?_
            refine lv_goto (tgt := 208) hx hb dX10_most_204 (by decide) ?_
            refine lv_istore_n (lv' := [(3, vI 1), (4, vI 1), (2, vI 0), (0, .ref q), (1, vI 0)]) hx hb dX10_most_208 rfl hl (by decide) rfl (fun ls hl => ?_)
            refine z_iinc hx hb 2 (lv' := [(4, vI 2), (3, vI 1), (2, vI 0), (0, .ref q), (1, vI 0)]) dX10_most_209 hl (k := 1) rfl (rfl) (by decide) rfl (fun ls hl => ?_)
            refine lv_goto (tgt := 165) hx hb dX10_most_212 (by decide) ?_
            refine lv_iload hx hb dX10_most_165 (lv_at hl 0 rfl) ?_
            refine z_iconst hx hb dX10_most_167 rfl ?_
            refine z_icmp_ge (tgt := 215) hx hb (by decide) (by decide) dX10_most_168 (by decide) (fun cq39 => False.elim (by omega)) (fun cq39 => ?_)
            refine lv_iload_n hx hb dX10_most_171 rfl (lv_at hl 1 rfl) ?_
            refine z_if_eq (tgt := 207) hx hb (by decide) dX10_most_172 (by decide) (fun cq40 => False.elim (by omega)) (fun cq40 => ?_)
            refine lv_aload_n hx hb dX10_most_175 rfl (lv_at hl 3 rfl) ?_
            refine z_bipush hx hb 78 dX10_most_176 rfl ?_
            refine z_bipush hx hb 78 dX10_most_178 rfl ?_
            refine lv_iload hx hb dX10_most_180 (lv_at hl 0 rfl) ?_
            refine z_iadd hx hb 80 rfl dX10_most_182 ?_
            refine z_cVi (As := [vI 78, vI 80]) (rest := []) ⟨hx, hb, hml, hown, hts⟩ hK hP hD hS hA [0, 1, 2] [] rfl rfl rfl (c_X10_isGreater l g q a (uI x 9 T_14.2.2) T_14 78 80 (by decide) (by decide) (hRT_14_0 (by omega)) (hNT_14_0 (by omega))) (cwV 2 hts gX10_most_X10_isGreater rfl rfl rfl (by decide +kernel) ⟨Nat.le_of_ble_eq_true rfl, Nat.le_of_ble_eq_true rfl⟩) 10 0 rfl rfl rfl (fun _ _ _ _ _ _ => trivial) (fun _ _ _ => trivial) rfl hl.1 (Nat.le_of_ble_eq_true rfl) rfl dX10_most_183 ⟨Nat.le_of_ble_eq_true rfl, Nat.le_of_ble_eq_true rfl⟩ (fun u_41 H locs hwu_41 hP hD hS => ?_)
            try dsimp only at hwu_41
            have hP : zP g [[mdl q a (uI x 9 T_14.2.2)], [((a 0), .inl (g.2 1, 88, .inr (.inl (aL T_14.1))))], [((a 1), .inl (g.2 1, 88, .inr (.inl (aL T_14.2.1))))]] H := hP
            have hD : zD A [[mdl q a (uI x 9 T_14.2.2)], [((a 0), .inl (g.2 1, 88, .inr (.inl (aL T_14.1))))], [((a 1), .inl (g.2 1, 88, .inr (.inl (aL T_14.2.1))))]] := hD
            refine z_toI (rGt 78 80 T_14) rfl ?_
            have hf_42 := rGt_01 78 80 T_14
            refine z_if_ne (tgt := 207) hx hb (by omega) dX10_most_186 (by decide) (fun cq43 => ?_) (fun cq43 => ?_)
            · refine z_iconst hx hb dX10_most_207 rfl ?_
              refine lv_istore_n (lv' := [(3, vI 0), (4, vI 2), (2, vI 0), (0, .ref q), (1, vI 0)]) hx hb dX10_most_208 rfl hl (by decide) rfl (fun ls hl => ?_)
              refine z_iinc hx hb 3 (lv' := [(4, vI 3), (3, vI 0), (2, vI 0), (0, .ref q), (1, vI 0)]) dX10_most_209 hl (k := 1) rfl (rfl) (by decide) rfl (fun ls hl => ?_)
              refine lv_goto (tgt := 165) hx hb dX10_most_212 (by decide) ?_
              refine lv_iload hx hb dX10_most_165 (lv_at hl 0 rfl) ?_
              refine z_iconst hx hb dX10_most_167 rfl ?_
              refine z_icmp_ge (tgt := 215) hx hb (by decide) (by decide) dX10_most_168 (by decide) (fun cq44 => ?_) (fun cq44 => False.elim (by omega))
              refine lv_iload_n hx hb dX10_most_215 rfl (lv_at hl 4 rfl) ?_
              refine z_if_ne (tgt := 223) hx hb (by decide) dX10_most_216 (by decide) (fun cq45 => False.elim (by omega)) (fun cq45 => ?_)
              refine lv_iload_n hx hb dX10_most_219 rfl (lv_at hl 2 rfl) ?_
              refine lv_goto (tgt := 232) hx hb dX10_most_220 (by decide) ?_
              have hE : T_14 = (rNm 80 4 (rNm 79 2 (rNm 78 0 (rZ0 S)))) := by rw [hT_14, hT_11, hT_8, hT_4]
              exact z_reti () [0, 1, 2] hx hb hr rfl hlocks hK hP hD hS (by rw [← hE, if_pos (show _ = (0 : Int) by omega)]; have hm9 := mBst_s T_14; omega) trivial rfl rfl (by rw [← hE]; rfl) (Nat.le_of_ble_eq_true rfl) (Nat.le_of_ble_eq_true rfl) dX10_most_232
            · refine lv_aload_n hx hb dX10_most_189 rfl (lv_at hl 3 rfl) ?_
              refine z_bipush hx hb 78 dX10_most_190 rfl ?_
              refine lv_iload hx hb dX10_most_192 (lv_at hl 0 rfl) ?_
              refine z_iadd hx hb 80 rfl dX10_most_194 ?_
              refine z_bipush hx hb 78 dX10_most_195 rfl ?_
              refine z_cVi (As := [vI 80, vI 78]) (rest := []) ⟨hx, hb, hml, hown, hts⟩ hK hP hD hS hA [0, 1, 2] [] rfl rfl rfl (c_X10_isGreater l g q a (uI x 9 T_14.2.2) T_14 80 78 (by decide) (by decide) (hNT_14_0 (by omega)) (hRT_14_0 (by omega))) (cwV 2 hts gX10_most_X10_isGreater rfl rfl rfl (by decide +kernel) ⟨Nat.le_of_ble_eq_true rfl, Nat.le_of_ble_eq_true rfl⟩) 10 0 rfl rfl rfl (fun _ _ _ _ _ _ => trivial) (fun _ _ _ => trivial) rfl hl.1 (Nat.le_of_ble_eq_true rfl) rfl dX10_most_197 ⟨Nat.le_of_ble_eq_true rfl, Nat.le_of_ble_eq_true rfl⟩ (fun u_46 H locs hwu_46 hP hD hS => ?_)
              try dsimp only at hwu_46
              have hP : zP g [[mdl q a (uI x 9 T_14.2.2)], [((a 0), .inl (g.2 1, 88, .inr (.inl (aL T_14.1))))], [((a 1), .inl (g.2 1, 88, .inr (.inl (aL T_14.2.1))))]] H := hP
              have hD : zD A [[mdl q a (uI x 9 T_14.2.2)], [((a 0), .inl (g.2 1, 88, .inr (.inl (aL T_14.1))))], [((a 1), .inl (g.2 1, 88, .inr (.inl (aL T_14.2.1))))]] := hD
              refine z_toI (rGt 80 78 T_14) rfl ?_
              have hf_47 := rGt_01 80 78 T_14
              refine z_if_ne (tgt := 207) hx hb (by omega) dX10_most_200 (by decide) (fun cq48 => ?_) (fun cq48 => ?_)
              · refine z_iconst hx hb dX10_most_207 rfl ?_
                refine lv_istore_n (lv' := [(3, vI 0), (4, vI 2), (2, vI 0), (0, .ref q), (1, vI 0)]) hx hb dX10_most_208 rfl hl (by decide) rfl (fun ls hl => ?_)
                refine z_iinc hx hb 3 (lv' := [(4, vI 3), (3, vI 0), (2, vI 0), (0, .ref q), (1, vI 0)]) dX10_most_209 hl (k := 1) rfl (rfl) (by decide) rfl (fun ls hl => ?_)
                refine lv_goto (tgt := 165) hx hb dX10_most_212 (by decide) ?_
                refine lv_iload hx hb dX10_most_165 (lv_at hl 0 rfl) ?_
                refine z_iconst hx hb dX10_most_167 rfl ?_
                refine z_icmp_ge (tgt := 215) hx hb (by decide) (by decide) dX10_most_168 (by decide) (fun cq49 => ?_) (fun cq49 => False.elim (by omega))
                refine lv_iload_n hx hb dX10_most_215 rfl (lv_at hl 4 rfl) ?_
                refine z_if_ne (tgt := 223) hx hb (by decide) dX10_most_216 (by decide) (fun cq50 => False.elim (by omega)) (fun cq50 => ?_)
                refine lv_iload_n hx hb dX10_most_219 rfl (lv_at hl 2 rfl) ?_
                refine lv_goto (tgt := 232) hx hb dX10_most_220 (by decide) ?_
                have hE : T_14 = (rNm 80 4 (rNm 79 2 (rNm 78 0 (rZ0 S)))) := by rw [hT_14, hT_11, hT_8, hT_4]
                exact z_reti () [0, 1, 2] hx hb hr rfl hlocks hK hP hD hS (by rw [← hE, if_pos (show _ = (0 : Int) by omega)]; have hm9 := mBst_s T_14; omega) trivial rfl rfl (by rw [← hE]; rfl) (Nat.le_of_ble_eq_true rfl) (Nat.le_of_ble_eq_true rfl) dX10_most_232
              · refine z_iconst hx hb dX10_most_203 rfl ?_
                refine lv_goto (tgt := 208) hx hb dX10_most_204 (by decide) ?_
                refine lv_istore_n (lv' := [(3, vI 1), (4, vI 2), (2, vI 0), (0, .ref q), (1, vI 0)]) hx hb dX10_most_208 rfl hl (by decide) rfl (fun ls hl => ?_)
                refine z_iinc hx hb 3 (lv' := [(4, vI 3), (3, vI 1), (2, vI 0), (0, .ref q), (1, vI 0)]) dX10_most_209 hl (k := 1) rfl (rfl) (by decide) rfl (fun ls hl => ?_)
                refine lv_goto (tgt := 165) hx hb dX10_most_212 (by decide) ?_
                refine lv_iload hx hb dX10_most_165 (lv_at hl 0 rfl) ?_
                refine z_iconst hx hb dX10_most_167 rfl ?_
                refine z_icmp_ge (tgt := 215) hx hb (by decide) (by decide) dX10_most_168 (by decide) (fun cq51 => ?_) (fun cq51 => False.elim (by omega))
                refine lv_iload_n hx hb dX10_most_215 rfl (lv_at hl 4 rfl) ?_
                refine z_if_ne (tgt := 223) hx hb (by decide) dX10_most_216 (by decide) (fun cq52 => False.elim (by omega)) (fun cq52 => ?_)
                refine lv_iload_n hx hb dX10_most_219 rfl (lv_at hl 2 rfl) ?_
                refine lv_goto (tgt := 232) hx hb dX10_most_220 (by decide) ?_
                have hE : T_14 = (rNm 80 4 (rNm 79 2 (rNm 78 0 (rZ0 S)))) := by rw [hT_14, hT_11, hT_8, hT_4]
                exact z_reti () [0, 1, 2] hx hb hr rfl hlocks hK hP hD hS (by rw [← hE, if_pos (show _ = (0 : Int) by omega)]; have hm9 := mBst_s T_14; omega) trivial rfl rfl (by rw [← hE]; rfl) (Nat.le_of_ble_eq_true rfl) (Nat.le_of_ble_eq_true rfl) dX10_most_232
      · refine z_iconst hx hb dX10_most_154 rfl ?_
        refine lv_goto (tgt := 159) hx hb dX10_most_155 (by decide) ?_
        refine lv_istore_n (lv' := [(2, vI 2), (0, .ref q), (1, vI 0)]) hx hb dX10_most_159 rfl hl (by decide) rfl (fun ls hl => ?_)
        refine z_iconst hx hb dX10_most_160 rfl ?_
        refine lv_istore_n (lv' := [(3, vI 1), (2, vI 2), (0, .ref q), (1, vI 0)]) hx hb dX10_most_161 rfl hl (by decide) rfl (fun ls hl => ?_)
        refine z_iconst hx hb dX10_most_162 rfl ?_
        refine lv_istore (lv' := [(4, vI 1), (3, vI 1), (2, vI 2), (0, .ref q), (1, vI 0)]) hx hb dX10_most_163 hl (by decide) rfl (fun ls hl => ?_)
        refine lv_iload hx hb dX10_most_165 (lv_at hl 0 rfl) ?_
        refine z_iconst hx hb dX10_most_167 rfl ?_
        refine z_icmp_ge (tgt := 215) hx hb (by decide) (by decide) dX10_most_168 (by decide) (fun cq53 => False.elim (by omega)) (fun cq53 => ?_)
        refine lv_iload_n hx hb dX10_most_171 rfl (lv_at hl 1 rfl) ?_
        refine z_if_eq (tgt := 207) hx hb (by decide) dX10_most_172 (by decide) (fun cq54 => False.elim (by omega)) (fun cq54 => ?_)
        refine lv_aload_n hx hb dX10_most_175 rfl (lv_at hl 3 rfl) ?_
        refine z_bipush hx hb 78 dX10_most_176 rfl ?_
        refine z_bipush hx hb 78 dX10_most_178 rfl ?_
        refine lv_iload hx hb dX10_most_180 (lv_at hl 0 rfl) ?_
        refine z_iadd hx hb 79 rfl dX10_most_182 ?_
        refine z_cVi (As := [vI 78, vI 79]) (rest := []) ⟨hx, hb, hml, hown, hts⟩ hK hP hD hS hA [0, 1, 2] [] rfl rfl rfl (c_X10_isGreater l g q a (uI x 9 T_14.2.2) T_14 78 79 (by decide) (by decide) (hRT_14_0 (by omega)) (hRT_14_1 (by omega))) (cwV 2 hts gX10_most_X10_isGreater rfl rfl rfl (by decide +kernel) ⟨Nat.le_of_ble_eq_true rfl, Nat.le_of_ble_eq_true rfl⟩) 10 0 rfl rfl rfl (fun _ _ _ _ _ _ => trivial) (fun _ _ _ => trivial) rfl hl.1 (Nat.le_of_ble_eq_true rfl) rfl dX10_most_183 ⟨Nat.le_of_ble_eq_true rfl, Nat.le_of_ble_eq_true rfl⟩ (fun u_55 H locs hwu_55 hP hD hS => ?_)
        try dsimp only at hwu_55
        have hP : zP g [[mdl q a (uI x 9 T_14.2.2)], [((a 0), .inl (g.2 1, 88, .inr (.inl (aL T_14.1))))], [((a 1), .inl (g.2 1, 88, .inr (.inl (aL T_14.2.1))))]] H := hP
        have hD : zD A [[mdl q a (uI x 9 T_14.2.2)], [((a 0), .inl (g.2 1, 88, .inr (.inl (aL T_14.1))))], [((a 1), .inl (g.2 1, 88, .inr (.inl (aL T_14.2.1))))]] := hD
        refine z_toI (rGt 78 79 T_14) rfl ?_
        have hf_56 := rGt_01 78 79 T_14
        refine z_if_ne (tgt := 207) hx hb (by omega) dX10_most_186 (by decide) (fun cq57 => ?_) (fun cq57 => ?_)
        · refine z_iconst hx hb dX10_most_207 rfl ?_
          refine lv_istore_n (lv' := [(3, vI 0), (4, vI 1), (2, vI 2), (0, .ref q), (1, vI 0)]) hx hb dX10_most_208 rfl hl (by decide) rfl (fun ls hl => ?_)
          refine z_iinc hx hb 2 (lv' := [(4, vI 2), (3, vI 0), (2, vI 2), (0, .ref q), (1, vI 0)]) dX10_most_209 hl (k := 1) rfl (rfl) (by decide) rfl (fun ls hl => ?_)
          refine lv_goto (tgt := 165) hx hb dX10_most_212 (by decide) ?_
          refine lv_iload hx hb dX10_most_165 (lv_at hl 0 rfl) ?_
          refine z_iconst hx hb dX10_most_167 rfl ?_
          refine z_icmp_ge (tgt := 215) hx hb (by decide) (by decide) dX10_most_168 (by decide) (fun cq58 => False.elim (by omega)) (fun cq58 => ?_)
          refine lv_iload_n hx hb dX10_most_171 rfl (lv_at hl 1 rfl) ?_
          refine z_if_eq (tgt := 207) hx hb (by decide) dX10_most_172 (by decide) (fun cq59 => ?_) (fun cq59 => False.elim (by omega))
          refine z_iconst hx hb dX10_most_207 rfl ?_
          refine lv_istore_n (lv' := [(3, vI 0), (4, vI 2), (2, vI 2), (0, .ref q), (1, vI 0)]) hx hb dX10_most_208 rfl hl (by decide) rfl (fun ls hl => ?_)
          refine z_iinc hx hb 3 (lv' := [(4, vI 3), (3, vI 0), (2, vI 2), (0, .ref q), (1, vI 0)]) dX10_most_209 hl (k := 1) rfl (rfl) (by decide) rfl (fun ls hl => ?_)
          refine lv_goto (tgt := 165) hx hb dX10_most_212 (by decide) ?_
          refine lv_iload hx hb dX10_most_165 (lv_at hl 0 rfl) ?_
          refine z_iconst hx hb dX10_most_167 rfl ?_
          refine z_icmp_ge (tgt := 215) hx hb (by decide) (by decide) dX10_most_168 (by decide) (fun cq60 => ?_) (fun cq60 => False.elim (by omega))
          refine lv_iload_n hx hb dX10_most_215 rfl (lv_at hl 4 rfl) ?_
          refine z_if_ne (tgt := 223) hx hb (by decide) dX10_most_216 (by decide) (fun cq61 => False.elim (by omega)) (fun cq61 => ?_)
          refine lv_iload_n hx hb dX10_most_219 rfl (lv_at hl 2 rfl) ?_
          refine lv_goto (tgt := 232) hx hb dX10_most_220 (by decide) ?_
          have hE : T_14 = (rNm 80 4 (rNm 79 2 (rNm 78 0 (rZ0 S)))) := by rw [hT_14, hT_11, hT_8, hT_4]
          exact z_reti () [0, 1, 2] hx hb hr rfl hlocks hK hP hD hS (by rw [← hE, if_pos (show _ = (0 : Int) by omega)]; have hm9 := mBst_s T_14; omega) trivial rfl rfl (by rw [← hE]; rfl) (Nat.le_of_ble_eq_true rfl) (Nat.le_of_ble_eq_true rfl) dX10_most_232
        · refine lv_aload_n hx hb dX10_most_189 rfl (lv_at hl 3 rfl) ?_
          refine z_bipush hx hb 78 dX10_most_190 rfl ?_
          refine lv_iload hx hb dX10_most_192 (lv_at hl 0 rfl) ?_
          refine z_iadd hx hb 79 rfl dX10_most_194 ?_
          refine z_bipush hx hb 78 dX10_most_195 rfl ?_
          refine z_cVi (As := [vI 79, vI 78]) (rest := []) ⟨hx, hb, hml, hown, hts⟩ hK hP hD hS hA [0, 1, 2] [] rfl rfl rfl (c_X10_isGreater l g q a (uI x 9 T_14.2.2) T_14 79 78 (by decide) (by decide) (hRT_14_1 (by omega)) (hRT_14_0 (by omega))) (cwV 2 hts gX10_most_X10_isGreater rfl rfl rfl (by decide +kernel) ⟨Nat.le_of_ble_eq_true rfl, Nat.le_of_ble_eq_true rfl⟩) 10 0 rfl rfl rfl (fun _ _ _ _ _ _ => trivial) (fun _ _ _ => trivial) rfl hl.1 (Nat.le_of_ble_eq_true rfl) rfl dX10_most_197 ⟨Nat.le_of_ble_eq_true rfl, Nat.le_of_ble_eq_true rfl⟩ (fun u_62 H locs hwu_62 hP hD hS => ?_)
          try dsimp only at hwu_62
          have hP : zP g [[mdl q a (uI x 9 T_14.2.2)], [((a 0), .inl (g.2 1, 88, .inr (.inl (aL T_14.1))))], [((a 1), .inl (g.2 1, 88, .inr (.inl (aL T_14.2.1))))]] H := hP
          have hD : zD A [[mdl q a (uI x 9 T_14.2.2)], [((a 0), .inl (g.2 1, 88, .inr (.inl (aL T_14.1))))], [((a 1), .inl (g.2 1, 88, .inr (.inl (aL T_14.2.1))))]] := hD
          refine z_toI (rGt 79 78 T_14) rfl ?_
          have hf_63 := rGt_01 79 78 T_14
          refine z_if_ne (tgt := 207) hx hb (by omega) dX10_most_200 (by decide) (fun cq64 => ?_) (fun cq64 => ?_)
          · refine z_iconst hx hb dX10_most_207 rfl ?_
            refine lv_istore_n (lv' := [(3, vI 0), (4, vI 1), (2, vI 2), (0, .ref q), (1, vI 0)]) hx hb dX10_most_208 rfl hl (by decide) rfl (fun ls hl => ?_)
            refine z_iinc hx hb 2 (lv' := [(4, vI 2), (3, vI 0), (2, vI 2), (0, .ref q), (1, vI 0)]) dX10_most_209 hl (k := 1) rfl (rfl) (by decide) rfl (fun ls hl => ?_)
            refine lv_goto (tgt := 165) hx hb dX10_most_212 (by decide) ?_
            refine lv_iload hx hb dX10_most_165 (lv_at hl 0 rfl) ?_
            refine z_iconst hx hb dX10_most_167 rfl ?_
            refine z_icmp_ge (tgt := 215) hx hb (by decide) (by decide) dX10_most_168 (by decide) (fun cq65 => False.elim (by omega)) (fun cq65 => ?_)
            refine lv_iload_n hx hb dX10_most_171 rfl (lv_at hl 1 rfl) ?_
            refine z_if_eq (tgt := 207) hx hb (by decide) dX10_most_172 (by decide) (fun cq66 => ?_) (fun cq66 => False.elim (by omega))
            refine z_iconst hx hb dX10_most_207 rfl ?_
            refine lv_istore_n (lv' := [(3, vI 0), (4, vI 2), (2, vI 2), (0, .ref q), (1, vI 0)]) hx hb dX10_most_208 rfl hl (by decide) rfl (fun ls hl => ?_)
            refine z_iinc hx hb 3 (lv' := [(4, vI 3), (3, vI 0), (2, vI 2), (0, .ref q), (1, vI 0)]) dX10_most_209 hl (k := 1) rfl (rfl) (by decide) rfl (fun ls hl => ?_)
            refine lv_goto (tgt := 165) hx hb dX10_most_212 (by decide) ?_
            refine lv_iload hx hb dX10_most_165 (lv_at hl 0 rfl) ?_
            refine z_iconst hx hb dX10_most_167 rfl ?_
            refine z_icmp_ge (tgt := 215) hx hb (by decide) (by decide) dX10_most_168 (by decide) (fun cq67 => ?_) (fun cq67 => False.elim (by omega))
            refine lv_iload_n hx hb dX10_most_215 rfl (lv_at hl 4 rfl) ?_
            refine z_if_ne (tgt := 223) hx hb (by decide) dX10_most_216 (by decide) (fun cq68 => False.elim (by omega)) (fun cq68 => ?_)
            refine lv_iload_n hx hb dX10_most_219 rfl (lv_at hl 2 rfl) ?_
            refine lv_goto (tgt := 232) hx hb dX10_most_220 (by decide) ?_
            have hE : T_14 = (rNm 80 4 (rNm 79 2 (rNm 78 0 (rZ0 S)))) := by rw [hT_14, hT_11, hT_8, hT_4]
            exact z_reti () [0, 1, 2] hx hb hr rfl hlocks hK hP hD hS (by rw [← hE, if_pos (show _ = (0 : Int) by omega)]; have hm9 := mBst_s T_14; omega) trivial rfl rfl (by rw [← hE]; rfl) (Nat.le_of_ble_eq_true rfl) (Nat.le_of_ble_eq_true rfl) dX10_most_232
          · refine z_iconst hx hb dX10_most_203 rfl ?_
            refine lv_goto (tgt := 208) hx hb dX10_most_204 (by decide) ?_
            refine lv_istore_n (lv' := [(3, vI 1), (4, vI 1), (2, vI 2), (0, .ref q), (1, vI 0)]) hx hb dX10_most_208 rfl hl (by decide) rfl (fun ls hl => ?_)
            refine z_iinc hx hb 2 (lv' := [(4, vI 2), (3, vI 1), (2, vI 2), (0, .ref q), (1, vI 0)]) dX10_most_209 hl (k := 1) rfl (rfl) (by decide) rfl (fun ls hl => ?_)
            refine lv_goto (tgt := 165) hx hb dX10_most_212 (by decide) ?_
            refine lv_iload hx hb dX10_most_165 (lv_at hl 0 rfl) ?_
            refine z_iconst hx hb dX10_most_167 rfl ?_
            refine z_icmp_ge (tgt := 215) hx hb (by decide) (by decide) dX10_most_168 (by decide) (fun cq69 => False.elim (by omega)) (fun cq69 => ?_)
            refine lv_iload_n hx hb dX10_most_171 rfl (lv_at hl 1 rfl) ?_
            refine z_if_eq (tgt := 207) hx hb (by decide) dX10_most_172 (by decide) (fun cq70 => False.elim (by omega)) (fun cq70 => ?_)
            refine lv_aload_n hx hb dX10_most_175 rfl (lv_at hl 3 rfl) ?_
            refine z_bipush hx hb 78 dX10_most_176 rfl ?_
            refine z_bipush hx hb 78 dX10_most_178 rfl ?_
            refine lv_iload hx hb dX10_most_180 (lv_at hl 0 rfl) ?_
            refine z_iadd hx hb 80 rfl dX10_most_182 ?_
            refine z_cVi (As := [vI 78, vI 80]) (rest := []) ⟨hx, hb, hml, hown, hts⟩ hK hP hD hS hA [0, 1, 2] [] rfl rfl rfl (c_X10_isGreater l g q a (uI x 9 T_14.2.2) T_14 78 80 (by decide) (by decide) (hRT_14_0 (by omega)) (hNT_14_0 (by omega))) (cwV 2 hts gX10_most_X10_isGreater rfl rfl rfl (by decide +kernel) ⟨Nat.le_of_ble_eq_true rfl, Nat.le_of_ble_eq_true rfl⟩) 10 0 rfl rfl rfl (fun _ _ _ _ _ _ => trivial) (fun _ _ _ => trivial) rfl hl.1 (Nat.le_of_ble_eq_true rfl) rfl dX10_most_183 ⟨Nat.le_of_ble_eq_true rfl, Nat.le_of_ble_eq_true rfl⟩ (fun u_71 H locs hwu_71 hP hD hS => ?_)
            try dsimp only at hwu_71
            have hP : zP g [[mdl q a (uI x 9 T_14.2.2)], [((a 0), .inl (g.2 1, 88, .inr (.inl (aL T_14.1))))], [((a 1), .inl (g.2 1, 88, .inr (.inl (aL T_14.2.1))))]] H := hP
            have hD : zD A [[mdl q a (uI x 9 T_14.2.2)], [((a 0), .inl (g.2 1, 88, .inr (.inl (aL T_14.1))))], [((a 1), .inl (g.2 1, 88, .inr (.inl (aL T_14.2.1))))]] := hD
            refine z_toI (rGt 78 80 T_14) rfl ?_
            have hf_72 := rGt_01 78 80 T_14
            refine z_if_ne (tgt := 207) hx hb (by omega) dX10_most_186 (by decide) (fun cq73 => ?_) (fun cq73 => ?_)
            · refine z_iconst hx hb dX10_most_207 rfl ?_
              refine lv_istore_n (lv' := [(3, vI 0), (4, vI 2), (2, vI 2), (0, .ref q), (1, vI 0)]) hx hb dX10_most_208 rfl hl (by decide) rfl (fun ls hl => ?_)
              refine z_iinc hx hb 3 (lv' := [(4, vI 3), (3, vI 0), (2, vI 2), (0, .ref q), (1, vI 0)]) dX10_most_209 hl (k := 1) rfl (rfl) (by decide) rfl (fun ls hl => ?_)
              refine lv_goto (tgt := 165) hx hb dX10_most_212 (by decide) ?_
              refine lv_iload hx hb dX10_most_165 (lv_at hl 0 rfl) ?_
              refine z_iconst hx hb dX10_most_167 rfl ?_
              refine z_icmp_ge (tgt := 215) hx hb (by decide) (by decide) dX10_most_168 (by decide) (fun cq74 => ?_) (fun cq74 => False.elim (by omega))
              refine lv_iload_n hx hb dX10_most_215 rfl (lv_at hl 4 rfl) ?_
              refine z_if_ne (tgt := 223) hx hb (by decide) dX10_most_216 (by decide) (fun cq75 => False.elim (by omega)) (fun cq75 => ?_)
              refine lv_iload_n hx hb dX10_most_219 rfl (lv_at hl 2 rfl) ?_
              refine lv_goto (tgt := 232) hx hb dX10_most_220 (by decide) ?_
              have hE : T_14 = (rNm 80 4 (rNm 79 2 (rNm 78 0 (rZ0 S)))) := by rw [hT_14, hT_11, hT_8, hT_4]
              exact z_reti () [0, 1, 2] hx hb hr rfl hlocks hK hP hD hS (by rw [← hE, if_pos (show _ = (0 : Int) by omega)]; have hm9 := mBst_s T_14; omega) trivial rfl rfl (by rw [← hE]; rfl) (Nat.le_of_ble_eq_true rfl) (Nat.le_of_ble_eq_true rfl) dX10_most_232
            · refine lv_aload_n hx hb dX10_most_189 rfl (lv_at hl 3 rfl) ?_
              refine z_bipush hx hb 78 dX10_most_190 rfl ?_
              refine lv_iload hx hb dX10_most_192 (lv_at hl 0 rfl) ?_
              refine z_iadd hx hb 80 rfl dX10_most_194 ?_
              refine z_bipush hx hb 78 dX10_most_195 rfl ?_
              refine z_cVi (As := [vI 80, vI 78]) (rest := []) ⟨hx, hb, hml, hown, hts⟩ hK hP hD hS hA [0, 1, 2] [] rfl rfl rfl (c_X10_isGreater l g q a (uI x 9 T_14.2.2) T_14 80 78 (by decide) (by decide) (hNT_14_0 (by omega)) (hRT_14_0 (by omega))) (cwV 2 hts gX10_most_X10_isGreater rfl rfl rfl (by decide +kernel) ⟨Nat.le_of_ble_eq_true rfl, Nat.le_of_ble_eq_true rfl⟩) 10 0 rfl rfl rfl (fun _ _ _ _ _ _ => trivial) (fun _ _ _ => trivial) rfl hl.1 (Nat.le_of_ble_eq_true rfl) rfl dX10_most_197 ⟨Nat.le_of_ble_eq_true rfl, Nat.le_of_ble_eq_true rfl⟩ (fun u_76 H locs hwu_76 hP hD hS => ?_)
              try dsimp only at hwu_76
              have hP : zP g [[mdl q a (uI x 9 T_14.2.2)], [((a 0), .inl (g.2 1, 88, .inr (.inl (aL T_14.1))))], [((a 1), .inl (g.2 1, 88, .inr (.inl (aL T_14.2.1))))]] H := hP
              have hD : zD A [[mdl q a (uI x 9 T_14.2.2)], [((a 0), .inl (g.2 1, 88, .inr (.inl (aL T_14.1))))], [((a 1), .inl (g.2 1, 88, .inr (.inl (aL T_14.2.1))))]] := hD
              refine z_toI (rGt 80 78 T_14) rfl ?_
              have hf_77 := rGt_01 80 78 T_14
              refine z_if_ne (tgt := 207) hx hb (by omega) dX10_most_200 (by decide) (fun cq78 => ?_) (fun cq78 => ?_)
              · refine z_iconst hx hb dX10_most_207 rfl ?_
                refine lv_istore_n (lv' := [(3, vI 0), (4, vI 2), (2, vI 2), (0, .ref q), (1, vI 0)]) hx hb dX10_most_208 rfl hl (by decide) rfl (fun ls hl => ?_)
                refine z_iinc hx hb 3 (lv' := [(4, vI 3), (3, vI 0), (2, vI 2), (0, .ref q), (1, vI 0)]) dX10_most_209 hl (k := 1) rfl (rfl) (by decide) rfl (fun ls hl => ?_)
                refine lv_goto (tgt := 165) hx hb dX10_most_212 (by decide) ?_
                refine lv_iload hx hb dX10_most_165 (lv_at hl 0 rfl) ?_
                refine z_iconst hx hb dX10_most_167 rfl ?_
                refine z_icmp_ge (tgt := 215) hx hb (by decide) (by decide) dX10_most_168 (by decide) (fun cq79 => ?_) (fun cq79 => False.elim (by omega))
                refine lv_iload_n hx hb dX10_most_215 rfl (lv_at hl 4 rfl) ?_
                refine z_if_ne (tgt := 223) hx hb (by decide) dX10_most_216 (by decide) (fun cq80 => False.elim (by omega)) (fun cq80 => ?_)
                refine lv_iload_n hx hb dX10_most_219 rfl (lv_at hl 2 rfl) ?_
                refine lv_goto (tgt := 232) hx hb dX10_most_220 (by decide) ?_
                have hE : T_14 = (rNm 80 4 (rNm 79 2 (rNm 78 0 (rZ0 S)))) := by rw [hT_14, hT_11, hT_8, hT_4]
                exact z_reti () [0, 1, 2] hx hb hr rfl hlocks hK hP hD hS (by rw [← hE, if_pos (show _ = (0 : Int) by omega)]; have hm9 := mBst_s T_14; omega) trivial rfl rfl (by rw [← hE]; rfl) (Nat.le_of_ble_eq_true rfl) (Nat.le_of_ble_eq_true rfl) dX10_most_232
              · refine z_iconst hx hb dX10_most_203 rfl ?_
                refine lv_goto (tgt := 208) hx hb dX10_most_204 (by decide) ?_
                refine lv_istore_n (lv' := [(3, vI 1), (4, vI 2), (2, vI 2), (0, .ref q), (1, vI 0)]) hx hb dX10_most_208 rfl hl (by decide) rfl (fun ls hl => ?_)
                refine z_iinc hx hb 3 (lv' := [(4, vI 3), (3, vI 1), (2, vI 2), (0, .ref q), (1, vI 0)]) dX10_most_209 hl (k := 1) rfl (rfl) (by decide) rfl (fun ls hl => ?_)
                refine lv_goto (tgt := 165) hx hb dX10_most_212 (by decide) ?_
                refine lv_iload hx hb dX10_most_165 (lv_at hl 0 rfl) ?_
                refine z_iconst hx hb dX10_most_167 rfl ?_
                refine z_icmp_ge (tgt := 215) hx hb (by decide) (by decide) dX10_most_168 (by decide) (fun cq81 => ?_) (fun cq81 => False.elim (by omega))
                refine lv_iload_n hx hb dX10_most_215 rfl (lv_at hl 4 rfl) ?_
                refine z_if_ne (tgt := 223) hx hb (by decide) dX10_most_216 (by decide) (fun cq82 => False.elim (by omega)) (fun cq82 => ?_)
                refine lv_iload_n hx hb dX10_most_219 rfl (lv_at hl 2 rfl) ?_
                refine lv_goto (tgt := 232) hx hb dX10_most_220 (by decide) ?_
                have hE : T_14 = (rNm 80 4 (rNm 79 2 (rNm 78 0 (rZ0 S)))) := by rw [hT_14, hT_11, hT_8, hT_4]
                exact z_reti () [0, 1, 2] hx hb hr rfl hlocks hK hP hD hS (by rw [← hE, if_pos (show _ = (0 : Int) by omega)]; have hm9 := mBst_s T_14; omega) trivial rfl rfl (by rw [← hE]; rfl) (Nat.le_of_ble_eq_true rfl) (Nat.le_of_ble_eq_true rfl) dX10_most_232
    · refine z_iconst hx hb dX10_most_135 rfl ?_
      refine lv_goto (tgt := 140) hx hb dX10_most_136 (by decide) ?_
      refine lv_istore_n (lv' := [(2, vI 1), (0, .ref q), (1, vI 0)]) hx hb dX10_most_140 rfl hl (by decide) rfl (fun ls hl => ?_)
      refine lv_aload_n hx hb dX10_most_141 rfl (lv_at hl 1 rfl) ?_
      refine z_bipush hx hb 80 dX10_most_142 rfl ?_
      refine z_bipush hx hb 78 dX10_most_144 rfl ?_
      refine lv_iload_n hx hb dX10_most_146 rfl (lv_at hl 0 rfl) ?_
      refine z_iadd hx hb 79 rfl dX10_most_147 ?_
      refine z_cVi (As := [vI 80, vI 79]) (rest := []) ⟨hx, hb, hml, hown, hts⟩ hK hP hD hS hA [0, 1, 2] [] rfl rfl rfl (c_X10_isGreater l g q a (uI x 9 T_14.2.2) T_14 80 79 (by decide) (by decide) (hNT_14_0 (by omega)) (hRT_14_1 (by omega))) (cwV 2 hts gX10_most_X10_isGreater rfl rfl rfl (by decide +kernel) ⟨Nat.le_of_ble_eq_true rfl, Nat.le_of_ble_eq_true rfl⟩) 10 0 rfl rfl rfl (fun _ _ _ _ _ _ => trivial) (fun _ _ _ => trivial) rfl hl.1 (Nat.le_of_ble_eq_true rfl) rfl dX10_most_148 ⟨Nat.le_of_ble_eq_true rfl, Nat.le_of_ble_eq_true rfl⟩ (fun u_83 H locs hwu_83 hP hD hS => ?_)
      try dsimp only at hwu_83
      have hP : zP g [[mdl q a (uI x 9 T_14.2.2)], [((a 0), .inl (g.2 1, 88, .inr (.inl (aL T_14.1))))], [((a 1), .inl (g.2 1, 88, .inr (.inl (aL T_14.2.1))))]] H := hP
      have hD : zD A [[mdl q a (uI x 9 T_14.2.2)], [((a 0), .inl (g.2 1, 88, .inr (.inl (aL T_14.1))))], [((a 1), .inl (g.2 1, 88, .inr (.inl (aL T_14.2.1))))]] := hD
      refine z_toI (rGt 80 79 T_14) rfl ?_
      have hf_84 := rGt_01 80 79 T_14
      refine z_if_eq (tgt := 158) hx hb (by omega) dX10_most_151 (by decide) (fun cq85 => ?_) (fun cq85 => ?_)
      · refine lv_iload_n hx hb dX10_most_158 rfl (lv_at hl 0 rfl) ?_
        refine lv_istore_n (lv' := [(2, vI 1), (0, .ref q), (1, vI 0)]) hx hb dX10_most_159 rfl hl (by decide) rfl (fun ls hl => ?_)
        refine z_iconst hx hb dX10_most_160 rfl ?_
        refine lv_istore_n (lv' := [(3, vI 1), (2, vI 1), (0, .ref q), (1, vI 0)]) hx hb dX10_most_161 rfl hl (by decide) rfl (fun ls hl => ?_)
        refine z_iconst hx hb dX10_most_162 rfl ?_
        refine lv_istore (lv' := [(4, vI 1), (3, vI 1), (2, vI 1), (0, .ref q), (1, vI 0)]) hx hb dX10_most_163 hl (by decide) rfl (fun ls hl => ?_)
        refine lv_iload hx hb dX10_most_165 (lv_at hl 0 rfl) ?_
        refine z_iconst hx hb dX10_most_167 rfl ?_
        refine z_icmp_ge (tgt := 215) hx hb (by decide) (by decide) dX10_most_168 (by decide) (fun cq86 => False.elim (by omega)) (fun cq86 => ?_)
        refine lv_iload_n hx hb dX10_most_171 rfl (lv_at hl 1 rfl) ?_
        refine z_if_eq (tgt := 207) hx hb (by decide) dX10_most_172 (by decide) (fun cq87 => False.elim (by omega)) (fun cq87 => ?_)
        refine lv_aload_n hx hb dX10_most_175 rfl (lv_at hl 3 rfl) ?_
        refine z_bipush hx hb 78 dX10_most_176 rfl ?_
        refine z_bipush hx hb 78 dX10_most_178 rfl ?_
        refine lv_iload hx hb dX10_most_180 (lv_at hl 0 rfl) ?_
        refine z_iadd hx hb 79 rfl dX10_most_182 ?_
        refine z_cVi (As := [vI 78, vI 79]) (rest := []) ⟨hx, hb, hml, hown, hts⟩ hK hP hD hS hA [0, 1, 2] [] rfl rfl rfl (c_X10_isGreater l g q a (uI x 9 T_14.2.2) T_14 78 79 (by decide) (by decide) (hRT_14_0 (by omega)) (hRT_14_1 (by omega))) (cwV 2 hts gX10_most_X10_isGreater rfl rfl rfl (by decide +kernel) ⟨Nat.le_of_ble_eq_true rfl, Nat.le_of_ble_eq_true rfl⟩) 10 0 rfl rfl rfl (fun _ _ _ _ _ _ => trivial) (fun _ _ _ => trivial) rfl hl.1 (Nat.le_of_ble_eq_true rfl) rfl dX10_most_183 ⟨Nat.le_of_ble_eq_true rfl, Nat.le_of_ble_eq_true rfl⟩ (fun u_88 H locs hwu_88 hP hD hS => ?_)
        try dsimp only at hwu_88
        have hP : zP g [[mdl q a (uI x 9 T_14.2.2)], [((a 0), .inl (g.2 1, 88, .inr (.inl (aL T_14.1))))], [((a 1), .inl (g.2 1, 88, .inr (.inl (aL T_14.2.1))))]] H := hP
        have hD : zD A [[mdl q a (uI x 9 T_14.2.2)], [((a 0), .inl (g.2 1, 88, .inr (.inl (aL T_14.1))))], [((a 1), .inl (g.2 1, 88, .inr (.inl (aL T_14.2.1))))]] := hD
        refine z_toI (rGt 78 79 T_14) rfl ?_
        have hf_89 := rGt_01 78 79 T_14
        refine z_if_ne (tgt := 207) hx hb (by omega) dX10_most_186 (by decide) (fun cq90 => ?_) (fun cq90 => ?_)
        · refine z_iconst hx hb dX10_most_207 rfl ?_
          refine lv_istore_n (lv' := [(3, vI 0), (4, vI 1), (2, vI 1), (0, .ref q), (1, vI 0)]) hx hb dX10_most_208 rfl hl (by decide) rfl (fun ls hl => ?_)
          refine z_iinc hx hb 2 (lv' := [(4, vI 2), (3, vI 0), (2, vI 1), (0, .ref q), (1, vI 0)]) dX10_most_209 hl (k := 1) rfl (rfl) (by decide) rfl (fun ls hl => ?_)
          refine lv_goto (tgt := 165) hx hb dX10_most_212 (by decide) ?_
          refine lv_iload hx hb dX10_most_165 (lv_at hl 0 rfl) ?_
          refine z_iconst hx hb dX10_most_167 rfl ?_
          refine z_icmp_ge (tgt := 215) hx hb (by decide) (by decide) dX10_most_168 (by decide) (fun cq91 => False.elim (by omega)) (fun cq91 => ?_)
          refine lv_iload_n hx hb dX10_most_171 rfl (lv_at hl 1 rfl) ?_
          refine z_if_eq (tgt := 207) hx hb (by decide) dX10_most_172 (by decide) (fun cq92 => ?_) (fun cq92 => False.elim (by omega))
          refine z_iconst hx hb dX10_most_207 rfl ?_
          refine lv_istore_n (lv' := [(3, vI 0), (4, vI 2), (2, vI 1), (0, .ref q), (1, vI 0)]) hx hb dX10_most_208 rfl hl (by decide) rfl (fun ls hl => ?_)
          refine z_iinc hx hb 3 (lv' := [(4, vI 3), (3, vI 0), (2, vI 1), (0, .ref q), (1, vI 0)]) dX10_most_209 hl (k := 1) rfl (rfl) (by decide) rfl (fun ls hl => ?_)
          refine lv_goto (tgt := 165) hx hb dX10_most_212 (by decide) ?_
          refine lv_iload hx hb dX10_most_165 (lv_at hl 0 rfl) ?_
          refine z_iconst hx hb dX10_most_167 rfl ?_
          refine z_icmp_ge (tgt := 215) hx hb (by decide) (by decide) dX10_most_168 (by decide) (fun cq93 => ?_) (fun cq93 => False.elim (by omega))
          refine lv_iload_n hx hb dX10_most_215 rfl (lv_at hl 4 rfl) ?_
          refine z_if_ne (tgt := 223) hx hb (by decide) dX10_most_216 (by decide) (fun cq94 => False.elim (by omega)) (fun cq94 => ?_)
          refine lv_iload_n hx hb dX10_most_219 rfl (lv_at hl 2 rfl) ?_
          refine lv_goto (tgt := 232) hx hb dX10_most_220 (by decide) ?_
          have hE : T_14 = (rNm 80 4 (rNm 79 2 (rNm 78 0 (rZ0 S)))) := by rw [hT_14, hT_11, hT_8, hT_4]
          exact z_reti () [0, 1, 2] hx hb hr rfl hlocks hK hP hD hS (by rw [← hE, if_pos (show _ = (0 : Int) by omega)]; have hm9 := mBst_s T_14; omega) trivial rfl rfl (by rw [← hE]; rfl) (Nat.le_of_ble_eq_true rfl) (Nat.le_of_ble_eq_true rfl) dX10_most_232
        · refine lv_aload_n hx hb dX10_most_189 rfl (lv_at hl 3 rfl) ?_
          refine z_bipush hx hb 78 dX10_most_190 rfl ?_
          refine lv_iload hx hb dX10_most_192 (lv_at hl 0 rfl) ?_
          refine z_iadd hx hb 79 rfl dX10_most_194 ?_
          refine z_bipush hx hb 78 dX10_most_195 rfl ?_
          refine z_cVi (As := [vI 79, vI 78]) (rest := []) ⟨hx, hb, hml, hown, hts⟩ hK hP hD hS hA [0, 1, 2] [] rfl rfl rfl (c_X10_isGreater l g q a (uI x 9 T_14.2.2) T_14 79 78 (by decide) (by decide) (hRT_14_1 (by omega)) (hRT_14_0 (by omega))) (cwV 2 hts gX10_most_X10_isGreater rfl rfl rfl (by decide +kernel) ⟨Nat.le_of_ble_eq_true rfl, Nat.le_of_ble_eq_true rfl⟩) 10 0 rfl rfl rfl (fun _ _ _ _ _ _ => trivial) (fun _ _ _ => trivial) rfl hl.1 (Nat.le_of_ble_eq_true rfl) rfl dX10_most_197 ⟨Nat.le_of_ble_eq_true rfl, Nat.le_of_ble_eq_true rfl⟩ (fun u_95 H locs hwu_95 hP hD hS => ?_)
          try dsimp only at hwu_95
          have hP : zP g [[mdl q a (uI x 9 T_14.2.2)], [((a 0), .inl (g.2 1, 88, .inr (.inl (aL T_14.1))))], [((a 1), .inl (g.2 1, 88, .inr (.inl (aL T_14.2.1))))]] H := hP
          have hD : zD A [[mdl q a (uI x 9 T_14.2.2)], [((a 0), .inl (g.2 1, 88, .inr (.inl (aL T_14.1))))], [((a 1), .inl (g.2 1, 88, .inr (.inl (aL T_14.2.1))))]] := hD
          refine z_toI (rGt 79 78 T_14) rfl ?_
          have hf_96 := rGt_01 79 78 T_14
          refine z_if_ne (tgt := 207) hx hb (by omega) dX10_most_200 (by decide) (fun cq97 => ?_) (fun cq97 => ?_)
          · refine z_iconst hx hb dX10_most_207 rfl ?_
            refine lv_istore_n (lv' := [(3, vI 0), (4, vI 1), (2, vI 1), (0, .ref q), (1, vI 0)]) hx hb dX10_most_208 rfl hl (by decide) rfl (fun ls hl => ?_)
            refine z_iinc hx hb 2 (lv' := [(4, vI 2), (3, vI 0), (2, vI 1), (0, .ref q), (1, vI 0)]) dX10_most_209 hl (k := 1) rfl (rfl) (by decide) rfl (fun ls hl => ?_)
            refine lv_goto (tgt := 165) hx hb dX10_most_212 (by decide) ?_
            refine lv_iload hx hb dX10_most_165 (lv_at hl 0 rfl) ?_
            refine z_iconst hx hb dX10_most_167 rfl ?_
            refine z_icmp_ge (tgt := 215) hx hb (by decide) (by decide) dX10_most_168 (by decide) (fun cq98 => False.elim (by omega)) (fun cq98 => ?_)
            refine lv_iload_n hx hb dX10_most_171 rfl (lv_at hl 1 rfl) ?_
            refine z_if_eq (tgt := 207) hx hb (by decide) dX10_most_172 (by decide) (fun cq99 => ?_) (fun cq99 => False.elim (by omega))
            refine z_iconst hx hb dX10_most_207 rfl ?_
            refine lv_istore_n (lv' := [(3, vI 0), (4, vI 2), (2, vI 1), (0, .ref q), (1, vI 0)]) hx hb dX10_most_208 rfl hl (by decide) rfl (fun ls hl => ?_)
            refine z_iinc hx hb 3 (lv' := [(4, vI 3), (3, vI 0), (2, vI 1), (0, .ref q), (1, vI 0)]) dX10_most_209 hl (k := 1) rfl (rfl) (by decide) rfl (fun ls hl => ?_)
            refine lv_goto (tgt := 165) hx hb dX10_most_212 (by decide) ?_
            refine lv_iload hx hb dX10_most_165 (lv_at hl 0 rfl) ?_
            refine z_iconst hx hb dX10_most_167 rfl ?_
            refine z_icmp_ge (tgt := 215) hx hb (by decide) (by decide) dX10_most_168 (by decide) (fun cq100 => ?_) (fun cq100 => False.elim (by omega))
            refine lv_iload_n hx hb dX10_most_215 rfl (lv_at hl 4 rfl) ?_
            refine z_if_ne (tgt := 223) hx hb (by decide) dX10_most_216 (by decide) (fun cq101 => False.elim (by omega)) (fun cq101 => ?_)
            refine lv_iload_n hx hb dX10_most_219 rfl (lv_at hl 2 rfl) ?_
            refine lv_goto (tgt := 232) hx hb dX10_most_220 (by decide) ?_
            have hE : T_14 = (rNm 80 4 (rNm 79 2 (rNm 78 0 (rZ0 S)))) := by rw [hT_14, hT_11, hT_8, hT_4]
            exact z_reti () [0, 1, 2] hx hb hr rfl hlocks hK hP hD hS (by rw [← hE, if_pos (show _ = (0 : Int) by omega)]; have hm9 := mBst_s T_14; omega) trivial rfl rfl (by rw [← hE]; rfl) (Nat.le_of_ble_eq_true rfl) (Nat.le_of_ble_eq_true rfl) dX10_most_232
          · refine z_iconst hx hb dX10_most_203 rfl ?_
            refine lv_goto (tgt := 208) hx hb dX10_most_204 (by decide) ?_
            refine lv_istore_n (lv' := [(3, vI 1), (4, vI 1), (2, vI 1), (0, .ref q), (1, vI 0)]) hx hb dX10_most_208 rfl hl (by decide) rfl (fun ls hl => ?_)
            refine z_iinc hx hb 2 (lv' := [(4, vI 2), (3, vI 1), (2, vI 1), (0, .ref q), (1, vI 0)]) dX10_most_209 hl (k := 1) rfl (rfl) (by decide) rfl (fun ls hl => ?_)
            refine lv_goto (tgt := 165) hx hb dX10_most_212 (by decide) ?_
            refine lv_iload hx hb dX10_most_165 (lv_at hl 0 rfl) ?_
            refine z_iconst hx hb dX10_most_167 rfl ?_
            refine z_icmp_ge (tgt := 215) hx hb (by decide) (by decide) dX10_most_168 (by decide) (fun cq102 => False.elim (by omega)) (fun cq102 => ?_)
            refine lv_iload_n hx hb dX10_most_171 rfl (lv_at hl 1 rfl) ?_
            refine z_if_eq (tgt := 207) hx hb (by decide) dX10_most_172 (by decide) (fun cq103 => False.elim (by omega)) (fun cq103 => ?_)
            refine lv_aload_n hx hb dX10_most_175 rfl (lv_at hl 3 rfl) ?_
            refine z_bipush hx hb 78 dX10_most_176 rfl ?_
            refine z_bipush hx hb 78 dX10_most_178 rfl ?_
            refine lv_iload hx hb dX10_most_180 (lv_at hl 0 rfl) ?_
            refine z_iadd hx hb 80 rfl dX10_most_182 ?_
            refine z_cVi (As := [vI 78, vI 80]) (rest := []) ⟨hx, hb, hml, hown, hts⟩ hK hP hD hS hA [0, 1, 2] [] rfl rfl rfl (c_X10_isGreater l g q a (uI x 9 T_14.2.2) T_14 78 80 (by decide) (by decide) (hRT_14_0 (by omega)) (hNT_14_0 (by omega))) (cwV 2 hts gX10_most_X10_isGreater rfl rfl rfl (by decide +kernel) ⟨Nat.le_of_ble_eq_true rfl, Nat.le_of_ble_eq_true rfl⟩) 10 0 rfl rfl rfl (fun _ _ _ _ _ _ => trivial) (fun _ _ _ => trivial) rfl hl.1 (Nat.le_of_ble_eq_true rfl) rfl dX10_most_183 ⟨Nat.le_of_ble_eq_true rfl, Nat.le_of_ble_eq_true rfl⟩ (fun u_104 H locs hwu_104 hP hD hS => ?_)
            try dsimp only at hwu_104
            have hP : zP g [[mdl q a (uI x 9 T_14.2.2)], [((a 0), .inl (g.2 1, 88, .inr (.inl (aL T_14.1))))], [((a 1), .inl (g.2 1, 88, .inr (.inl (aL T_14.2.1))))]] H := hP
            have hD : zD A [[mdl q a (uI x 9 T_14.2.2)], [((a 0), .inl (g.2 1, 88, .inr (.inl (aL T_14.1))))], [((a 1), .inl (g.2 1, 88, .inr (.inl (aL T_14.2.1))))]] := hD
            refine z_toI (rGt 78 80 T_14) rfl ?_
            have hf_105 := rGt_01 78 80 T_14
            refine z_if_ne (tgt := 207) hx hb (by omega) dX10_most_186 (by decide) (fun cq106 => ?_) (fun cq106 => ?_)
            · refine z_iconst hx hb dX10_most_207 rfl ?_
              refine lv_istore_n (lv' := [(3, vI 0), (4, vI 2), (2, vI 1), (0, .ref q), (1, vI 0)]) hx hb dX10_most_208 rfl hl (by decide) rfl (fun ls hl => ?_)
              refine z_iinc hx hb 3 (lv' := [(4, vI 3), (3, vI 0), (2, vI 1), (0, .ref q), (1, vI 0)]) dX10_most_209 hl (k := 1) rfl (rfl) (by decide) rfl (fun ls hl => ?_)
              refine lv_goto (tgt := 165) hx hb dX10_most_212 (by decide) ?_
              refine lv_iload hx hb dX10_most_165 (lv_at hl 0 rfl) ?_
              refine z_iconst hx hb dX10_most_167 rfl ?_
              refine z_icmp_ge (tgt := 215) hx hb (by decide) (by decide) dX10_most_168 (by decide) (fun cq107 => ?_) (fun cq107 => False.elim (by omega))
              refine lv_iload_n hx hb dX10_most_215 rfl (lv_at hl 4 rfl) ?_
              refine z_if_ne (tgt := 223) hx hb (by decide) dX10_most_216 (by decide) (fun cq108 => False.elim (by omega)) (fun cq108 => ?_)
              refine lv_iload_n hx hb dX10_most_219 rfl (lv_at hl 2 rfl) ?_
              refine lv_goto (tgt := 232) hx hb dX10_most_220 (by decide) ?_
              have hE : T_14 = (rNm 80 4 (rNm 79 2 (rNm 78 0 (rZ0 S)))) := by rw [hT_14, hT_11, hT_8, hT_4]
              exact z_reti () [0, 1, 2] hx hb hr rfl hlocks hK hP hD hS (by rw [← hE, if_pos (show _ = (0 : Int) by omega)]; have hm9 := mBst_s T_14; omega) trivial rfl rfl (by rw [← hE]; rfl) (Nat.le_of_ble_eq_true rfl) (Nat.le_of_ble_eq_true rfl) dX10_most_232
            · refine lv_aload_n hx hb dX10_most_189 rfl (lv_at hl 3 rfl) ?_
              refine z_bipush hx hb 78 dX10_most_190 rfl ?_
              refine lv_iload hx hb dX10_most_192 (lv_at hl 0 rfl) ?_
              refine z_iadd hx hb 80 rfl dX10_most_194 ?_
              refine z_bipush hx hb 78 dX10_most_195 rfl ?_
              refine z_cVi (As := [vI 80, vI 78]) (rest := []) ⟨hx, hb, hml, hown, hts⟩ hK hP hD hS hA [0, 1, 2] [] rfl rfl rfl (c_X10_isGreater l g q a (uI x 9 T_14.2.2) T_14 80 78 (by decide) (by decide) (hNT_14_0 (by omega)) (hRT_14_0 (by omega))) (cwV 2 hts gX10_most_X10_isGreater rfl rfl rfl (by decide +kernel) ⟨Nat.le_of_ble_eq_true rfl, Nat.le_of_ble_eq_true rfl⟩) 10 0 rfl rfl rfl (fun _ _ _ _ _ _ => trivial) (fun _ _ _ => trivial) rfl hl.1 (Nat.le_of_ble_eq_true rfl) rfl dX10_most_197 ⟨Nat.le_of_ble_eq_true rfl, Nat.le_of_ble_eq_true rfl⟩ (fun u_109 H locs hwu_109 hP hD hS => ?_)
              try dsimp only at hwu_109
              have hP : zP g [[mdl q a (uI x 9 T_14.2.2)], [((a 0), .inl (g.2 1, 88, .inr (.inl (aL T_14.1))))], [((a 1), .inl (g.2 1, 88, .inr (.inl (aL T_14.2.1))))]] H := hP
              have hD : zD A [[mdl q a (uI x 9 T_14.2.2)], [((a 0), .inl (g.2 1, 88, .inr (.inl (aL T_14.1))))], [((a 1), .inl (g.2 1, 88, .inr (.inl (aL T_14.2.1))))]] := hD
              refine z_toI (rGt 80 78 T_14) rfl ?_
              have hf_110 := rGt_01 80 78 T_14
              refine z_if_ne (tgt := 207) hx hb (by omega) dX10_most_200 (by decide) (fun cq111 => ?_) (fun cq111 => ?_)
              · refine z_iconst hx hb dX10_most_207 rfl ?_
                refine lv_istore_n (lv' := [(3, vI 0), (4, vI 2), (2, vI 1), (0, .ref q), (1, vI 0)]) hx hb dX10_most_208 rfl hl (by decide) rfl (fun ls hl => ?_)
                refine z_iinc hx hb 3 (lv' := [(4, vI 3), (3, vI 0), (2, vI 1), (0, .ref q), (1, vI 0)]) dX10_most_209 hl (k := 1) rfl (rfl) (by decide) rfl (fun ls hl => ?_)
                refine lv_goto (tgt := 165) hx hb dX10_most_212 (by decide) ?_
                refine lv_iload hx hb dX10_most_165 (lv_at hl 0 rfl) ?_
                refine z_iconst hx hb dX10_most_167 rfl ?_
                refine z_icmp_ge (tgt := 215) hx hb (by decide) (by decide) dX10_most_168 (by decide) (fun cq112 => ?_) (fun cq112 => False.elim (by omega))
                refine lv_iload_n hx hb dX10_most_215 rfl (lv_at hl 4 rfl) ?_
                refine z_if_ne (tgt := 223) hx hb (by decide) dX10_most_216 (by decide) (fun cq113 => False.elim (by omega)) (fun cq113 => ?_)
                refine lv_iload_n hx hb dX10_most_219 rfl (lv_at hl 2 rfl) ?_
                refine lv_goto (tgt := 232) hx hb dX10_most_220 (by decide) ?_
                have hE : T_14 = (rNm 80 4 (rNm 79 2 (rNm 78 0 (rZ0 S)))) := by rw [hT_14, hT_11, hT_8, hT_4]
                exact z_reti () [0, 1, 2] hx hb hr rfl hlocks hK hP hD hS (by rw [← hE, if_pos (show _ = (0 : Int) by omega)]; have hm9 := mBst_s T_14; omega) trivial rfl rfl (by rw [← hE]; rfl) (Nat.le_of_ble_eq_true rfl) (Nat.le_of_ble_eq_true rfl) dX10_most_232
              · refine z_iconst hx hb dX10_most_203 rfl ?_
                refine lv_goto (tgt := 208) hx hb dX10_most_204 (by decide) ?_
                refine lv_istore_n (lv' := [(3, vI 1), (4, vI 2), (2, vI 1), (0, .ref q), (1, vI 0)]) hx hb dX10_most_208 rfl hl (by decide) rfl (fun ls hl => ?_)
                refine z_iinc hx hb 3 (lv' := [(4, vI 3), (3, vI 1), (2, vI 1), (0, .ref q), (1, vI 0)]) dX10_most_209 hl (k := 1) rfl (rfl) (by decide) rfl (fun ls hl => ?_)
                refine lv_goto (tgt := 165) hx hb dX10_most_212 (by decide) ?_
                refine lv_iload hx hb dX10_most_165 (lv_at hl 0 rfl) ?_
                refine z_iconst hx hb dX10_most_167 rfl ?_
                refine z_icmp_ge (tgt := 215) hx hb (by decide) (by decide) dX10_most_168 (by decide) (fun cq114 => ?_) (fun cq114 => False.elim (by omega))
                refine lv_iload_n hx hb dX10_most_215 rfl (lv_at hl 4 rfl) ?_
                refine z_if_ne (tgt := 223) hx hb (by decide) dX10_most_216 (by decide) (fun cq115 => False.elim (by omega)) (fun cq115 => ?_)
                refine lv_iload_n hx hb dX10_most_219 rfl (lv_at hl 2 rfl) ?_
                refine lv_goto (tgt := 232) hx hb dX10_most_220 (by decide) ?_
                have hE : T_14 = (rNm 80 4 (rNm 79 2 (rNm 78 0 (rZ0 S)))) := by rw [hT_14, hT_11, hT_8, hT_4]
                exact z_reti () [0, 1, 2] hx hb hr rfl hlocks hK hP hD hS (by rw [← hE, if_pos (show _ = (0 : Int) by omega)]; have hm9 := mBst_s T_14; omega) trivial rfl rfl (by rw [← hE]; rfl) (Nat.le_of_ble_eq_true rfl) (Nat.le_of_ble_eq_true rfl) dX10_most_232
      · refine z_iconst hx hb dX10_most_154 rfl ?_
        refine lv_goto (tgt := 159) hx hb dX10_most_155 (by decide) ?_
        refine lv_istore_n (lv' := [(2, vI 2), (0, .ref q), (1, vI 0)]) hx hb dX10_most_159 rfl hl (by decide) rfl (fun ls hl => ?_)
        refine z_iconst hx hb dX10_most_160 rfl ?_
        refine lv_istore_n (lv' := [(3, vI 1), (2, vI 2), (0, .ref q), (1, vI 0)]) hx hb dX10_most_161 rfl hl (by decide) rfl (fun ls hl => ?_)
        refine z_iconst hx hb dX10_most_162 rfl ?_
        refine lv_istore (lv' := [(4, vI 1), (3, vI 1), (2, vI 2), (0, .ref q), (1, vI 0)]) hx hb dX10_most_163 hl (by decide) rfl (fun ls hl => ?_)
        refine lv_iload hx hb dX10_most_165 (lv_at hl 0 rfl) ?_
        refine z_iconst hx hb dX10_most_167 rfl ?_
        refine z_icmp_ge (tgt := 215) hx hb (by decide) (by decide) dX10_most_168 (by decide) (fun cq116 => False.elim (by omega)) (fun cq116 => ?_)
        refine lv_iload_n hx hb dX10_most_171 rfl (lv_at hl 1 rfl) ?_
        refine z_if_eq (tgt := 207) hx hb (by decide) dX10_most_172 (by decide) (fun cq117 => False.elim (by omega)) (fun cq117 => ?_)
        refine lv_aload_n hx hb dX10_most_175 rfl (lv_at hl 3 rfl) ?_
        refine z_bipush hx hb 78 dX10_most_176 rfl ?_
        refine z_bipush hx hb 78 dX10_most_178 rfl ?_
        refine lv_iload hx hb dX10_most_180 (lv_at hl 0 rfl) ?_
        refine z_iadd hx hb 79 rfl dX10_most_182 ?_
        refine z_cVi (As := [vI 78, vI 79]) (rest := []) ⟨hx, hb, hml, hown, hts⟩ hK hP hD hS hA [0, 1, 2] [] rfl rfl rfl (c_X10_isGreater l g q a (uI x 9 T_14.2.2) T_14 78 79 (by decide) (by decide) (hRT_14_0 (by omega)) (hRT_14_1 (by omega))) (cwV 2 hts gX10_most_X10_isGreater rfl rfl rfl (by decide +kernel) ⟨Nat.le_of_ble_eq_true rfl, Nat.le_of_ble_eq_true rfl⟩) 10 0 rfl rfl rfl (fun _ _ _ _ _ _ => trivial) (fun _ _ _ => trivial) rfl hl.1 (Nat.le_of_ble_eq_true rfl) rfl dX10_most_183 ⟨Nat.le_of_ble_eq_true rfl, Nat.le_of_ble_eq_true rfl⟩ (fun u_118 H locs hwu_118 hP hD hS => ?_)
        try dsimp only at hwu_118
        have hP : zP g [[mdl q a (uI x 9 T_14.2.2)], [((a 0), .inl (g.2 1, 88, .inr (.inl (aL T_14.1))))], [((a 1), .inl (g.2 1, 88, .inr (.inl (aL T_14.2.1))))]] H := hP
        have hD : zD A [[mdl q a (uI x 9 T_14.2.2)], [((a 0), .inl (g.2 1, 88, .inr (.inl (aL T_14.1))))], [((a 1), .inl (g.2 1, 88, .inr (.inl (aL T_14.2.1))))]] := hD
        refine z_toI (rGt 78 79 T_14) rfl ?_
        have hf_119 := rGt_01 78 79 T_14
        refine z_if_ne (tgt := 207) hx hb (by omega) dX10_most_186 (by decide) (fun cq120 => ?_) (fun cq120 => ?_)
        · refine z_iconst hx hb dX10_most_207 rfl ?_
          refine lv_istore_n (lv' := [(3, vI 0), (4, vI 1), (2, vI 2), (0, .ref q), (1, vI 0)]) hx hb dX10_most_208 rfl hl (by decide) rfl (fun ls hl => ?_)
          refine z_iinc hx hb 2 (lv' := [(4, vI 2), (3, vI 0), (2, vI 2), (0, .ref q), (1, vI 0)]) dX10_most_209 hl (k := 1) rfl (rfl) (by decide) rfl (fun ls hl => ?_)
          refine lv_goto (tgt := 165) hx hb dX10_most_212 (by decide) ?_
          refine lv_iload hx hb dX10_most_165 (lv_at hl 0 rfl) ?_
          refine z_iconst hx hb dX10_most_167 rfl ?_
          refine z_icmp_ge (tgt := 215) hx hb (by decide) (by decide) dX10_most_168 (by decide) (fun cq121 => False.elim (by omega)) (fun cq121 => ?_)
          refine lv_iload_n hx hb dX10_most_171 rfl (lv_at hl 1 rfl) ?_
          refine z_if_eq (tgt := 207) hx hb (by decide) dX10_most_172 (by decide) (fun cq122 => ?_) (fun cq122 => False.elim (by omega))
          refine z_iconst hx hb dX10_most_207 rfl ?_
          refine lv_istore_n (lv' := [(3, vI 0), (4, vI 2), (2, vI 2), (0, .ref q), (1, vI 0)]) hx hb dX10_most_208 rfl hl (by decide) rfl (fun ls hl => ?_)
          refine z_iinc hx hb 3 (lv' := [(4, vI 3), (3, vI 0), (2, vI 2), (0, .ref q), (1, vI 0)]) dX10_most_209 hl (k := 1) rfl (rfl) (by decide) rfl (fun ls hl => ?_)
          refine lv_goto (tgt := 165) hx hb dX10_most_212 (by decide) ?_
          refine lv_iload hx hb dX10_most_165 (lv_at hl 0 rfl) ?_
          refine z_iconst hx hb dX10_most_167 rfl ?_
          refine z_icmp_ge (tgt := 215) hx hb (by decide) (by decide) dX10_most_168 (by decide) (fun cq123 => ?_) (fun cq123 => False.elim (by omega))
          refine lv_iload_n hx hb dX10_most_215 rfl (lv_at hl 4 rfl) ?_
          refine z_if_ne (tgt := 223) hx hb (by decide) dX10_most_216 (by decide) (fun cq124 => False.elim (by omega)) (fun cq124 => ?_)
          refine lv_iload_n hx hb dX10_most_219 rfl (lv_at hl 2 rfl) ?_
          refine lv_goto (tgt := 232) hx hb dX10_most_220 (by decide) ?_
          have hE : T_14 = (rNm 80 4 (rNm 79 2 (rNm 78 0 (rZ0 S)))) := by rw [hT_14, hT_11, hT_8, hT_4]
          exact z_reti () [0, 1, 2] hx hb hr rfl hlocks hK hP hD hS (by rw [← hE, if_pos (show _ = (0 : Int) by omega)]; have hm9 := mBst_s T_14; omega) trivial rfl rfl (by rw [← hE]; rfl) (Nat.le_of_ble_eq_true rfl) (Nat.le_of_ble_eq_true rfl) dX10_most_232
        · refine lv_aload_n hx hb dX10_most_189 rfl (lv_at hl 3 rfl) ?_
          refine z_bipush hx hb 78 dX10_most_190 rfl ?_
          refine lv_iload hx hb dX10_most_192 (lv_at hl 0 rfl) ?_
          refine z_iadd hx hb 79 rfl dX10_most_194 ?_
          refine z_bipush hx hb 78 dX10_most_195 rfl ?_
          refine z_cVi (As := [vI 79, vI 78]) (rest := []) ⟨hx, hb, hml, hown, hts⟩ hK hP hD hS hA [0, 1, 2] [] rfl rfl rfl (c_X10_isGreater l g q a (uI x 9 T_14.2.2) T_14 79 78 (by decide) (by decide) (hRT_14_1 (by omega)) (hRT_14_0 (by omega))) (cwV 2 hts gX10_most_X10_isGreater rfl rfl rfl (by decide +kernel) ⟨Nat.le_of_ble_eq_true rfl, Nat.le_of_ble_eq_true rfl⟩) 10 0 rfl rfl rfl (fun _ _ _ _ _ _ => trivial) (fun _ _ _ => trivial) rfl hl.1 (Nat.le_of_ble_eq_true rfl) rfl dX10_most_197 ⟨Nat.le_of_ble_eq_true rfl, Nat.le_of_ble_eq_true rfl⟩ (fun u_125 H locs hwu_125 hP hD hS => ?_)
          try dsimp only at hwu_125
          have hP : zP g [[mdl q a (uI x 9 T_14.2.2)], [((a 0), .inl (g.2 1, 88, .inr (.inl (aL T_14.1))))], [((a 1), .inl (g.2 1, 88, .inr (.inl (aL T_14.2.1))))]] H := hP
          have hD : zD A [[mdl q a (uI x 9 T_14.2.2)], [((a 0), .inl (g.2 1, 88, .inr (.inl (aL T_14.1))))], [((a 1), .inl (g.2 1, 88, .inr (.inl (aL T_14.2.1))))]] := hD
          refine z_toI (rGt 79 78 T_14) rfl ?_
          have hf_126 := rGt_01 79 78 T_14
          refine z_if_ne (tgt := 207) hx hb (by omega) dX10_most_200 (by decide) (fun cq127 => ?_) (fun cq127 => ?_)
          · refine z_iconst hx hb dX10_most_207 rfl ?_
            refine lv_istore_n (lv' := [(3, vI 0), (4, vI 1), (2, vI 2), (0, .ref q), (1, vI 0)]) hx hb dX10_most_208 rfl hl (by decide) rfl (fun ls hl => ?_)
            refine z_iinc hx hb 2 (lv' := [(4, vI 2), (3, vI 0), (2, vI 2), (0, .ref q), (1, vI 0)]) dX10_most_209 hl (k := 1) rfl (rfl) (by decide) rfl (fun ls hl => ?_)
            refine lv_goto (tgt := 165) hx hb dX10_most_212 (by decide) ?_
            refine lv_iload hx hb dX10_most_165 (lv_at hl 0 rfl) ?_
            refine z_iconst hx hb dX10_most_167 rfl ?_
            refine z_icmp_ge (tgt := 215) hx hb (by decide) (by decide) dX10_most_168 (by decide) (fun cq128 => False.elim (by omega)) (fun cq128 => ?_)
            refine lv_iload_n hx hb dX10_most_171 rfl (lv_at hl 1 rfl) ?_
            refine z_if_eq (tgt := 207) hx hb (by decide) dX10_most_172 (by decide) (fun cq129 => ?_) (fun cq129 => False.elim (by omega))
            refine z_iconst hx hb dX10_most_207 rfl ?_
            refine lv_istore_n (lv' := [(3, vI 0), (4, vI 2), (2, vI 2), (0, .ref q), (1, vI 0)]) hx hb dX10_most_208 rfl hl (by decide) rfl (fun ls hl => ?_)
            refine z_iinc hx hb 3 (lv' := [(4, vI 3), (3, vI 0), (2, vI 2), (0, .ref q), (1, vI 0)]) dX10_most_209 hl (k := 1) rfl (rfl) (by decide) rfl (fun ls hl => ?_)
            refine lv_goto (tgt := 165) hx hb dX10_most_212 (by decide) ?_
            refine lv_iload hx hb dX10_most_165 (lv_at hl 0 rfl) ?_
            refine z_iconst hx hb dX10_most_167 rfl ?_
            refine z_icmp_ge (tgt := 215) hx hb (by decide) (by decide) dX10_most_168 (by decide) (fun cq130 => ?_) (fun cq130 => False.elim (by omega))
            refine lv_iload_n hx hb dX10_most_215 rfl (lv_at hl 4 rfl) ?_
            refine z_if_ne (tgt := 223) hx hb (by decide) dX10_most_216 (by decide) (fun cq131 => False.elim (by omega)) (fun cq131 => ?_)
            refine lv_iload_n hx hb dX10_most_219 rfl (lv_at hl 2 rfl) ?_
            refine lv_goto (tgt := 232) hx hb dX10_most_220 (by decide) ?_
            have hE : T_14 = (rNm 80 4 (rNm 79 2 (rNm 78 0 (rZ0 S)))) := by rw [hT_14, hT_11, hT_8, hT_4]
            exact z_reti () [0, 1, 2] hx hb hr rfl hlocks hK hP hD hS (by rw [← hE, if_pos (show _ = (0 : Int) by omega)]; have hm9 := mBst_s T_14; omega) trivial rfl rfl (by rw [← hE]; rfl) (Nat.le_of_ble_eq_true rfl) (Nat.le_of_ble_eq_true rfl) dX10_most_232
          · refine z_iconst hx hb dX10_most_203 rfl ?_
            refine lv_goto (tgt := 208) hx hb dX10_most_204 (by decide) ?_
            refine lv_istore_n (lv' := [(3, vI 1), (4, vI 1), (2, vI 2), (0, .ref q), (1, vI 0)]) hx hb dX10_most_208 rfl hl (by decide) rfl (fun ls hl => ?_)
            refine z_iinc hx hb 2 (lv' := [(4, vI 2), (3, vI 1), (2, vI 2), (0, .ref q), (1, vI 0)]) dX10_most_209 hl (k := 1) rfl (rfl) (by decide) rfl (fun ls hl => ?_)
            refine lv_goto (tgt := 165) hx hb dX10_most_212 (by decide) ?_
            refine lv_iload hx hb dX10_most_165 (lv_at hl 0 rfl) ?_
            refine z_iconst hx hb dX10_most_167 rfl ?_
            refine z_icmp_ge (tgt := 215) hx hb (by decide) (by decide) dX10_most_168 (by decide) (fun cq132 => False.elim (by omega)) (fun cq132 => ?_)
            refine lv_iload_n hx hb dX10_most_171 rfl (lv_at hl 1 rfl) ?_
            refine z_if_eq (tgt := 207) hx hb (by decide) dX10_most_172 (by decide) (fun cq133 => False.elim (by omega)) (fun cq133 => ?_)
            refine lv_aload_n hx hb dX10_most_175 rfl (lv_at hl 3 rfl) ?_
            refine z_bipush hx hb 78 dX10_most_176 rfl ?_
            refine z_bipush hx hb 78 dX10_most_178 rfl ?_
            refine lv_iload hx hb dX10_most_180 (lv_at hl 0 rfl) ?_
            refine z_iadd hx hb 80 rfl dX10_most_182 ?_
            refine z_cVi (As := [vI 78, vI 80]) (rest := []) ⟨hx, hb, hml, hown, hts⟩ hK hP hD hS hA [0, 1, 2] [] rfl rfl rfl (c_X10_isGreater l g q a (uI x 9 T_14.2.2) T_14 78 80 (by decide) (by decide) (hRT_14_0 (by omega)) (hNT_14_0 (by omega))) (cwV 2 hts gX10_most_X10_isGreater rfl rfl rfl (by decide +kernel) ⟨Nat.le_of_ble_eq_true rfl, Nat.le_of_ble_eq_true rfl⟩) 10 0 rfl rfl rfl (fun _ _ _ _ _ _ => trivial) (fun _ _ _ => trivial) rfl hl.1 (Nat.le_of_ble_eq_true rfl) rfl dX10_most_183 ⟨Nat.le_of_ble_eq_true rfl, Nat.le_of_ble_eq_true rfl⟩ (fun u_134 H locs hwu_134 hP hD hS => ?_)
            try dsimp only at hwu_134
            have hP : zP g [[mdl q a (uI x 9 T_14.2.2)], [((a 0), .inl (g.2 1, 88, .inr (.inl (aL T_14.1))))], [((a 1), .inl (g.2 1, 88, .inr (.inl (aL T_14.2.1))))]] H := hP
            have hD : zD A [[mdl q a (uI x 9 T_14.2.2)], [((a 0), .inl (g.2 1, 88, .inr (.inl (aL T_14.1))))], [((a 1), .inl (g.2 1, 88, .inr (.inl (aL T_14.2.1))))]] := hD
            refine z_toI (rGt 78 80 T_14) rfl ?_
            have hf_135 := rGt_01 78 80 T_14
            refine z_if_ne (tgt := 207) hx hb (by omega) dX10_most_186 (by decide) (fun cq136 => ?_) (fun cq136 => ?_)
            · refine z_iconst hx hb dX10_most_207 rfl ?_
              refine lv_istore_n (lv' := [(3, vI 0), (4, vI 2), (2, vI 2), (0, .ref q), (1, vI 0)]) hx hb dX10_most_208 rfl hl (by decide) rfl (fun ls hl => ?_)
              refine z_iinc hx hb 3 (lv' := [(4, vI 3), (3, vI 0), (2, vI 2), (0, .ref q), (1, vI 0)]) dX10_most_209 hl (k := 1) rfl (rfl) (by decide) rfl (fun ls hl => ?_)
              refine lv_goto (tgt := 165) hx hb dX10_most_212 (by decide) ?_
              refine lv_iload hx hb dX10_most_165 (lv_at hl 0 rfl) ?_
              refine z_iconst hx hb dX10_most_167 rfl ?_
              refine z_icmp_ge (tgt := 215) hx hb (by decide) (by decide) dX10_most_168 (by decide) (fun cq137 => ?_) (fun cq137 => False.elim (by omega))
              refine lv_iload_n hx hb dX10_most_215 rfl (lv_at hl 4 rfl) ?_
              refine z_if_ne (tgt := 223) hx hb (by decide) dX10_most_216 (by decide) (fun cq138 => False.elim (by omega)) (fun cq138 => ?_)
              refine lv_iload_n hx hb dX10_most_219 rfl (lv_at hl 2 rfl) ?_
              refine lv_goto (tgt := 232) hx hb dX10_most_220 (by decide) ?_
              have hE : T_14 = (rNm 80 4 (rNm 79 2 (rNm 78 0 (rZ0 S)))) := by rw [hT_14, hT_11, hT_8, hT_4]
              exact z_reti () [0, 1, 2] hx hb hr rfl hlocks hK hP hD hS (by rw [← hE, if_pos (show _ = (0 : Int) by omega)]; have hm9 := mBst_s T_14; omega) trivial rfl rfl (by rw [← hE]; rfl) (Nat.le_of_ble_eq_true rfl) (Nat.le_of_ble_eq_true rfl) dX10_most_232
            · refine lv_aload_n hx hb dX10_most_189 rfl (lv_at hl 3 rfl) ?_
              refine z_bipush hx hb 78 dX10_most_190 rfl ?_
              refine lv_iload hx hb dX10_most_192 (lv_at hl 0 rfl) ?_
              refine z_iadd hx hb 80 rfl dX10_most_194 ?_
              refine z_bipush hx hb 78 dX10_most_195 rfl ?_
              refine z_cVi (As := [vI 80, vI 78]) (rest := []) ⟨hx, hb, hml, hown, hts⟩ hK hP hD hS hA [0, 1, 2] [] rfl rfl rfl (c_X10_isGreater l g q a (uI x 9 T_14.2.2) T_14 80 78 (by decide) (by decide) (hNT_14_0 (by omega)) (hRT_14_0 (by omega))) (cwV 2 hts gX10_most_X10_isGreater rfl rfl rfl (by decide +kernel) ⟨Nat.le_of_ble_eq_true rfl, Nat.le_of_ble_eq_true rfl⟩) 10 0 rfl rfl rfl (fun _ _ _ _ _ _ => trivial) (fun _ _ _ => trivial) rfl hl.1 (Nat.le_of_ble_eq_true rfl) rfl dX10_most_197 ⟨Nat.le_of_ble_eq_true rfl, Nat.le_of_ble_eq_true rfl⟩ (fun u_139 H locs hwu_139 hP hD hS => ?_)
              try dsimp only at hwu_139
              have hP : zP g [[mdl q a (uI x 9 T_14.2.2)], [((a 0), .inl (g.2 1, 88, .inr (.inl (aL T_14.1))))], [((a 1), .inl (g.2 1, 88, .inr (.inl (aL T_14.2.1))))]] H := hP
              have hD : zD A [[mdl q a (uI x 9 T_14.2.2)], [((a 0), .inl (g.2 1, 88, .inr (.inl (aL T_14.1))))], [((a 1), .inl (g.2 1, 88, .inr (.inl (aL T_14.2.1))))]] := hD
              refine z_toI (rGt 80 78 T_14) rfl ?_
              have hf_140 := rGt_01 80 78 T_14
              refine z_if_ne (tgt := 207) hx hb (by omega) dX10_most_200 (by decide) (fun cq141 => ?_) (fun cq141 => ?_)
              · refine z_iconst hx hb dX10_most_207 rfl ?_
                refine lv_istore_n (lv' := [(3, vI 0), (4, vI 2), (2, vI 2), (0, .ref q), (1, vI 0)]) hx hb dX10_most_208 rfl hl (by decide) rfl (fun ls hl => ?_)
                refine z_iinc hx hb 3 (lv' := [(4, vI 3), (3, vI 0), (2, vI 2), (0, .ref q), (1, vI 0)]) dX10_most_209 hl (k := 1) rfl (rfl) (by decide) rfl (fun ls hl => ?_)
                refine lv_goto (tgt := 165) hx hb dX10_most_212 (by decide) ?_
                refine lv_iload hx hb dX10_most_165 (lv_at hl 0 rfl) ?_
                refine z_iconst hx hb dX10_most_167 rfl ?_
                refine z_icmp_ge (tgt := 215) hx hb (by decide) (by decide) dX10_most_168 (by decide) (fun cq142 => ?_) (fun cq142 => False.elim (by omega))
                refine lv_iload_n hx hb dX10_most_215 rfl (lv_at hl 4 rfl) ?_
                refine z_if_ne (tgt := 223) hx hb (by decide) dX10_most_216 (by decide) (fun cq143 => False.elim (by omega)) (fun cq143 => ?_)
                refine lv_iload_n hx hb dX10_most_219 rfl (lv_at hl 2 rfl) ?_
                refine lv_goto (tgt := 232) hx hb dX10_most_220 (by decide) ?_
                have hE : T_14 = (rNm 80 4 (rNm 79 2 (rNm 78 0 (rZ0 S)))) := by rw [hT_14, hT_11, hT_8, hT_4]
                exact z_reti () [0, 1, 2] hx hb hr rfl hlocks hK hP hD hS (by rw [← hE, if_pos (show _ = (0 : Int) by omega)]; have hm9 := mBst_s T_14; omega) trivial rfl rfl (by rw [← hE]; rfl) (Nat.le_of_ble_eq_true rfl) (Nat.le_of_ble_eq_true rfl) dX10_most_232
              · refine z_iconst hx hb dX10_most_203 rfl ?_
                refine lv_goto (tgt := 208) hx hb dX10_most_204 (by decide) ?_
                refine lv_istore_n (lv' := [(3, vI 1), (4, vI 2), (2, vI 2), (0, .ref q), (1, vI 0)]) hx hb dX10_most_208 rfl hl (by decide) rfl (fun ls hl => ?_)
                refine z_iinc hx hb 3 (lv' := [(4, vI 3), (3, vI 1), (2, vI 2), (0, .ref q), (1, vI 0)]) dX10_most_209 hl (k := 1) rfl (rfl) (by decide) rfl (fun ls hl => ?_)
                refine lv_goto (tgt := 165) hx hb dX10_most_212 (by decide) ?_
                refine lv_iload hx hb dX10_most_165 (lv_at hl 0 rfl) ?_
                refine z_iconst hx hb dX10_most_167 rfl ?_
                refine z_icmp_ge (tgt := 215) hx hb (by decide) (by decide) dX10_most_168 (by decide) (fun cq144 => ?_) (fun cq144 => False.elim (by omega))
                refine lv_iload_n hx hb dX10_most_215 rfl (lv_at hl 4 rfl) ?_
                refine z_if_ne (tgt := 223) hx hb (by decide) dX10_most_216 (by decide) (fun cq145 => False.elim (by omega)) (fun cq145 => ?_)
                refine lv_iload_n hx hb dX10_most_219 rfl (lv_at hl 2 rfl) ?_
                refine lv_goto (tgt := 232) hx hb dX10_most_220 (by decide) ?_
                have hE : T_14 = (rNm 80 4 (rNm 79 2 (rNm 78 0 (rZ0 S)))) := by rw [hT_14, hT_11, hT_8, hT_4]
                exact z_reti () [0, 1, 2] hx hb hr rfl hlocks hK hP hD hS (by rw [← hE, if_pos (show _ = (0 : Int) by omega)]; have hm9 := mBst_s T_14; omega) trivial rfl rfl (by rw [← hE]; rfl) (Nat.le_of_ble_eq_true rfl) (Nat.le_of_ble_eq_true rfl) dX10_most_232
  · refine z_ldc hx hb (-2000000004) hown (hts _ (List.mem_of_getElem? (i := 4) rfl)) rfl dX10_most_121 ?_
    have hE : T_14 = (rNm 80 4 (rNm 79 2 (rNm 78 0 (rZ0 S)))) := by rw [hT_14, hT_11, hT_8, hT_4]
    exact z_reti () [0, 1, 2] hx hb hr rfl hlocks hK hP hD hS (by rw [← hE]; exact (if_neg (by omega)).symm) trivial rfl rfl (by rw [← hE]; rfl) (Nat.le_of_ble_eq_true rfl) (Nat.le_of_ble_eq_true rfl) dX10_most_123

set_option maxHeartbeats 4000000 in
set_option maxRecDepth 100000 in
theorem c_X10_most1 (l : Launch) (g : zG) (q : Nat) (a : Nat → Nat) (x : Nat → Int) (S : RS) (hz : S.2.2 = 0 ∨ S.2.2 = 1) (hk : ∀ k, k < 6 → rk S k) : zMet l g yX10_most wsX10_most 5 0 0 [.ref q, vI 1] zX0 [[mdl q a (uI x 9 S.2.2)], [((a 0), .inl (g.2 1, 88, .inr (.inl (aL S.1))))], [((a 1), .inl (g.2 1, 88, .inr (.inl (aL S.2.1))))]] (qi g (fun (_ : Unit) => (if (rNm 80 4 (rNm 79 2 (rNm 78 0 (rZ0 S)))).2.2 = 0 then mAlk (rNm 80 4 (rNm 79 2 (rNm 78 0 (rZ0 S)))) else -2000000004)) (fun (_ : Unit) => True) (fun (_ : Unit) => [[mdl q a (uI x 9 (rNm 80 4 (rNm 79 2 (rNm 78 0 (rZ0 S)))).2.2)], [((a 0), .inl (g.2 1, 88, .inr (.inl (aL (rNm 80 4 (rNm 79 2 (rNm 78 0 (rZ0 S)))).1))))], [((a 1), .inl (g.2 1, 88, .inr (.inl (aL (rNm 80 4 (rNm 79 2 (rNm 78 0 (rZ0 S)))).2.1))))]])) := by
  refine z_ent (cc := cX10_most) (maxL := 5) (ret := (some .int)) (by decide) rfl (Nat.le_of_ble_eq_true rfl) ?_
  intro p e s m below meth c A ls hx hb hr hml hown hts hlocks hin0 hA hK hP hD hS hXX hl
  have hown : s.vm.findClass RX10 = some m.cls := hown
  have hin10_ : ∀ w ∈ wsX100, w ∈ wsX10_most := zw_in [49, 50, 51, 52, 53, 54, 55, 56, 57, 58, 59, 60, 61, 62, 63, 64, 65, 66, 67, 68, 69, 70, 71, 72, 73, 74] rfl
  have hl : lv_has ls 5 [(0, .ref q), (1, vI 1)] := hl
  refine lv_iload_n hx hb dX10_most_0 rfl (lv_at hl 1 rfl) ?_
  refine z_i2l hx hb (by decide) dX10_most_1 ?_
  refine z_lconst hx hb 0 dX10_most_2 rfl ?_
  refine z_ldc2 hx hb 2 hown (hts _ (List.mem_of_getElem? (i := 1) rfl)) rfl dX10_most_3 ?_
  refine z_cSi (As := [vL 1, vL 0, vL 2]) (rest := []) ⟨hx, hb, hml, hown, hts⟩ hK hP hD hS hA [] [0, 1, 2] rfl rfl rfl (c_X10_in l g 1 0 2 (by first | decide | omega) (by first | decide | omega) (by first | decide | omega)) (va_cwS 3 hts gX10_most_X10_in rfl rfl rfl (by decide +kernel) ⟨Nat.le_of_ble_eq_true rfl, Nat.le_of_ble_eq_true rfl⟩) (fun _ _ _ _ _ _ => trivial) (fun _ _ _ => trivial) rfl hl.1 (Nat.le_of_ble_eq_true rfl) rfl dX10_most_6 ⟨Nat.le_of_ble_eq_true rfl, Nat.le_of_ble_eq_true rfl⟩ (fun u_1 H locs hwu_1 hP hD hS => ?_)
  try dsimp only at hwu_1
  have hP : zP g [[mdl q a (uI x 9 S.2.2)], [((a 0), .inl (g.2 1, 88, .inr (.inl (aL S.1))))], [((a 1), .inl (g.2 1, 88, .inr (.inl (aL S.2.1))))]] H := hP
  have hD : zD A [[mdl q a (uI x 9 S.2.2)], [((a 0), .inl (g.2 1, 88, .inr (.inl (aL S.1))))], [((a 1), .inl (g.2 1, 88, .inr (.inl (aL S.2.1))))]] := hD
  refine z_toI (inI 1 0 2) rfl ?_
  have hf_2 := inI_s 1 0 2
  refine z_if_ne (tgt := 15) hx hb (by omega) dX10_most_9 (by decide) (fun cq3 => ?_) (fun cq3 => False.elim (by omega))
  refine lv_aload_n hx hb dX10_most_15 rfl (lv_at hl 0 rfl) ?_
  refine z_iconst hx hb dX10_most_16 rfl ?_
  refine z_put hx hb hts hin10_ tyX10 tyX10_ok nmX10 hown hK hP hD hS 0 rfl rfl 22 (by decide) (hts _ (List.mem_of_getElem? (i := 3) rfl)) rfl (nar_z (by decide)) (fit_z (by decide)) (Nat.le_of_ble_eq_true rfl) dX10_most_17 [[mdl q a (uI x 9 0)], [((a 0), .inl (g.2 1, 88, .inr (.inl (aL S.1))))], [((a 1), .inl (g.2 1, 88, .inr (.inl (aL S.2.1))))]] rfl (fun H locs hP hD hS => ?_)
  obtain ⟨T_4, hT_4⟩ : ∃ T : RS, T = rZ0  S := ⟨_, rfl⟩
  have hP : zP g [[mdl q a (uI x 9 T_4.2.2)], [((a 0), .inl (g.2 1, 88, .inr (.inl (aL T_4.1))))], [((a 1), .inl (g.2 1, 88, .inr (.inl (aL T_4.2.1))))]] H := by rw [hT_4]; exact hP
  have hD : zD A [[mdl q a (uI x 9 T_4.2.2)], [((a 0), .inl (g.2 1, 88, .inr (.inl (aL T_4.1))))], [((a 1), .inl (g.2 1, 88, .inr (.inl (aL T_4.2.1))))]] := by rw [hT_4]; exact hD
  have hZT_4 : T_4.2.2 = 0 ∨ T_4.2.2 = 1 := by rw [hT_4]; exact rZ0_01 hz
  have hNT_4_0 : T_4.2.2 = 0 → rk T_4 0 := by rw [hT_4]; exact rZ0_r (hk 0 (by decide)) 
  have hNT_4_1 : T_4.2.2 = 0 → rk T_4 1 := by rw [hT_4]; exact rZ0_r (hk 1 (by decide)) 
  have hNT_4_2 : T_4.2.2 = 0 → rk T_4 2 := by rw [hT_4]; exact rZ0_r (hk 2 (by decide)) 
  have hNT_4_3 : T_4.2.2 = 0 → rk T_4 3 := by rw [hT_4]; exact rZ0_r (hk 3 (by decide)) 
  have hNT_4_4 : T_4.2.2 = 0 → rk T_4 4 := by rw [hT_4]; exact rZ0_r (hk 4 (by decide)) 
  have hNT_4_5 : T_4.2.2 = 0 → rk T_4 5 := by rw [hT_4]; exact rZ0_r (hk 5 (by decide)) 
  refine lv_iload_n hx hb dX10_most_20 rfl (lv_at hl 1 rfl) ?_
  refine z_iconst hx hb dX10_most_21 rfl ?_
  refine z_icmp_ne (tgt := 90) hx hb (by decide) (by decide) dX10_most_22 (by decide) (fun cq5 => ?_) (fun cq5 => False.elim (by omega))
  refine z_iconst hx hb dX10_most_90 rfl ?_
  refine lv_istore_n (lv' := [(2, vI 0), (0, .ref q), (1, vI 1)]) hx hb dX10_most_91 rfl hl (by decide) rfl (fun ls hl => ?_)
  refine lv_iload_n hx hb dX10_most_92 rfl (lv_at hl 0 rfl) ?_
  refine z_iconst hx hb dX10_most_93 rfl ?_
  refine z_icmp_ge (tgt := 114) hx hb (by decide) (by decide) dX10_most_94 (by decide) (fun cq6 => False.elim (by omega)) (fun cq6 => ?_)
  refine lv_aload_n hx hb dX10_most_97 rfl (lv_at hl 1 rfl) ?_
  refine z_bipush hx hb 78 dX10_most_98 rfl ?_
  refine lv_iload_n hx hb dX10_most_100 rfl (lv_at hl 0 rfl) ?_
  refine z_iadd hx hb 78 rfl dX10_most_101 ?_
  refine z_iconst hx hb dX10_most_102 rfl ?_
  refine lv_iload_n hx hb dX10_most_103 rfl (lv_at hl 0 rfl) ?_
  refine z_imul hx hb 0 rfl dX10_most_104 ?_
  refine z_cVv (As := [vI 78, vI 0]) (rest := []) ⟨hx, hb, hml, hown, hts⟩ hK hP hD hS hA [0, 1, 2] [] rfl rfl rfl (c_X10_norm l g q a (uI x 9 T_4.2.2) T_4 78 0 (by omega) (by omega) hZT_4 (by omega) hNT_4_0 hNT_4_1) (cwV 2 hts gX10_most_X10_norm rfl rfl rfl (by decide +kernel) ⟨Nat.le_of_ble_eq_true rfl, Nat.le_of_ble_eq_true rfl⟩) 10 0 rfl rfl rfl (fun _ _ _ _ _ _ => trivial) (fun _ _ _ => trivial) rfl hl.1 (Nat.le_of_ble_eq_true rfl) rfl dX10_most_105 ⟨Nat.le_of_ble_eq_true rfl, Nat.le_of_ble_eq_true rfl⟩ (fun u_7 H locs hwu_7 hP hD hS => ?_)
  try dsimp only at hwu_7
  have hP : zP g [[mdl q a (uI x 9 (rNm 78 0 T_4).2.2)], [((a 0), .inl (g.2 1, 88, .inr (.inl (aL (rNm 78 0 T_4).1))))], [((a 1), .inl (g.2 1, 88, .inr (.inl (aL (rNm 78 0 T_4).2.1))))]] H := hP
  have hD : zD A [[mdl q a (uI x 9 (rNm 78 0 T_4).2.2)], [((a 0), .inl (g.2 1, 88, .inr (.inl (aL (rNm 78 0 T_4).1))))], [((a 1), .inl (g.2 1, 88, .inr (.inl (aL (rNm 78 0 T_4).2.1))))]] := hD
  obtain ⟨T_8, hT_8⟩ : ∃ T : RS, T = rNm 78 0 T_4 := ⟨_, rfl⟩
  have hP : zP g [[mdl q a (uI x 9 T_8.2.2)], [((a 0), .inl (g.2 1, 88, .inr (.inl (aL T_8.1))))], [((a 1), .inl (g.2 1, 88, .inr (.inl (aL T_8.2.1))))]] H := by rw [hT_8]; exact hP
  have hD : zD A [[mdl q a (uI x 9 T_8.2.2)], [((a 0), .inl (g.2 1, 88, .inr (.inl (aL T_8.1))))], [((a 1), .inl (g.2 1, 88, .inr (.inl (aL T_8.2.1))))]] := by rw [hT_8]; exact hD
  have hZT_8 : T_8.2.2 = 0 ∨ T_8.2.2 = 1 := by rw [hT_8]; exact rNm_01 hZT_4
  have hRT_8_0 : T_8.2.2 = 0 → rk T_8 2 := by rw [hT_8]; exact rNm_rk (by omega) (by omega) hNT_4_2
  have hRT_8_1 : T_8.2.2 = 0 → rk T_8 3 := by rw [hT_8]; exact rNm_rk (by omega) (by omega) hNT_4_3
  have hRT_8_2 : T_8.2.2 = 0 → rk T_8 4 := by rw [hT_8]; exact rNm_rk (by omega) (by omega) hNT_4_4
  have hRT_8_3 : T_8.2.2 = 0 → rk T_8 5 := by rw [hT_8]; exact rNm_rk (by omega) (by omega) hNT_4_5
  have hNT_8_0 : T_8.2.2 = 0 → rk T_8 78 := by rw [hT_8]; exact rNm_rt (by omega) (by omega) (by omega) (by omega) (by omega) hNT_4_0 hNT_4_1
  refine z_iinc hx hb 1 (lv' := [(2, vI 1), (0, .ref q), (1, vI 1)]) dX10_most_108 hl (k := 0) rfl (rfl) (by decide) rfl (fun ls hl => ?_)
  refine lv_goto (tgt := 92) hx hb dX10_most_111 (by decide) ?_
  refine lv_iload_n hx hb dX10_most_92 rfl (lv_at hl 0 rfl) ?_
  refine z_iconst hx hb dX10_most_93 rfl ?_
  refine z_icmp_ge (tgt := 114) hx hb (by decide) (by decide) dX10_most_94 (by decide) (fun cq9 => False.elim (by omega)) (fun cq9 => ?_)
  refine lv_aload_n hx hb dX10_most_97 rfl (lv_at hl 1 rfl) ?_
  refine z_bipush hx hb 78 dX10_most_98 rfl ?_
  refine lv_iload_n hx hb dX10_most_100 rfl (lv_at hl 0 rfl) ?_
  refine z_iadd hx hb 79 rfl dX10_most_101 ?_
  refine z_iconst hx hb dX10_most_102 rfl ?_
  refine lv_iload_n hx hb dX10_most_103 rfl (lv_at hl 0 rfl) ?_
  refine z_imul hx hb 2 rfl dX10_most_104 ?_
  refine z_cVv (As := [vI 79, vI 2]) (rest := []) ⟨hx, hb, hml, hown, hts⟩ hK hP hD hS hA [0, 1, 2] [] rfl rfl rfl (c_X10_norm l g q a (uI x 9 T_8.2.2) T_8 79 2 (by omega) (by omega) hZT_8 (by omega) hRT_8_0 hRT_8_1) (cwV 2 hts gX10_most_X10_norm rfl rfl rfl (by decide +kernel) ⟨Nat.le_of_ble_eq_true rfl, Nat.le_of_ble_eq_true rfl⟩) 10 0 rfl rfl rfl (fun _ _ _ _ _ _ => trivial) (fun _ _ _ => trivial) rfl hl.1 (Nat.le_of_ble_eq_true rfl) rfl dX10_most_105 ⟨Nat.le_of_ble_eq_true rfl, Nat.le_of_ble_eq_true rfl⟩ (fun u_10 H locs hwu_10 hP hD hS => ?_)
  try dsimp only at hwu_10
  have hP : zP g [[mdl q a (uI x 9 (rNm 79 2 T_8).2.2)], [((a 0), .inl (g.2 1, 88, .inr (.inl (aL (rNm 79 2 T_8).1))))], [((a 1), .inl (g.2 1, 88, .inr (.inl (aL (rNm 79 2 T_8).2.1))))]] H := hP
  have hD : zD A [[mdl q a (uI x 9 (rNm 79 2 T_8).2.2)], [((a 0), .inl (g.2 1, 88, .inr (.inl (aL (rNm 79 2 T_8).1))))], [((a 1), .inl (g.2 1, 88, .inr (.inl (aL (rNm 79 2 T_8).2.1))))]] := hD
  obtain ⟨T_11, hT_11⟩ : ∃ T : RS, T = rNm 79 2 T_8 := ⟨_, rfl⟩
  have hP : zP g [[mdl q a (uI x 9 T_11.2.2)], [((a 0), .inl (g.2 1, 88, .inr (.inl (aL T_11.1))))], [((a 1), .inl (g.2 1, 88, .inr (.inl (aL T_11.2.1))))]] H := by rw [hT_11]; exact hP
  have hD : zD A [[mdl q a (uI x 9 T_11.2.2)], [((a 0), .inl (g.2 1, 88, .inr (.inl (aL T_11.1))))], [((a 1), .inl (g.2 1, 88, .inr (.inl (aL T_11.2.1))))]] := by rw [hT_11]; exact hD
  have hZT_11 : T_11.2.2 = 0 ∨ T_11.2.2 = 1 := by rw [hT_11]; exact rNm_01 hZT_8
  have hRT_11_0 : T_11.2.2 = 0 → rk T_11 78 := by rw [hT_11]; exact rNm_rk (by omega) (by omega) hNT_8_0
  have hRT_11_1 : T_11.2.2 = 0 → rk T_11 4 := by rw [hT_11]; exact rNm_rk (by omega) (by omega) hRT_8_2
  have hRT_11_2 : T_11.2.2 = 0 → rk T_11 5 := by rw [hT_11]; exact rNm_rk (by omega) (by omega) hRT_8_3
  have hNT_11_0 : T_11.2.2 = 0 → rk T_11 79 := by rw [hT_11]; exact rNm_rt (by omega) (by omega) (by omega) (by omega) (by omega) hRT_8_0 hRT_8_1
  refine z_iinc hx hb 2 (lv' := [(2, vI 2), (0, .ref q), (1, vI 1)]) dX10_most_108 hl (k := 0) rfl (rfl) (by decide) rfl (fun ls hl => ?_)
  refine lv_goto (tgt := 92) hx hb dX10_most_111 (by decide) ?_
  refine lv_iload_n hx hb dX10_most_92 rfl (lv_at hl 0 rfl) ?_
  refine z_iconst hx hb dX10_most_93 rfl ?_
  refine z_icmp_ge (tgt := 114) hx hb (by decide) (by decide) dX10_most_94 (by decide) (fun cq12 => False.elim (by omega)) (fun cq12 => ?_)
  refine lv_aload_n hx hb dX10_most_97 rfl (lv_at hl 1 rfl) ?_
  refine z_bipush hx hb 78 dX10_most_98 rfl ?_
  refine lv_iload_n hx hb dX10_most_100 rfl (lv_at hl 0 rfl) ?_
  refine z_iadd hx hb 80 rfl dX10_most_101 ?_
  refine z_iconst hx hb dX10_most_102 rfl ?_
  refine lv_iload_n hx hb dX10_most_103 rfl (lv_at hl 0 rfl) ?_
  refine z_imul hx hb 4 rfl dX10_most_104 ?_
  refine z_cVv (As := [vI 80, vI 4]) (rest := []) ⟨hx, hb, hml, hown, hts⟩ hK hP hD hS hA [0, 1, 2] [] rfl rfl rfl (c_X10_norm l g q a (uI x 9 T_11.2.2) T_11 80 4 (by omega) (by omega) hZT_11 (by omega) hRT_11_1 hRT_11_2) (cwV 2 hts gX10_most_X10_norm rfl rfl rfl (by decide +kernel) ⟨Nat.le_of_ble_eq_true rfl, Nat.le_of_ble_eq_true rfl⟩) 10 0 rfl rfl rfl (fun _ _ _ _ _ _ => trivial) (fun _ _ _ => trivial) rfl hl.1 (Nat.le_of_ble_eq_true rfl) rfl dX10_most_105 ⟨Nat.le_of_ble_eq_true rfl, Nat.le_of_ble_eq_true rfl⟩ (fun u_13 H locs hwu_13 hP hD hS => ?_)
  try dsimp only at hwu_13
  have hP : zP g [[mdl q a (uI x 9 (rNm 80 4 T_11).2.2)], [((a 0), .inl (g.2 1, 88, .inr (.inl (aL (rNm 80 4 T_11).1))))], [((a 1), .inl (g.2 1, 88, .inr (.inl (aL (rNm 80 4 T_11).2.1))))]] H := hP
  have hD : zD A [[mdl q a (uI x 9 (rNm 80 4 T_11).2.2)], [((a 0), .inl (g.2 1, 88, .inr (.inl (aL (rNm 80 4 T_11).1))))], [((a 1), .inl (g.2 1, 88, .inr (.inl (aL (rNm 80 4 T_11).2.1))))]] := hD
  obtain ⟨T_14, hT_14⟩ : ∃ T : RS, T = rNm 80 4 T_11 := ⟨_, rfl⟩
  have hP : zP g [[mdl q a (uI x 9 T_14.2.2)], [((a 0), .inl (g.2 1, 88, .inr (.inl (aL T_14.1))))], [((a 1), .inl (g.2 1, 88, .inr (.inl (aL T_14.2.1))))]] H := by rw [hT_14]; exact hP
  have hD : zD A [[mdl q a (uI x 9 T_14.2.2)], [((a 0), .inl (g.2 1, 88, .inr (.inl (aL T_14.1))))], [((a 1), .inl (g.2 1, 88, .inr (.inl (aL T_14.2.1))))]] := by rw [hT_14]; exact hD
  have hZT_14 : T_14.2.2 = 0 ∨ T_14.2.2 = 1 := by rw [hT_14]; exact rNm_01 hZT_11
  have hRT_14_0 : T_14.2.2 = 0 → rk T_14 78 := by rw [hT_14]; exact rNm_rk (by omega) (by omega) hRT_11_0
  have hRT_14_1 : T_14.2.2 = 0 → rk T_14 79 := by rw [hT_14]; exact rNm_rk (by omega) (by omega) hNT_11_0
  have hNT_14_0 : T_14.2.2 = 0 → rk T_14 80 := by rw [hT_14]; exact rNm_rt (by omega) (by omega) (by omega) (by omega) (by omega) hRT_11_1 hRT_11_2
  refine z_iinc hx hb 3 (lv' := [(2, vI 3), (0, .ref q), (1, vI 1)]) dX10_most_108 hl (k := 0) rfl (rfl) (by decide) rfl (fun ls hl => ?_)
  refine lv_goto (tgt := 92) hx hb dX10_most_111 (by decide) ?_
  refine lv_iload_n hx hb dX10_most_92 rfl (lv_at hl 0 rfl) ?_
  refine z_iconst hx hb dX10_most_93 rfl ?_
  refine z_icmp_ge (tgt := 114) hx hb (by decide) (by decide) dX10_most_94 (by decide) (fun cq15 => ?_) (fun cq15 => False.elim (by omega))
  refine lv_aload_n hx hb dX10_most_114 rfl (lv_at hl 1 rfl) ?_
  refine z_get hx hb hts hin10_ hown hK hP 0 rfl rfl 22 (by decide) (hts _ (List.mem_of_getElem? (i := 3) rfl)) rfl dX10_most_115 ?_
  refine z_toI T_14.2.2 rfl ?_
  refine z_if_eq (tgt := 124) hx hb (by omega) dX10_most_118 (by decide) (fun cq16 => ?_) (fun cq16 => ?_)
  · refine lv_aload_n hx hb dX10_most_124 rfl (lv_at hl 1 rfl) ?_
    refine z_bipush hx hb 79 dX10_most_125 rfl ?_
    refine z_bipush hx hb 78 dX10_most_127 rfl ?_
    refine z_cVi (As := [vI 79, vI 78]) (rest := []) ⟨hx, hb, hml, hown, hts⟩ hK hP hD hS hA [0, 1, 2] [] rfl rfl rfl (c_X10_isGreater l g q a (uI x 9 T_14.2.2) T_14 79 78 (by decide) (by decide) (hRT_14_1 (by omega)) (hRT_14_0 (by omega))) (cwV 2 hts gX10_most_X10_isGreater rfl rfl rfl (by decide +kernel) ⟨Nat.le_of_ble_eq_true rfl, Nat.le_of_ble_eq_true rfl⟩) 10 0 rfl rfl rfl (fun _ _ _ _ _ _ => trivial) (fun _ _ _ => trivial) rfl hl.1 (Nat.le_of_ble_eq_true rfl) rfl dX10_most_129 ⟨Nat.le_of_ble_eq_true rfl, Nat.le_of_ble_eq_true rfl⟩ (fun u_17 H locs hwu_17 hP hD hS => ?_)
    try dsimp only at hwu_17
    have hP : zP g [[mdl q a (uI x 9 T_14.2.2)], [((a 0), .inl (g.2 1, 88, .inr (.inl (aL T_14.1))))], [((a 1), .inl (g.2 1, 88, .inr (.inl (aL T_14.2.1))))]] H := hP
    have hD : zD A [[mdl q a (uI x 9 T_14.2.2)], [((a 0), .inl (g.2 1, 88, .inr (.inl (aL T_14.1))))], [((a 1), .inl (g.2 1, 88, .inr (.inl (aL T_14.2.1))))]] := hD
    refine z_toI (rGt 79 78 T_14) rfl ?_
    have hf_18 := rGt_01 79 78 T_14
    refine z_if_eq (tgt := 139) hx hb (by omega) dX10_most_132 (by decide) (fun cq19 => ?_) (fun cq19 => ?_)
    · refine z_iconst hx hb dX10_most_139 rfl ?_
      refine lv_istore_n (lv' := [(2, vI 0), (0, .ref q), (1, vI 1)]) hx hb dX10_most_140 rfl hl (by decide) rfl (fun ls hl => ?_)
      refine lv_aload_n hx hb dX10_most_141 rfl (lv_at hl 1 rfl) ?_
      refine z_bipush hx hb 80 dX10_most_142 rfl ?_
      refine z_bipush hx hb 78 dX10_most_144 rfl ?_
      refine lv_iload_n hx hb dX10_most_146 rfl (lv_at hl 0 rfl) ?_
      refine z_iadd hx hb 78 rfl dX10_most_147 ?_
      refine z_cVi (As := [vI 80, vI 78]) (rest := []) ⟨hx, hb, hml, hown, hts⟩ hK hP hD hS hA [0, 1, 2] [] rfl rfl rfl (c_X10_isGreater l g q a (uI x 9 T_14.2.2) T_14 80 78 (by decide) (by decide) (hNT_14_0 (by omega)) (hRT_14_0 (by omega))) (cwV 2 hts gX10_most_X10_isGreater rfl rfl rfl (by decide +kernel) ⟨Nat.le_of_ble_eq_true rfl, Nat.le_of_ble_eq_true rfl⟩) 10 0 rfl rfl rfl (fun _ _ _ _ _ _ => trivial) (fun _ _ _ => trivial) rfl hl.1 (Nat.le_of_ble_eq_true rfl) rfl dX10_most_148 ⟨Nat.le_of_ble_eq_true rfl, Nat.le_of_ble_eq_true rfl⟩ (fun u_20 H locs hwu_20 hP hD hS => ?_)
      try dsimp only at hwu_20
      have hP : zP g [[mdl q a (uI x 9 T_14.2.2)], [((a 0), .inl (g.2 1, 88, .inr (.inl (aL T_14.1))))], [((a 1), .inl (g.2 1, 88, .inr (.inl (aL T_14.2.1))))]] H := hP
      have hD : zD A [[mdl q a (uI x 9 T_14.2.2)], [((a 0), .inl (g.2 1, 88, .inr (.inl (aL T_14.1))))], [((a 1), .inl (g.2 1, 88, .inr (.inl (aL T_14.2.1))))]] := hD
      refine z_toI (rGt 80 78 T_14) rfl ?_
      have hf_21 := rGt_01 80 78 T_14
      refine z_if_eq (tgt := 158) hx hb (by omega) dX10_most_151 (by decide) (fun cq22 => ?_) (fun cq22 => ?_)
      · refine lv_iload_n hx hb dX10_most_158 rfl (lv_at hl 0 rfl) ?_
        refine lv_istore_n (lv' := [(2, vI 0), (0, .ref q), (1, vI 1)]) hx hb dX10_most_159 rfl hl (by decide) rfl (fun ls hl => ?_)
        refine z_iconst hx hb dX10_most_160 rfl ?_
        refine lv_istore_n (lv' := [(3, vI 1), (2, vI 0), (0, .ref q), (1, vI 1)]) hx hb dX10_most_161 rfl hl (by decide) rfl (fun ls hl => ?_)
        refine z_iconst hx hb dX10_most_162 rfl ?_
        refine lv_istore (lv' := [(4, vI 1), (3, vI 1), (2, vI 0), (0, .ref q), (1, vI 1)]) hx hb dX10_most_163 hl (by decide) rfl (fun ls hl => ?_)
        refine lv_iload hx hb dX10_most_165 (lv_at hl 0 rfl) ?_
        refine z_iconst hx hb dX10_most_167 rfl ?_
        refine z_icmp_ge (tgt := 215) hx hb (by decide) (by decide) dX10_most_168 (by decide) (fun cq23 => False.elim (by omega)) (fun cq23 => ?_)
        refine lv_iload_n hx hb dX10_most_171 rfl (lv_at hl 1 rfl) ?_
        refine z_if_eq (tgt := 207) hx hb (by decide) dX10_most_172 (by decide) (fun cq24 => False.elim (by omega)) (fun cq24 => ?_)
        refine lv_aload_n hx hb dX10_most_175 rfl (lv_at hl 3 rfl) ?_
        refine z_bipush hx hb 78 dX10_most_176 rfl ?_
        refine z_bipush hx hb 78 dX10_most_178 rfl ?_
        refine lv_iload hx hb dX10_most_180 (lv_at hl 0 rfl) ?_
        refine z_iadd hx hb 79 rfl dX10_most_182 ?_
        refine z_cVi (As := [vI 78, vI 79]) (rest := []) ⟨hx, hb, hml, hown, hts⟩ hK hP hD hS hA [0, 1, 2] [] rfl rfl rfl (c_X10_isGreater l g q a (uI x 9 T_14.2.2) T_14 78 79 (by decide) (by decide) (hRT_14_0 (by omega)) (hRT_14_1 (by omega))) (cwV 2 hts gX10_most_X10_isGreater rfl rfl rfl (by decide +kernel) ⟨Nat.le_of_ble_eq_true rfl, Nat.le_of_ble_eq_true rfl⟩) 10 0 rfl rfl rfl (fun _ _ _ _ _ _ => trivial) (fun _ _ _ => trivial) rfl hl.1 (Nat.le_of_ble_eq_true rfl) rfl dX10_most_183 ⟨Nat.le_of_ble_eq_true rfl, Nat.le_of_ble_eq_true rfl⟩ (fun u_25 H locs hwu_25 hP hD hS => ?_)
        try dsimp only at hwu_25
        have hP : zP g [[mdl q a (uI x 9 T_14.2.2)], [((a 0), .inl (g.2 1, 88, .inr (.inl (aL T_14.1))))], [((a 1), .inl (g.2 1, 88, .inr (.inl (aL T_14.2.1))))]] H := hP
        have hD : zD A [[mdl q a (uI x 9 T_14.2.2)], [((a 0), .inl (g.2 1, 88, .inr (.inl (aL T_14.1))))], [((a 1), .inl (g.2 1, 88, .inr (.inl (aL T_14.2.1))))]] := hD
        refine z_toI (rGt 78 79 T_14) rfl ?_
        have hf_26 := rGt_01 78 79 T_14
        refine z_if_ne (tgt := 207) hx hb (by omega) dX10_most_186 (by decide) (fun cq27 => ?_) (fun cq27 => ?_)
        · refine z_iconst hx hb dX10_most_207 rfl ?_
          refine lv_istore_n (lv' := [(3, vI 0), (4, vI 1), (2, vI 0), (0, .ref q), (1, vI 1)]) hx hb dX10_most_208 rfl hl (by decide) rfl (fun ls hl => ?_)
          refine z_iinc hx hb 2 (lv' := [(4, vI 2), (3, vI 0), (2, vI 0), (0, .ref q), (1, vI 1)]) dX10_most_209 hl (k := 1) rfl (rfl) (by decide) rfl (fun ls hl => ?_)
          refine lv_goto (tgt := 165) hx hb dX10_most_212 (by decide) ?_
          refine lv_iload hx hb dX10_most_165 (lv_at hl 0 rfl) ?_
          refine z_iconst hx hb dX10_most_167 rfl ?_
          refine z_icmp_ge (tgt := 215) hx hb (by decide) (by decide) dX10_most_168 (by decide) (fun cq28 => False.elim (by omega)) (fun cq28 => ?_)
          refine lv_iload_n hx hb dX10_most_171 rfl (lv_at hl 1 rfl) ?_
          refine z_if_eq (tgt := 207) hx hb (by decide) dX10_most_172 (by decide) (fun cq29 => ?_) (fun cq29 => False.elim (by omega))
          refine z_iconst hx hb dX10_most_207 rfl ?_
          refine lv_istore_n (lv' := [(3, vI 0), (4, vI 2), (2, vI 0), (0, .ref q), (1, vI 1)]) hx hb dX10_most_208 rfl hl (by decide) rfl (fun ls hl => ?_)
          refine z_iinc hx hb 3 (lv' := [(4, vI 3), (3, vI 0), (2, vI 0), (0, .ref q), (1, vI 1)]) dX10_most_209 hl (k := 1) rfl (rfl) (by decide) rfl (fun ls hl => ?_)
          refine lv_goto (tgt := 165) hx hb dX10_most_212 (by decide) ?_
          refine lv_iload hx hb dX10_most_165 (lv_at hl 0 rfl) ?_
          refine z_iconst hx hb dX10_most_167 rfl ?_
          refine z_icmp_ge (tgt := 215) hx hb (by decide) (by decide) dX10_most_168 (by decide) (fun cq30 => ?_) (fun cq30 => False.elim (by omega))
          refine lv_iload_n hx hb dX10_most_215 rfl (lv_at hl 4 rfl) ?_
          refine z_if_ne (tgt := 223) hx hb (by decide) dX10_most_216 (by decide) (fun cq31 => ?_) (fun cq31 => False.elim (by omega))
          refine lv_iload_n hx hb dX10_most_223 rfl (lv_at hl 1 rfl) ?_
          refine z_if_eq (tgt := 231) hx hb (by decide) dX10_most_224 (by decide) (fun cq32 => ?_) (fun cq32 => False.elim (by omega))
          refine z_iconst hx hb dX10_most_231 rfl ?_
          have hE : T_14 = (rNm 80 4 (rNm 79 2 (rNm 78 0 (rZ0 S)))) := by rw [hT_14, hT_11, hT_8, hT_4]
          exact z_reti () [0, 1, 2] hx hb hr rfl hlocks hK hP hD hS (by rw [← hE, if_pos (show _ = (0 : Int) by omega)]; have hm9 := mAlk_s T_14; omega) trivial rfl rfl (by rw [← hE]; rfl) (Nat.le_of_ble_eq_true rfl) (Nat.le_of_ble_eq_true rfl) dX10_most_232
        · refine lv_aload_n hx hb dX10_most_189 rfl (lv_at hl 3 rfl) ?_
          refine z_bipush hx hb 78 dX10_most_190 rfl ?_
          refine lv_iload hx hb dX10_most_192 (lv_at hl 0 rfl) ?_
          refine z_iadd hx hb 79 rfl dX10_most_194 ?_
          refine z_bipush hx hb 78 dX10_most_195 rfl ?_
          refine z_cVi (As := [vI 79, vI 78]) (rest := []) ⟨hx, hb, hml, hown, hts⟩ hK hP hD hS hA [0, 1, 2] [] rfl rfl rfl (c_X10_isGreater l g q a (uI x 9 T_14.2.2) T_14 79 78 (by decide) (by decide) (hRT_14_1 (by omega)) (hRT_14_0 (by omega))) (cwV 2 hts gX10_most_X10_isGreater rfl rfl rfl (by decide +kernel) ⟨Nat.le_of_ble_eq_true rfl, Nat.le_of_ble_eq_true rfl⟩) 10 0 rfl rfl rfl (fun _ _ _ _ _ _ => trivial) (fun _ _ _ => trivial) rfl hl.1 (Nat.le_of_ble_eq_true rfl) rfl dX10_most_197 ⟨Nat.le_of_ble_eq_true rfl, Nat.le_of_ble_eq_true rfl⟩ (fun u_33 H locs hwu_33 hP hD hS => ?_)
          try dsimp only at hwu_33
          have hP : zP g [[mdl q a (uI x 9 T_14.2.2)], [((a 0), .inl (g.2 1, 88, .inr (.inl (aL T_14.1))))], [((a 1), .inl (g.2 1, 88, .inr (.inl (aL T_14.2.1))))]] H := hP
          have hD : zD A [[mdl q a (uI x 9 T_14.2.2)], [((a 0), .inl (g.2 1, 88, .inr (.inl (aL T_14.1))))], [((a 1), .inl (g.2 1, 88, .inr (.inl (aL T_14.2.1))))]] := hD
          refine z_toI (rGt 79 78 T_14) rfl ?_
          have hf_34 := rGt_01 79 78 T_14
          refine z_if_ne (tgt := 207) hx hb (by omega) dX10_most_200 (by decide) (fun cq35 => ?_) (fun cq35 => ?_)
          · refine z_iconst hx hb dX10_most_207 rfl ?_
            refine lv_istore_n (lv' := [(3, vI 0), (4, vI 1), (2, vI 0), (0, .ref q), (1, vI 1)]) hx hb dX10_most_208 rfl hl (by decide) rfl (fun ls hl => ?_)
            refine z_iinc hx hb 2 (lv' := [(4, vI 2), (3, vI 0), (2, vI 0), (0, .ref q), (1, vI 1)]) dX10_most_209 hl (k := 1) rfl (rfl) (by decide) rfl (fun ls hl => ?_)
            refine lv_goto (tgt := 165) hx hb dX10_most_212 (by decide) ?_
            refine lv_iload hx hb dX10_most_165 (lv_at hl 0 rfl) ?_
            refine z_iconst hx hb dX10_most_167 rfl ?_
            refine z_icmp_ge (tgt := 215) hx hb (by decide) (by decide) dX10_most_168 (by decide) (fun cq36 => False.elim (by omega)) (fun cq36 => ?_)
            refine lv_iload_n hx hb dX10_most_171 rfl (lv_at hl 1 rfl) ?_
            refine z_if_eq (tgt := 207) hx hb (by decide) dX10_most_172 (by decide) (fun cq37 => ?_) (fun cq37 => False.elim (by omega))
            refine z_iconst hx hb dX10_most_207 rfl ?_
            refine lv_istore_n (lv' := [(3, vI 0), (4, vI 2), (2, vI 0), (0, .ref q), (1, vI 1)]) hx hb dX10_most_208 rfl hl (by decide) rfl (fun ls hl => ?_)
            refine z_iinc hx hb 3 (lv' := [(4, vI 3), (3, vI 0), (2, vI 0), (0, .ref q), (1, vI 1)]) dX10_most_209 hl (k := 1) rfl (rfl) (by decide) rfl (fun ls hl => ?_)
            refine lv_goto (tgt := 165) hx hb dX10_most_212 (by decide) ?_
            refine lv_iload hx hb dX10_most_165 (lv_at hl 0 rfl) ?_
            refine z_iconst hx hb dX10_most_167 rfl ?_
            refine z_icmp_ge (tgt := 215) hx hb (by decide) (by decide) dX10_most_168 (by decide) (fun cq38 => ?_) (fun cq38 => False.elim (by omega))
            refine lv_iload_n hx hb dX10_most_215 rfl (lv_at hl 4 rfl) ?_
            refine z_if_ne (tgt := 223) hx hb (by decide) dX10_most_216 (by decide) (fun cq39 => ?_) (fun cq39 => False.elim (by omega))
            refine lv_iload_n hx hb dX10_most_223 rfl (lv_at hl 1 rfl) ?_
            refine z_if_eq (tgt := 231) hx hb (by decide) dX10_most_224 (by decide) (fun cq40 => ?_) (fun cq40 => False.elim (by omega))
            refine z_iconst hx hb dX10_most_231 rfl ?_
            have hE : T_14 = (rNm 80 4 (rNm 79 2 (rNm 78 0 (rZ0 S)))) := by rw [hT_14, hT_11, hT_8, hT_4]
            exact z_reti () [0, 1, 2] hx hb hr rfl hlocks hK hP hD hS (by rw [← hE, if_pos (show _ = (0 : Int) by omega)]; have hm9 := mAlk_s T_14; omega) trivial rfl rfl (by rw [← hE]; rfl) (Nat.le_of_ble_eq_true rfl) (Nat.le_of_ble_eq_true rfl) dX10_most_232
          · refine z_iconst hx hb dX10_most_203 rfl ?_
            refine lv_goto (tgt := 208) hx hb dX10_most_204 (by decide) ?_
            refine lv_istore_n (lv' := [(3, vI 1), (4, vI 1), (2, vI 0), (0, .ref q), (1, vI 1)]) hx hb dX10_most_208 rfl hl (by decide) rfl (fun ls hl => ?_)
            refine z_iinc hx hb 2 (lv' := [(4, vI 2), (3, vI 1), (2, vI 0), (0, .ref q), (1, vI 1)]) dX10_most_209 hl (k := 1) rfl (rfl) (by decide) rfl (fun ls hl => ?_)
            refine lv_goto (tgt := 165) hx hb dX10_most_212 (by decide) ?_
            refine lv_iload hx hb dX10_most_165 (lv_at hl 0 rfl) ?_
            refine z_iconst hx hb dX10_most_167 rfl ?_
            refine z_icmp_ge (tgt := 215) hx hb (by decide) (by decide) dX10_most_168 (by decide) (fun cq41 => False.elim (by omega)) (fun cq41 => ?_)
            refine lv_iload_n hx hb dX10_most_171 rfl (lv_at hl 1 rfl) ?_
            refine z_if_eq (tgt := 207) hx hb (by decide) dX10_most_172 (by decide) (fun cq42 => False.elim (by omega)) (fun cq42 => ?_)
            refine lv_aload_n hx hb dX10_most_175 rfl (lv_at hl 3 rfl) ?_
            refine z_bipush hx hb 78 dX10_most_176 rfl ?_
            refine z_bipush hx hb 78 dX10_most_178 rfl ?_
            refine lv_iload hx hb dX10_most_180 (lv_at hl 0 rfl) ?_
            refine z_iadd hx hb 80 rfl dX10_most_182 ?_
            refine z_cVi (As := [vI 78, vI 80]) (rest := []) ⟨hx, hb, hml, hown, hts⟩ hK hP hD hS hA [0, 1, 2] [] rfl rfl rfl (c_X10_isGreater l g q a (uI x 9 T_14.2.2) T_14 78 80 (by decide) (by decide) (hRT_14_0 (by omega)) (hNT_14_0 (by omega))) (cwV 2 hts gX10_most_X10_isGreater rfl rfl rfl (by decide +kernel) ⟨Nat.le_of_ble_eq_true rfl, Nat.le_of_ble_eq_true rfl⟩) 10 0 rfl rfl rfl (fun _ _ _ _ _ _ => trivial) (fun _ _ _ => trivial) rfl hl.1 (Nat.le_of_ble_eq_true rfl) rfl dX10_most_183 ⟨Nat.le_of_ble_eq_true rfl, Nat.le_of_ble_eq_true rfl⟩ (fun u_43 H locs hwu_43 hP hD hS => ?_)
            try dsimp only at hwu_43
            have hP : zP g [[mdl q a (uI x 9 T_14.2.2)], [((a 0), .inl (g.2 1, 88, .inr (.inl (aL T_14.1))))], [((a 1), .inl (g.2 1, 88, .inr (.inl (aL T_14.2.1))))]] H := hP
            have hD : zD A [[mdl q a (uI x 9 T_14.2.2)], [((a 0), .inl (g.2 1, 88, .inr (.inl (aL T_14.1))))], [((a 1), .inl (g.2 1, 88, .inr (.inl (aL T_14.2.1))))]] := hD
            refine z_toI (rGt 78 80 T_14) rfl ?_
            have hf_44 := rGt_01 78 80 T_14
            refine z_if_ne (tgt := 207) hx hb (by omega) dX10_most_186 (by decide) (fun cq45 => ?_) (fun cq45 => ?_)
            · refine z_iconst hx hb dX10_most_207 rfl ?_
              refine lv_istore_n (lv' := [(3, vI 0), (4, vI 2), (2, vI 0), (0, .ref q), (1, vI 1)]) hx hb dX10_most_208 rfl hl (by decide) rfl (fun ls hl => ?_)
              refine z_iinc hx hb 3 (lv' := [(4, vI 3), (3, vI 0), (2, vI 0), (0, .ref q), (1, vI 1)]) dX10_most_209 hl (k := 1) rfl (rfl) (by decide) rfl (fun ls hl => ?_)
              refine lv_goto (tgt := 165) hx hb dX10_most_212 (by decide) ?_
              refine lv_iload hx hb dX10_most_165 (lv_at hl 0 rfl) ?_
              refine z_iconst hx hb dX10_most_167 rfl ?_
              refine z_icmp_ge (tgt := 215) hx hb (by decide) (by decide) dX10_most_168 (by decide) (fun cq46 => ?_) (fun cq46 => False.elim (by omega))
              refine lv_iload_n hx hb dX10_most_215 rfl (lv_at hl 4 rfl) ?_
              refine z_if_ne (tgt := 223) hx hb (by decide) dX10_most_216 (by decide) (fun cq47 => ?_) (fun cq47 => False.elim (by omega))
              refine lv_iload_n hx hb dX10_most_223 rfl (lv_at hl 1 rfl) ?_
              refine z_if_eq (tgt := 231) hx hb (by decide) dX10_most_224 (by decide) (fun cq48 => ?_) (fun cq48 => False.elim (by omega))
              refine z_iconst hx hb dX10_most_231 rfl ?_
              have hE : T_14 = (rNm 80 4 (rNm 79 2 (rNm 78 0 (rZ0 S)))) := by rw [hT_14, hT_11, hT_8, hT_4]
              exact z_reti () [0, 1, 2] hx hb hr rfl hlocks hK hP hD hS (by rw [← hE, if_pos (show _ = (0 : Int) by omega)]; have hm9 := mAlk_s T_14; omega) trivial rfl rfl (by rw [← hE]; rfl) (Nat.le_of_ble_eq_true rfl) (Nat.le_of_ble_eq_true rfl) dX10_most_232
            · refine lv_aload_n hx hb dX10_most_189 rfl (lv_at hl 3 rfl) ?_
              refine z_bipush hx hb 78 dX10_most_190 rfl ?_
              refine lv_iload hx hb dX10_most_192 (lv_at hl 0 rfl) ?_
              refine z_iadd hx hb 80 rfl dX10_most_194 ?_
              refine z_bipush hx hb 78 dX10_most_195 rfl ?_
              refine z_cVi (As := [vI 80, vI 78]) (rest := []) ⟨hx, hb, hml, hown, hts⟩ hK hP hD hS hA [0, 1, 2] [] rfl rfl rfl (c_X10_isGreater l g q a (uI x 9 T_14.2.2) T_14 80 78 (by decide) (by decide) (hNT_14_0 (by omega)) (hRT_14_0 (by omega))) (cwV 2 hts gX10_most_X10_isGreater rfl rfl rfl (by decide +kernel) ⟨Nat.le_of_ble_eq_true rfl, Nat.le_of_ble_eq_true rfl⟩) 10 0 rfl rfl rfl (fun _ _ _ _ _ _ => trivial) (fun _ _ _ => trivial) rfl hl.1 (Nat.le_of_ble_eq_true rfl) rfl dX10_most_197 ⟨Nat.le_of_ble_eq_true rfl, Nat.le_of_ble_eq_true rfl⟩ (fun u_49 H locs hwu_49 hP hD hS => ?_)
              try dsimp only at hwu_49
              have hP : zP g [[mdl q a (uI x 9 T_14.2.2)], [((a 0), .inl (g.2 1, 88, .inr (.inl (aL T_14.1))))], [((a 1), .inl (g.2 1, 88, .inr (.inl (aL T_14.2.1))))]] H := hP
              have hD : zD A [[mdl q a (uI x 9 T_14.2.2)], [((a 0), .inl (g.2 1, 88, .inr (.inl (aL T_14.1))))], [((a 1), .inl (g.2 1, 88, .inr (.inl (aL T_14.2.1))))]] := hD
              refine z_toI (rGt 80 78 T_14) rfl ?_
              have hf_50 := rGt_01 80 78 T_14
              refine z_if_ne (tgt := 207) hx hb (by omega) dX10_most_200 (by decide) (fun cq51 => ?_) (fun cq51 => ?_)
              · refine z_iconst hx hb dX10_most_207 rfl ?_
                refine lv_istore_n (lv' := [(3, vI 0), (4, vI 2), (2, vI 0), (0, .ref q), (1, vI 1)]) hx hb dX10_most_208 rfl hl (by decide) rfl (fun ls hl => ?_)
                refine z_iinc hx hb 3 (lv' := [(4, vI 3), (3, vI 0), (2, vI 0), (0, .ref q), (1, vI 1)]) dX10_most_209 hl (k := 1) rfl (rfl) (by decide) rfl (fun ls hl => ?_)
                refine lv_goto (tgt := 165) hx hb dX10_most_212 (by decide) ?_
                refine lv_iload hx hb dX10_most_165 (lv_at hl 0 rfl) ?_
                refine z_iconst hx hb dX10_most_167 rfl ?_
                refine z_icmp_ge (tgt := 215) hx hb (by decide) (by decide) dX10_most_168 (by decide) (fun cq52 => ?_) (fun cq52 => False.elim (by omega))
                refine lv_iload_n hx hb dX10_most_215 rfl (lv_at hl 4 rfl) ?_
                refine z_if_ne (tgt := 223) hx hb (by decide) dX10_most_216 (by decide) (fun cq53 => ?_) (fun cq53 => False.elim (by omega))
                refine lv_iload_n hx hb dX10_most_223 rfl (lv_at hl 1 rfl) ?_
                refine z_if_eq (tgt := 231) hx hb (by decide) dX10_most_224 (by decide) (fun cq54 => ?_) (fun cq54 => False.elim (by omega))
                refine z_iconst hx hb dX10_most_231 rfl ?_
                have hE : T_14 = (rNm 80 4 (rNm 79 2 (rNm 78 0 (rZ0 S)))) := by rw [hT_14, hT_11, hT_8, hT_4]
                exact z_reti () [0, 1, 2] hx hb hr rfl hlocks hK hP hD hS (by rw [← hE, if_pos (show _ = (0 : Int) by omega)]; have hm9 := mAlk_s T_14; omega) trivial rfl rfl (by rw [← hE]; rfl) (Nat.le_of_ble_eq_true rfl) (Nat.le_of_ble_eq_true rfl) dX10_most_232
              · refine z_iconst hx hb dX10_most_203 rfl ?_
                refine lv_goto (tgt := 208) hx hb dX10_most_204 (by decide) ?_
                refine lv_istore_n (lv' := [(3, vI 1), (4, vI 2), (2, vI 0), (0, .ref q), (1, vI 1)]) hx hb dX10_most_208 rfl hl (by decide) rfl (fun ls hl => ?_)
                refine z_iinc hx hb 3 (lv' := [(4, vI 3), (3, vI 1), (2, vI 0), (0, .ref q), (1, vI 1)]) dX10_most_209 hl (k := 1) rfl (rfl) (by decide) rfl (fun ls hl => ?_)
                refine lv_goto (tgt := 165) hx hb dX10_most_212 (by decide) ?_
                refine lv_iload hx hb dX10_most_165 (lv_at hl 0 rfl) ?_
                refine z_iconst hx hb dX10_most_167 rfl ?_
                refine z_icmp_ge (tgt := 215) hx hb (by decide) (by decide) dX10_most_168 (by decide) (fun cq55 => ?_) (fun cq55 => False.elim (by omega))
                refine lv_iload_n hx hb dX10_most_215 rfl (lv_at hl 4 rfl) ?_
                refine z_if_ne (tgt := 223) hx hb (by decide) dX10_most_216 (by decide) (fun cq56 => ?_) (fun cq56 => False.elim (by omega))
                refine lv_iload_n hx hb dX10_most_223 rfl (lv_at hl 1 rfl) ?_
                refine z_if_eq (tgt := 231) hx hb (by decide) dX10_most_224 (by decide) (fun cq57 => False.elim (by omega)) (fun cq57 => ?_)
                refine z_iconst hx hb dX10_most_227 rfl ?_
                refine lv_goto (tgt := 232) hx hb dX10_most_228 (by decide) ?_
                have hE : T_14 = (rNm 80 4 (rNm 79 2 (rNm 78 0 (rZ0 S)))) := by rw [hT_14, hT_11, hT_8, hT_4]
                exact z_reti () [0, 1, 2] hx hb hr rfl hlocks hK hP hD hS (by rw [← hE, if_pos (show _ = (0 : Int) by omega)]; have hm9 := mAlk_s T_14; omega) trivial rfl rfl (by rw [← hE]; rfl) (Nat.le_of_ble_eq_true rfl) (Nat.le_of_ble_eq_true rfl) dX10_most_232
      · refine z_iconst hx hb dX10_most_154 rfl ?_
        refine lv_goto (tgt := 159) hx hb dX10_most_155 (by decide) ?_
        refine lv_istore_n (lv' := [(2, vI 2), (0, .ref q), (1, vI 1)]) hx hb dX10_most_159 rfl hl (by decide) rfl (fun ls hl => ?_)
        refine z_iconst hx hb dX10_most_160 rfl ?_
        refine lv_istore_n (lv' := [(3, vI 1), (2, vI 2), (0, .ref q), (1, vI 1)]) hx hb dX10_most_161 rfl hl (by decide) rfl (fun ls hl => ?_)
        refine z_iconst hx hb dX10_most_162 rfl ?_
        refine lv_istore (lv' := [(4, vI 1), (3, vI 1), (2, vI 2), (0, .ref q), (1, vI 1)]) hx hb dX10_most_163 hl (by decide) rfl (fun ls hl => ?_)
        refine lv_iload hx hb dX10_most_165 (lv_at hl 0 rfl) ?_
        refine z_iconst hx hb dX10_most_167 rfl ?_
        refine z_icmp_ge (tgt := 215) hx hb (by decide) (by decide) dX10_most_168 (by decide) (fun cq58 => False.elim (by omega)) (fun cq58 => ?_)
        refine lv_iload_n hx hb dX10_most_171 rfl (lv_at hl 1 rfl) ?_
        refine z_if_eq (tgt := 207) hx hb (by decide) dX10_most_172 (by decide) (fun cq59 => False.elim (by omega)) (fun cq59 => ?_)
        refine lv_aload_n hx hb dX10_most_175 rfl (lv_at hl 3 rfl) ?_
        refine z_bipush hx hb 78 dX10_most_176 rfl ?_
        refine z_bipush hx hb 78 dX10_most_178 rfl ?_
        refine lv_iload hx hb dX10_most_180 (lv_at hl 0 rfl) ?_
        refine z_iadd hx hb 79 rfl dX10_most_182 ?_
        refine z_cVi (As := [vI 78, vI 79]) (rest := []) ⟨hx, hb, hml, hown, hts⟩ hK hP hD hS hA [0, 1, 2] [] rfl rfl rfl (c_X10_isGreater l g q a (uI x 9 T_14.2.2) T_14 78 79 (by decide) (by decide) (hRT_14_0 (by omega)) (hRT_14_1 (by omega))) (cwV 2 hts gX10_most_X10_isGreater rfl rfl rfl (by decide +kernel) ⟨Nat.le_of_ble_eq_true rfl, Nat.le_of_ble_eq_true rfl⟩) 10 0 rfl rfl rfl (fun _ _ _ _ _ _ => trivial) (fun _ _ _ => trivial) rfl hl.1 (Nat.le_of_ble_eq_true rfl) rfl dX10_most_183 ⟨Nat.le_of_ble_eq_true rfl, Nat.le_of_ble_eq_true rfl⟩ (fun u_60 H locs hwu_60 hP hD hS => ?_)
        try dsimp only at hwu_60
        have hP : zP g [[mdl q a (uI x 9 T_14.2.2)], [((a 0), .inl (g.2 1, 88, .inr (.inl (aL T_14.1))))], [((a 1), .inl (g.2 1, 88, .inr (.inl (aL T_14.2.1))))]] H := hP
        have hD : zD A [[mdl q a (uI x 9 T_14.2.2)], [((a 0), .inl (g.2 1, 88, .inr (.inl (aL T_14.1))))], [((a 1), .inl (g.2 1, 88, .inr (.inl (aL T_14.2.1))))]] := hD
        refine z_toI (rGt 78 79 T_14) rfl ?_
        have hf_61 := rGt_01 78 79 T_14
        refine z_if_ne (tgt := 207) hx hb (by omega) dX10_most_186 (by decide) (fun cq62 => ?_) (fun cq62 => ?_)
        · refine z_iconst hx hb dX10_most_207 rfl ?_
          refine lv_istore_n (lv' := [(3, vI 0), (4, vI 1), (2, vI 2), (0, .ref q), (1, vI 1)]) hx hb dX10_most_208 rfl hl (by decide) rfl (fun ls hl => ?_)
          refine z_iinc hx hb 2 (lv' := [(4, vI 2), (3, vI 0), (2, vI 2), (0, .ref q), (1, vI 1)]) dX10_most_209 hl (k := 1) rfl (rfl) (by decide) rfl (fun ls hl => ?_)
          refine lv_goto (tgt := 165) hx hb dX10_most_212 (by decide) ?_
          refine lv_iload hx hb dX10_most_165 (lv_at hl 0 rfl) ?_
          refine z_iconst hx hb dX10_most_167 rfl ?_
          refine z_icmp_ge (tgt := 215) hx hb (by decide) (by decide) dX10_most_168 (by decide) (fun cq63 => False.elim (by omega)) (fun cq63 => ?_)
          refine lv_iload_n hx hb dX10_most_171 rfl (lv_at hl 1 rfl) ?_
          refine z_if_eq (tgt := 207) hx hb (by decide) dX10_most_172 (by decide) (fun cq64 => ?_) (fun cq64 => False.elim (by omega))
          refine z_iconst hx hb dX10_most_207 rfl ?_
          refine lv_istore_n (lv' := [(3, vI 0), (4, vI 2), (2, vI 2), (0, .ref q), (1, vI 1)]) hx hb dX10_most_208 rfl hl (by decide) rfl (fun ls hl => ?_)
          refine z_iinc hx hb 3 (lv' := [(4, vI 3), (3, vI 0), (2, vI 2), (0, .ref q), (1, vI 1)]) dX10_most_209 hl (k := 1) rfl (rfl) (by decide) rfl (fun ls hl => ?_)
          refine lv_goto (tgt := 165) hx hb dX10_most_212 (by decide) ?_
          refine lv_iload hx hb dX10_most_165 (lv_at hl 0 rfl) ?_
          refine z_iconst hx hb dX10_most_167 rfl ?_
          refine z_icmp_ge (tgt := 215) hx hb (by decide) (by decide) dX10_most_168 (by decide) (fun cq65 => ?_) (fun cq65 => False.elim (by omega))
          refine lv_iload_n hx hb dX10_most_215 rfl (lv_at hl 4 rfl) ?_
          refine z_if_ne (tgt := 223) hx hb (by decide) dX10_most_216 (by decide) (fun cq66 => ?_) (fun cq66 => False.elim (by omega))
          refine lv_iload_n hx hb dX10_most_223 rfl (lv_at hl 1 rfl) ?_
          refine z_if_eq (tgt := 231) hx hb (by decide) dX10_most_224 (by decide) (fun cq67 => ?_) (fun cq67 => False.elim (by omega))
          refine z_iconst hx hb dX10_most_231 rfl ?_
          have hE : T_14 = (rNm 80 4 (rNm 79 2 (rNm 78 0 (rZ0 S)))) := by rw [hT_14, hT_11, hT_8, hT_4]
          exact z_reti () [0, 1, 2] hx hb hr rfl hlocks hK hP hD hS (by rw [← hE, if_pos (show _ = (0 : Int) by omega)]; have hm9 := mAlk_s T_14; omega) trivial rfl rfl (by rw [← hE]; rfl) (Nat.le_of_ble_eq_true rfl) (Nat.le_of_ble_eq_true rfl) dX10_most_232
        · refine lv_aload_n hx hb dX10_most_189 rfl (lv_at hl 3 rfl) ?_
          refine z_bipush hx hb 78 dX10_most_190 rfl ?_
          refine lv_iload hx hb dX10_most_192 (lv_at hl 0 rfl) ?_
          refine z_iadd hx hb 79 rfl dX10_most_194 ?_
          refine z_bipush hx hb 78 dX10_most_195 rfl ?_
          refine z_cVi (As := [vI 79, vI 78]) (rest := []) ⟨hx, hb, hml, hown, hts⟩ hK hP hD hS hA [0, 1, 2] [] rfl rfl rfl (c_X10_isGreater l g q a (uI x 9 T_14.2.2) T_14 79 78 (by decide) (by decide) (hRT_14_1 (by omega)) (hRT_14_0 (by omega))) (cwV 2 hts gX10_most_X10_isGreater rfl rfl rfl (by decide +kernel) ⟨Nat.le_of_ble_eq_true rfl, Nat.le_of_ble_eq_true rfl⟩) 10 0 rfl rfl rfl (fun _ _ _ _ _ _ => trivial) (fun _ _ _ => trivial) rfl hl.1 (Nat.le_of_ble_eq_true rfl) rfl dX10_most_197 ⟨Nat.le_of_ble_eq_true rfl, Nat.le_of_ble_eq_true rfl⟩ (fun u_68 H locs hwu_68 hP hD hS => ?_)
          try dsimp only at hwu_68
          have hP : zP g [[mdl q a (uI x 9 T_14.2.2)], [((a 0), .inl (g.2 1, 88, .inr (.inl (aL T_14.1))))], [((a 1), .inl (g.2 1, 88, .inr (.inl (aL T_14.2.1))))]] H := hP
          have hD : zD A [[mdl q a (uI x 9 T_14.2.2)], [((a 0), .inl (g.2 1, 88, .inr (.inl (aL T_14.1))))], [((a 1), .inl (g.2 1, 88, .inr (.inl (aL T_14.2.1))))]] := hD
          refine z_toI (rGt 79 78 T_14) rfl ?_
          have hf_69 := rGt_01 79 78 T_14
          refine z_if_ne (tgt := 207) hx hb (by omega) dX10_most_200 (by decide) (fun cq70 => ?_) (fun cq70 => ?_)
          · refine z_iconst hx hb dX10_most_207 rfl ?_
            refine lv_istore_n (lv' := [(3, vI 0), (4, vI 1), (2, vI 2), (0, .ref q), (1, vI 1)]) hx hb dX10_most_208 rfl hl (by decide) rfl (fun ls hl => ?_)
            refine z_iinc hx hb 2 (lv' := [(4, vI 2), (3, vI 0), (2, vI 2), (0, .ref q), (1, vI 1)]) dX10_most_209 hl (k := 1) rfl (rfl) (by decide) rfl (fun ls hl => ?_)
            refine lv_goto (tgt := 165) hx hb dX10_most_212 (by decide) ?_
            refine lv_iload hx hb dX10_most_165 (lv_at hl 0 rfl) ?_
            refine z_iconst hx hb dX10_most_167 rfl ?_
            refine z_icmp_ge (tgt := 215) hx hb (by decide) (by decide) dX10_most_168 (by decide) (fun cq71 => False.elim (by omega)) (fun cq71 => ?_)
            refine lv_iload_n hx hb dX10_most_171 rfl (lv_at hl 1 rfl) ?_
            refine z_if_eq (tgt := 207) hx hb (by decide) dX10_most_172 (by decide) (fun cq72 => ?_) (fun cq72 => False.elim (by omega))
            refine z_iconst hx hb dX10_most_207 rfl ?_
            refine lv_istore_n (lv' := [(3, vI 0), (4, vI 2), (2, vI 2), (0, .ref q), (1, vI 1)]) hx hb dX10_most_208 rfl hl (by decide) rfl (fun ls hl => ?_)
            refine z_iinc hx hb 3 (lv' := [(4, vI 3), (3, vI 0), (2, vI 2), (0, .ref q), (1, vI 1)]) dX10_most_209 hl (k := 1) rfl (rfl) (by decide) rfl (fun ls hl => ?_)
            refine lv_goto (tgt := 165) hx hb dX10_most_212 (by decide) ?_
            refine lv_iload hx hb dX10_most_165 (lv_at hl 0 rfl) ?_
            refine z_iconst hx hb dX10_most_167 rfl ?_
            refine z_icmp_ge (tgt := 215) hx hb (by decide) (by decide) dX10_most_168 (by decide) (fun cq73 => ?_) (fun cq73 => False.elim (by omega))
            refine lv_iload_n hx hb dX10_most_215 rfl (lv_at hl 4 rfl) ?_
            refine z_if_ne (tgt := 223) hx hb (by decide) dX10_most_216 (by decide) (fun cq74 => ?_) (fun cq74 => False.elim (by omega))
            refine lv_iload_n hx hb dX10_most_223 rfl (lv_at hl 1 rfl) ?_
            refine z_if_eq (tgt := 231) hx hb (by decide) dX10_most_224 (by decide) (fun cq75 => ?_) (fun cq75 => False.elim (by omega))
            refine z_iconst hx hb dX10_most_231 rfl ?_
            have hE : T_14 = (rNm 80 4 (rNm 79 2 (rNm 78 0 (rZ0 S)))) := by rw [hT_14, hT_11, hT_8, hT_4]
            exact z_reti () [0, 1, 2] hx hb hr rfl hlocks hK hP hD hS (by rw [← hE, if_pos (show _ = (0 : Int) by omega)]; have hm9 := mAlk_s T_14; omega) trivial rfl rfl (by rw [← hE]; rfl) (Nat.le_of_ble_eq_true rfl) (Nat.le_of_ble_eq_true rfl) dX10_most_232
          · refine z_iconst hx hb dX10_most_203 rfl ?_
            refine lv_goto (tgt := 208) hx hb dX10_most_204 (by decide) ?_
            refine lv_istore_n (lv' := [(3, vI 1), (4, vI 1), (2, vI 2), (0, .ref q), (1, vI 1)]) hx hb dX10_most_208 rfl hl (by decide) rfl (fun ls hl => ?_)
            refine z_iinc hx hb 2 (lv' := [(4, vI 2), (3, vI 1), (2, vI 2), (0, .ref q), (1, vI 1)]) dX10_most_209 hl (k := 1) rfl (rfl) (by decide) rfl (fun ls hl => ?_)
            refine lv_goto (tgt := 165) hx hb dX10_most_212 (by decide) ?_
            refine lv_iload hx hb dX10_most_165 (lv_at hl 0 rfl) ?_
            refine z_iconst hx hb dX10_most_167 rfl ?_
            refine z_icmp_ge (tgt := 215) hx hb (by decide) (by decide) dX10_most_168 (by decide) (fun cq76 => False.elim (by omega)) (fun cq76 => ?_)
            refine lv_iload_n hx hb dX10_most_171 rfl (lv_at hl 1 rfl) ?_
            refine z_if_eq (tgt := 207) hx hb (by decide) dX10_most_172 (by decide) (fun cq77 => False.elim (by omega)) (fun cq77 => ?_)
            refine lv_aload_n hx hb dX10_most_175 rfl (lv_at hl 3 rfl) ?_
            refine z_bipush hx hb 78 dX10_most_176 rfl ?_
            refine z_bipush hx hb 78 dX10_most_178 rfl ?_
            refine lv_iload hx hb dX10_most_180 (lv_at hl 0 rfl) ?_
            refine z_iadd hx hb 80 rfl dX10_most_182 ?_
            refine z_cVi (As := [vI 78, vI 80]) (rest := []) ⟨hx, hb, hml, hown, hts⟩ hK hP hD hS hA [0, 1, 2] [] rfl rfl rfl (c_X10_isGreater l g q a (uI x 9 T_14.2.2) T_14 78 80 (by decide) (by decide) (hRT_14_0 (by omega)) (hNT_14_0 (by omega))) (cwV 2 hts gX10_most_X10_isGreater rfl rfl rfl (by decide +kernel) ⟨Nat.le_of_ble_eq_true rfl, Nat.le_of_ble_eq_true rfl⟩) 10 0 rfl rfl rfl (fun _ _ _ _ _ _ => trivial) (fun _ _ _ => trivial) rfl hl.1 (Nat.le_of_ble_eq_true rfl) rfl dX10_most_183 ⟨Nat.le_of_ble_eq_true rfl, Nat.le_of_ble_eq_true rfl⟩ (fun u_78 H locs hwu_78 hP hD hS => ?_)
            try dsimp only at hwu_78
            have hP : zP g [[mdl q a (uI x 9 T_14.2.2)], [((a 0), .inl (g.2 1, 88, .inr (.inl (aL T_14.1))))], [((a 1), .inl (g.2 1, 88, .inr (.inl (aL T_14.2.1))))]] H := hP
            have hD : zD A [[mdl q a (uI x 9 T_14.2.2)], [((a 0), .inl (g.2 1, 88, .inr (.inl (aL T_14.1))))], [((a 1), .inl (g.2 1, 88, .inr (.inl (aL T_14.2.1))))]] := hD
            refine z_toI (rGt 78 80 T_14) rfl ?_
            have hf_79 := rGt_01 78 80 T_14
            refine z_if_ne (tgt := 207) hx hb (by omega) dX10_most_186 (by decide) (fun cq80 => ?_) (fun cq80 => ?_)
            · refine z_iconst hx hb dX10_most_207 rfl ?_
              refine lv_istore_n (lv' := [(3, vI 0), (4, vI 2), (2, vI 2), (0, .ref q), (1, vI 1)]) hx hb dX10_most_208 rfl hl (by decide) rfl (fun ls hl => ?_)
              refine z_iinc hx hb 3 (lv' := [(4, vI 3), (3, vI 0), (2, vI 2), (0, .ref q), (1, vI 1)]) dX10_most_209 hl (k := 1) rfl (rfl) (by decide) rfl (fun ls hl => ?_)
              refine lv_goto (tgt := 165) hx hb dX10_most_212 (by decide) ?_
              refine lv_iload hx hb dX10_most_165 (lv_at hl 0 rfl) ?_
              refine z_iconst hx hb dX10_most_167 rfl ?_
              refine z_icmp_ge (tgt := 215) hx hb (by decide) (by decide) dX10_most_168 (by decide) (fun cq81 => ?_) (fun cq81 => False.elim (by omega))
              refine lv_iload_n hx hb dX10_most_215 rfl (lv_at hl 4 rfl) ?_
              refine z_if_ne (tgt := 223) hx hb (by decide) dX10_most_216 (by decide) (fun cq82 => ?_) (fun cq82 => False.elim (by omega))
              refine lv_iload_n hx hb dX10_most_223 rfl (lv_at hl 1 rfl) ?_
              refine z_if_eq (tgt := 231) hx hb (by decide) dX10_most_224 (by decide) (fun cq83 => ?_) (fun cq83 => False.elim (by omega))
              refine z_iconst hx hb dX10_most_231 rfl ?_
              have hE : T_14 = (rNm 80 4 (rNm 79 2 (rNm 78 0 (rZ0 S)))) := by rw [hT_14, hT_11, hT_8, hT_4]
              exact z_reti () [0, 1, 2] hx hb hr rfl hlocks hK hP hD hS (by rw [← hE, if_pos (show _ = (0 : Int) by omega)]; have hm9 := mAlk_s T_14; omega) trivial rfl rfl (by rw [← hE]; rfl) (Nat.le_of_ble_eq_true rfl) (Nat.le_of_ble_eq_true rfl) dX10_most_232
            · refine lv_aload_n hx hb dX10_most_189 rfl (lv_at hl 3 rfl) ?_
              refine z_bipush hx hb 78 dX10_most_190 rfl ?_
              refine lv_iload hx hb dX10_most_192 (lv_at hl 0 rfl) ?_
              refine z_iadd hx hb 80 rfl dX10_most_194 ?_
              refine z_bipush hx hb 78 dX10_most_195 rfl ?_
              refine z_cVi (As := [vI 80, vI 78]) (rest := []) ⟨hx, hb, hml, hown, hts⟩ hK hP hD hS hA [0, 1, 2] [] rfl rfl rfl (c_X10_isGreater l g q a (uI x 9 T_14.2.2) T_14 80 78 (by decide) (by decide) (hNT_14_0 (by omega)) (hRT_14_0 (by omega))) (cwV 2 hts gX10_most_X10_isGreater rfl rfl rfl (by decide +kernel) ⟨Nat.le_of_ble_eq_true rfl, Nat.le_of_ble_eq_true rfl⟩) 10 0 rfl rfl rfl (fun _ _ _ _ _ _ => trivial) (fun _ _ _ => trivial) rfl hl.1 (Nat.le_of_ble_eq_true rfl) rfl dX10_most_197 ⟨Nat.le_of_ble_eq_true rfl, Nat.le_of_ble_eq_true rfl⟩ (fun u_84 H locs hwu_84 hP hD hS => ?_)
              try dsimp only at hwu_84
              have hP : zP g [[mdl q a (uI x 9 T_14.2.2)], [((a 0), .inl (g.2 1, 88, .inr (.inl (aL T_14.1))))], [((a 1), .inl (g.2 1, 88, .inr (.inl (aL T_14.2.1))))]] H := hP
              have hD : zD A [[mdl q a (uI x 9 T_14.2.2)], [((a 0), .inl (g.2 1, 88, .inr (.inl (aL T_14.1))))], [((a 1), .inl (g.2 1, 88, .inr (.inl (aL T_14.2.1))))]] := hD
              refine z_toI (rGt 80 78 T_14) rfl ?_
              have hf_85 := rGt_01 80 78 T_14
              refine z_if_ne (tgt := 207) hx hb (by omega) dX10_most_200 (by decide) (fun cq86 => ?_) (fun cq86 => ?_)
              · refine z_iconst hx hb dX10_most_207 rfl ?_
                refine lv_istore_n (lv' := [(3, vI 0), (4, vI 2), (2, vI 2), (0, .ref q), (1, vI 1)]) hx hb dX10_most_208 rfl hl (by decide) rfl (fun ls hl => ?_)
                refine z_iinc hx hb 3 (lv' := [(4, vI 3), (3, vI 0), (2, vI 2), (0, .ref q), (1, vI 1)]) dX10_most_209 hl (k := 1) rfl (rfl) (by decide) rfl (fun ls hl => ?_)
                refine lv_goto (tgt := 165) hx hb dX10_most_212 (by decide) ?_
                refine lv_iload hx hb dX10_most_165 (lv_at hl 0 rfl) ?_
                refine z_iconst hx hb dX10_most_167 rfl ?_
                refine z_icmp_ge (tgt := 215) hx hb (by decide) (by decide) dX10_most_168 (by decide) (fun cq87 => ?_) (fun cq87 => False.elim (by omega))
                refine lv_iload_n hx hb dX10_most_215 rfl (lv_at hl 4 rfl) ?_
                refine z_if_ne (tgt := 223) hx hb (by decide) dX10_most_216 (by decide) (fun cq88 => ?_) (fun cq88 => False.elim (by omega))
                refine lv_iload_n hx hb dX10_most_223 rfl (lv_at hl 1 rfl) ?_
                refine z_if_eq (tgt := 231) hx hb (by decide) dX10_most_224 (by decide) (fun cq89 => ?_) (fun cq89 => False.elim (by omega))
                refine z_iconst hx hb dX10_most_231 rfl ?_
                have hE : T_14 = (rNm 80 4 (rNm 79 2 (rNm 78 0 (rZ0 S)))) := by rw [hT_14, hT_11, hT_8, hT_4]
                exact z_reti () [0, 1, 2] hx hb hr rfl hlocks hK hP hD hS (by rw [← hE, if_pos (show _ = (0 : Int) by omega)]; have hm9 := mAlk_s T_14; omega) trivial rfl rfl (by rw [← hE]; rfl) (Nat.le_of_ble_eq_true rfl) (Nat.le_of_ble_eq_true rfl) dX10_most_232
              · refine z_iconst hx hb dX10_most_203 rfl ?_
                refine lv_goto (tgt := 208) hx hb dX10_most_204 (by decide) ?_
                refine lv_istore_n (lv' := [(3, vI 1), (4, vI 2), (2, vI 2), (0, .ref q), (1, vI 1)]) hx hb dX10_most_208 rfl hl (by decide) rfl (fun ls hl => ?_)
                refine z_iinc hx hb 3 (lv' := [(4, vI 3), (3, vI 1), (2, vI 2), (0, .ref q), (1, vI 1)]) dX10_most_209 hl (k := 1) rfl (rfl) (by decide) rfl (fun ls hl => ?_)
                refine lv_goto (tgt := 165) hx hb dX10_most_212 (by decide) ?_
                refine lv_iload hx hb dX10_most_165 (lv_at hl 0 rfl) ?_
                refine z_iconst hx hb dX10_most_167 rfl ?_
                refine z_icmp_ge (tgt := 215) hx hb (by decide) (by decide) dX10_most_168 (by decide) (fun cq90 => ?_) (fun cq90 => False.elim (by omega))
                refine lv_iload_n hx hb dX10_most_215 rfl (lv_at hl 4 rfl) ?_
                refine z_if_ne (tgt := 223) hx hb (by decide) dX10_most_216 (by decide) (fun cq91 => ?_) (fun cq91 => False.elim (by omega))
                refine lv_iload_n hx hb dX10_most_223 rfl (lv_at hl 1 rfl) ?_
                refine z_if_eq (tgt := 231) hx hb (by decide) dX10_most_224 (by decide) (fun cq92 => False.elim (by omega)) (fun cq92 => ?_)
                refine z_iconst hx hb dX10_most_227 rfl ?_
                refine lv_goto (tgt := 232) hx hb dX10_most_228 (by decide) ?_
                have hE : T_14 = (rNm 80 4 (rNm 79 2 (rNm 78 0 (rZ0 S)))) := by rw [hT_14, hT_11, hT_8, hT_4]
                exact z_reti () [0, 1, 2] hx hb hr rfl hlocks hK hP hD hS (by rw [← hE, if_pos (show _ = (0 : Int) by omega)]; have hm9 := mAlk_s T_14; omega) trivial rfl rfl (by rw [← hE]; rfl) (Nat.le_of_ble_eq_true rfl) (Nat.le_of_ble_eq_true rfl) dX10_most_232
    · refine z_iconst hx hb dX10_most_135 rfl ?_
      refine lv_goto (tgt := 140) hx hb dX10_most_136 (by decide) ?_
      refine lv_istore_n (lv' := [(2, vI 1), (0, .ref q), (1, vI 1)]) hx hb dX10_most_140 rfl hl (by decide) rfl (fun ls hl => ?_)
      refine lv_aload_n hx hb dX10_most_141 rfl (lv_at hl 1 rfl) ?_
      refine z_bipush hx hb 80 dX10_most_142 rfl ?_
      refine z_bipush hx hb 78 dX10_most_144 rfl ?_
      refine lv_iload_n hx hb dX10_most_146 rfl (lv_at hl 0 rfl) ?_
      refine z_iadd hx hb 79 rfl dX10_most_147 ?_
      refine z_cVi (As := [vI 80, vI 79]) (rest := []) ⟨hx, hb, hml, hown, hts⟩ hK hP hD hS hA [0, 1, 2] [] rfl rfl rfl (c_X10_isGreater l g q a (uI x 9 T_14.2.2) T_14 80 79 (by decide) (by decide) (hNT_14_0 (by omega)) (hRT_14_1 (by omega))) (cwV 2 hts gX10_most_X10_isGreater rfl rfl rfl (by decide +kernel) ⟨Nat.le_of_ble_eq_true rfl, Nat.le_of_ble_eq_true rfl⟩) 10 0 rfl rfl rfl (fun _ _ _ _ _ _ => trivial) (fun _ _ _ => trivial) rfl hl.1 (Nat.le_of_ble_eq_true rfl) rfl dX10_most_148 ⟨Nat.le_of_ble_eq_true rfl, Nat.le_of_ble_eq_true rfl⟩ (fun u_93 H locs hwu_93 hP hD hS => ?_)
      try dsimp only at hwu_93
      have hP : zP g [[mdl q a (uI x 9 T_14.2.2)], [((a 0), .inl (g.2 1, 88, .inr (.inl (aL T_14.1))))], [((a 1), .inl (g.2 1, 88, .inr (.inl (aL T_14.2.1))))]] H := hP
      have hD : zD A [[mdl q a (uI x 9 T_14.2.2)], [((a 0), .inl (g.2 1, 88, .inr (.inl (aL T_14.1))))], [((a 1), .inl (g.2 1, 88, .inr (.inl (aL T_14.2.1))))]] := hD
      refine z_toI (rGt 80 79 T_14) rfl ?_
      have hf_94 := rGt_01 80 79 T_14
      refine z_if_eq (tgt := 158) hx hb (by omega) dX10_most_151 (by decide) (fun cq95 => ?_) (fun cq95 => ?_)
      · refine lv_iload_n hx hb dX10_most_158 rfl (lv_at hl 0 rfl) ?_
        refine lv_istore_n (lv' := [(2, vI 1), (0, .ref q), (1, vI 1)]) hx hb dX10_most_159 rfl hl (by decide) rfl (fun ls hl => ?_)
        refine z_iconst hx hb dX10_most_160 rfl ?_
        refine lv_istore_n (lv' := [(3, vI 1), (2, vI 1), (0, .ref q), (1, vI 1)]) hx hb dX10_most_161 rfl hl (by decide) rfl (fun ls hl => ?_)
        refine z_iconst hx hb dX10_most_162 rfl ?_
        refine lv_istore (lv' := [(4, vI 1), (3, vI 1), (2, vI 1), (0, .ref q), (1, vI 1)]) hx hb dX10_most_163 hl (by decide) rfl (fun ls hl => ?_)
        refine lv_iload hx hb dX10_most_165 (lv_at hl 0 rfl) ?_
        refine z_iconst hx hb dX10_most_167 rfl ?_
        refine z_icmp_ge (tgt := 215) hx hb (by decide) (by decide) dX10_most_168 (by decide) (fun cq96 => False.elim (by omega)) (fun cq96 => ?_)
        refine lv_iload_n hx hb dX10_most_171 rfl (lv_at hl 1 rfl) ?_
        refine z_if_eq (tgt := 207) hx hb (by decide) dX10_most_172 (by decide) (fun cq97 => False.elim (by omega)) (fun cq97 => ?_)
        refine lv_aload_n hx hb dX10_most_175 rfl (lv_at hl 3 rfl) ?_
        refine z_bipush hx hb 78 dX10_most_176 rfl ?_
        refine z_bipush hx hb 78 dX10_most_178 rfl ?_
        refine lv_iload hx hb dX10_most_180 (lv_at hl 0 rfl) ?_
        refine z_iadd hx hb 79 rfl dX10_most_182 ?_
        refine z_cVi (As := [vI 78, vI 79]) (rest := []) ⟨hx, hb, hml, hown, hts⟩ hK hP hD hS hA [0, 1, 2] [] rfl rfl rfl (c_X10_isGreater l g q a (uI x 9 T_14.2.2) T_14 78 79 (by decide) (by decide) (hRT_14_0 (by omega)) (hRT_14_1 (by omega))) (cwV 2 hts gX10_most_X10_isGreater rfl rfl rfl (by decide +kernel) ⟨Nat.le_of_ble_eq_true rfl, Nat.le_of_ble_eq_true rfl⟩) 10 0 rfl rfl rfl (fun _ _ _ _ _ _ => trivial) (fun _ _ _ => trivial) rfl hl.1 (Nat.le_of_ble_eq_true rfl) rfl dX10_most_183 ⟨Nat.le_of_ble_eq_true rfl, Nat.le_of_ble_eq_true rfl⟩ (fun u_98 H locs hwu_98 hP hD hS => ?_)
        try dsimp only at hwu_98
        have hP : zP g [[mdl q a (uI x 9 T_14.2.2)], [((a 0), .inl (g.2 1, 88, .inr (.inl (aL T_14.1))))], [((a 1), .inl (g.2 1, 88, .inr (.inl (aL T_14.2.1))))]] H := hP
        have hD : zD A [[mdl q a (uI x 9 T_14.2.2)], [((a 0), .inl (g.2 1, 88, .inr (.inl (aL T_14.1))))], [((a 1), .inl (g.2 1, 88, .inr (.inl (aL T_14.2.1))))]] := hD
        refine z_toI (rGt 78 79 T_14) rfl ?_
        have hf_99 := rGt_01 78 79 T_14
        refine z_if_ne (tgt := 207) hx hb (by omega) dX10_most_186 (by decide) (fun cq100 => ?_) (fun cq100 => ?_)
        · refine z_iconst hx hb dX10_most_207 rfl ?_
          refine lv_istore_n (lv' := [(3, vI 0), (4, vI 1), (2, vI 1), (0, .ref q), (1, vI 1)]) hx hb dX10_most_208 rfl hl (by decide) rfl (fun ls hl => ?_)
          refine z_iinc hx hb 2 (lv' := [(4, vI 2), (3, vI 0), (2, vI 1), (0, .ref q), (1, vI 1)]) dX10_most_209 hl (k := 1) rfl (rfl) (by decide) rfl (fun ls hl => ?_)
          refine lv_goto (tgt := 165) hx hb dX10_most_212 (by decide) ?_
          refine lv_iload hx hb dX10_most_165 (lv_at hl 0 rfl) ?_
          refine z_iconst hx hb dX10_most_167 rfl ?_
          refine z_icmp_ge (tgt := 215) hx hb (by decide) (by decide) dX10_most_168 (by decide) (fun cq101 => False.elim (by omega)) (fun cq101 => ?_)
          refine lv_iload_n hx hb dX10_most_171 rfl (lv_at hl 1 rfl) ?_
          refine z_if_eq (tgt := 207) hx hb (by decide) dX10_most_172 (by decide) (fun cq102 => ?_) (fun cq102 => False.elim (by omega))
          refine z_iconst hx hb dX10_most_207 rfl ?_
          refine lv_istore_n (lv' := [(3, vI 0), (4, vI 2), (2, vI 1), (0, .ref q), (1, vI 1)]) hx hb dX10_most_208 rfl hl (by decide) rfl (fun ls hl => ?_)
          refine z_iinc hx hb 3 (lv' := [(4, vI 3), (3, vI 0), (2, vI 1), (0, .ref q), (1, vI 1)]) dX10_most_209 hl (k := 1) rfl (rfl) (by decide) rfl (fun ls hl => ?_)
          refine lv_goto (tgt := 165) hx hb dX10_most_212 (by decide) ?_
          refine lv_iload hx hb dX10_most_165 (lv_at hl 0 rfl) ?_
          refine z_iconst hx hb dX10_most_167 rfl ?_
          refine z_icmp_ge (tgt := 215) hx hb (by decide) (by decide) dX10_most_168 (by decide) (fun cq103 => ?_) (fun cq103 => False.elim (by omega))
          refine lv_iload_n hx hb dX10_most_215 rfl (lv_at hl 4 rfl) ?_
          refine z_if_ne (tgt := 223) hx hb (by decide) dX10_most_216 (by decide) (fun cq104 => ?_) (fun cq104 => False.elim (by omega))
          refine lv_iload_n hx hb dX10_most_223 rfl (lv_at hl 1 rfl) ?_
          refine z_if_eq (tgt := 231) hx hb (by decide) dX10_most_224 (by decide) (fun cq105 => ?_) (fun cq105 => False.elim (by omega))
          refine z_iconst hx hb dX10_most_231 rfl ?_
          have hE : T_14 = (rNm 80 4 (rNm 79 2 (rNm 78 0 (rZ0 S)))) := by rw [hT_14, hT_11, hT_8, hT_4]
          exact z_reti () [0, 1, 2] hx hb hr rfl hlocks hK hP hD hS (by rw [← hE, if_pos (show _ = (0 : Int) by omega)]; have hm9 := mAlk_s T_14; omega) trivial rfl rfl (by rw [← hE]; rfl) (Nat.le_of_ble_eq_true rfl) (Nat.le_of_ble_eq_true rfl) dX10_most_232
        · refine lv_aload_n hx hb dX10_most_189 rfl (lv_at hl 3 rfl) ?_
          refine z_bipush hx hb 78 dX10_most_190 rfl ?_
          refine lv_iload hx hb dX10_most_192 (lv_at hl 0 rfl) ?_
          refine z_iadd hx hb 79 rfl dX10_most_194 ?_
          refine z_bipush hx hb 78 dX10_most_195 rfl ?_
          refine z_cVi (As := [vI 79, vI 78]) (rest := []) ⟨hx, hb, hml, hown, hts⟩ hK hP hD hS hA [0, 1, 2] [] rfl rfl rfl (c_X10_isGreater l g q a (uI x 9 T_14.2.2) T_14 79 78 (by decide) (by decide) (hRT_14_1 (by omega)) (hRT_14_0 (by omega))) (cwV 2 hts gX10_most_X10_isGreater rfl rfl rfl (by decide +kernel) ⟨Nat.le_of_ble_eq_true rfl, Nat.le_of_ble_eq_true rfl⟩) 10 0 rfl rfl rfl (fun _ _ _ _ _ _ => trivial) (fun _ _ _ => trivial) rfl hl.1 (Nat.le_of_ble_eq_true rfl) rfl dX10_most_197 ⟨Nat.le_of_ble_eq_true rfl, Nat.le_of_ble_eq_true rfl⟩ (fun u_106 H locs hwu_106 hP hD hS => ?_)
          try dsimp only at hwu_106
          have hP : zP g [[mdl q a (uI x 9 T_14.2.2)], [((a 0), .inl (g.2 1, 88, .inr (.inl (aL T_14.1))))], [((a 1), .inl (g.2 1, 88, .inr (.inl (aL T_14.2.1))))]] H := hP
          have hD : zD A [[mdl q a (uI x 9 T_14.2.2)], [((a 0), .inl (g.2 1, 88, .inr (.inl (aL T_14.1))))], [((a 1), .inl (g.2 1, 88, .inr (.inl (aL T_14.2.1))))]] := hD
          refine z_toI (rGt 79 78 T_14) rfl ?_
          have hf_107 := rGt_01 79 78 T_14
          refine z_if_ne (tgt := 207) hx hb (by omega) dX10_most_200 (by decide) (fun cq108 => ?_) (fun cq108 => ?_)
          · refine z_iconst hx hb dX10_most_207 rfl ?_
            refine lv_istore_n (lv' := [(3, vI 0), (4, vI 1), (2, vI 1), (0, .ref q), (1, vI 1)]) hx hb dX10_most_208 rfl hl (by decide) rfl (fun ls hl => ?_)
            refine z_iinc hx hb 2 (lv' := [(4, vI 2), (3, vI 0), (2, vI 1), (0, .ref q), (1, vI 1)]) dX10_most_209 hl (k := 1) rfl (rfl) (by decide) rfl (fun ls hl => ?_)
            refine lv_goto (tgt := 165) hx hb dX10_most_212 (by decide) ?_
            refine lv_iload hx hb dX10_most_165 (lv_at hl 0 rfl) ?_
            refine z_iconst hx hb dX10_most_167 rfl ?_
            refine z_icmp_ge (tgt := 215) hx hb (by decide) (by decide) dX10_most_168 (by decide) (fun cq109 => False.elim (by omega)) (fun cq109 => ?_)
            refine lv_iload_n hx hb dX10_most_171 rfl (lv_at hl 1 rfl) ?_
            refine z_if_eq (tgt := 207) hx hb (by decide) dX10_most_172 (by decide) (fun cq110 => ?_) (fun cq110 => False.elim (by omega))
            refine z_iconst hx hb dX10_most_207 rfl ?_
            refine lv_istore_n (lv' := [(3, vI 0), (4, vI 2), (2, vI 1), (0, .ref q), (1, vI 1)]) hx hb dX10_most_208 rfl hl (by decide) rfl (fun ls hl => ?_)
            refine z_iinc hx hb 3 (lv' := [(4, vI 3), (3, vI 0), (2, vI 1), (0, .ref q), (1, vI 1)]) dX10_most_209 hl (k := 1) rfl (rfl) (by decide) rfl (fun ls hl => ?_)
            refine lv_goto (tgt := 165) hx hb dX10_most_212 (by decide) ?_
            refine lv_iload hx hb dX10_most_165 (lv_at hl 0 rfl) ?_
            refine z_iconst hx hb dX10_most_167 rfl ?_
            refine z_icmp_ge (tgt := 215) hx hb (by decide) (by decide) dX10_most_168 (by decide) (fun cq111 => ?_) (fun cq111 => False.elim (by omega))
            refine lv_iload_n hx hb dX10_most_215 rfl (lv_at hl 4 rfl) ?_
            refine z_if_ne (tgt := 223) hx hb (by decide) dX10_most_216 (by decide) (fun cq112 => ?_) (fun cq112 => False.elim (by omega))
            refine lv_iload_n hx hb dX10_most_223 rfl (lv_at hl 1 rfl) ?_
            refine z_if_eq (tgt := 231) hx hb (by decide) dX10_most_224 (by decide) (fun cq113 => ?_) (fun cq113 => False.elim (by omega))
            refine z_iconst hx hb dX10_most_231 rfl ?_
            have hE : T_14 = (rNm 80 4 (rNm 79 2 (rNm 78 0 (rZ0 S)))) := by rw [hT_14, hT_11, hT_8, hT_4]
            exact z_reti () [0, 1, 2] hx hb hr rfl hlocks hK hP hD hS (by rw [← hE, if_pos (show _ = (0 : Int) by omega)]; have hm9 := mAlk_s T_14; omega) trivial rfl rfl (by rw [← hE]; rfl) (Nat.le_of_ble_eq_true rfl) (Nat.le_of_ble_eq_true rfl) dX10_most_232
          · refine z_iconst hx hb dX10_most_203 rfl ?_
            refine lv_goto (tgt := 208) hx hb dX10_most_204 (by decide) ?_
            refine lv_istore_n (lv' := [(3, vI 1), (4, vI 1), (2, vI 1), (0, .ref q), (1, vI 1)]) hx hb dX10_most_208 rfl hl (by decide) rfl (fun ls hl => ?_)
            refine z_iinc hx hb 2 (lv' := [(4, vI 2), (3, vI 1), (2, vI 1), (0, .ref q), (1, vI 1)]) dX10_most_209 hl (k := 1) rfl (rfl) (by decide) rfl (fun ls hl => ?_)
            refine lv_goto (tgt := 165) hx hb dX10_most_212 (by decide) ?_
            refine lv_iload hx hb dX10_most_165 (lv_at hl 0 rfl) ?_
            refine z_iconst hx hb dX10_most_167 rfl ?_
            refine z_icmp_ge (tgt := 215) hx hb (by decide) (by decide) dX10_most_168 (by decide) (fun cq114 => False.elim (by omega)) (fun cq114 => ?_)
            refine lv_iload_n hx hb dX10_most_171 rfl (lv_at hl 1 rfl) ?_
            refine z_if_eq (tgt := 207) hx hb (by decide) dX10_most_172 (by decide) (fun cq115 => False.elim (by omega)) (fun cq115 => ?_)
            refine lv_aload_n hx hb dX10_most_175 rfl (lv_at hl 3 rfl) ?_
            refine z_bipush hx hb 78 dX10_most_176 rfl ?_
            refine z_bipush hx hb 78 dX10_most_178 rfl ?_
            refine lv_iload hx hb dX10_most_180 (lv_at hl 0 rfl) ?_
            refine z_iadd hx hb 80 rfl dX10_most_182 ?_
            refine z_cVi (As := [vI 78, vI 80]) (rest := []) ⟨hx, hb, hml, hown, hts⟩ hK hP hD hS hA [0, 1, 2] [] rfl rfl rfl (c_X10_isGreater l g q a (uI x 9 T_14.2.2) T_14 78 80 (by decide) (by decide) (hRT_14_0 (by omega)) (hNT_14_0 (by omega))) (cwV 2 hts gX10_most_X10_isGreater rfl rfl rfl (by decide +kernel) ⟨Nat.le_of_ble_eq_true rfl, Nat.le_of_ble_eq_true rfl⟩) 10 0 rfl rfl rfl (fun _ _ _ _ _ _ => trivial) (fun _ _ _ => trivial) rfl hl.1 (Nat.le_of_ble_eq_true rfl) rfl dX10_most_183 ⟨Nat.le_of_ble_eq_true rfl, Nat.le_of_ble_eq_true rfl⟩ (fun u_116 H locs hwu_116 hP hD hS => ?_)
            try dsimp only at hwu_116
            have hP : zP g [[mdl q a (uI x 9 T_14.2.2)], [((a 0), .inl (g.2 1, 88, .inr (.inl (aL T_14.1))))], [((a 1), .inl (g.2 1, 88, .inr (.inl (aL T_14.2.1))))]] H := hP
            have hD : zD A [[mdl q a (uI x 9 T_14.2.2)], [((a 0), .inl (g.2 1, 88, .inr (.inl (aL T_14.1))))], [((a 1), .inl (g.2 1, 88, .inr (.inl (aL T_14.2.1))))]] := hD
            refine z_toI (rGt 78 80 T_14) rfl ?_
            have hf_117 := rGt_01 78 80 T_14
            refine z_if_ne (tgt := 207) hx hb (by omega) dX10_most_186 (by decide) (fun cq118 => ?_) (fun cq118 => ?_)
            · refine z_iconst hx hb dX10_most_207 rfl ?_
              refine lv_istore_n (lv' := [(3, vI 0), (4, vI 2), (2, vI 1), (0, .ref q), (1, vI 1)]) hx hb dX10_most_208 rfl hl (by decide) rfl (fun ls hl => ?_)
              refine z_iinc hx hb 3 (lv' := [(4, vI 3), (3, vI 0), (2, vI 1), (0, .ref q), (1, vI 1)]) dX10_most_209 hl (k := 1) rfl (rfl) (by decide) rfl (fun ls hl => ?_)
              refine lv_goto (tgt := 165) hx hb dX10_most_212 (by decide) ?_
              refine lv_iload hx hb dX10_most_165 (lv_at hl 0 rfl) ?_
              refine z_iconst hx hb dX10_most_167 rfl ?_
              refine z_icmp_ge (tgt := 215) hx hb (by decide) (by decide) dX10_most_168 (by decide) (fun cq119 => ?_) (fun cq119 => False.elim (by omega))
              refine lv_iload_n hx hb dX10_most_215 rfl (lv_at hl 4 rfl) ?_
              refine z_if_ne (tgt := 223) hx hb (by decide) dX10_most_216 (by decide) (fun cq120 => ?_) (fun cq120 => False.elim (by omega))
              refine lv_iload_n hx hb dX10_most_223 rfl (lv_at hl 1 rfl) ?_
              refine z_if_eq (tgt := 231) hx hb (by decide) dX10_most_224 (by decide) (fun cq121 => ?_) (fun cq121 => False.elim (by omega))
              refine z_iconst hx hb dX10_most_231 rfl ?_
              have hE : T_14 = (rNm 80 4 (rNm 79 2 (rNm 78 0 (rZ0 S)))) := by rw [hT_14, hT_11, hT_8, hT_4]
              exact z_reti () [0, 1, 2] hx hb hr rfl hlocks hK hP hD hS (by rw [← hE, if_pos (show _ = (0 : Int) by omega)]; have hm9 := mAlk_s T_14; omega) trivial rfl rfl (by rw [← hE]; rfl) (Nat.le_of_ble_eq_true rfl) (Nat.le_of_ble_eq_true rfl) dX10_most_232
            · refine lv_aload_n hx hb dX10_most_189 rfl (lv_at hl 3 rfl) ?_
              refine z_bipush hx hb 78 dX10_most_190 rfl ?_
              refine lv_iload hx hb dX10_most_192 (lv_at hl 0 rfl) ?_
              refine z_iadd hx hb 80 rfl dX10_most_194 ?_
              refine z_bipush hx hb 78 dX10_most_195 rfl ?_
              refine z_cVi (As := [vI 80, vI 78]) (rest := []) ⟨hx, hb, hml, hown, hts⟩ hK hP hD hS hA [0, 1, 2] [] rfl rfl rfl (c_X10_isGreater l g q a (uI x 9 T_14.2.2) T_14 80 78 (by decide) (by decide) (hNT_14_0 (by omega)) (hRT_14_0 (by omega))) (cwV 2 hts gX10_most_X10_isGreater rfl rfl rfl (by decide +kernel) ⟨Nat.le_of_ble_eq_true rfl, Nat.le_of_ble_eq_true rfl⟩) 10 0 rfl rfl rfl (fun _ _ _ _ _ _ => trivial) (fun _ _ _ => trivial) rfl hl.1 (Nat.le_of_ble_eq_true rfl) rfl dX10_most_197 ⟨Nat.le_of_ble_eq_true rfl, Nat.le_of_ble_eq_true rfl⟩ (fun u_122 H locs hwu_122 hP hD hS => ?_)
              try dsimp only at hwu_122
              have hP : zP g [[mdl q a (uI x 9 T_14.2.2)], [((a 0), .inl (g.2 1, 88, .inr (.inl (aL T_14.1))))], [((a 1), .inl (g.2 1, 88, .inr (.inl (aL T_14.2.1))))]] H := hP
              have hD : zD A [[mdl q a (uI x 9 T_14.2.2)], [((a 0), .inl (g.2 1, 88, .inr (.inl (aL T_14.1))))], [((a 1), .inl (g.2 1, 88, .inr (.inl (aL T_14.2.1))))]] := hD
              refine z_toI (rGt 80 78 T_14) rfl ?_
              have hf_123 := rGt_01 80 78 T_14
              refine z_if_ne (tgt := 207) hx hb (by omega) dX10_most_200 (by decide) (fun cq124 => ?_) (fun cq124 => ?_)
              · refine z_iconst hx hb dX10_most_207 rfl ?_
                refine lv_istore_n (lv' := [(3, vI 0), (4, vI 2), (2, vI 1), (0, .ref q), (1, vI 1)]) hx hb dX10_most_208 rfl hl (by decide) rfl (fun ls hl => ?_)
                refine z_iinc hx hb 3 (lv' := [(4, vI 3), (3, vI 0), (2, vI 1), (0, .ref q), (1, vI 1)]) dX10_most_209 hl (k := 1) rfl (rfl) (by decide) rfl (fun ls hl => ?_)
                refine lv_goto (tgt := 165) hx hb dX10_most_212 (by decide) ?_
                refine lv_iload hx hb dX10_most_165 (lv_at hl 0 rfl) ?_
                refine z_iconst hx hb dX10_most_167 rfl ?_
                refine z_icmp_ge (tgt := 215) hx hb (by decide) (by decide) dX10_most_168 (by decide) (fun cq125 => ?_) (fun cq125 => False.elim (by omega))
                refine lv_iload_n hx hb dX10_most_215 rfl (lv_at hl 4 rfl) ?_
                refine z_if_ne (tgt := 223) hx hb (by decide) dX10_most_216 (by decide) (fun cq126 => ?_) (fun cq126 => False.elim (by omega))
                refine lv_iload_n hx hb dX10_most_223 rfl (lv_at hl 1 rfl) ?_
                refine z_if_eq (tgt := 231) hx hb (by decide) dX10_most_224 (by decide) (fun cq127 => ?_) (fun cq127 => False.elim (by omega))
                refine z_iconst hx hb dX10_most_231 rfl ?_
                have hE : T_14 = (rNm 80 4 (rNm 79 2 (rNm 78 0 (rZ0 S)))) := by rw [hT_14, hT_11, hT_8, hT_4]
                exact z_reti () [0, 1, 2] hx hb hr rfl hlocks hK hP hD hS (by rw [← hE, if_pos (show _ = (0 : Int) by omega)]; have hm9 := mAlk_s T_14; omega) trivial rfl rfl (by rw [← hE]; rfl) (Nat.le_of_ble_eq_true rfl) (Nat.le_of_ble_eq_true rfl) dX10_most_232
              · refine z_iconst hx hb dX10_most_203 rfl ?_
                refine lv_goto (tgt := 208) hx hb dX10_most_204 (by decide) ?_
                refine lv_istore_n (lv' := [(3, vI 1), (4, vI 2), (2, vI 1), (0, .ref q), (1, vI 1)]) hx hb dX10_most_208 rfl hl (by decide) rfl (fun ls hl => ?_)
                refine z_iinc hx hb 3 (lv' := [(4, vI 3), (3, vI 1), (2, vI 1), (0, .ref q), (1, vI 1)]) dX10_most_209 hl (k := 1) rfl (rfl) (by decide) rfl (fun ls hl => ?_)
                refine lv_goto (tgt := 165) hx hb dX10_most_212 (by decide) ?_
                refine lv_iload hx hb dX10_most_165 (lv_at hl 0 rfl) ?_
                refine z_iconst hx hb dX10_most_167 rfl ?_
                refine z_icmp_ge (tgt := 215) hx hb (by decide) (by decide) dX10_most_168 (by decide) (fun cq128 => ?_) (fun cq128 => False.elim (by omega))
                refine lv_iload_n hx hb dX10_most_215 rfl (lv_at hl 4 rfl) ?_
                refine z_if_ne (tgt := 223) hx hb (by decide) dX10_most_216 (by decide) (fun cq129 => ?_) (fun cq129 => False.elim (by omega))
                refine lv_iload_n hx hb dX10_most_223 rfl (lv_at hl 1 rfl) ?_
                refine z_if_eq (tgt := 231) hx hb (by decide) dX10_most_224 (by decide) (fun cq130 => False.elim (by omega)) (fun cq130 => ?_)
                refine z_iconst hx hb dX10_most_227 rfl ?_
                refine lv_goto (tgt := 232) hx hb dX10_most_228 (by decide) ?_
                have hE : T_14 = (rNm 80 4 (rNm 79 2 (rNm 78 0 (rZ0 S)))) := by rw [hT_14, hT_11, hT_8, hT_4]
                exact z_reti () [0, 1, 2] hx hb hr rfl hlocks hK hP hD hS (by rw [← hE, if_pos (show _ = (0 : Int) by omega)]; have hm9 := mAlk_s T_14; omega) trivial rfl rfl (by rw [← hE]; rfl) (Nat.le_of_ble_eq_true rfl) (Nat.le_of_ble_eq_true rfl) dX10_most_232
      · refine z_iconst hx hb dX10_most_154 rfl ?_
        refine lv_goto (tgt := 159) hx hb dX10_most_155 (by decide) ?_
        refine lv_istore_n (lv' := [(2, vI 2), (0, .ref q), (1, vI 1)]) hx hb dX10_most_159 rfl hl (by decide) rfl (fun ls hl => ?_)
        refine z_iconst hx hb dX10_most_160 rfl ?_
        refine lv_istore_n (lv' := [(3, vI 1), (2, vI 2), (0, .ref q), (1, vI 1)]) hx hb dX10_most_161 rfl hl (by decide) rfl (fun ls hl => ?_)
        refine z_iconst hx hb dX10_most_162 rfl ?_
        refine lv_istore (lv' := [(4, vI 1), (3, vI 1), (2, vI 2), (0, .ref q), (1, vI 1)]) hx hb dX10_most_163 hl (by decide) rfl (fun ls hl => ?_)
        refine lv_iload hx hb dX10_most_165 (lv_at hl 0 rfl) ?_
        refine z_iconst hx hb dX10_most_167 rfl ?_
        refine z_icmp_ge (tgt := 215) hx hb (by decide) (by decide) dX10_most_168 (by decide) (fun cq131 => False.elim (by omega)) (fun cq131 => ?_)
        refine lv_iload_n hx hb dX10_most_171 rfl (lv_at hl 1 rfl) ?_
        refine z_if_eq (tgt := 207) hx hb (by decide) dX10_most_172 (by decide) (fun cq132 => False.elim (by omega)) (fun cq132 => ?_)
        refine lv_aload_n hx hb dX10_most_175 rfl (lv_at hl 3 rfl) ?_
        refine z_bipush hx hb 78 dX10_most_176 rfl ?_
        refine z_bipush hx hb 78 dX10_most_178 rfl ?_
        refine lv_iload hx hb dX10_most_180 (lv_at hl 0 rfl) ?_
        refine z_iadd hx hb 79 rfl dX10_most_182 ?_
        refine z_cVi (As := [vI 78, vI 79]) (rest := []) ⟨hx, hb, hml, hown, hts⟩ hK hP hD hS hA [0, 1, 2] [] rfl rfl rfl (c_X10_isGreater l g q a (uI x 9 T_14.2.2) T_14 78 79 (by decide) (by decide) (hRT_14_0 (by omega)) (hRT_14_1 (by omega))) (cwV 2 hts gX10_most_X10_isGreater rfl rfl rfl (by decide +kernel) ⟨Nat.le_of_ble_eq_true rfl, Nat.le_of_ble_eq_true rfl⟩) 10 0 rfl rfl rfl (fun _ _ _ _ _ _ => trivial) (fun _ _ _ => trivial) rfl hl.1 (Nat.le_of_ble_eq_true rfl) rfl dX10_most_183 ⟨Nat.le_of_ble_eq_true rfl, Nat.le_of_ble_eq_true rfl⟩ (fun u_133 H locs hwu_133 hP hD hS => ?_)
        try dsimp only at hwu_133
        have hP : zP g [[mdl q a (uI x 9 T_14.2.2)], [((a 0), .inl (g.2 1, 88, .inr (.inl (aL T_14.1))))], [((a 1), .inl (g.2 1, 88, .inr (.inl (aL T_14.2.1))))]] H := hP
        have hD : zD A [[mdl q a (uI x 9 T_14.2.2)], [((a 0), .inl (g.2 1, 88, .inr (.inl (aL T_14.1))))], [((a 1), .inl (g.2 1, 88, .inr (.inl (aL T_14.2.1))))]] := hD
        refine z_toI (rGt 78 79 T_14) rfl ?_
        have hf_134 := rGt_01 78 79 T_14
        refine z_if_ne (tgt := 207) hx hb (by omega) dX10_most_186 (by decide) (fun cq135 => ?_) (fun cq135 => ?_)
        · refine z_iconst hx hb dX10_most_207 rfl ?_
          refine lv_istore_n (lv' := [(3, vI 0), (4, vI 1), (2, vI 2), (0, .ref q), (1, vI 1)]) hx hb dX10_most_208 rfl hl (by decide) rfl (fun ls hl => ?_)
          refine z_iinc hx hb 2 (lv' := [(4, vI 2), (3, vI 0), (2, vI 2), (0, .ref q), (1, vI 1)]) dX10_most_209 hl (k := 1) rfl (rfl) (by decide) rfl (fun ls hl => ?_)
          refine lv_goto (tgt := 165) hx hb dX10_most_212 (by decide) ?_
          refine lv_iload hx hb dX10_most_165 (lv_at hl 0 rfl) ?_
          refine z_iconst hx hb dX10_most_167 rfl ?_
          refine z_icmp_ge (tgt := 215) hx hb (by decide) (by decide) dX10_most_168 (by decide) (fun cq136 => False.elim (by omega)) (fun cq136 => ?_)
          refine lv_iload_n hx hb dX10_most_171 rfl (lv_at hl 1 rfl) ?_
          refine z_if_eq (tgt := 207) hx hb (by decide) dX10_most_172 (by decide) (fun cq137 => ?_) (fun cq137 => False.elim (by omega))
          refine z_iconst hx hb dX10_most_207 rfl ?_
          refine lv_istore_n (lv' := [(3, vI 0), (4, vI 2), (2, vI 2), (0, .ref q), (1, vI 1)]) hx hb dX10_most_208 rfl hl (by decide) rfl (fun ls hl => ?_)
          refine z_iinc hx hb 3 (lv' := [(4, vI 3), (3, vI 0), (2, vI 2), (0, .ref q), (1, vI 1)]) dX10_most_209 hl (k := 1) rfl (rfl) (by decide) rfl (fun ls hl => ?_)
          refine lv_goto (tgt := 165) hx hb dX10_most_212 (by decide) ?_
          refine lv_iload hx hb dX10_most_165 (lv_at hl 0 rfl) ?_
          refine z_iconst hx hb dX10_most_167 rfl ?_
          refine z_icmp_ge (tgt := 215) hx hb (by decide) (by decide) dX10_most_168 (by decide) (fun cq138 => ?_) (fun cq138 => False.elim (by omega))
          refine lv_iload_n hx hb dX10_most_215 rfl (lv_at hl 4 rfl) ?_
          refine z_if_ne (tgt := 223) hx hb (by decide) dX10_most_216 (by decide) (fun cq139 => ?_) (fun cq139 => False.elim (by omega))
          refine lv_iload_n hx hb dX10_most_223 rfl (lv_at hl 1 rfl) ?_
          refine z_if_eq (tgt := 231) hx hb (by decide) dX10_most_224 (by decide) (fun cq140 => ?_) (fun cq140 => False.elim (by omega))
          refine z_iconst hx hb dX10_most_231 rfl ?_
          have hE : T_14 = (rNm 80 4 (rNm 79 2 (rNm 78 0 (rZ0 S)))) := by rw [hT_14, hT_11, hT_8, hT_4]
          exact z_reti () [0, 1, 2] hx hb hr rfl hlocks hK hP hD hS (by rw [← hE, if_pos (show _ = (0 : Int) by omega)]; have hm9 := mAlk_s T_14; omega) trivial rfl rfl (by rw [← hE]; rfl) (Nat.le_of_ble_eq_true rfl) (Nat.le_of_ble_eq_true rfl) dX10_most_232
        · refine lv_aload_n hx hb dX10_most_189 rfl (lv_at hl 3 rfl) ?_
          refine z_bipush hx hb 78 dX10_most_190 rfl ?_
          refine lv_iload hx hb dX10_most_192 (lv_at hl 0 rfl) ?_
          refine z_iadd hx hb 79 rfl dX10_most_194 ?_
          refine z_bipush hx hb 78 dX10_most_195 rfl ?_
          refine z_cVi (As := [vI 79, vI 78]) (rest := []) ⟨hx, hb, hml, hown, hts⟩ hK hP hD hS hA [0, 1, 2] [] rfl rfl rfl (c_X10_isGreater l g q a (uI x 9 T_14.2.2) T_14 79 78 (by decide) (by decide) (hRT_14_1 (by omega)) (hRT_14_0 (by omega))) (cwV 2 hts gX10_most_X10_isGreater rfl rfl rfl (by decide +kernel) ⟨Nat.le_of_ble_eq_true rfl, Nat.le_of_ble_eq_true rfl⟩) 10 0 rfl rfl rfl (fun _ _ _ _ _ _ => trivial) (fun _ _ _ => trivial) rfl hl.1 (Nat.le_of_ble_eq_true rfl) rfl dX10_most_197 ⟨Nat.le_of_ble_eq_true rfl, Nat.le_of_ble_eq_true rfl⟩ (fun u_141 H locs hwu_141 hP hD hS => ?_)
          try dsimp only at hwu_141
          have hP : zP g [[mdl q a (uI x 9 T_14.2.2)], [((a 0), .inl (g.2 1, 88, .inr (.inl (aL T_14.1))))], [((a 1), .inl (g.2 1, 88, .inr (.inl (aL T_14.2.1))))]] H := hP
          have hD : zD A [[mdl q a (uI x 9 T_14.2.2)], [((a 0), .inl (g.2 1, 88, .inr (.inl (aL T_14.1))))], [((a 1), .inl (g.2 1, 88, .inr (.inl (aL T_14.2.1))))]] := hD
          refine z_toI (rGt 79 78 T_14) rfl ?_
          have hf_142 := rGt_01 79 78 T_14
          refine z_if_ne (tgt := 207) hx hb (by omega) dX10_most_200 (by decide) (fun cq143 => ?_) (fun cq143 => ?_)
          · refine z_iconst hx hb dX10_most_207 rfl ?_
            refine lv_istore_n (lv' := [(3, vI 0), (4, vI 1), (2, vI 2), (0, .ref q), (1, vI 1)]) hx hb dX10_most_208 rfl hl (by decide) rfl (fun ls hl => ?_)
            refine z_iinc hx hb 2 (lv' := [(4, vI 2), (3, vI 0), (2, vI 2), (0, .ref q), (1, vI 1)]) dX10_most_209 hl (k := 1) rfl (rfl) (by decide) rfl (fun ls hl => ?_)
            refine lv_goto (tgt := 165) hx hb dX10_most_212 (by decide) ?_
            refine lv_iload hx hb dX10_most_165 (lv_at hl 0 rfl) ?_
            refine z_iconst hx hb dX10_most_167 rfl ?_
            refine z_icmp_ge (tgt := 215) hx hb (by decide) (by decide) dX10_most_168 (by decide) (fun cq144 => False.elim (by omega)) (fun cq144 => ?_)
            refine lv_iload_n hx hb dX10_most_171 rfl (lv_at hl 1 rfl) ?_
            refine z_if_eq (tgt := 207) hx hb (by decide) dX10_most_172 (by decide) (fun cq145 => ?_) (fun cq145 => False.elim (by omega))
            refine z_iconst hx hb dX10_most_207 rfl ?_
            refine lv_istore_n (lv' := [(3, vI 0), (4, vI 2), (2, vI 2), (0, .ref q), (1, vI 1)]) hx hb dX10_most_208 rfl hl (by decide) rfl (fun ls hl => ?_)
            refine z_iinc hx hb 3 (lv' := [(4, vI 3), (3, vI 0), (2, vI 2), (0, .ref q), (1, vI 1)]) dX10_most_209 hl (k := 1) rfl (rfl) (by decide) rfl (fun ls hl => ?_)
            refine lv_goto (tgt := 165) hx hb dX10_most_212 (by decide) ?_
            refine lv_iload hx hb dX10_most_165 (lv_at hl 0 rfl) ?_
            refine z_iconst hx hb dX10_most_167 rfl ?_
            refine z_icmp_ge (tgt := 215) hx hb (by decide) (by decide) dX10_most_168 (by decide) (fun cq146 => ?_) (fun cq146 => False.elim (by omega))
            refine lv_iload_n hx hb dX10_most_215 rfl (lv_at hl 4 rfl) ?_
            refine z_if_ne (tgt := 223) hx hb (by decide) dX10_most_216 (by decide) (fun cq147 => ?_) (fun cq147 => False.elim (by omega))
            refine lv_iload_n hx hb dX10_most_223 rfl (lv_at hl 1 rfl) ?_
            refine z_if_eq (tgt := 231) hx hb (by decide) dX10_most_224 (by decide) (fun cq148 => ?_) (fun cq148 => False.elim (by omega))
            refine z_iconst hx hb dX10_most_231 rfl ?_
            have hE : T_14 = (rNm 80 4 (rNm 79 2 (rNm 78 0 (rZ0 S)))) := by rw [hT_14, hT_11, hT_8, hT_4]
            exact z_reti () [0, 1, 2] hx hb hr rfl hlocks hK hP hD hS (by rw [← hE, if_pos (show _ = (0 : Int) by omega)]; have hm9 := mAlk_s T_14; omega) trivial rfl rfl (by rw [← hE]; rfl) (Nat.le_of_ble_eq_true rfl) (Nat.le_of_ble_eq_true rfl) dX10_most_232
          · refine z_iconst hx hb dX10_most_203 rfl ?_
            refine lv_goto (tgt := 208) hx hb dX10_most_204 (by decide) ?_
            refine lv_istore_n (lv' := [(3, vI 1), (4, vI 1), (2, vI 2), (0, .ref q), (1, vI 1)]) hx hb dX10_most_208 rfl hl (by decide) rfl (fun ls hl => ?_)
            refine z_iinc hx hb 2 (lv' := [(4, vI 2), (3, vI 1), (2, vI 2), (0, .ref q), (1, vI 1)]) dX10_most_209 hl (k := 1) rfl (rfl) (by decide) rfl (fun ls hl => ?_)
            refine lv_goto (tgt := 165) hx hb dX10_most_212 (by decide) ?_
            refine lv_iload hx hb dX10_most_165 (lv_at hl 0 rfl) ?_
            refine z_iconst hx hb dX10_most_167 rfl ?_
            refine z_icmp_ge (tgt := 215) hx hb (by decide) (by decide) dX10_most_168 (by decide) (fun cq149 => False.elim (by omega)) (fun cq149 => ?_)
            refine lv_iload_n hx hb dX10_most_171 rfl (lv_at hl 1 rfl) ?_
            refine z_if_eq (tgt := 207) hx hb (by decide) dX10_most_172 (by decide) (fun cq150 => False.elim (by omega)) (fun cq150 => ?_)
            refine lv_aload_n hx hb dX10_most_175 rfl (lv_at hl 3 rfl) ?_
            refine z_bipush hx hb 78 dX10_most_176 rfl ?_
            refine z_bipush hx hb 78 dX10_most_178 rfl ?_
            refine lv_iload hx hb dX10_most_180 (lv_at hl 0 rfl) ?_
            refine z_iadd hx hb 80 rfl dX10_most_182 ?_
            refine z_cVi (As := [vI 78, vI 80]) (rest := []) ⟨hx, hb, hml, hown, hts⟩ hK hP hD hS hA [0, 1, 2] [] rfl rfl rfl (c_X10_isGreater l g q a (uI x 9 T_14.2.2) T_14 78 80 (by decide) (by decide) (hRT_14_0 (by omega)) (hNT_14_0 (by omega))) (cwV 2 hts gX10_most_X10_isGreater rfl rfl rfl (by decide +kernel) ⟨Nat.le_of_ble_eq_true rfl, Nat.le_of_ble_eq_true rfl⟩) 10 0 rfl rfl rfl (fun _ _ _ _ _ _ => trivial) (fun _ _ _ => trivial) rfl hl.1 (Nat.le_of_ble_eq_true rfl) rfl dX10_most_183 ⟨Nat.le_of_ble_eq_true rfl, Nat.le_of_ble_eq_true rfl⟩ (fun u_151 H locs hwu_151 hP hD hS => ?_)
            try dsimp only at hwu_151
            have hP : zP g [[mdl q a (uI x 9 T_14.2.2)], [((a 0), .inl (g.2 1, 88, .inr (.inl (aL T_14.1))))], [((a 1), .inl (g.2 1, 88, .inr (.inl (aL T_14.2.1))))]] H := hP
            have hD : zD A [[mdl q a (uI x 9 T_14.2.2)], [((a 0), .inl (g.2 1, 88, .inr (.inl (aL T_14.1))))], [((a 1), .inl (g.2 1, 88, .inr (.inl (aL T_14.2.1))))]] := hD
            refine z_toI (rGt 78 80 T_14) rfl ?_
            have hf_152 := rGt_01 78 80 T_14
            refine z_if_ne (tgt := 207) hx hb (by omega) dX10_most_186 (by decide) (fun cq153 => ?_) (fun cq153 => ?_)
            · refine z_iconst hx hb dX10_most_207 rfl ?_
              refine lv_istore_n (lv' := [(3, vI 0), (4, vI 2), (2, vI 2), (0, .ref q), (1, vI 1)]) hx hb dX10_most_208 rfl hl (by decide) rfl (fun ls hl => ?_)
              refine z_iinc hx hb 3 (lv' := [(4, vI 3), (3, vI 0), (2, vI 2), (0, .ref q), (1, vI 1)]) dX10_most_209 hl (k := 1) rfl (rfl) (by decide) rfl (fun ls hl => ?_)
              refine lv_goto (tgt := 165) hx hb dX10_most_212 (by decide) ?_
              refine lv_iload hx hb dX10_most_165 (lv_at hl 0 rfl) ?_
              refine z_iconst hx hb dX10_most_167 rfl ?_
              refine z_icmp_ge (tgt := 215) hx hb (by decide) (by decide) dX10_most_168 (by decide) (fun cq154 => ?_) (fun cq154 => False.elim (by omega))
              refine lv_iload_n hx hb dX10_most_215 rfl (lv_at hl 4 rfl) ?_
              refine z_if_ne (tgt := 223) hx hb (by decide) dX10_most_216 (by decide) (fun cq155 => ?_) (fun cq155 => False.elim (by omega))
              refine lv_iload_n hx hb dX10_most_223 rfl (lv_at hl 1 rfl) ?_
              refine z_if_eq (tgt := 231) hx hb (by decide) dX10_most_224 (by decide) (fun cq156 => ?_) (fun cq156 => False.elim (by omega))
              refine z_iconst hx hb dX10_most_231 rfl ?_
              have hE : T_14 = (rNm 80 4 (rNm 79 2 (rNm 78 0 (rZ0 S)))) := by rw [hT_14, hT_11, hT_8, hT_4]
              exact z_reti () [0, 1, 2] hx hb hr rfl hlocks hK hP hD hS (by rw [← hE, if_pos (show _ = (0 : Int) by omega)]; have hm9 := mAlk_s T_14; omega) trivial rfl rfl (by rw [← hE]; rfl) (Nat.le_of_ble_eq_true rfl) (Nat.le_of_ble_eq_true rfl) dX10_most_232
            · refine lv_aload_n hx hb dX10_most_189 rfl (lv_at hl 3 rfl) ?_
              refine z_bipush hx hb 78 dX10_most_190 rfl ?_
              refine lv_iload hx hb dX10_most_192 (lv_at hl 0 rfl) ?_
              refine z_iadd hx hb 80 rfl dX10_most_194 ?_
              refine z_bipush hx hb 78 dX10_most_195 rfl ?_
              refine z_cVi (As := [vI 80, vI 78]) (rest := []) ⟨hx, hb, hml, hown, hts⟩ hK hP hD hS hA [0, 1, 2] [] rfl rfl rfl (c_X10_isGreater l g q a (uI x 9 T_14.2.2) T_14 80 78 (by decide) (by decide) (hNT_14_0 (by omega)) (hRT_14_0 (by omega))) (cwV 2 hts gX10_most_X10_isGreater rfl rfl rfl (by decide +kernel) ⟨Nat.le_of_ble_eq_true rfl, Nat.le_of_ble_eq_true rfl⟩) 10 0 rfl rfl rfl (fun _ _ _ _ _ _ => trivial) (fun _ _ _ => trivial) rfl hl.1 (Nat.le_of_ble_eq_true rfl) rfl dX10_most_197 ⟨Nat.le_of_ble_eq_true rfl, Nat.le_of_ble_eq_true rfl⟩ (fun u_157 H locs hwu_157 hP hD hS => ?_)
              try dsimp only at hwu_157
              have hP : zP g [[mdl q a (uI x 9 T_14.2.2)], [((a 0), .inl (g.2 1, 88, .inr (.inl (aL T_14.1))))], [((a 1), .inl (g.2 1, 88, .inr (.inl (aL T_14.2.1))))]] H := hP
              have hD : zD A [[mdl q a (uI x 9 T_14.2.2)], [((a 0), .inl (g.2 1, 88, .inr (.inl (aL T_14.1))))], [((a 1), .inl (g.2 1, 88, .inr (.inl (aL T_14.2.1))))]] := hD
              refine z_toI (rGt 80 78 T_14) rfl ?_
              have hf_158 := rGt_01 80 78 T_14
              refine z_if_ne (tgt := 207) hx hb (by omega) dX10_most_200 (by decide) (fun cq159 => ?_) (fun cq159 => ?_)
              · refine z_iconst hx hb dX10_most_207 rfl ?_
                refine lv_istore_n (lv' := [(3, vI 0), (4, vI 2), (2, vI 2), (0, .ref q), (1, vI 1)]) hx hb dX10_most_208 rfl hl (by decide) rfl (fun ls hl => ?_)
                refine z_iinc hx hb 3 (lv' := [(4, vI 3), (3, vI 0), (2, vI 2), (0, .ref q), (1, vI 1)]) dX10_most_209 hl (k := 1) rfl (rfl) (by decide) rfl (fun ls hl => ?_)
                refine lv_goto (tgt := 165) hx hb dX10_most_212 (by decide) ?_
                refine lv_iload hx hb dX10_most_165 (lv_at hl 0 rfl) ?_
                refine z_iconst hx hb dX10_most_167 rfl ?_
                refine z_icmp_ge (tgt := 215) hx hb (by decide) (by decide) dX10_most_168 (by decide) (fun cq160 => ?_) (fun cq160 => False.elim (by omega))
                refine lv_iload_n hx hb dX10_most_215 rfl (lv_at hl 4 rfl) ?_
                refine z_if_ne (tgt := 223) hx hb (by decide) dX10_most_216 (by decide) (fun cq161 => ?_) (fun cq161 => False.elim (by omega))
                refine lv_iload_n hx hb dX10_most_223 rfl (lv_at hl 1 rfl) ?_
                refine z_if_eq (tgt := 231) hx hb (by decide) dX10_most_224 (by decide) (fun cq162 => ?_) (fun cq162 => False.elim (by omega))
                refine z_iconst hx hb dX10_most_231 rfl ?_
                have hE : T_14 = (rNm 80 4 (rNm 79 2 (rNm 78 0 (rZ0 S)))) := by rw [hT_14, hT_11, hT_8, hT_4]
                exact z_reti () [0, 1, 2] hx hb hr rfl hlocks hK hP hD hS (by rw [← hE, if_pos (show _ = (0 : Int) by omega)]; have hm9 := mAlk_s T_14; omega) trivial rfl rfl (by rw [← hE]; rfl) (Nat.le_of_ble_eq_true rfl) (Nat.le_of_ble_eq_true rfl) dX10_most_232
              · refine z_iconst hx hb dX10_most_203 rfl ?_
                refine lv_goto (tgt := 208) hx hb dX10_most_204 (by decide) ?_
                refine lv_istore_n (lv' := [(3, vI 1), (4, vI 2), (2, vI 2), (0, .ref q), (1, vI 1)]) hx hb dX10_most_208 rfl hl (by decide) rfl (fun ls hl => ?_)
                refine z_iinc hx hb 3 (lv' := [(4, vI 3), (3, vI 1), (2, vI 2), (0, .ref q), (1, vI 1)]) dX10_most_209 hl (k := 1) rfl (rfl) (by decide) rfl (fun ls hl => ?_)
                refine lv_goto (tgt := 165) hx hb dX10_most_212 (by decide) ?_
                refine lv_iload hx hb dX10_most_165 (lv_at hl 0 rfl) ?_
                refine z_iconst hx hb dX10_most_167 rfl ?_
                refine z_icmp_ge (tgt := 215) hx hb (by decide) (by decide) dX10_most_168 (by decide) (fun cq163 => ?_) (fun cq163 => False.elim (by omega))
                refine lv_iload_n hx hb dX10_most_215 rfl (lv_at hl 4 rfl) ?_
                refine z_if_ne (tgt := 223) hx hb (by decide) dX10_most_216 (by decide) (fun cq164 => ?_) (fun cq164 => False.elim (by omega))
                refine lv_iload_n hx hb dX10_most_223 rfl (lv_at hl 1 rfl) ?_
                refine z_if_eq (tgt := 231) hx hb (by decide) dX10_most_224 (by decide) (fun cq165 => False.elim (by omega)) (fun cq165 => ?_)
                refine z_iconst hx hb dX10_most_227 rfl ?_
                refine lv_goto (tgt := 232) hx hb dX10_most_228 (by decide) ?_
                have hE : T_14 = (rNm 80 4 (rNm 79 2 (rNm 78 0 (rZ0 S)))) := by rw [hT_14, hT_11, hT_8, hT_4]
                exact z_reti () [0, 1, 2] hx hb hr rfl hlocks hK hP hD hS (by rw [← hE, if_pos (show _ = (0 : Int) by omega)]; have hm9 := mAlk_s T_14; omega) trivial rfl rfl (by rw [← hE]; rfl) (Nat.le_of_ble_eq_true rfl) (Nat.le_of_ble_eq_true rfl) dX10_most_232
  · refine z_ldc hx hb (-2000000004) hown (hts _ (List.mem_of_getElem? (i := 4) rfl)) rfl dX10_most_121 ?_
    have hE : T_14 = (rNm 80 4 (rNm 79 2 (rNm 78 0 (rZ0 S)))) := by rw [hT_14, hT_11, hT_8, hT_4]
    exact z_reti () [0, 1, 2] hx hb hr rfl hlocks hK hP hD hS (by rw [← hE]; exact (if_neg (by omega)).symm) trivial rfl rfl (by rw [← hE]; rfl) (Nat.le_of_ble_eq_true rfl) (Nat.le_of_ble_eq_true rfl) dX10_most_123

set_option maxHeartbeats 4000000 in
set_option maxRecDepth 100000 in
theorem c_X10_bus (l : Launch) (g : zG) (q : Nat) (a : Nat → Nat) (x : Nat → Int) (b : Nat) (h : Nat → Int) (o : Nat → Int) (l_ : Nat → Int) (i : Int) (w : Int) (hN : nok (x 0) b h o l_) (hx1 : x 1 = (b : Int)) (hi : -2147483648 ≤ i ∧ i < 2147483648) (hw : -2147483648 ≤ w ∧ w < 2147483648) : zMet l g yX10_bus wsX10_bus 2 0 0 [.ref q, vI i, vI w] zX0 [[mdl q a x], [((a 2), .inl (g.2 0, 6, .inl (aI h)))], [((a 3), .inl (g.2 0, 18, .inl (aI o)))], [((a 4), .inl (g.2 0, 6, .inl (aI l_)))]] (qi g (fun (_ : Unit) => (mBus b h o l_ i w)) (fun (_ : Unit) => True) (fun (_ : Unit) => [[mdl q a x], [((a 2), .inl (g.2 0, 6, .inl (aI h)))], [((a 3), .inl (g.2 0, 18, .inl (aI o)))], [((a 4), .inl (g.2 0, 6, .inl (aI l_)))]])) := by
  obtain ⟨hn1, hn2, hn3, hn4, hn5, hn6, hn7⟩ := id hN
  have hB := inI_s i 0 (x 1 - 1)
  refine z_ent (cc := cX10_bus) (maxL := 3) (ret := (some .int)) (by decide) rfl (Nat.le_of_ble_eq_true rfl) ?_
  intro p e s m below meth c A ls hx hb hr hml hown hts hlocks hin0 hA hK hP hD hS hXX hl
  have hown : s.vm.findClass RX10 = some m.cls := hown
  have hin10_ : ∀ w ∈ wsX100, w ∈ wsX10_bus := zw_in [23, 24, 25, 26, 27, 28, 29, 30, 31, 32, 33, 34, 35, 36, 37, 38, 39, 40, 41, 42, 43, 44, 45, 46, 47, 48] rfl
  have hl : lv_has ls 3 [(0, .ref q), (1, vI i), (2, vI w)] := hl
  refine lv_aload_n hx hb dX10_bus_0 rfl (lv_at hl 0 rfl) ?_
  refine lv_iload_n hx hb dX10_bus_1 rfl (lv_at hl 1 rfl) ?_
  refine z_cVi (As := [vI i]) (rest := []) ⟨hx, hb, hml, hown, hts⟩ hK hP hD hS hA [0] [1, 2, 3] rfl rfl rfl (c_X10_isBus l g q a x i (by omega) (by omega)) (cwV 1 hts gX10_bus_X10_isBus rfl rfl rfl (by decide +kernel) ⟨Nat.le_of_ble_eq_true rfl, Nat.le_of_ble_eq_true rfl⟩) 10 0 rfl rfl rfl (fun _ _ _ _ _ _ => trivial) (fun _ _ _ => trivial) rfl hl.1 (Nat.le_of_ble_eq_true rfl) rfl dX10_bus_2 ⟨Nat.le_of_ble_eq_true rfl, Nat.le_of_ble_eq_true rfl⟩ (fun u_1 H locs hwu_1 hP hD hS => ?_)
  try dsimp only at hwu_1
  have hP : zP g [[((a 2), .inl (g.2 0, 6, .inl (aI h)))], [((a 3), .inl (g.2 0, 18, .inl (aI o)))], [((a 4), .inl (g.2 0, 6, .inl (aI l_)))], [mdl q a x]] H := hP
  have hD : zD A [[((a 2), .inl (g.2 0, 6, .inl (aI h)))], [((a 3), .inl (g.2 0, 18, .inl (aI o)))], [((a 4), .inl (g.2 0, 6, .inl (aI l_)))], [mdl q a x]] := hD
  refine z_toI (inI i 0 (x 1 - 1)) rfl ?_
  have hf_2 := inI_s i 0 (x 1 - 1)
  refine z_if_ne (tgt := 11) hx hb (by omega) dX10_bus_5 (by decide) (fun cq3 => ?_) (fun cq3 => ?_)
  · obtain ⟨j, hj⟩ : ∃ j : Nat, i = (j : Int) := ⟨i.toNat, by omega⟩
    subst hj
    have htn : ((j : Nat) : Int).toNat = j := Int.toNat_natCast j
    refine lv_iload_n hx hb dX10_bus_11 rfl (lv_at hl 2 rfl) ?_
    rcases (show w = 0 ∨ w = 1 ∨ w = 2 ∨ w = 3 ∨ w = 4 ∨ w = 5 ∨ w = 6 ∨ w = 7 ∨ w = 8 ∨ (w < 0 ∨ 8 < w) by omega) with hc_4 | hc_4 | hc_4 | hc_4 | hc_4 | hc_4 | hc_4 | hc_4 | hc_4 | hc_4
    · refine z_swIn hx hb 0 64 hc_4 (by decide) dX10_bus_12 (by decide) (by decide) rfl (by decide) ?_
      subst hc_4
      refine lv_iload_n hx hb dX10_bus_64 rfl (lv_at hl 1 rfl) ?_
      refine z_if_ne (tgt := 72) hx hb (by omega) dX10_bus_65 (by decide) (fun cq5 => ?_) (fun cq5 => ?_)
      · refine lv_aload_n hx hb dX10_bus_72 rfl (lv_at hl 0 rfl) ?_
        refine z_get hx hb hts hin10_ hown hK hP 3 rfl rfl 4 (by decide) (hts _ (List.mem_of_getElem? (i := 2) rfl)) rfl dX10_bus_73 ?_
        refine lv_iload_n hx hb dX10_bus_76 rfl (lv_at hl 1 rfl) ?_
        refine z_iald hx hb hK hP 0 rfl j (by omega) (by omega) (by decide) dX10_bus_77 ?_
        exact z_reti () [3, 0, 1, 2] hx hb hr rfl hlocks hK hP hD hS (by rw [mBus_in (by omega), htn]; first | rfl | (rw [if_pos (by omega)]; first | rw [if_pos (by omega)] | rw [if_neg (by omega)]) | (simp; omega)) trivial rfl rfl (rfl) (Nat.le_of_ble_eq_true rfl) (Nat.le_of_ble_eq_true rfl) dX10_bus_78
      · refine z_iconst hx hb dX10_bus_68 rfl ?_
        refine lv_goto (tgt := 78) hx hb dX10_bus_69 (by decide) ?_
        exact z_reti () [3, 0, 1, 2] hx hb hr rfl hlocks hK hP hD hS (by rw [mBus_in (by omega), htn]; first | rfl | (rw [if_pos (by omega)]; first | rw [if_pos (by omega)] | rw [if_neg (by omega)]) | (simp; omega)) trivial rfl rfl (rfl) (Nat.le_of_ble_eq_true rfl) (Nat.le_of_ble_eq_true rfl) dX10_bus_78
    · refine z_swIn hx hb 1 79 hc_4 (by decide) dX10_bus_12 (by decide) (by decide) rfl (by decide) ?_
      subst hc_4
      refine lv_aload_n hx hb dX10_bus_79 rfl (lv_at hl 0 rfl) ?_
      refine z_get hx hb hts hin10_ hown hK hP 3 rfl rfl 5 (by decide) (hts _ (List.mem_of_getElem? (i := 3) rfl)) rfl dX10_bus_80 ?_
      refine z_iconst hx hb dX10_bus_83 rfl ?_
      refine lv_iload_n hx hb dX10_bus_84 rfl (lv_at hl 1 rfl) ?_
      refine z_imul hx hb (((3 * j) : Nat) : Int) (by omega) dX10_bus_85 ?_
      refine lv_iload_n hx hb dX10_bus_86 rfl (lv_at hl 2 rfl) ?_
      refine z_iadd hx hb ((((3 * j) + 1) : Nat) : Int) (by omega) dX10_bus_87 ?_
      refine z_iconst hx hb dX10_bus_88 rfl ?_
      refine z_isub hx hb (((((3 * j) + 1) : Nat) : Int) - 1) rfl dX10_bus_89 ?_
      refine z_toI (((j * 3 + 0) : Nat) : Int) (by omega) ?_
      refine z_iald hx hb hK hP 1 rfl (j * 3 + 0) (by omega) (by omega) (by decide) dX10_bus_90 ?_
      exact z_reti () [3, 0, 1, 2] hx hb hr rfl hlocks hK hP hD hS (by rw [mBus_in (by omega), htn]; first | rfl | (rw [if_pos (by omega)]; first | rw [if_pos (by omega)] | rw [if_neg (by omega)]) | (simp; omega)) trivial rfl rfl (rfl) (Nat.le_of_ble_eq_true rfl) (Nat.le_of_ble_eq_true rfl) dX10_bus_91
    · refine z_swIn hx hb 2 79 hc_4 (by decide) dX10_bus_12 (by decide) (by decide) rfl (by decide) ?_
      subst hc_4
      refine lv_aload_n hx hb dX10_bus_79 rfl (lv_at hl 0 rfl) ?_
      refine z_get hx hb hts hin10_ hown hK hP 3 rfl rfl 5 (by decide) (hts _ (List.mem_of_getElem? (i := 3) rfl)) rfl dX10_bus_80 ?_
      refine z_iconst hx hb dX10_bus_83 rfl ?_
      refine lv_iload_n hx hb dX10_bus_84 rfl (lv_at hl 1 rfl) ?_
      refine z_imul hx hb (((3 * j) : Nat) : Int) (by omega) dX10_bus_85 ?_
      refine lv_iload_n hx hb dX10_bus_86 rfl (lv_at hl 2 rfl) ?_
      refine z_iadd hx hb ((((3 * j) + 2) : Nat) : Int) (by omega) dX10_bus_87 ?_
      refine z_iconst hx hb dX10_bus_88 rfl ?_
      refine z_isub hx hb (((((3 * j) + 2) : Nat) : Int) - 1) rfl dX10_bus_89 ?_
      refine z_toI (((j * 3 + 1) : Nat) : Int) (by omega) ?_
      refine z_iald hx hb hK hP 1 rfl (j * 3 + 1) (by omega) (by omega) (by decide) dX10_bus_90 ?_
      exact z_reti () [3, 0, 1, 2] hx hb hr rfl hlocks hK hP hD hS (by rw [mBus_in (by omega), htn]; first | rfl | (rw [if_pos (by omega)]; first | rw [if_pos (by omega)] | rw [if_neg (by omega)]) | (simp; omega)) trivial rfl rfl (rfl) (Nat.le_of_ble_eq_true rfl) (Nat.le_of_ble_eq_true rfl) dX10_bus_91
    · refine z_swIn hx hb 3 79 hc_4 (by decide) dX10_bus_12 (by decide) (by decide) rfl (by decide) ?_
      subst hc_4
      refine lv_aload_n hx hb dX10_bus_79 rfl (lv_at hl 0 rfl) ?_
      refine z_get hx hb hts hin10_ hown hK hP 3 rfl rfl 5 (by decide) (hts _ (List.mem_of_getElem? (i := 3) rfl)) rfl dX10_bus_80 ?_
      refine z_iconst hx hb dX10_bus_83 rfl ?_
      refine lv_iload_n hx hb dX10_bus_84 rfl (lv_at hl 1 rfl) ?_
      refine z_imul hx hb (((3 * j) : Nat) : Int) (by omega) dX10_bus_85 ?_
      refine lv_iload_n hx hb dX10_bus_86 rfl (lv_at hl 2 rfl) ?_
      refine z_iadd hx hb ((((3 * j) + 3) : Nat) : Int) (by omega) dX10_bus_87 ?_
      refine z_iconst hx hb dX10_bus_88 rfl ?_
      refine z_isub hx hb (((((3 * j) + 3) : Nat) : Int) - 1) rfl dX10_bus_89 ?_
      refine z_toI (((j * 3 + 2) : Nat) : Int) (by omega) ?_
      refine z_iald hx hb hK hP 1 rfl (j * 3 + 2) (by omega) (by omega) (by decide) dX10_bus_90 ?_
      exact z_reti () [3, 0, 1, 2] hx hb hr rfl hlocks hK hP hD hS (by rw [mBus_in (by omega), htn]; first | rfl | (rw [if_pos (by omega)]; first | rw [if_pos (by omega)] | rw [if_neg (by omega)]) | (simp; omega)) trivial rfl rfl (rfl) (Nat.le_of_ble_eq_true rfl) (Nat.le_of_ble_eq_true rfl) dX10_bus_91
    · refine z_swIn hx hb 4 92 hc_4 (by decide) dX10_bus_12 (by decide) (by decide) rfl (by decide) ?_
      subst hc_4
      refine lv_iload_n hx hb dX10_bus_92 rfl (lv_at hl 1 rfl) ?_
      refine z_if_ne (tgt := 100) hx hb (by omega) dX10_bus_93 (by decide) (fun cq6 => ?_) (fun cq6 => ?_)
      · refine lv_aload_n hx hb dX10_bus_100 rfl (lv_at hl 0 rfl) ?_
        refine z_get hx hb hts hin10_ hown hK hP 3 rfl rfl 6 (by decide) (hts _ (List.mem_of_getElem? (i := 4) rfl)) rfl dX10_bus_101 ?_
        refine lv_iload_n hx hb dX10_bus_104 rfl (lv_at hl 1 rfl) ?_
        refine z_iald hx hb hK hP 2 rfl j (by omega) (by omega) (by decide) dX10_bus_105 ?_
        exact z_reti () [3, 0, 1, 2] hx hb hr rfl hlocks hK hP hD hS (by rw [mBus_in (by omega), htn]; first | rfl | (rw [if_pos (by omega)]; first | rw [if_pos (by omega)] | rw [if_neg (by omega)]) | (simp; omega)) trivial rfl rfl (rfl) (Nat.le_of_ble_eq_true rfl) (Nat.le_of_ble_eq_true rfl) dX10_bus_106
      · refine z_iconst hx hb dX10_bus_96 rfl ?_
        refine lv_goto (tgt := 106) hx hb dX10_bus_97 (by decide) ?_
        exact z_reti () [3, 0, 1, 2] hx hb hr rfl hlocks hK hP hD hS (by rw [mBus_in (by omega), htn]; first | rfl | (rw [if_pos (by omega)]; first | rw [if_pos (by omega)] | rw [if_neg (by omega)]) | (simp; omega)) trivial rfl rfl (rfl) (Nat.le_of_ble_eq_true rfl) (Nat.le_of_ble_eq_true rfl) dX10_bus_106
    · refine z_swIn hx hb 5 107 hc_4 (by decide) dX10_bus_12 (by decide) (by decide) rfl (by decide) ?_
      subst hc_4
      refine lv_aload_n hx hb dX10_bus_107 rfl (lv_at hl 0 rfl) ?_
      refine lv_iload_n hx hb dX10_bus_108 rfl (lv_at hl 1 rfl) ?_
      refine lv_iload_n hx hb dX10_bus_109 rfl (lv_at hl 2 rfl) ?_
      refine z_iconst hx hb dX10_bus_110 rfl ?_
      refine z_isub hx hb 0 rfl dX10_bus_111 ?_
      refine z_cVi (As := [vI ((j : Nat) : Int), vI 0]) (rest := []) ⟨hx, hb, hml, hown, hts⟩ hK hP hD hS hA [3, 0, 1] [2] rfl rfl rfl (c_X10_upTo l g q a x h o j 0 hn5 (by omega) (by omega)) (cwV 2 hts gX10_bus_X10_upTo rfl rfl rfl (by decide +kernel) ⟨Nat.le_of_ble_eq_true rfl, Nat.le_of_ble_eq_true rfl⟩) 10 0 rfl rfl rfl (fun _ _ _ _ _ _ => trivial) (fun _ _ _ => trivial) rfl hl.1 (Nat.le_of_ble_eq_true rfl) rfl dX10_bus_112 ⟨Nat.le_of_ble_eq_true rfl, Nat.le_of_ble_eq_true rfl⟩ (fun u_7 H locs hwu_7 hP hD hS => ?_)
      try dsimp only at hwu_7
      have hP : zP g [[((a 4), .inl (g.2 0, 6, .inl (aI l_)))], [mdl q a x], [((a 2), .inl (g.2 0, 6, .inl (aI h)))], [((a 3), .inl (g.2 0, 18, .inl (aI o)))]] H := hP
      have hD : zD A [[((a 4), .inl (g.2 0, 6, .inl (aI l_)))], [mdl q a x], [((a 2), .inl (g.2 0, 6, .inl (aI h)))], [((a 3), .inl (g.2 0, 18, .inl (aI o)))]] := hD
      refine z_toI (zUp h o 0 j) rfl ?_
      exact z_reti () [1, 2, 3, 0] hx hb hr rfl hlocks hK hP hD hS (by rw [mBus_in (by omega), htn]; first | rfl | (rw [if_pos (by omega)]; first | rw [if_pos (by omega)] | rw [if_neg (by omega)]) | (simp; omega)) trivial rfl rfl (rfl) (Nat.le_of_ble_eq_true rfl) (Nat.le_of_ble_eq_true rfl) dX10_bus_115
    · refine z_swIn hx hb 6 107 hc_4 (by decide) dX10_bus_12 (by decide) (by decide) rfl (by decide) ?_
      subst hc_4
      refine lv_aload_n hx hb dX10_bus_107 rfl (lv_at hl 0 rfl) ?_
      refine lv_iload_n hx hb dX10_bus_108 rfl (lv_at hl 1 rfl) ?_
      refine lv_iload_n hx hb dX10_bus_109 rfl (lv_at hl 2 rfl) ?_
      refine z_iconst hx hb dX10_bus_110 rfl ?_
      refine z_isub hx hb 1 rfl dX10_bus_111 ?_
      refine z_cVi (As := [vI ((j : Nat) : Int), vI 1]) (rest := []) ⟨hx, hb, hml, hown, hts⟩ hK hP hD hS hA [3, 0, 1] [2] rfl rfl rfl (c_X10_upTo l g q a x h o j 1 hn5 (by omega) (by omega)) (cwV 2 hts gX10_bus_X10_upTo rfl rfl rfl (by decide +kernel) ⟨Nat.le_of_ble_eq_true rfl, Nat.le_of_ble_eq_true rfl⟩) 10 0 rfl rfl rfl (fun _ _ _ _ _ _ => trivial) (fun _ _ _ => trivial) rfl hl.1 (Nat.le_of_ble_eq_true rfl) rfl dX10_bus_112 ⟨Nat.le_of_ble_eq_true rfl, Nat.le_of_ble_eq_true rfl⟩ (fun u_8 H locs hwu_8 hP hD hS => ?_)
      try dsimp only at hwu_8
      have hP : zP g [[((a 4), .inl (g.2 0, 6, .inl (aI l_)))], [mdl q a x], [((a 2), .inl (g.2 0, 6, .inl (aI h)))], [((a 3), .inl (g.2 0, 18, .inl (aI o)))]] H := hP
      have hD : zD A [[((a 4), .inl (g.2 0, 6, .inl (aI l_)))], [mdl q a x], [((a 2), .inl (g.2 0, 6, .inl (aI h)))], [((a 3), .inl (g.2 0, 18, .inl (aI o)))]] := hD
      refine z_toI (zUp h o 1 j) rfl ?_
      exact z_reti () [1, 2, 3, 0] hx hb hr rfl hlocks hK hP hD hS (by rw [mBus_in (by omega), htn]; first | rfl | (rw [if_pos (by omega)]; first | rw [if_pos (by omega)] | rw [if_neg (by omega)]) | (simp; omega)) trivial rfl rfl (rfl) (Nat.le_of_ble_eq_true rfl) (Nat.le_of_ble_eq_true rfl) dX10_bus_115
    · refine z_swIn hx hb 7 107 hc_4 (by decide) dX10_bus_12 (by decide) (by decide) rfl (by decide) ?_
      subst hc_4
      refine lv_aload_n hx hb dX10_bus_107 rfl (lv_at hl 0 rfl) ?_
      refine lv_iload_n hx hb dX10_bus_108 rfl (lv_at hl 1 rfl) ?_
      refine lv_iload_n hx hb dX10_bus_109 rfl (lv_at hl 2 rfl) ?_
      refine z_iconst hx hb dX10_bus_110 rfl ?_
      refine z_isub hx hb 2 rfl dX10_bus_111 ?_
      refine z_cVi (As := [vI ((j : Nat) : Int), vI 2]) (rest := []) ⟨hx, hb, hml, hown, hts⟩ hK hP hD hS hA [3, 0, 1] [2] rfl rfl rfl (c_X10_upTo l g q a x h o j 2 hn5 (by omega) (by omega)) (cwV 2 hts gX10_bus_X10_upTo rfl rfl rfl (by decide +kernel) ⟨Nat.le_of_ble_eq_true rfl, Nat.le_of_ble_eq_true rfl⟩) 10 0 rfl rfl rfl (fun _ _ _ _ _ _ => trivial) (fun _ _ _ => trivial) rfl hl.1 (Nat.le_of_ble_eq_true rfl) rfl dX10_bus_112 ⟨Nat.le_of_ble_eq_true rfl, Nat.le_of_ble_eq_true rfl⟩ (fun u_9 H locs hwu_9 hP hD hS => ?_)
      try dsimp only at hwu_9
      have hP : zP g [[((a 4), .inl (g.2 0, 6, .inl (aI l_)))], [mdl q a x], [((a 2), .inl (g.2 0, 6, .inl (aI h)))], [((a 3), .inl (g.2 0, 18, .inl (aI o)))]] H := hP
      have hD : zD A [[((a 4), .inl (g.2 0, 6, .inl (aI l_)))], [mdl q a x], [((a 2), .inl (g.2 0, 6, .inl (aI h)))], [((a 3), .inl (g.2 0, 18, .inl (aI o)))]] := hD
      refine z_toI (zUp h o 2 j) rfl ?_
      exact z_reti () [1, 2, 3, 0] hx hb hr rfl hlocks hK hP hD hS (by rw [mBus_in (by omega), htn]; first | rfl | (rw [if_pos (by omega)]; first | rw [if_pos (by omega)] | rw [if_neg (by omega)]) | (simp; omega)) trivial rfl rfl (rfl) (Nat.le_of_ble_eq_true rfl) (Nat.le_of_ble_eq_true rfl) dX10_bus_115
    · refine z_swIn hx hb 8 116 hc_4 (by decide) dX10_bus_12 (by decide) (by decide) rfl (by decide) ?_
      subst hc_4
      refine lv_aload_n hx hb dX10_bus_116 rfl (lv_at hl 0 rfl) ?_
      refine lv_iload_n hx hb dX10_bus_117 rfl (lv_at hl 1 rfl) ?_
      refine z_cVi (As := [vI ((j : Nat) : Int)]) (rest := []) ⟨hx, hb, hml, hown, hts⟩ hK hP hD hS hA [3, 0] [1, 2] rfl rfl rfl (c_X10_linesTo l g q a x h j hn5 (by omega)) (cwV 1 hts gX10_bus_X10_linesTo rfl rfl rfl (by decide +kernel) ⟨Nat.le_of_ble_eq_true rfl, Nat.le_of_ble_eq_true rfl⟩) 10 0 rfl rfl rfl (fun _ _ _ _ _ _ => trivial) (fun _ _ _ => trivial) rfl hl.1 (Nat.le_of_ble_eq_true rfl) rfl dX10_bus_118 ⟨Nat.le_of_ble_eq_true rfl, Nat.le_of_ble_eq_true rfl⟩ (fun u_10 H locs hwu_10 hP hD hS => ?_)
      try dsimp only at hwu_10
      have hP : zP g [[((a 3), .inl (g.2 0, 18, .inl (aI o)))], [((a 4), .inl (g.2 0, 6, .inl (aI l_)))], [mdl q a x], [((a 2), .inl (g.2 0, 6, .inl (aI h)))]] H := hP
      have hD : zD A [[((a 3), .inl (g.2 0, 18, .inl (aI o)))], [((a 4), .inl (g.2 0, 6, .inl (aI l_)))], [mdl q a x], [((a 2), .inl (g.2 0, 6, .inl (aI h)))]] := hD
      refine z_toI (((zL h 6 j) : Nat) : Int) rfl ?_
      exact z_reti () [2, 3, 0, 1] hx hb hr rfl hlocks hK hP hD hS (by rw [mBus_in (by omega), htn]; first | rfl | (rw [if_pos (by omega)]; first | rw [if_pos (by omega)] | rw [if_neg (by omega)]) | (simp; omega)) trivial rfl rfl (rfl) (Nat.le_of_ble_eq_true rfl) (Nat.le_of_ble_eq_true rfl) dX10_bus_121
    · refine z_swOut hx hb 122 (by omega) dX10_bus_12 hc_4 (by decide) ?_
      refine z_ldc hx hb (-2000000002) hown (hts _ (List.mem_of_getElem? (i := 5) rfl)) rfl dX10_bus_122 ?_
      exact z_reti () [3, 0, 1, 2] hx hb hr rfl hlocks hK hP hD hS ((mBus_out (by omega) (by omega)).symm) trivial rfl rfl (rfl) (Nat.le_of_ble_eq_true rfl) (Nat.le_of_ble_eq_true rfl) dX10_bus_124
  · refine z_ldc hx hb (-2000000001) hown (hts _ (List.mem_of_getElem? (i := 1) rfl)) rfl dX10_bus_8 ?_
    exact z_reti () [3, 0, 1, 2] hx hb hr rfl hlocks hK hP hD hS ((mBus_no (by omega)).symm) trivial rfl rfl (rfl) (Nat.le_of_ble_eq_true rfl) (Nat.le_of_ble_eq_true rfl) dX10_bus_10
