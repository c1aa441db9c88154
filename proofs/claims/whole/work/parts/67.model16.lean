set_option maxHeartbeats 4000000 in
set_option maxRecDepth 100000 in
theorem c_X10_fold_out (l : Launch) (g : zG) (q : Nat) (a : Nat → Nat) (x : Nat → Int) (r_ : Int) (w : Int) (j : Int) (hr_ : -2147483648 ≤ r_ ∧ r_ < 2147483648) (hw : -2147483648 ≤ w ∧ w < 2147483648) (hj : -2147483648 ≤ j ∧ j < 2147483648) (ho : ¬ ((0 ≤ r_ ∧ r_ ≤ 3) ∧ (0 ≤ w ∧ w ≤ 1) ∧ (0 ≤ j ∧ j ≤ 1))) : zMet l g yX10_fold wsX10_fold 1 0 0 [.ref q, vI r_, vI w, vI j] zX0 [[mdl q a x]] (ql g (fun (_ : Unit) => (-2000000002)) (fun (_ : Unit) => True) (fun (_ : Unit) => [[mdl q a x]])) := by
  refine z_ent (cc := cX10_fold) (maxL := 5) (ret := (some .long)) (by decide) rfl (Nat.le_of_ble_eq_true rfl) ?_
  intro p e s m below meth c A ls hx hb hr hml hown hts hlocks hin0 hA hK hP hD hS hXX hl
  have hown : s.vm.findClass RX10 = some m.cls := hown
  have hl : lv_has ls 5 [(0, .ref q), (1, vI r_), (2, vI w), (3, vI j)] := hl
  refine lv_iload_n hx hb dX10_fold_0 rfl (lv_at hl 1 rfl) ?_
  refine z_i2l hx hb (by omega) dX10_fold_1 ?_
  refine z_lconst hx hb 0 dX10_fold_2 rfl ?_
  refine z_ldc2 hx hb 3 hown (hts _ (List.mem_of_getElem? (i := 1) rfl)) rfl dX10_fold_3 ?_
  refine z_cSi (As := [vL r_, vL 0, vL 3]) (rest := []) ⟨hx, hb, hml, hown, hts⟩ hK hP hD hS hA [] [0] rfl rfl rfl (c_X10_in l g r_ 0 3 (by first | decide | omega) (by first | decide | omega) (by first | decide | omega)) (va_cwS 3 hts gX10_fold_X10_in rfl rfl rfl (by decide +kernel) ⟨Nat.le_of_ble_eq_true rfl, Nat.le_of_ble_eq_true rfl⟩) (fun _ _ _ _ _ _ => trivial) (fun _ _ _ => trivial) rfl hl.1 (Nat.le_of_ble_eq_true rfl) rfl dX10_fold_6 ⟨Nat.le_of_ble_eq_true rfl, Nat.le_of_ble_eq_true rfl⟩ (fun u_1 H locs hwu_1 hP hD hS => ?_)
  try dsimp only at hwu_1
  have hP : zP g [[mdl q a x]] H := hP
  have hD : zD A [[mdl q a x]] := hD
  refine z_toI (inI r_ 0 3) rfl ?_
  have hf_2 := inI_s r_ 0 3
  refine z_if_eq (tgt := 32) hx hb (by omega) dX10_fold_9 (by decide) (fun cq3 => ?_) (fun cq3 => ?_)
  · refine z_ldc2 hx hb (-2000000002) hown (hts _ (List.mem_of_getElem? (i := 2) rfl)) rfl dX10_fold_32 ?_
    exact z_retl () [0] hx hb hr hlocks hK hP hD hS (rfl) trivial rfl rfl (rfl) (Nat.le_of_ble_eq_true rfl) (Nat.le_of_ble_eq_true rfl) dX10_fold_35
  · refine lv_iload_n hx hb dX10_fold_12 rfl (lv_at hl 2 rfl) ?_
    refine z_i2l hx hb (by omega) dX10_fold_13 ?_
    refine z_lconst hx hb 0 dX10_fold_14 rfl ?_
    refine z_lconst hx hb 1 dX10_fold_15 rfl ?_
    refine z_cSi (As := [vL w, vL 0, vL 1]) (rest := []) ⟨hx, hb, hml, hown, hts⟩ hK hP hD hS hA [] [0] rfl rfl rfl (c_X10_in l g w 0 1 (by first | decide | omega) (by first | decide | omega) (by first | decide | omega)) (va_cwS 3 hts gX10_fold_X10_in rfl rfl rfl (by decide +kernel) ⟨Nat.le_of_ble_eq_true rfl, Nat.le_of_ble_eq_true rfl⟩) (fun _ _ _ _ _ _ => trivial) (fun _ _ _ => trivial) rfl hl.1 (Nat.le_of_ble_eq_true rfl) rfl dX10_fold_16 ⟨Nat.le_of_ble_eq_true rfl, Nat.le_of_ble_eq_true rfl⟩ (fun u_4 H locs hwu_4 hP hD hS => ?_)
    try dsimp only at hwu_4
    have hP : zP g [[mdl q a x]] H := hP
    have hD : zD A [[mdl q a x]] := hD
    refine z_toI (inI w 0 1) rfl ?_
    have hf_5 := inI_s w 0 1
    refine z_if_eq (tgt := 32) hx hb (by omega) dX10_fold_19 (by decide) (fun cq6 => ?_) (fun cq6 => ?_)
    · refine z_ldc2 hx hb (-2000000002) hown (hts _ (List.mem_of_getElem? (i := 2) rfl)) rfl dX10_fold_32 ?_
      exact z_retl () [0] hx hb hr hlocks hK hP hD hS (rfl) trivial rfl rfl (rfl) (Nat.le_of_ble_eq_true rfl) (Nat.le_of_ble_eq_true rfl) dX10_fold_35
    · refine lv_iload_n hx hb dX10_fold_22 rfl (lv_at hl 3 rfl) ?_
      refine z_i2l hx hb (by omega) dX10_fold_23 ?_
      refine z_lconst hx hb 0 dX10_fold_24 rfl ?_
      refine z_lconst hx hb 1 dX10_fold_25 rfl ?_
      refine z_cSi (As := [vL j, vL 0, vL 1]) (rest := []) ⟨hx, hb, hml, hown, hts⟩ hK hP hD hS hA [] [0] rfl rfl rfl (c_X10_in l g j 0 1 (by first | decide | omega) (by first | decide | omega) (by first | decide | omega)) (va_cwS 3 hts gX10_fold_X10_in rfl rfl rfl (by decide +kernel) ⟨Nat.le_of_ble_eq_true rfl, Nat.le_of_ble_eq_true rfl⟩) (fun _ _ _ _ _ _ => trivial) (fun _ _ _ => trivial) rfl hl.1 (Nat.le_of_ble_eq_true rfl) rfl dX10_fold_26 ⟨Nat.le_of_ble_eq_true rfl, Nat.le_of_ble_eq_true rfl⟩ (fun u_7 H locs hwu_7 hP hD hS => ?_)
      try dsimp only at hwu_7
      have hP : zP g [[mdl q a x]] H := hP
      have hD : zD A [[mdl q a x]] := hD
      refine z_toI (inI j 0 1) rfl ?_
      have hf_8 := inI_s j 0 1
      refine z_if_ne (tgt := 36) hx hb (by omega) dX10_fold_29 (by decide) (fun cq9 => False.elim (by omega)) (fun cq9 => ?_)
      refine z_ldc2 hx hb (-2000000002) hown (hts _ (List.mem_of_getElem? (i := 2) rfl)) rfl dX10_fold_32 ?_
      exact z_retl () [0] hx hb hr hlocks hK hP hD hS (rfl) trivial rfl rfl (rfl) (Nat.le_of_ble_eq_true rfl) (Nat.le_of_ble_eq_true rfl) dX10_fold_35

set_option maxHeartbeats 4000000 in
set_option maxRecDepth 100000 in
theorem c_X10_fold0 (l : Launch) (g : zG) (q : Nat) (a : Nat → Nat) (x : Nat → Int) (S : RS) (w : Nat) (j : Int) (hz : S.2.2 = 0 ∨ S.2.2 = 1) (hk : ∀ k, k < 6 → rk S k) (hw : w < 2) (hj : 0 ≤ j ∧ j ≤ 1) : zMet l g yX10_fold wsX10_fold 6 0 0 [.ref q, vI 0, vI ((w : Nat) : Int), vI j] zX0 [[mdl q a (uI x 9 S.2.2)], [((a 0), .inl (g.2 1, 88, .inr (.inl (aL S.1))))], [((a 1), .inl (g.2 1, 88, .inr (.inl (aL S.2.1))))]] (ql g (fun (_ : Unit) => (if (rFd 0 4 (rFd 0 2 (rFd 0 0 (rL0 82 (rZ0 S))))).2.2 = 0 then (if j = 0 then (rFd 0 4 (rFd 0 2 (rFd 0 0 (rL0 82 (rZ0 S))))).1 (82 + w) else (rFd 0 4 (rFd 0 2 (rFd 0 0 (rL0 82 (rZ0 S))))).2.1 (82 + w)) else -2000000004)) (fun (_ : Unit) => True) (fun (_ : Unit) => [[mdl q a (uI x 9 (rFd 0 4 (rFd 0 2 (rFd 0 0 (rL0 82 (rZ0 S))))).2.2)], [((a 0), .inl (g.2 1, 88, .inr (.inl (aL (rFd 0 4 (rFd 0 2 (rFd 0 0 (rL0 82 (rZ0 S))))).1))))], [((a 1), .inl (g.2 1, 88, .inr (.inl (aL (rFd 0 4 (rFd 0 2 (rFd 0 0 (rL0 82 (rZ0 S))))).2.1))))]])) := by
  refine z_ent (cc := cX10_fold) (maxL := 5) (ret := (some .long)) (by decide) rfl (Nat.le_of_ble_eq_true rfl) ?_
  intro p e s m below meth c A ls hx hb hr hml hown hts hlocks hin0 hA hK hP hD hS hXX hl
  have hown : s.vm.findClass RX10 = some m.cls := hown
  have hin10_ : ∀ w ∈ wsX100, w ∈ wsX10_fold := zw_in [65, 66, 67, 68, 69, 70, 71, 72, 73, 74, 75, 76, 77, 78, 79, 80, 81, 82, 83, 84, 85, 86, 87, 88, 89, 90] rfl
  have hl : lv_has ls 5 [(0, .ref q), (1, vI 0), (2, vI ((w : Nat) : Int)), (3, vI j)] := hl
  refine lv_iload_n hx hb dX10_fold_0 rfl (lv_at hl 1 rfl) ?_
  refine z_i2l hx hb (by decide) dX10_fold_1 ?_
  refine z_lconst hx hb 0 dX10_fold_2 rfl ?_
  refine z_ldc2 hx hb 3 hown (hts _ (List.mem_of_getElem? (i := 1) rfl)) rfl dX10_fold_3 ?_
  refine z_cSi (As := [vL 0, vL 0, vL 3]) (rest := []) ⟨hx, hb, hml, hown, hts⟩ hK hP hD hS hA [] [0, 1, 2] rfl rfl rfl (c_X10_in l g 0 0 3 (by first | decide | omega) (by first | decide | omega) (by first | decide | omega)) (va_cwS 3 hts gX10_fold_X10_in rfl rfl rfl (by decide +kernel) ⟨Nat.le_of_ble_eq_true rfl, Nat.le_of_ble_eq_true rfl⟩) (fun _ _ _ _ _ _ => trivial) (fun _ _ _ => trivial) rfl hl.1 (Nat.le_of_ble_eq_true rfl) rfl dX10_fold_6 ⟨Nat.le_of_ble_eq_true rfl, Nat.le_of_ble_eq_true rfl⟩ (fun u_1 H locs hwu_1 hP hD hS => ?_)
  try dsimp only at hwu_1
  have hP : zP g [[mdl q a (uI x 9 S.2.2)], [((a 0), .inl (g.2 1, 88, .inr (.inl (aL S.1))))], [((a 1), .inl (g.2 1, 88, .inr (.inl (aL S.2.1))))]] H := hP
  have hD : zD A [[mdl q a (uI x 9 S.2.2)], [((a 0), .inl (g.2 1, 88, .inr (.inl (aL S.1))))], [((a 1), .inl (g.2 1, 88, .inr (.inl (aL S.2.1))))]] := hD
  refine z_toI (inI 0 0 3) rfl ?_
  have hf_2 := inI_s 0 0 3
  refine z_if_eq (tgt := 32) hx hb (by omega) dX10_fold_9 (by decide) (fun cq3 => False.elim (by omega)) (fun cq3 => ?_)
  refine lv_iload_n hx hb dX10_fold_12 rfl (lv_at hl 2 rfl) ?_
  refine z_i2l hx hb (by omega) dX10_fold_13 ?_
  refine z_lconst hx hb 0 dX10_fold_14 rfl ?_
  refine z_lconst hx hb 1 dX10_fold_15 rfl ?_
  refine z_cSi (As := [vL ((w : Nat) : Int), vL 0, vL 1]) (rest := []) ⟨hx, hb, hml, hown, hts⟩ hK hP hD hS hA [] [0, 1, 2] rfl rfl rfl (c_X10_in l g ((w : Nat) : Int) 0 1 (by first | decide | omega) (by first | decide | omega) (by first | decide | omega)) (va_cwS 3 hts gX10_fold_X10_in rfl rfl rfl (by decide +kernel) ⟨Nat.le_of_ble_eq_true rfl, Nat.le_of_ble_eq_true rfl⟩) (fun _ _ _ _ _ _ => trivial) (fun _ _ _ => trivial) rfl hl.1 (Nat.le_of_ble_eq_true rfl) rfl dX10_fold_16 ⟨Nat.le_of_ble_eq_true rfl, Nat.le_of_ble_eq_true rfl⟩ (fun u_4 H locs hwu_4 hP hD hS => ?_)
  try dsimp only at hwu_4
  have hP : zP g [[mdl q a (uI x 9 S.2.2)], [((a 0), .inl (g.2 1, 88, .inr (.inl (aL S.1))))], [((a 1), .inl (g.2 1, 88, .inr (.inl (aL S.2.1))))]] H := hP
  have hD : zD A [[mdl q a (uI x 9 S.2.2)], [((a 0), .inl (g.2 1, 88, .inr (.inl (aL S.1))))], [((a 1), .inl (g.2 1, 88, .inr (.inl (aL S.2.1))))]] := hD
  refine z_toI (inI ((w : Nat) : Int) 0 1) rfl ?_
  have hf_5 := inI_s ((w : Nat) : Int) 0 1
  refine z_if_eq (tgt := 32) hx hb (by omega) dX10_fold_19 (by decide) (fun cq6 => False.elim (by omega)) (fun cq6 => ?_)
  refine lv_iload_n hx hb dX10_fold_22 rfl (lv_at hl 3 rfl) ?_
  refine z_i2l hx hb (by omega) dX10_fold_23 ?_
  refine z_lconst hx hb 0 dX10_fold_24 rfl ?_
  refine z_lconst hx hb 1 dX10_fold_25 rfl ?_
  refine z_cSi (As := [vL j, vL 0, vL 1]) (rest := []) ⟨hx, hb, hml, hown, hts⟩ hK hP hD hS hA [] [0, 1, 2] rfl rfl rfl (c_X10_in l g j 0 1 (by first | decide | omega) (by first | decide | omega) (by first | decide | omega)) (va_cwS 3 hts gX10_fold_X10_in rfl rfl rfl (by decide +kernel) ⟨Nat.le_of_ble_eq_true rfl, Nat.le_of_ble_eq_true rfl⟩) (fun _ _ _ _ _ _ => trivial) (fun _ _ _ => trivial) rfl hl.1 (Nat.le_of_ble_eq_true rfl) rfl dX10_fold_26 ⟨Nat.le_of_ble_eq_true rfl, Nat.le_of_ble_eq_true rfl⟩ (fun u_7 H locs hwu_7 hP hD hS => ?_)
  try dsimp only at hwu_7
  have hP : zP g [[mdl q a (uI x 9 S.2.2)], [((a 0), .inl (g.2 1, 88, .inr (.inl (aL S.1))))], [((a 1), .inl (g.2 1, 88, .inr (.inl (aL S.2.1))))]] H := hP
  have hD : zD A [[mdl q a (uI x 9 S.2.2)], [((a 0), .inl (g.2 1, 88, .inr (.inl (aL S.1))))], [((a 1), .inl (g.2 1, 88, .inr (.inl (aL S.2.1))))]] := hD
  refine z_toI (inI j 0 1) rfl ?_
  have hf_8 := inI_s j 0 1
  refine z_if_ne (tgt := 36) hx hb (by omega) dX10_fold_29 (by decide) (fun cq9 => ?_) (fun cq9 => False.elim (by omega))
  refine lv_aload_n hx hb dX10_fold_36 rfl (lv_at hl 0 rfl) ?_
  refine z_iconst hx hb dX10_fold_37 rfl ?_
  refine z_put hx hb hts hin10_ tyX10 tyX10_ok nmX10 hown hK hP hD hS 0 rfl rfl 22 (by decide) (hts _ (List.mem_of_getElem? (i := 3) rfl)) rfl (nar_z (by decide)) (fit_z (by decide)) (Nat.le_of_ble_eq_true rfl) dX10_fold_38 [[mdl q a (uI x 9 0)], [((a 0), .inl (g.2 1, 88, .inr (.inl (aL S.1))))], [((a 1), .inl (g.2 1, 88, .inr (.inl (aL S.2.1))))]] rfl (fun H locs hP hD hS => ?_)
  obtain ⟨T_10, hT_10⟩ : ∃ T : RS, T = rZ0  S := ⟨_, rfl⟩
  have hP : zP g [[mdl q a (uI x 9 T_10.2.2)], [((a 0), .inl (g.2 1, 88, .inr (.inl (aL T_10.1))))], [((a 1), .inl (g.2 1, 88, .inr (.inl (aL T_10.2.1))))]] H := by rw [hT_10]; exact hP
  have hD : zD A [[mdl q a (uI x 9 T_10.2.2)], [((a 0), .inl (g.2 1, 88, .inr (.inl (aL T_10.1))))], [((a 1), .inl (g.2 1, 88, .inr (.inl (aL T_10.2.1))))]] := by rw [hT_10]; exact hD
  have hZT_10 : T_10.2.2 = 0 ∨ T_10.2.2 = 1 := by rw [hT_10]; exact rZ0_01 hz
  have hNT_10_0 : T_10.2.2 = 0 → rk T_10 0 := by rw [hT_10]; exact rZ0_r (hk 0 (by decide)) 
  have hNT_10_1 : T_10.2.2 = 0 → rk T_10 1 := by rw [hT_10]; exact rZ0_r (hk 1 (by decide)) 
  have hNT_10_2 : T_10.2.2 = 0 → rk T_10 2 := by rw [hT_10]; exact rZ0_r (hk 2 (by decide)) 
  have hNT_10_3 : T_10.2.2 = 0 → rk T_10 3 := by rw [hT_10]; exact rZ0_r (hk 3 (by decide)) 
  have hNT_10_4 : T_10.2.2 = 0 → rk T_10 4 := by rw [hT_10]; exact rZ0_r (hk 4 (by decide)) 
  have hNT_10_5 : T_10.2.2 = 0 → rk T_10 5 := by rw [hT_10]; exact rZ0_r (hk 5 (by decide)) 
  refine lv_aload_n hx hb dX10_fold_41 rfl (lv_at hl 0 rfl) ?_
  refine z_bipush hx hb 82 dX10_fold_42 rfl ?_
  refine z_cVv (As := [vI 82]) (rest := []) ⟨hx, hb, hml, hown, hts⟩ hK hP hD hS hA [0, 1, 2] [] rfl rfl rfl (c_X10_layNought l g q a (uI x 9 T_10.2.2) T_10 82 (by omega)) (cwV 1 hts gX10_fold_X10_layNought rfl rfl rfl (by decide +kernel) ⟨Nat.le_of_ble_eq_true rfl, Nat.le_of_ble_eq_true rfl⟩) 10 0 rfl rfl rfl (fun _ _ _ _ _ _ => trivial) (fun _ _ _ => trivial) rfl hl.1 (Nat.le_of_ble_eq_true rfl) rfl dX10_fold_44 ⟨Nat.le_of_ble_eq_true rfl, Nat.le_of_ble_eq_true rfl⟩ (fun u_11 H locs hwu_11 hP hD hS => ?_)
  try dsimp only at hwu_11
  have hP : zP g [[mdl q a (uI x 9 T_10.2.2)], [((a 0), .inl (g.2 1, 88, .inr (.inl (aL (rL0 82 T_10).1))))], [((a 1), .inl (g.2 1, 88, .inr (.inl (aL (rL0 82 T_10).2.1))))]] H := hP
  have hD : zD A [[mdl q a (uI x 9 T_10.2.2)], [((a 0), .inl (g.2 1, 88, .inr (.inl (aL (rL0 82 T_10).1))))], [((a 1), .inl (g.2 1, 88, .inr (.inl (aL (rL0 82 T_10).2.1))))]] := hD
  obtain ⟨T_12, hT_12⟩ : ∃ T : RS, T = rL0 82 T_10 := ⟨_, rfl⟩
  have hP : zP g [[mdl q a (uI x 9 T_12.2.2)], [((a 0), .inl (g.2 1, 88, .inr (.inl (aL T_12.1))))], [((a 1), .inl (g.2 1, 88, .inr (.inl (aL T_12.2.1))))]] H := by rw [hT_12]; exact hP
  have hD : zD A [[mdl q a (uI x 9 T_12.2.2)], [((a 0), .inl (g.2 1, 88, .inr (.inl (aL T_12.1))))], [((a 1), .inl (g.2 1, 88, .inr (.inl (aL T_12.2.1))))]] := by rw [hT_12]; exact hD
  have hZT_12 : T_12.2.2 = 0 ∨ T_12.2.2 = 1 := by rw [hT_12]; exact rL0_01 hZT_10
  have hRT_12_0 : T_12.2.2 = 0 → rk T_12 0 := by rw [hT_12]; exact rL0_rk (by omega) (by omega) hNT_10_0
  have hRT_12_1 : T_12.2.2 = 0 → rk T_12 1 := by rw [hT_12]; exact rL0_rk (by omega) (by omega) hNT_10_1
  have hRT_12_2 : T_12.2.2 = 0 → rk T_12 2 := by rw [hT_12]; exact rL0_rk (by omega) (by omega) hNT_10_2
  have hRT_12_3 : T_12.2.2 = 0 → rk T_12 3 := by rw [hT_12]; exact rL0_rk (by omega) (by omega) hNT_10_3
  have hRT_12_4 : T_12.2.2 = 0 → rk T_12 4 := by rw [hT_12]; exact rL0_rk (by omega) (by omega) hNT_10_4
  have hRT_12_5 : T_12.2.2 = 0 → rk T_12 5 := by rw [hT_12]; exact rL0_rk (by omega) (by omega) hNT_10_5
  have hNT_12_0 : T_12.2.2 = 0 → rk T_12 82 := by rw [hT_12]; exact rL0_r0 
  have hNT_12_1 : T_12.2.2 = 0 → rk T_12 83 := by rw [hT_12]; exact rL0_r1 
  refine z_iconst hx hb dX10_fold_47 rfl ?_
  refine lv_istore (lv' := [(4, vI 0), (0, .ref q), (1, vI 0), (2, vI ((w : Nat) : Int)), (3, vI j)]) hx hb dX10_fold_48 hl (by decide) rfl (fun ls hl => ?_)
  refine lv_iload hx hb dX10_fold_50 (lv_at hl 0 rfl) ?_
  refine z_iconst hx hb dX10_fold_52 rfl ?_
  refine z_icmp_ge (tgt := 71) hx hb (by decide) (by decide) dX10_fold_53 (by decide) (fun cq13 => False.elim (by omega)) (fun cq13 => ?_)
  refine lv_aload_n hx hb dX10_fold_56 rfl (lv_at hl 1 rfl) ?_
  refine lv_iload_n hx hb dX10_fold_57 rfl (lv_at hl 2 rfl) ?_
  refine z_iconst hx hb dX10_fold_58 rfl ?_
  refine lv_iload hx hb dX10_fold_59 (lv_at hl 0 rfl) ?_
  refine z_imul hx hb 0 rfl dX10_fold_61 ?_
  refine z_cVv (As := [vI 0, vI 0]) (rest := []) ⟨hx, hb, hml, hown, hts⟩ hK hP hD hS hA [0, 1, 2] [] rfl rfl rfl (c_X10_folds0 l g q a (uI x 9 T_12.2.2) T_12 0 (by omega) hZT_12 hNT_12_0 hNT_12_1 hRT_12_0 hRT_12_1) (cwV 2 hts gX10_fold_X10_folds rfl rfl rfl (by decide +kernel) ⟨Nat.le_of_ble_eq_true rfl, Nat.le_of_ble_eq_true rfl⟩) 10 0 rfl rfl rfl (fun _ _ _ _ _ _ => trivial) (fun _ _ _ => trivial) rfl hl.1 (Nat.le_of_ble_eq_true rfl) rfl dX10_fold_62 ⟨Nat.le_of_ble_eq_true rfl, Nat.le_of_ble_eq_true rfl⟩ (fun u_14 H locs hwu_14 hP hD hS => ?_)
  try dsimp only at hwu_14
  have hP : zP g [[mdl q a (uI x 9 (rFd 0 0 T_12).2.2)], [((a 0), .inl (g.2 1, 88, .inr (.inl (aL (rFd 0 0 T_12).1))))], [((a 1), .inl (g.2 1, 88, .inr (.inl (aL (rFd 0 0 T_12).2.1))))]] H := hP
  have hD : zD A [[mdl q a (uI x 9 (rFd 0 0 T_12).2.2)], [((a 0), .inl (g.2 1, 88, .inr (.inl (aL (rFd 0 0 T_12).1))))], [((a 1), .inl (g.2 1, 88, .inr (.inl (aL (rFd 0 0 T_12).2.1))))]] := hD
  obtain ⟨T_15, hT_15⟩ : ∃ T : RS, T = rFd 0 0 T_12 := ⟨_, rfl⟩
  have hP : zP g [[mdl q a (uI x 9 T_15.2.2)], [((a 0), .inl (g.2 1, 88, .inr (.inl (aL T_15.1))))], [((a 1), .inl (g.2 1, 88, .inr (.inl (aL T_15.2.1))))]] H := by rw [hT_15]; exact hP
  have hD : zD A [[mdl q a (uI x 9 T_15.2.2)], [((a 0), .inl (g.2 1, 88, .inr (.inl (aL T_15.1))))], [((a 1), .inl (g.2 1, 88, .inr (.inl (aL T_15.2.1))))]] := by rw [hT_15]; exact hD
  have hZT_15 : T_15.2.2 = 0 ∨ T_15.2.2 = 1 := by rw [hT_15]; exact rFd_01 hZT_12
  have hRT_15_0 : T_15.2.2 = 0 → rk T_15 0 := by rw [hT_15]; exact rFd_rk (by omega) hRT_12_0
  have hRT_15_1 : T_15.2.2 = 0 → rk T_15 1 := by rw [hT_15]; exact rFd_rk (by omega) hRT_12_1
  have hRT_15_2 : T_15.2.2 = 0 → rk T_15 2 := by rw [hT_15]; exact rFd_rk (by omega) hRT_12_2
  have hRT_15_3 : T_15.2.2 = 0 → rk T_15 3 := by rw [hT_15]; exact rFd_rk (by omega) hRT_12_3
  have hRT_15_4 : T_15.2.2 = 0 → rk T_15 4 := by rw [hT_15]; exact rFd_rk (by omega) hRT_12_4
  have hRT_15_5 : T_15.2.2 = 0 → rk T_15 5 := by rw [hT_15]; exact rFd_rk (by omega) hRT_12_5
  have hNT_15_0 : T_15.2.2 = 0 → rk T_15 82 := by rw [hT_15]; exact rFd_r0 (by omega) hNT_12_0 hNT_12_1 hRT_12_0 hRT_12_1
  have hNT_15_1 : T_15.2.2 = 0 → rk T_15 83 := by rw [hT_15]; exact rFd_r1 (by omega) hNT_12_0 hNT_12_1 hRT_12_0 hRT_12_1
  refine z_iinc hx hb 1 (lv' := [(4, vI 1), (0, .ref q), (1, vI 0), (2, vI ((w : Nat) : Int)), (3, vI j)]) dX10_fold_65 hl (k := 0) rfl (rfl) (by decide) rfl (fun ls hl => ?_)
  refine lv_goto (tgt := 50) hx hb dX10_fold_68 (by decide) ?_
  refine lv_iload hx hb dX10_fold_50 (lv_at hl 0 rfl) ?_
  refine z_iconst hx hb dX10_fold_52 rfl ?_
  refine z_icmp_ge (tgt := 71) hx hb (by decide) (by decide) dX10_fold_53 (by decide) (fun cq16 => False.elim (by omega)) (fun cq16 => ?_)
  refine lv_aload_n hx hb dX10_fold_56 rfl (lv_at hl 1 rfl) ?_
  refine lv_iload_n hx hb dX10_fold_57 rfl (lv_at hl 2 rfl) ?_
  refine z_iconst hx hb dX10_fold_58 rfl ?_
  refine lv_iload hx hb dX10_fold_59 (lv_at hl 0 rfl) ?_
  refine z_imul hx hb 2 rfl dX10_fold_61 ?_
  refine z_cVv (As := [vI 0, vI 2]) (rest := []) ⟨hx, hb, hml, hown, hts⟩ hK hP hD hS hA [0, 1, 2] [] rfl rfl rfl (c_X10_folds0 l g q a (uI x 9 T_15.2.2) T_15 2 (by omega) hZT_15 hNT_15_0 hNT_15_1 hRT_15_2 hRT_15_3) (cwV 2 hts gX10_fold_X10_folds rfl rfl rfl (by decide +kernel) ⟨Nat.le_of_ble_eq_true rfl, Nat.le_of_ble_eq_true rfl⟩) 10 0 rfl rfl rfl (fun _ _ _ _ _ _ => trivial) (fun _ _ _ => trivial) rfl hl.1 (Nat.le_of_ble_eq_true rfl) rfl dX10_fold_62 ⟨Nat.le_of_ble_eq_true rfl, Nat.le_of_ble_eq_true rfl⟩ (fun u_17 H locs hwu_17 hP hD hS => ?_)
  try dsimp only at hwu_17
  have hP : zP g [[mdl q a (uI x 9 (rFd 0 2 T_15).2.2)], [((a 0), .inl (g.2 1, 88, .inr (.inl (aL (rFd 0 2 T_15).1))))], [((a 1), .inl (g.2 1, 88, .inr (.inl (aL (rFd 0 2 T_15).2.1))))]] H := hP
  have hD : zD A [[mdl q a (uI x 9 (rFd 0 2 T_15).2.2)], [((a 0), .inl (g.2 1, 88, .inr (.inl (aL (rFd 0 2 T_15).1))))], [((a 1), .inl (g.2 1, 88, .inr (.inl (aL (rFd 0 2 T_15).2.1))))]] := hD
  obtain ⟨T_18, hT_18⟩ : ∃ T : RS, T = rFd 0 2 T_15 := ⟨_, rfl⟩
  have hP : zP g [[mdl q a (uI x 9 T_18.2.2)], [((a 0), .inl (g.2 1, 88, .inr (.inl (aL T_18.1))))], [((a 1), .inl (g.2 1, 88, .inr (.inl (aL T_18.2.1))))]] H := by rw [hT_18]; exact hP
  have hD : zD A [[mdl q a (uI x 9 T_18.2.2)], [((a 0), .inl (g.2 1, 88, .inr (.inl (aL T_18.1))))], [((a 1), .inl (g.2 1, 88, .inr (.inl (aL T_18.2.1))))]] := by rw [hT_18]; exact hD
  have hZT_18 : T_18.2.2 = 0 ∨ T_18.2.2 = 1 := by rw [hT_18]; exact rFd_01 hZT_15
  have hRT_18_0 : T_18.2.2 = 0 → rk T_18 0 := by rw [hT_18]; exact rFd_rk (by omega) hRT_15_0
  have hRT_18_1 : T_18.2.2 = 0 → rk T_18 1 := by rw [hT_18]; exact rFd_rk (by omega) hRT_15_1
  have hRT_18_2 : T_18.2.2 = 0 → rk T_18 2 := by rw [hT_18]; exact rFd_rk (by omega) hRT_15_2
  have hRT_18_3 : T_18.2.2 = 0 → rk T_18 3 := by rw [hT_18]; exact rFd_rk (by omega) hRT_15_3
  have hRT_18_4 : T_18.2.2 = 0 → rk T_18 4 := by rw [hT_18]; exact rFd_rk (by omega) hRT_15_4
  have hRT_18_5 : T_18.2.2 = 0 → rk T_18 5 := by rw [hT_18]; exact rFd_rk (by omega) hRT_15_5
  have hNT_18_0 : T_18.2.2 = 0 → rk T_18 82 := by rw [hT_18]; exact rFd_r0 (by omega) hNT_15_0 hNT_15_1 hRT_15_2 hRT_15_3
  have hNT_18_1 : T_18.2.2 = 0 → rk T_18 83 := by rw [hT_18]; exact rFd_r1 (by omega) hNT_15_0 hNT_15_1 hRT_15_2 hRT_15_3
  refine z_iinc hx hb 2 (lv' := [(4, vI 2), (0, .ref q), (1, vI 0), (2, vI ((w : Nat) : Int)), (3, vI j)]) dX10_fold_65 hl (k := 0) rfl (rfl) (by decide) rfl (fun ls hl => ?_)
  refine lv_goto (tgt := 50) hx hb dX10_fold_68 (by decide) ?_
  refine lv_iload hx hb dX10_fold_50 (lv_at hl 0 rfl) ?_
  refine z_iconst hx hb dX10_fold_52 rfl ?_
  refine z_icmp_ge (tgt := 71) hx hb (by decide) (by decide) dX10_fold_53 (by decide) (fun cq19 => False.elim (by omega)) (fun cq19 => ?_)
  refine lv_aload_n hx hb dX10_fold_56 rfl (lv_at hl 1 rfl) ?_
  refine lv_iload_n hx hb dX10_fold_57 rfl (lv_at hl 2 rfl) ?_
  refine z_iconst hx hb dX10_fold_58 rfl ?_
  refine lv_iload hx hb dX10_fold_59 (lv_at hl 0 rfl) ?_
  refine z_imul hx hb 4 rfl dX10_fold_61 ?_
  refine z_cVv (As := [vI 0, vI 4]) (rest := []) ⟨hx, hb, hml, hown, hts⟩ hK hP hD hS hA [0, 1, 2] [] rfl rfl rfl (c_X10_folds0 l g q a (uI x 9 T_18.2.2) T_18 4 (by omega) hZT_18 hNT_18_0 hNT_18_1 hRT_18_4 hRT_18_5) (cwV 2 hts gX10_fold_X10_folds rfl rfl rfl (by decide +kernel) ⟨Nat.le_of_ble_eq_true rfl, Nat.le_of_ble_eq_true rfl⟩) 10 0 rfl rfl rfl (fun _ _ _ _ _ _ => trivial) (fun _ _ _ => trivial) rfl hl.1 (Nat.le_of_ble_eq_true rfl) rfl dX10_fold_62 ⟨Nat.le_of_ble_eq_true rfl, Nat.le_of_ble_eq_true rfl⟩ (fun u_20 H locs hwu_20 hP hD hS => ?_)
  try dsimp only at hwu_20
  have hP : zP g [[mdl q a (uI x 9 (rFd 0 4 T_18).2.2)], [((a 0), .inl (g.2 1, 88, .inr (.inl (aL (rFd 0 4 T_18).1))))], [((a 1), .inl (g.2 1, 88, .inr (.inl (aL (rFd 0 4 T_18).2.1))))]] H := hP
  have hD : zD A [[mdl q a (uI x 9 (rFd 0 4 T_18).2.2)], [((a 0), .inl (g.2 1, 88, .inr (.inl (aL (rFd 0 4 T_18).1))))], [((a 1), .inl (g.2 1, 88, .inr (.inl (aL (rFd 0 4 T_18).2.1))))]] := hD
  obtain ⟨T_21, hT_21⟩ : ∃ T : RS, T = rFd 0 4 T_18 := ⟨_, rfl⟩
  have hP : zP g [[mdl q a (uI x 9 T_21.2.2)], [((a 0), .inl (g.2 1, 88, .inr (.inl (aL T_21.1))))], [((a 1), .inl (g.2 1, 88, .inr (.inl (aL T_21.2.1))))]] H := by rw [hT_21]; exact hP
  have hD : zD A [[mdl q a (uI x 9 T_21.2.2)], [((a 0), .inl (g.2 1, 88, .inr (.inl (aL T_21.1))))], [((a 1), .inl (g.2 1, 88, .inr (.inl (aL T_21.2.1))))]] := by rw [hT_21]; exact hD
  have hZT_21 : T_21.2.2 = 0 ∨ T_21.2.2 = 1 := by rw [hT_21]; exact rFd_01 hZT_18
  have hRT_21_0 : T_21.2.2 = 0 → rk T_21 0 := by rw [hT_21]; exact rFd_rk (by omega) hRT_18_0
  have hRT_21_1 : T_21.2.2 = 0 → rk T_21 1 := by rw [hT_21]; exact rFd_rk (by omega) hRT_18_1
  have hRT_21_2 : T_21.2.2 = 0 → rk T_21 2 := by rw [hT_21]; exact rFd_rk (by omega) hRT_18_2
  have hRT_21_3 : T_21.2.2 = 0 → rk T_21 3 := by rw [hT_21]; exact rFd_rk (by omega) hRT_18_3
  have hRT_21_4 : T_21.2.2 = 0 → rk T_21 4 := by rw [hT_21]; exact rFd_rk (by omega) hRT_18_4
  have hRT_21_5 : T_21.2.2 = 0 → rk T_21 5 := by rw [hT_21]; exact rFd_rk (by omega) hRT_18_5
  have hNT_21_0 : T_21.2.2 = 0 → rk T_21 82 := by rw [hT_21]; exact rFd_r0 (by omega) hNT_18_0 hNT_18_1 hRT_18_4 hRT_18_5
  have hNT_21_1 : T_21.2.2 = 0 → rk T_21 83 := by rw [hT_21]; exact rFd_r1 (by omega) hNT_18_0 hNT_18_1 hRT_18_4 hRT_18_5
  refine z_iinc hx hb 3 (lv' := [(4, vI 3), (0, .ref q), (1, vI 0), (2, vI ((w : Nat) : Int)), (3, vI j)]) dX10_fold_65 hl (k := 0) rfl (rfl) (by decide) rfl (fun ls hl => ?_)
  refine lv_goto (tgt := 50) hx hb dX10_fold_68 (by decide) ?_
  refine lv_iload hx hb dX10_fold_50 (lv_at hl 0 rfl) ?_
  refine z_iconst hx hb dX10_fold_52 rfl ?_
  refine z_icmp_ge (tgt := 71) hx hb (by decide) (by decide) dX10_fold_53 (by decide) (fun cq22 => ?_) (fun cq22 => False.elim (by omega))
  refine lv_aload_n hx hb dX10_fold_71 rfl (lv_at hl 1 rfl) ?_
  refine z_get hx hb hts hin10_ hown hK hP 0 rfl rfl 22 (by decide) (hts _ (List.mem_of_getElem? (i := 3) rfl)) rfl dX10_fold_72 ?_
  refine z_toI T_21.2.2 rfl ?_
  refine z_if_eq (tgt := 84) hx hb (by omega) dX10_fold_75 (by decide) (fun cq23 => ?_) (fun cq23 => ?_)
  · refine lv_aload_n hx hb dX10_fold_84 rfl (lv_at hl 1 rfl) ?_
    refine z_bipush hx hb 82 dX10_fold_85 rfl ?_
    refine lv_iload_n hx hb dX10_fold_87 rfl (lv_at hl 3 rfl) ?_
    refine z_iadd hx hb (((82 + w) : Nat) : Int) (by omega) dX10_fold_88 ?_
    refine lv_iload_n hx hb dX10_fold_89 rfl (lv_at hl 4 rfl) ?_
    refine z_cVl (As := [vI (((82 + w) : Nat) : Int), vI j]) (rest := []) ⟨hx, hb, hml, hown, hts⟩ hK hP hD hS hA [0, 1, 2] [] rfl rfl rfl (c_X10_partOf l g q a (uI x 9 T_21.2.2) T_21 (82 + w) j (by omega) (by omega)) (cwV 2 hts gX10_fold_X10_partOf rfl rfl rfl (by decide +kernel) ⟨Nat.le_of_ble_eq_true rfl, Nat.le_of_ble_eq_true rfl⟩) 10 0 rfl rfl rfl (fun _ _ _ _ _ _ => trivial) (fun _ _ _ => trivial) rfl hl.1 (Nat.le_of_ble_eq_true rfl) rfl dX10_fold_90 ⟨Nat.le_of_ble_eq_true rfl, Nat.le_of_ble_eq_true rfl⟩ (fun u_24 H locs hwu_24 hP hD hS => ?_)
    try dsimp only at hwu_24
    have hP : zP g [[mdl q a (uI x 9 T_21.2.2)], [((a 0), .inl (g.2 1, 88, .inr (.inl (aL T_21.1))))], [((a 1), .inl (g.2 1, 88, .inr (.inl (aL T_21.2.1))))]] H := hP
    have hD : zD A [[mdl q a (uI x 9 T_21.2.2)], [((a 0), .inl (g.2 1, 88, .inr (.inl (aL T_21.1))))], [((a 1), .inl (g.2 1, 88, .inr (.inl (aL T_21.2.1))))]] := hD
    refine z_toL (if j = 0 then T_21.1 (82 + w) else T_21.2.1 (82 + w)) rfl ?_
    have hE : T_21 = (rFd 0 4 (rFd 0 2 (rFd 0 0 (rL0 82 (rZ0 S))))) := by rw [hT_21, hT_18, hT_15, hT_12, hT_10]
    exact z_retl () [0, 1, 2] hx hb hr hlocks hK hP hD hS (by rw [← hE]; first | exact (if_pos (by omega)).symm | exact (if_neg (by omega)).symm) trivial rfl rfl (by rw [← hE]; rfl) (Nat.le_of_ble_eq_true rfl) (Nat.le_of_ble_eq_true rfl) dX10_fold_93
  · refine z_ldc2 hx hb (-2000000004) hown (hts _ (List.mem_of_getElem? (i := 4) rfl)) rfl dX10_fold_78 ?_
    refine lv_goto (tgt := 93) hx hb dX10_fold_81 (by decide) ?_
    have hE : T_21 = (rFd 0 4 (rFd 0 2 (rFd 0 0 (rL0 82 (rZ0 S))))) := by rw [hT_21, hT_18, hT_15, hT_12, hT_10]
    exact z_retl () [0, 1, 2] hx hb hr hlocks hK hP hD hS (by rw [← hE]; first | exact (if_pos (by omega)).symm | exact (if_neg (by omega)).symm) trivial rfl rfl (by rw [← hE]; rfl) (Nat.le_of_ble_eq_true rfl) (Nat.le_of_ble_eq_true rfl) dX10_fold_93

set_option maxHeartbeats 4000000 in
set_option maxRecDepth 100000 in
theorem c_X10_fold1 (l : Launch) (g : zG) (q : Nat) (a : Nat → Nat) (x : Nat → Int) (S : RS) (w : Nat) (j : Int) (hz : S.2.2 = 0 ∨ S.2.2 = 1) (hk : ∀ k, k < 6 → rk S k) (hw : w < 2) (hj : 0 ≤ j ∧ j ≤ 1) : zMet l g yX10_fold wsX10_fold 6 0 0 [.ref q, vI 1, vI ((w : Nat) : Int), vI j] zX0 [[mdl q a (uI x 9 S.2.2)], [((a 0), .inl (g.2 1, 88, .inr (.inl (aL S.1))))], [((a 1), .inl (g.2 1, 88, .inr (.inl (aL S.2.1))))]] (ql g (fun (_ : Unit) => (if (rFd 1 4 (rFd 1 2 (rFd 1 0 (rL0 82 (rZ0 S))))).2.2 = 0 then (if j = 0 then (rFd 1 4 (rFd 1 2 (rFd 1 0 (rL0 82 (rZ0 S))))).1 (82 + w) else (rFd 1 4 (rFd 1 2 (rFd 1 0 (rL0 82 (rZ0 S))))).2.1 (82 + w)) else -2000000004)) (fun (_ : Unit) => True) (fun (_ : Unit) => [[mdl q a (uI x 9 (rFd 1 4 (rFd 1 2 (rFd 1 0 (rL0 82 (rZ0 S))))).2.2)], [((a 0), .inl (g.2 1, 88, .inr (.inl (aL (rFd 1 4 (rFd 1 2 (rFd 1 0 (rL0 82 (rZ0 S))))).1))))], [((a 1), .inl (g.2 1, 88, .inr (.inl (aL (rFd 1 4 (rFd 1 2 (rFd 1 0 (rL0 82 (rZ0 S))))).2.1))))]])) := by
  refine z_ent (cc := cX10_fold) (maxL := 5) (ret := (some .long)) (by decide) rfl (Nat.le_of_ble_eq_true rfl) ?_
  intro p e s m below meth c A ls hx hb hr hml hown hts hlocks hin0 hA hK hP hD hS hXX hl
  have hown : s.vm.findClass RX10 = some m.cls := hown
  have hin10_ : ∀ w ∈ wsX100, w ∈ wsX10_fold := zw_in [65, 66, 67, 68, 69, 70, 71, 72, 73, 74, 75, 76, 77, 78, 79, 80, 81, 82, 83, 84, 85, 86, 87, 88, 89, 90] rfl
  have hl : lv_has ls 5 [(0, .ref q), (1, vI 1), (2, vI ((w : Nat) : Int)), (3, vI j)] := hl
  refine lv_iload_n hx hb dX10_fold_0 rfl (lv_at hl 1 rfl) ?_
  refine z_i2l hx hb (by decide) dX10_fold_1 ?_
  refine z_lconst hx hb 0 dX10_fold_2 rfl ?_
  refine z_ldc2 hx hb 3 hown (hts _ (List.mem_of_getElem? (i := 1) rfl)) rfl dX10_fold_3 ?_
  refine z_cSi (As := [vL 1, vL 0, vL 3]) (rest := []) ⟨hx, hb, hml, hown, hts⟩ hK hP hD hS hA [] [0, 1, 2] rfl rfl rfl (c_X10_in l g 1 0 3 (by first | decide | omega) (by first | decide | omega) (by first | decide | omega)) (va_cwS 3 hts gX10_fold_X10_in rfl rfl rfl (by decide +kernel) ⟨Nat.le_of_ble_eq_true rfl, Nat.le_of_ble_eq_true rfl⟩) (fun _ _ _ _ _ _ => trivial) (fun _ _ _ => trivial) rfl hl.1 (Nat.le_of_ble_eq_true rfl) rfl dX10_fold_6 ⟨Nat.le_of_ble_eq_true rfl, Nat.le_of_ble_eq_true rfl⟩ (fun u_1 H locs hwu_1 hP hD hS => ?_)
  try dsimp only at hwu_1
  have hP : zP g [[mdl q a (uI x 9 S.2.2)], [((a 0), .inl (g.2 1, 88, .inr (.inl (aL S.1))))], [((a 1), .inl (g.2 1, 88, .inr (.inl (aL S.2.1))))]] H := hP
  have hD : zD A [[mdl q a (uI x 9 S.2.2)], [((a 0), .inl (g.2 1, 88, .inr (.inl (aL S.1))))], [((a 1), .inl (g.2 1, 88, .inr (.inl (aL S.2.1))))]] := hD
  refine z_toI (inI 1 0 3) rfl ?_
  have hf_2 := inI_s 1 0 3
  refine z_if_eq (tgt := 32) hx hb (by omega) dX10_fold_9 (by decide) (fun cq3 => False.elim (by omega)) (fun cq3 => ?_)
  refine lv_iload_n hx hb dX10_fold_12 rfl (lv_at hl 2 rfl) ?_
  refine z_i2l hx hb (by omega) dX10_fold_13 ?_
  refine z_lconst hx hb 0 dX10_fold_14 rfl ?_
  refine z_lconst hx hb 1 dX10_fold_15 rfl ?_
  refine z_cSi (As := [vL ((w : Nat) : Int), vL 0, vL 1]) (rest := []) ⟨hx, hb, hml, hown, hts⟩ hK hP hD hS hA [] [0, 1, 2] rfl rfl rfl (c_X10_in l g ((w : Nat) : Int) 0 1 (by first | decide | omega) (by first | decide | omega) (by first | decide | omega)) (va_cwS 3 hts gX10_fold_X10_in rfl rfl rfl (by decide +kernel) ⟨Nat.le_of_ble_eq_true rfl, Nat.le_of_ble_eq_true rfl⟩) (fun _ _ _ _ _ _ => trivial) (fun _ _ _ => trivial) rfl hl.1 (Nat.le_of_ble_eq_true rfl) rfl dX10_fold_16 ⟨Nat.le_of_ble_eq_true rfl, Nat.le_of_ble_eq_true rfl⟩ (fun u_4 H locs hwu_4 hP hD hS => ?_)
  try dsimp only at hwu_4
  have hP : zP g [[mdl q a (uI x 9 S.2.2)], [((a 0), .inl (g.2 1, 88, .inr (.inl (aL S.1))))], [((a 1), .inl (g.2 1, 88, .inr (.inl (aL S.2.1))))]] H := hP
  have hD : zD A [[mdl q a (uI x 9 S.2.2)], [((a 0), .inl (g.2 1, 88, .inr (.inl (aL S.1))))], [((a 1), .inl (g.2 1, 88, .inr (.inl (aL S.2.1))))]] := hD
  refine z_toI (inI ((w : Nat) : Int) 0 1) rfl ?_
  have hf_5 := inI_s ((w : Nat) : Int) 0 1
  refine z_if_eq (tgt := 32) hx hb (by omega) dX10_fold_19 (by decide) (fun cq6 => False.elim (by omega)) (fun cq6 => ?_)
  refine lv_iload_n hx hb dX10_fold_22 rfl (lv_at hl 3 rfl) ?_
  refine z_i2l hx hb (by omega) dX10_fold_23 ?_
  refine z_lconst hx hb 0 dX10_fold_24 rfl ?_
  refine z_lconst hx hb 1 dX10_fold_25 rfl ?_
  refine z_cSi (As := [vL j, vL 0, vL 1]) (rest := []) ⟨hx, hb, hml, hown, hts⟩ hK hP hD hS hA [] [0, 1, 2] rfl rfl rfl (c_X10_in l g j 0 1 (by first | decide | omega) (by first | decide | omega) (by first | decide | omega)) (va_cwS 3 hts gX10_fold_X10_in rfl rfl rfl (by decide +kernel) ⟨Nat.le_of_ble_eq_true rfl, Nat.le_of_ble_eq_true rfl⟩) (fun _ _ _ _ _ _ => trivial) (fun _ _ _ => trivial) rfl hl.1 (Nat.le_of_ble_eq_true rfl) rfl dX10_fold_26 ⟨Nat.le_of_ble_eq_true rfl, Nat.le_of_ble_eq_true rfl⟩ (fun u_7 H locs hwu_7 hP hD hS => ?_)
  try dsimp only at hwu_7
  have hP : zP g [[mdl q a (uI x 9 S.2.2)], [((a 0), .inl (g.2 1, 88, .inr (.inl (aL S.1))))], [((a 1), .inl (g.2 1, 88, .inr (.inl (aL S.2.1))))]] H := hP
  have hD : zD A [[mdl q a (uI x 9 S.2.2)], [((a 0), .inl (g.2 1, 88, .inr (.inl (aL S.1))))], [((a 1), .inl (g.2 1, 88, .inr (.inl (aL S.2.1))))]] := hD
  refine z_toI (inI j 0 1) rfl ?_
  have hf_8 := inI_s j 0 1
  refine z_if_ne (tgt := 36) hx hb (by omega) dX10_fold_29 (by decide) (fun cq9 => ?_) (fun cq9 => False.elim (by omega))
  refine lv_aload_n hx hb dX10_fold_36 rfl (lv_at hl 0 rfl) ?_
  refine z_iconst hx hb dX10_fold_37 rfl ?_
  refine z_put hx hb hts hin10_ tyX10 tyX10_ok nmX10 hown hK hP hD hS 0 rfl rfl 22 (by decide) (hts _ (List.mem_of_getElem? (i := 3) rfl)) rfl (nar_z (by decide)) (fit_z (by decide)) (Nat.le_of_ble_eq_true rfl) dX10_fold_38 [[mdl q a (uI x 9 0)], [((a 0), .inl (g.2 1, 88, .inr (.inl (aL S.1))))], [((a 1), .inl (g.2 1, 88, .inr (.inl (aL S.2.1))))]] rfl (fun H locs hP hD hS => ?_)
  obtain ⟨T_10, hT_10⟩ : ∃ T : RS, T = rZ0  S := ⟨_, rfl⟩
  have hP : zP g [[mdl q a (uI x 9 T_10.2.2)], [((a 0), .inl (g.2 1, 88, .inr (.inl (aL T_10.1))))], [((a 1), .inl (g.2 1, 88, .inr (.inl (aL T_10.2.1))))]] H := by rw [hT_10]; exact hP
  have hD : zD A [[mdl q a (uI x 9 T_10.2.2)], [((a 0), .inl (g.2 1, 88, .inr (.inl (aL T_10.1))))], [((a 1), .inl (g.2 1, 88, .inr (.inl (aL T_10.2.1))))]] := by rw [hT_10]; exact hD
  have hZT_10 : T_10.2.2 = 0 ∨ T_10.2.2 = 1 := by rw [hT_10]; exact rZ0_01 hz
  have hNT_10_0 : T_10.2.2 = 0 → rk T_10 0 := by rw [hT_10]; exact rZ0_r (hk 0 (by decide)) 
  have hNT_10_1 : T_10.2.2 = 0 → rk T_10 1 := by rw [hT_10]; exact rZ0_r (hk 1 (by decide)) 
  have hNT_10_2 : T_10.2.2 = 0 → rk T_10 2 := by rw [hT_10]; exact rZ0_r (hk 2 (by decide)) 
  have hNT_10_3 : T_10.2.2 = 0 → rk T_10 3 := by rw [hT_10]; exact rZ0_r (hk 3 (by decide)) 
  have hNT_10_4 : T_10.2.2 = 0 → rk T_10 4 := by rw [hT_10]; exact rZ0_r (hk 4 (by decide)) 
  have hNT_10_5 : T_10.2.2 = 0 → rk T_10 5 := by rw [hT_10]; exact rZ0_r (hk 5 (by decide)) 
  refine lv_aload_n hx hb dX10_fold_41 rfl (lv_at hl 0 rfl) ?_
  refine z_bipush hx hb 82 dX10_fold_42 rfl ?_
  refine z_cVv (As := [vI 82]) (rest := []) ⟨hx, hb, hml, hown, hts⟩ hK hP hD hS hA [0, 1, 2] [] rfl rfl rfl (c_X10_layNought l g q a (uI x 9 T_10.2.2) T_10 82 (by omega)) (cwV 1 hts gX10_fold_X10_layNought rfl rfl rfl (by decide +kernel) ⟨Nat.le_of_ble_eq_true rfl, Nat.le_of_ble_eq_true rfl⟩) 10 0 rfl rfl rfl (fun _ _ _ _ _ _ => trivial) (fun _ _ _ => trivial) rfl hl.1 (Nat.le_of_ble_eq_true rfl) rfl dX10_fold_44 ⟨Nat.le_of_ble_eq_true rfl, Nat.le_of_ble_eq_true rfl⟩ (fun u_11 H locs hwu_11 hP hD hS => ?_)
  try dsimp only at hwu_11
  have hP : zP g [[mdl q a (uI x 9 T_10.2.2)], [((a 0), .inl (g.2 1, 88, .inr (.inl (aL (rL0 82 T_10).1))))], [((a 1), .inl (g.2 1, 88, .inr (.inl (aL (rL0 82 T_10).2.1))))]] H := hP
  have hD : zD A [[mdl q a (uI x 9 T_10.2.2)], [((a 0), .inl (g.2 1, 88, .inr (.inl (aL (rL0 82 T_10).1))))], [((a 1), .inl (g.2 1, 88, .inr (.inl (aL (rL0 82 T_10).2.1))))]] := hD
  obtain ⟨T_12, hT_12⟩ : ∃ T : RS, T = rL0 82 T_10 := ⟨_, rfl⟩
  have hP : zP g [[mdl q a (uI x 9 T_12.2.2)], [((a 0), .inl (g.2 1, 88, .inr (.inl (aL T_12.1))))], [((a 1), .inl (g.2 1, 88, .inr (.inl (aL T_12.2.1))))]] H := by rw [hT_12]; exact hP
  have hD : zD A [[mdl q a (uI x 9 T_12.2.2)], [((a 0), .inl (g.2 1, 88, .inr (.inl (aL T_12.1))))], [((a 1), .inl (g.2 1, 88, .inr (.inl (aL T_12.2.1))))]] := by rw [hT_12]; exact hD
  have hZT_12 : T_12.2.2 = 0 ∨ T_12.2.2 = 1 := by rw [hT_12]; exact rL0_01 hZT_10
  have hRT_12_0 : T_12.2.2 = 0 → rk T_12 0 := by rw [hT_12]; exact rL0_rk (by omega) (by omega) hNT_10_0
  have hRT_12_1 : T_12.2.2 = 0 → rk T_12 1 := by rw [hT_12]; exact rL0_rk (by omega) (by omega) hNT_10_1
  have hRT_12_2 : T_12.2.2 = 0 → rk T_12 2 := by rw [hT_12]; exact rL0_rk (by omega) (by omega) hNT_10_2
  have hRT_12_3 : T_12.2.2 = 0 → rk T_12 3 := by rw [hT_12]; exact rL0_rk (by omega) (by omega) hNT_10_3
  have hRT_12_4 : T_12.2.2 = 0 → rk T_12 4 := by rw [hT_12]; exact rL0_rk (by omega) (by omega) hNT_10_4
  have hRT_12_5 : T_12.2.2 = 0 → rk T_12 5 := by rw [hT_12]; exact rL0_rk (by omega) (by omega) hNT_10_5
  have hNT_12_0 : T_12.2.2 = 0 → rk T_12 82 := by rw [hT_12]; exact rL0_r0 
  have hNT_12_1 : T_12.2.2 = 0 → rk T_12 83 := by rw [hT_12]; exact rL0_r1 
  refine z_iconst hx hb dX10_fold_47 rfl ?_
  refine lv_istore (lv' := [(4, vI 0), (0, .ref q), (1, vI 1), (2, vI ((w : Nat) : Int)), (3, vI j)]) hx hb dX10_fold_48 hl (by decide) rfl (fun ls hl => ?_)
  refine lv_iload hx hb dX10_fold_50 (lv_at hl 0 rfl) ?_
  refine z_iconst hx hb dX10_fold_52 rfl ?_
  refine z_icmp_ge (tgt := 71) hx hb (by decide) (by decide) dX10_fold_53 (by decide) (fun cq13 => False.elim (by omega)) (fun cq13 => ?_)
  refine lv_aload_n hx hb dX10_fold_56 rfl (lv_at hl 1 rfl) ?_
  refine lv_iload_n hx hb dX10_fold_57 rfl (lv_at hl 2 rfl) ?_
  refine z_iconst hx hb dX10_fold_58 rfl ?_
  refine lv_iload hx hb dX10_fold_59 (lv_at hl 0 rfl) ?_
  refine z_imul hx hb 0 rfl dX10_fold_61 ?_
  refine z_cVv (As := [vI 1, vI 0]) (rest := []) ⟨hx, hb, hml, hown, hts⟩ hK hP hD hS hA [0, 1, 2] [] rfl rfl rfl (c_X10_folds1 l g q a (uI x 9 T_12.2.2) T_12 0 (by omega) hZT_12 hNT_12_0 hNT_12_1 hRT_12_0 hRT_12_1) (cwV 2 hts gX10_fold_X10_folds rfl rfl rfl (by decide +kernel) ⟨Nat.le_of_ble_eq_true rfl, Nat.le_of_ble_eq_true rfl⟩) 10 0 rfl rfl rfl (fun _ _ _ _ _ _ => trivial) (fun _ _ _ => trivial) rfl hl.1 (Nat.le_of_ble_eq_true rfl) rfl dX10_fold_62 ⟨Nat.le_of_ble_eq_true rfl, Nat.le_of_ble_eq_true rfl⟩ (fun u_14 H locs hwu_14 hP hD hS => ?_)
  try dsimp only at hwu_14
  have hP : zP g [[mdl q a (uI x 9 (rFd 1 0 T_12).2.2)], [((a 0), .inl (g.2 1, 88, .inr (.inl (aL (rFd 1 0 T_12).1))))], [((a 1), .inl (g.2 1, 88, .inr (.inl (aL (rFd 1 0 T_12).2.1))))]] H := hP
  have hD : zD A [[mdl q a (uI x 9 (rFd 1 0 T_12).2.2)], [((a 0), .inl (g.2 1, 88, .inr (.inl (aL (rFd 1 0 T_12).1))))], [((a 1), .inl (g.2 1, 88, .inr (.inl (aL (rFd 1 0 T_12).2.1))))]] := hD
  obtain ⟨T_15, hT_15⟩ : ∃ T : RS, T = rFd 1 0 T_12 := ⟨_, rfl⟩
  have hP : zP g [[mdl q a (uI x 9 T_15.2.2)], [((a 0), .inl (g.2 1, 88, .inr (.inl (aL T_15.1))))], [((a 1), .inl (g.2 1, 88, .inr (.inl (aL T_15.2.1))))]] H := by rw [hT_15]; exact hP
  have hD : zD A [[mdl q a (uI x 9 T_15.2.2)], [((a 0), .inl (g.2 1, 88, .inr (.inl (aL T_15.1))))], [((a 1), .inl (g.2 1, 88, .inr (.inl (aL T_15.2.1))))]] := by rw [hT_15]; exact hD
  have hZT_15 : T_15.2.2 = 0 ∨ T_15.2.2 = 1 := by rw [hT_15]; exact rFd_01 hZT_12
  have hRT_15_0 : T_15.2.2 = 0 → rk T_15 0 := by rw [hT_15]; exact rFd_rk (by omega) hRT_12_0
  have hRT_15_1 : T_15.2.2 = 0 → rk T_15 1 := by rw [hT_15]; exact rFd_rk (by omega) hRT_12_1
  have hRT_15_2 : T_15.2.2 = 0 → rk T_15 2 := by rw [hT_15]; exact rFd_rk (by omega) hRT_12_2
  have hRT_15_3 : T_15.2.2 = 0 → rk T_15 3 := by rw [hT_15]; exact rFd_rk (by omega) hRT_12_3
  have hRT_15_4 : T_15.2.2 = 0 → rk T_15 4 := by rw [hT_15]; exact rFd_rk (by omega) hRT_12_4
  have hRT_15_5 : T_15.2.2 = 0 → rk T_15 5 := by rw [hT_15]; exact rFd_rk (by omega) hRT_12_5
  have hNT_15_0 : T_15.2.2 = 0 → rk T_15 82 := by rw [hT_15]; exact rFd_r0 (by omega) hNT_12_0 hNT_12_1 hRT_12_0 hRT_12_1
  have hNT_15_1 : T_15.2.2 = 0 → rk T_15 83 := by rw [hT_15]; exact rFd_r1 (by omega) hNT_12_0 hNT_12_1 hRT_12_0 hRT_12_1
  refine z_iinc hx hb 1 (lv' := [(4, vI 1), (0, .ref q), (1, vI 1), (2, vI ((w : Nat) : Int)), (3, vI j)]) dX10_fold_65 hl (k := 0) rfl (rfl) (by decide) rfl (fun ls hl => ?_)
  refine lv_goto (tgt := 50) hx hb dX10_fold_68 (by decide) ?_
  refine lv_iload hx hb dX10_fold_50 (lv_at hl 0 rfl) ?_
  refine z_iconst hx hb dX10_fold_52 rfl ?_
  refine z_icmp_ge (tgt := 71) hx hb (by decide) (by decide) dX10_fold_53 (by decide) (fun cq16 => False.elim (by omega)) (fun cq16 => ?_)
  refine lv_aload_n hx hb dX10_fold_56 rfl (lv_at hl 1 rfl) ?_
  refine lv_iload_n hx hb dX10_fold_57 rfl (lv_at hl 2 rfl) ?_
  refine z_iconst hx hb dX10_fold_58 rfl ?_
  refine lv_iload hx hb dX10_fold_59 (lv_at hl 0 rfl) ?_
  refine z_imul hx hb 2 rfl dX10_fold_61 ?_
  refine z_cVv (As := [vI 1, vI 2]) (rest := []) ⟨hx, hb, hml, hown, hts⟩ hK hP hD hS hA [0, 1, 2] [] rfl rfl rfl (c_X10_folds1 l g q a (uI x 9 T_15.2.2) T_15 2 (by omega) hZT_15 hNT_15_0 hNT_15_1 hRT_15_2 hRT_15_3) (cwV 2 hts gX10_fold_X10_folds rfl rfl rfl (by decide +kernel) ⟨Nat.le_of_ble_eq_true rfl, Nat.le_of_ble_eq_true rfl⟩) 10 0 rfl rfl rfl (fun _ _ _ _ _ _ => trivial) (fun _ _ _ => trivial) rfl hl.1 (Nat.le_of_ble_eq_true rfl) rfl dX10_fold_62 ⟨Nat.le_of_ble_eq_true rfl, Nat.le_of_ble_eq_true rfl⟩ (fun u_17 H locs hwu_17 hP hD hS => ?_)
  try dsimp only at hwu_17
  have hP : zP g [[mdl q a (uI x 9 (rFd 1 2 T_15).2.2)], [((a 0), .inl (g.2 1, 88, .inr (.inl (aL (rFd 1 2 T_15).1))))], [((a 1), .inl (g.2 1, 88, .inr (.inl (aL (rFd 1 2 T_15).2.1))))]] H := hP
  have hD : zD A [[mdl q a (uI x 9 (rFd 1 2 T_15).2.2)], [((a 0), .inl (g.2 1, 88, .inr (.inl (aL (rFd 1 2 T_15).1))))], [((a 1), .inl (g.2 1, 88, .inr (.inl (aL (rFd 1 2 T_15).2.1))))]] := hD
  obtain ⟨T_18, hT_18⟩ : ∃ T : RS, T = rFd 1 2 T_15 := ⟨_, rfl⟩
  have hP : zP g [[mdl q a (uI x 9 T_18.2.2)], [((a 0), .inl (g.2 1, 88, .inr (.inl (aL T_18.1))))], [((a 1), .inl (g.2 1, 88, .inr (.inl (aL T_18.2.1))))]] H := by rw [hT_18]; exact hP
  have hD : zD A [[mdl q a (uI x 9 T_18.2.2)], [((a 0), .inl (g.2 1, 88, .inr (.inl (aL T_18.1))))], [((a 1), .inl (g.2 1, 88, .inr (.inl (aL T_18.2.1))))]] := by rw [hT_18]; exact hD
  have hZT_18 : T_18.2.2 = 0 ∨ T_18.2.2 = 1 := by rw [hT_18]; exact rFd_01 hZT_15
  have hRT_18_0 : T_18.2.2 = 0 → rk T_18 0 := by rw [hT_18]; exact rFd_rk (by omega) hRT_15_0
  have hRT_18_1 : T_18.2.2 = 0 → rk T_18 1 := by rw [hT_18]; exact rFd_rk (by omega) hRT_15_1
  have hRT_18_2 : T_18.2.2 = 0 → rk T_18 2 := by rw [hT_18]; exact rFd_rk (by omega) hRT_15_2
  have hRT_18_3 : T_18.2.2 = 0 → rk T_18 3 := by rw [hT_18]; exact rFd_rk (by omega) hRT_15_3
  have hRT_18_4 : T_18.2.2 = 0 → rk T_18 4 := by rw [hT_18]; exact rFd_rk (by omega) hRT_15_4
  have hRT_18_5 : T_18.2.2 = 0 → rk T_18 5 := by rw [hT_18]; exact rFd_rk (by omega) hRT_15_5
  have hNT_18_0 : T_18.2.2 = 0 → rk T_18 82 := by rw [hT_18]; exact rFd_r0 (by omega) hNT_15_0 hNT_15_1 hRT_15_2 hRT_15_3
  have hNT_18_1 : T_18.2.2 = 0 → rk T_18 83 := by rw [hT_18]; exact rFd_r1 (by omega) hNT_15_0 hNT_15_1 hRT_15_2 hRT_15_3
  refine z_iinc hx hb 2 (lv' := [(4, vI 2), (0, .ref q), (1, vI 1), (2, vI ((w : Nat) : Int)), (3, vI j)]) dX10_fold_65 hl (k := 0) rfl (rfl) (by decide) rfl (fun ls hl => ?_)
  refine lv_goto (tgt := 50) hx hb dX10_fold_68 (by decide) ?_
  refine lv_iload hx hb dX10_fold_50 (lv_at hl 0 rfl) ?_
  refine z_iconst hx hb dX10_fold_52 rfl ?_
  refine z_icmp_ge (tgt := 71) hx hb (by decide) (by decide) dX10_fold_53 (by decide) (fun cq19 => False.elim (by omega)) (fun cq19 => ?_)
  refine lv_aload_n hx hb dX10_fold_56 rfl (lv_at hl 1 rfl) ?_
  refine lv_iload_n hx hb dX10_fold_57 rfl (lv_at hl 2 rfl) ?_
  refine z_iconst hx hb dX10_fold_58 rfl ?_
  refine lv_iload hx hb dX10_fold_59 (lv_at hl 0 rfl) ?_
  refine z_imul hx hb 4 rfl dX10_fold_61 ?_
  refine z_cVv (As := [vI 1, vI 4]) (rest := []) ⟨hx, hb, hml, hown, hts⟩ hK hP hD hS hA [0, 1, 2] [] rfl rfl rfl (c_X10_folds1 l g q a (uI x 9 T_18.2.2) T_18 4 (by omega) hZT_18 hNT_18_0 hNT_18_1 hRT_18_4 hRT_18_5) (cwV 2 hts gX10_fold_X10_folds rfl rfl rfl (by decide +kernel) ⟨Nat.le_of_ble_eq_true rfl, Nat.le_of_ble_eq_true rfl⟩) 10 0 rfl rfl rfl (fun _ _ _ _ _ _ => trivial) (fun _ _ _ => trivial) rfl hl.1 (Nat.le_of_ble_eq_true rfl) rfl dX10_fold_62 ⟨Nat.le_of_ble_eq_true rfl, Nat.le_of_ble_eq_true rfl⟩ (fun u_20 H locs hwu_20 hP hD hS => ?_)
  try dsimp only at hwu_20
  have hP : zP g [[mdl q a (uI x 9 (rFd 1 4 T_18).2.2)], [((a 0), .inl (g.2 1, 88, .inr (.inl (aL (rFd 1 4 T_18).1))))], [((a 1), .inl (g.2 1, 88, .inr (.inl (aL (rFd 1 4 T_18).2.1))))]] H := hP
  have hD : zD A [[mdl q a (uI x 9 (rFd 1 4 T_18).2.2)], [((a 0), .inl (g.2 1, 88, .inr (.inl (aL (rFd 1 4 T_18).1))))], [((a 1), .inl (g.2 1, 88, .inr (.inl (aL (rFd 1 4 T_18).2.1))))]] := hD
  obtain ⟨T_21, hT_21⟩ : ∃ T : RS, T = rFd 1 4 T_18 := ⟨_, rfl⟩
  have hP : zP g [[mdl q a (uI x 9 T_21.2.2)], [((a 0), .inl (g.2 1, 88, .inr (.inl (aL T_21.1))))], [((a 1), .inl (g.2 1, 88, .inr (.inl (aL T_21.2.1))))]] H := by rw [hT_21]; exact hP
  have hD : zD A [[mdl q a (uI x 9 T_21.2.2)], [((a 0), .inl (g.2 1, 88, .inr (.inl (aL T_21.1))))], [((a 1), .inl (g.2 1, 88, .inr (.inl (aL T_21.2.1))))]] := by rw [hT_21]; exact hD
  have hZT_21 : T_21.2.2 = 0 ∨ T_21.2.2 = 1 := by rw [hT_21]; exact rFd_01 hZT_18
  have hRT_21_0 : T_21.2.2 = 0 → rk T_21 0 := by rw [hT_21]; exact rFd_rk (by omega) hRT_18_0
  have hRT_21_1 : T_21.2.2 = 0 → rk T_21 1 := by rw [hT_21]; exact rFd_rk (by omega) hRT_18_1
  have hRT_21_2 : T_21.2.2 = 0 → rk T_21 2 := by rw [hT_21]; exact rFd_rk (by omega) hRT_18_2
  have hRT_21_3 : T_21.2.2 = 0 → rk T_21 3 := by rw [hT_21]; exact rFd_rk (by omega) hRT_18_3
  have hRT_21_4 : T_21.2.2 = 0 → rk T_21 4 := by rw [hT_21]; exact rFd_rk (by omega) hRT_18_4
  have hRT_21_5 : T_21.2.2 = 0 → rk T_21 5 := by rw [hT_21]; exact rFd_rk (by omega) hRT_18_5
  have hNT_21_0 : T_21.2.2 = 0 → rk T_21 82 := by rw [hT_21]; exact rFd_r0 (by omega) hNT_18_0 hNT_18_1 hRT_18_4 hRT_18_5
  have hNT_21_1 : T_21.2.2 = 0 → rk T_21 83 := by rw [hT_21]; exact rFd_r1 (by omega) hNT_18_0 hNT_18_1 hRT_18_4 hRT_18_5
  refine z_iinc hx hb 3 (lv' := [(4, vI 3), (0, .ref q), (1, vI 1), (2, vI ((w : Nat) : Int)), (3, vI j)]) dX10_fold_65 hl (k := 0) rfl (rfl) (by decide) rfl (fun ls hl => ?_)
  refine lv_goto (tgt := 50) hx hb dX10_fold_68 (by decide) ?_
  refine lv_iload hx hb dX10_fold_50 (lv_at hl 0 rfl) ?_
  refine z_iconst hx hb dX10_fold_52 rfl ?_
  refine z_icmp_ge (tgt := 71) hx hb (by decide) (by decide) dX10_fold_53 (by decide) (fun cq22 => ?_) (fun cq22 => False.elim (by omega))
  refine lv_aload_n hx hb dX10_fold_71 rfl (lv_at hl 1 rfl) ?_
  refine z_get hx hb hts hin10_ hown hK hP 0 rfl rfl 22 (by decide) (hts _ (List.mem_of_getElem? (i := 3) rfl)) rfl dX10_fold_72 ?_
  refine z_toI T_21.2.2 rfl ?_
  refine z_if_eq (tgt := 84) hx hb (by omega) dX10_fold_75 (by decide) (fun cq23 => ?_) (fun cq23 => ?_)
  · refine lv_aload_n hx hb dX10_fold_84 rfl (lv_at hl 1 rfl) ?_
    refine z_bipush hx hb 82 dX10_fold_85 rfl ?_
    refine lv_iload_n hx hb dX10_fold_87 rfl (lv_at hl 3 rfl) ?_
    refine z_iadd hx hb (((82 + w) : Nat) : Int) (by omega) dX10_fold_88 ?_
    refine lv_iload_n hx hb dX10_fold_89 rfl (lv_at hl 4 rfl) ?_
    refine z_cVl (As := [vI (((82 + w) : Nat) : Int), vI j]) (rest := []) ⟨hx, hb, hml, hown, hts⟩ hK hP hD hS hA [0, 1, 2] [] rfl rfl rfl (c_X10_partOf l g q a (uI x 9 T_21.2.2) T_21 (82 + w) j (by omega) (by omega)) (cwV 2 hts gX10_fold_X10_partOf rfl rfl rfl (by decide +kernel) ⟨Nat.le_of_ble_eq_true rfl, Nat.le_of_ble_eq_true rfl⟩) 10 0 rfl rfl rfl (fun _ _ _ _ _ _ => trivial) (fun _ _ _ => trivial) rfl hl.1 (Nat.le_of_ble_eq_true rfl) rfl dX10_fold_90 ⟨Nat.le_of_ble_eq_true rfl, Nat.le_of_ble_eq_true rfl⟩ (fun u_24 H locs hwu_24 hP hD hS => ?_)
    try dsimp only at hwu_24
    have hP : zP g [[mdl q a (uI x 9 T_21.2.2)], [((a 0), .inl (g.2 1, 88, .inr (.inl (aL T_21.1))))], [((a 1), .inl (g.2 1, 88, .inr (.inl (aL T_21.2.1))))]] H := hP
    have hD : zD A [[mdl q a (uI x 9 T_21.2.2)], [((a 0), .inl (g.2 1, 88, .inr (.inl (aL T_21.1))))], [((a 1), .inl (g.2 1, 88, .inr (.inl (aL T_21.2.1))))]] := hD
    refine z_toL (if j = 0 then T_21.1 (82 + w) else T_21.2.1 (82 + w)) rfl ?_
    have hE : T_21 = (rFd 1 4 (rFd 1 2 (rFd 1 0 (rL0 82 (rZ0 S))))) := by rw [hT_21, hT_18, hT_15, hT_12, hT_10]
    exact z_retl () [0, 1, 2] hx hb hr hlocks hK hP hD hS (by rw [← hE]; first | exact (if_pos (by omega)).symm | exact (if_neg (by omega)).symm) trivial rfl rfl (by rw [← hE]; rfl) (Nat.le_of_ble_eq_true rfl) (Nat.le_of_ble_eq_true rfl) dX10_fold_93
  · refine z_ldc2 hx hb (-2000000004) hown (hts _ (List.mem_of_getElem? (i := 4) rfl)) rfl dX10_fold_78 ?_
    refine lv_goto (tgt := 93) hx hb dX10_fold_81 (by decide) ?_
    have hE : T_21 = (rFd 1 4 (rFd 1 2 (rFd 1 0 (rL0 82 (rZ0 S))))) := by rw [hT_21, hT_18, hT_15, hT_12, hT_10]
    exact z_retl () [0, 1, 2] hx hb hr hlocks hK hP hD hS (by rw [← hE]; first | exact (if_pos (by omega)).symm | exact (if_neg (by omega)).symm) trivial rfl rfl (by rw [← hE]; rfl) (Nat.le_of_ble_eq_true rfl) (Nat.le_of_ble_eq_true rfl) dX10_fold_93

set_option maxHeartbeats 4000000 in
set_option maxRecDepth 100000 in
theorem c_X10_fold2 (l : Launch) (g : zG) (q : Nat) (a : Nat → Nat) (x : Nat → Int) (S : RS) (w : Nat) (j : Int) (hz : S.2.2 = 0 ∨ S.2.2 = 1) (hk : ∀ k, k < 6 → rk S k) (hw : w < 2) (hj : 0 ≤ j ∧ j ≤ 1) : zMet l g yX10_fold wsX10_fold 6 0 0 [.ref q, vI 2, vI ((w : Nat) : Int), vI j] zX0 [[mdl q a (uI x 9 S.2.2)], [((a 0), .inl (g.2 1, 88, .inr (.inl (aL S.1))))], [((a 1), .inl (g.2 1, 88, .inr (.inl (aL S.2.1))))]] (ql g (fun (_ : Unit) => (if (rFd 2 4 (rFd 2 2 (rFd 2 0 (rL0 82 (rZ0 S))))).2.2 = 0 then (if j = 0 then (rFd 2 4 (rFd 2 2 (rFd 2 0 (rL0 82 (rZ0 S))))).1 (82 + w) else (rFd 2 4 (rFd 2 2 (rFd 2 0 (rL0 82 (rZ0 S))))).2.1 (82 + w)) else -2000000004)) (fun (_ : Unit) => True) (fun (_ : Unit) => [[mdl q a (uI x 9 (rFd 2 4 (rFd 2 2 (rFd 2 0 (rL0 82 (rZ0 S))))).2.2)], [((a 0), .inl (g.2 1, 88, .inr (.inl (aL (rFd 2 4 (rFd 2 2 (rFd 2 0 (rL0 82 (rZ0 S))))).1))))], [((a 1), .inl (g.2 1, 88, .inr (.inl (aL (rFd 2 4 (rFd 2 2 (rFd 2 0 (rL0 82 (rZ0 S))))).2.1))))]])) := by
  refine z_ent (cc := cX10_fold) (maxL := 5) (ret := (some .long)) (by decide) rfl (Nat.le_of_ble_eq_true rfl) ?_
  intro p e s m below meth c A ls hx hb hr hml hown hts hlocks hin0 hA hK hP hD hS hXX hl
  have hown : s.vm.findClass RX10 = some m.cls := hown
  have hin10_ : ∀ w ∈ wsX100, w ∈ wsX10_fold := zw_in [65, 66, 67, 68, 69, 70, 71, 72, 73, 74, 75, 76, 77, 78, 79, 80, 81, 82, 83, 84, 85, 86, 87, 88, 89, 90] rfl
  have hl : lv_has ls 5 [(0, .ref q), (1, vI 2), (2, vI ((w : Nat) : Int)), (3, vI j)] := hl
  refine lv_iload_n hx hb dX10_fold_0 rfl (lv_at hl 1 rfl) ?_
  refine z_i2l hx hb (by decide) dX10_fold_1 ?_
  refine z_lconst hx hb 0 dX10_fold_2 rfl ?_
  refine z_ldc2 hx hb 3 hown (hts _ (List.mem_of_getElem? (i := 1) rfl)) rfl dX10_fold_3 ?_
  refine z_cSi (As := [vL 2, vL 0, vL 3]) (rest := []) ⟨hx, hb, hml, hown, hts⟩ hK hP hD hS hA [] [0, 1, 2] rfl rfl rfl (c_X10_in l g 2 0 3 (by first | decide | omega) (by first | decide | omega) (by first | decide | omega)) (va_cwS 3 hts gX10_fold_X10_in rfl rfl rfl (by decide +kernel) ⟨Nat.le_of_ble_eq_true rfl, Nat.le_of_ble_eq_true rfl⟩) (fun _ _ _ _ _ _ => trivial) (fun _ _ _ => trivial) rfl hl.1 (Nat.le_of_ble_eq_true rfl) rfl dX10_fold_6 ⟨Nat.le_of_ble_eq_true rfl, Nat.le_of_ble_eq_true rfl⟩ (fun u_1 H locs hwu_1 hP hD hS => ?_)
  try dsimp only at hwu_1
  have hP : zP g [[mdl q a (uI x 9 S.2.2)], [((a 0), .inl (g.2 1, 88, .inr (.inl (aL S.1))))], [((a 1), .inl (g.2 1, 88, .inr (.inl (aL S.2.1))))]] H := hP
  have hD : zD A [[mdl q a (uI x 9 S.2.2)], [((a 0), .inl (g.2 1, 88, .inr (.inl (aL S.1))))], [((a 1), .inl (g.2 1, 88, .inr (.inl (aL S.2.1))))]] := hD
  refine z_toI (inI 2 0 3) rfl ?_
  have hf_2 := inI_s 2 0 3
  refine z_if_eq (tgt := 32) hx hb (by omega) dX10_fold_9 (by decide) (fun cq3 => False.elim (by omega)) (fun cq3 => ?_)
  refine lv_iload_n hx hb dX10_fold_12 rfl (lv_at hl 2 rfl) ?_
  refine z_i2l hx hb (by omega) dX10_fold_13 ?_
  refine z_lconst hx hb 0 dX10_fold_14 rfl ?_
  refine z_lconst hx hb 1 dX10_fold_15 rfl ?_
  refine z_cSi (As := [vL ((w : Nat) : Int), vL 0, vL 1]) (rest := []) ⟨hx, hb, hml, hown, hts⟩ hK hP hD hS hA [] [0, 1, 2] rfl rfl rfl (c_X10_in l g ((w : Nat) : Int) 0 1 (by first | decide | omega) (by first | decide | omega) (by first | decide | omega)) (va_cwS 3 hts gX10_fold_X10_in rfl rfl rfl (by decide +kernel) ⟨Nat.le_of_ble_eq_true rfl, Nat.le_of_ble_eq_true rfl⟩) (fun _ _ _ _ _ _ => trivial) (fun _ _ _ => trivial) rfl hl.1 (Nat.le_of_ble_eq_true rfl) rfl dX10_fold_16 ⟨Nat.le_of_ble_eq_true rfl, Nat.le_of_ble_eq_true rfl⟩ (fun u_4 H locs hwu_4 hP hD hS => ?_)
  try dsimp only at hwu_4
  have hP : zP g [[mdl q a (uI x 9 S.2.2)], [((a 0), .inl (g.2 1, 88, .inr (.inl (aL S.1))))], [((a 1), .inl (g.2 1, 88, .inr (.inl (aL S.2.1))))]] H := hP
  have hD : zD A [[mdl q a (uI x 9 S.2.2)], [((a 0), .inl (g.2 1, 88, .inr (.inl (aL S.1))))], [((a 1), .inl (g.2 1, 88, .inr (.inl (aL S.2.1))))]] := hD
  refine z_toI (inI ((w : Nat) : Int) 0 1) rfl ?_
  have hf_5 := inI_s ((w : Nat) : Int) 0 1
  refine z_if_eq (tgt := 32) hx hb (by omega) dX10_fold_19 (by decide) (fun cq6 => False.elim (by omega)) (fun cq6 => ?_)
  refine lv_iload_n hx hb dX10_fold_22 rfl (lv_at hl 3 rfl) ?_
  refine z_i2l hx hb (by omega) dX10_fold_23 ?_
  refine z_lconst hx hb 0 dX10_fold_24 rfl ?_
  refine z_lconst hx hb 1 dX10_fold_25 rfl ?_
  refine z_cSi (As := [vL j, vL 0, vL 1]) (rest := []) ⟨hx, hb, hml, hown, hts⟩ hK hP hD hS hA [] [0, 1, 2] rfl rfl rfl (c_X10_in l g j 0 1 (by first | decide | omega) (by first | decide | omega) (by first | decide | omega)) (va_cwS 3 hts gX10_fold_X10_in rfl rfl rfl (by decide +kernel) ⟨Nat.le_of_ble_eq_true rfl, Nat.le_of_ble_eq_true rfl⟩) (fun _ _ _ _ _ _ => trivial) (fun _ _ _ => trivial) rfl hl.1 (Nat.le_of_ble_eq_true rfl) rfl dX10_fold_26 ⟨Nat.le_of_ble_eq_true rfl, Nat.le_of_ble_eq_true rfl⟩ (fun u_7 H locs hwu_7 hP hD hS => ?_)
  try dsimp only at hwu_7
  have hP : zP g [[mdl q a (uI x 9 S.2.2)], [((a 0), .inl (g.2 1, 88, .inr (.inl (aL S.1))))], [((a 1), .inl (g.2 1, 88, .inr (.inl (aL S.2.1))))]] H := hP
  have hD : zD A [[mdl q a (uI x 9 S.2.2)], [((a 0), .inl (g.2 1, 88, .inr (.inl (aL S.1))))], [((a 1), .inl (g.2 1, 88, .inr (.inl (aL S.2.1))))]] := hD
  refine z_toI (inI j 0 1) rfl ?_
  have hf_8 := inI_s j 0 1
  refine z_if_ne (tgt := 36) hx hb (by omega) dX10_fold_29 (by decide) (fun cq9 => ?_) (fun cq9 => False.elim (by omega))
  refine lv_aload_n hx hb dX10_fold_36 rfl (lv_at hl 0 rfl) ?_
  refine z_iconst hx hb dX10_fold_37 rfl ?_
  refine z_put hx hb hts hin10_ tyX10 tyX10_ok nmX10 hown hK hP hD hS 0 rfl rfl 22 (by decide) (hts _ (List.mem_of_getElem? (i := 3) rfl)) rfl (nar_z (by decide)) (fit_z (by decide)) (Nat.le_of_ble_eq_true rfl) dX10_fold_38 [[mdl q a (uI x 9 0)], [((a 0), .inl (g.2 1, 88, .inr (.inl (aL S.1))))], [((a 1), .inl (g.2 1, 88, .inr (.inl (aL S.2.1))))]] rfl (fun H locs hP hD hS => ?_)
  obtain ⟨T_10, hT_10⟩ : ∃ T : RS, T = rZ0  S := ⟨_, rfl⟩
  have hP : zP g [[mdl q a (uI x 9 T_10.2.2)], [((a 0), .inl (g.2 1, 88, .inr (.inl (aL T_10.1))))], [((a 1), .inl (g.2 1, 88, .inr (.inl (aL T_10.2.1))))]] H := by rw [hT_10]; exact hP
  have hD : zD A [[mdl q a (uI x 9 T_10.2.2)], [((a 0), .inl (g.2 1, 88, .inr (.inl (aL T_10.1))))], [((a 1), .inl (g.2 1, 88, .inr (.inl (aL T_10.2.1))))]] := by rw [hT_10]; exact hD
  have hZT_10 : T_10.2.2 = 0 ∨ T_10.2.2 = 1 := by rw [hT_10]; exact rZ0_01 hz
  have hNT_10_0 : T_10.2.2 = 0 → rk T_10 0 := by rw [hT_10]; exact rZ0_r (hk 0 (by decide)) 
  have hNT_10_1 : T_10.2.2 = 0 → rk T_10 1 := by rw [hT_10]; exact rZ0_r (hk 1 (by decide)) 
  have hNT_10_2 : T_10.2.2 = 0 → rk T_10 2 := by rw [hT_10]; exact rZ0_r (hk 2 (by decide)) 
  have hNT_10_3 : T_10.2.2 = 0 → rk T_10 3 := by rw [hT_10]; exact rZ0_r (hk 3 (by decide)) 
  have hNT_10_4 : T_10.2.2 = 0 → rk T_10 4 := by rw [hT_10]; exact rZ0_r (hk 4 (by decide)) 
  have hNT_10_5 : T_10.2.2 = 0 → rk T_10 5 := by rw [hT_10]; exact rZ0_r (hk 5 (by decide)) 
  refine lv_aload_n hx hb dX10_fold_41 rfl (lv_at hl 0 rfl) ?_
  refine z_bipush hx hb 82 dX10_fold_42 rfl ?_
  refine z_cVv (As := [vI 82]) (rest := []) ⟨hx, hb, hml, hown, hts⟩ hK hP hD hS hA [0, 1, 2] [] rfl rfl rfl (c_X10_layNought l g q a (uI x 9 T_10.2.2) T_10 82 (by omega)) (cwV 1 hts gX10_fold_X10_layNought rfl rfl rfl (by decide +kernel) ⟨Nat.le_of_ble_eq_true rfl, Nat.le_of_ble_eq_true rfl⟩) 10 0 rfl rfl rfl (fun _ _ _ _ _ _ => trivial) (fun _ _ _ => trivial) rfl hl.1 (Nat.le_of_ble_eq_true rfl) rfl dX10_fold_44 ⟨Nat.le_of_ble_eq_true rfl, Nat.le_of_ble_eq_true rfl⟩ (fun u_11 H locs hwu_11 hP hD hS => ?_)
  try dsimp only at hwu_11
  have hP : zP g [[mdl q a (uI x 9 T_10.2.2)], [((a 0), .inl (g.2 1, 88, .inr (.inl (aL (rL0 82 T_10).1))))], [((a 1), .inl (g.2 1, 88, .inr (.inl (aL (rL0 82 T_10).2.1))))]] H := hP
  have hD : zD A [[mdl q a (uI x 9 T_10.2.2)], [((a 0), .inl (g.2 1, 88, .inr (.inl (aL (rL0 82 T_10).1))))], [((a 1), .inl (g.2 1, 88, .inr (.inl (aL (rL0 82 T_10).2.1))))]] := hD
  obtain ⟨T_12, hT_12⟩ : ∃ T : RS, T = rL0 82 T_10 := ⟨_, rfl⟩
  have hP : zP g [[mdl q a (uI x 9 T_12.2.2)], [((a 0), .inl (g.2 1, 88, .inr (.inl (aL T_12.1))))], [((a 1), .inl (g.2 1, 88, .inr (.inl (aL T_12.2.1))))]] H := by rw [hT_12]; exact hP
  have hD : zD A [[mdl q a (uI x 9 T_12.2.2)], [((a 0), .inl (g.2 1, 88, .inr (.inl (aL T_12.1))))], [((a 1), .inl (g.2 1, 88, .inr (.inl (aL T_12.2.1))))]] := by rw [hT_12]; exact hD
  have hZT_12 : T_12.2.2 = 0 ∨ T_12.2.2 = 1 := by rw [hT_12]; exact rL0_01 hZT_10
  have hRT_12_0 : T_12.2.2 = 0 → rk T_12 0 := by rw [hT_12]; exact rL0_rk (by omega) (by omega) hNT_10_0
  have hRT_12_1 : T_12.2.2 = 0 → rk T_12 1 := by rw [hT_12]; exact rL0_rk (by omega) (by omega) hNT_10_1
  have hRT_12_2 : T_12.2.2 = 0 → rk T_12 2 := by rw [hT_12]; exact rL0_rk (by omega) (by omega) hNT_10_2
  have hRT_12_3 : T_12.2.2 = 0 → rk T_12 3 := by rw [hT_12]; exact rL0_rk (by omega) (by omega) hNT_10_3
  have hRT_12_4 : T_12.2.2 = 0 → rk T_12 4 := by rw [hT_12]; exact rL0_rk (by omega) (by omega) hNT_10_4
  have hRT_12_5 : T_12.2.2 = 0 → rk T_12 5 := by rw [hT_12]; exact rL0_rk (by omega) (by omega) hNT_10_5
  have hNT_12_0 : T_12.2.2 = 0 → rk T_12 82 := by rw [hT_12]; exact rL0_r0 
  have hNT_12_1 : T_12.2.2 = 0 → rk T_12 83 := by rw [hT_12]; exact rL0_r1 
  refine z_iconst hx hb dX10_fold_47 rfl ?_
  refine lv_istore (lv' := [(4, vI 0), (0, .ref q), (1, vI 2), (2, vI ((w : Nat) : Int)), (3, vI j)]) hx hb dX10_fold_48 hl (by decide) rfl (fun ls hl => ?_)
  refine lv_iload hx hb dX10_fold_50 (lv_at hl 0 rfl) ?_
  refine z_iconst hx hb dX10_fold_52 rfl ?_
  refine z_icmp_ge (tgt := 71) hx hb (by decide) (by decide) dX10_fold_53 (by decide) (fun cq13 => False.elim (by omega)) (fun cq13 => ?_)
  refine lv_aload_n hx hb dX10_fold_56 rfl (lv_at hl 1 rfl) ?_
  refine lv_iload_n hx hb dX10_fold_57 rfl (lv_at hl 2 rfl) ?_
  refine z_iconst hx hb dX10_fold_58 rfl ?_
  refine lv_iload hx hb dX10_fold_59 (lv_at hl 0 rfl) ?_
  refine z_imul hx hb 0 rfl dX10_fold_61 ?_
  refine z_cVv (As := [vI 2, vI 0]) (rest := []) ⟨hx, hb, hml, hown, hts⟩ hK hP hD hS hA [0, 1, 2] [] rfl rfl rfl (c_X10_folds2 l g q a (uI x 9 T_12.2.2) T_12 0 (by omega) hZT_12 hNT_12_0 hNT_12_1 hRT_12_0 hRT_12_1) (cwV 2 hts gX10_fold_X10_folds rfl rfl rfl (by decide +kernel) ⟨Nat.le_of_ble_eq_true rfl, Nat.le_of_ble_eq_true rfl⟩) 10 0 rfl rfl rfl (fun _ _ _ _ _ _ => trivial) (fun _ _ _ => trivial) rfl hl.1 (Nat.le_of_ble_eq_true rfl) rfl dX10_fold_62 ⟨Nat.le_of_ble_eq_true rfl, Nat.le_of_ble_eq_true rfl⟩ (fun u_14 H locs hwu_14 hP hD hS => ?_)
  try dsimp only at hwu_14
  have hP : zP g [[mdl q a (uI x 9 (rFd 2 0 T_12).2.2)], [((a 0), .inl (g.2 1, 88, .inr (.inl (aL (rFd 2 0 T_12).1))))], [((a 1), .inl (g.2 1, 88, .inr (.inl (aL (rFd 2 0 T_12).2.1))))]] H := hP
  have hD : zD A [[mdl q a (uI x 9 (rFd 2 0 T_12).2.2)], [((a 0), .inl (g.2 1, 88, .inr (.inl (aL (rFd 2 0 T_12).1))))], [((a 1), .inl (g.2 1, 88, .inr (.inl (aL (rFd 2 0 T_12).2.1))))]] := hD
  obtain ⟨T_15, hT_15⟩ : ∃ T : RS, T = rFd 2 0 T_12 := ⟨_, rfl⟩
  have hP : zP g [[mdl q a (uI x 9 T_15.2.2)], [((a 0), .inl (g.2 1, 88, .inr (.inl (aL T_15.1))))], [((a 1), .inl (g.2 1, 88, .inr (.inl (aL T_15.2.1))))]] H := by rw [hT_15]; exact hP
  have hD : zD A [[mdl q a (uI x 9 T_15.2.2)], [((a 0), .inl (g.2 1, 88, .inr (.inl (aL T_15.1))))], [((a 1), .inl (g.2 1, 88, .inr (.inl (aL T_15.2.1))))]] := by rw [hT_15]; exact hD
  have hZT_15 : T_15.2.2 = 0 ∨ T_15.2.2 = 1 := by rw [hT_15]; exact rFd_01 hZT_12
  have hRT_15_0 : T_15.2.2 = 0 → rk T_15 0 := by rw [hT_15]; exact rFd_rk (by omega) hRT_12_0
  have hRT_15_1 : T_15.2.2 = 0 → rk T_15 1 := by rw [hT_15]; exact rFd_rk (by omega) hRT_12_1
  have hRT_15_2 : T_15.2.2 = 0 → rk T_15 2 := by rw [hT_15]; exact rFd_rk (by omega) hRT_12_2
  have hRT_15_3 : T_15.2.2 = 0 → rk T_15 3 := by rw [hT_15]; exact rFd_rk (by omega) hRT_12_3
  have hRT_15_4 : T_15.2.2 = 0 → rk T_15 4 := by rw [hT_15]; exact rFd_rk (by omega) hRT_12_4
  have hRT_15_5 : T_15.2.2 = 0 → rk T_15 5 := by rw [hT_15]; exact rFd_rk (by omega) hRT_12_5
  have hNT_15_0 : T_15.2.2 = 0 → rk T_15 82 := by rw [hT_15]; exact rFd_r0 (by omega) hNT_12_0 hNT_12_1 hRT_12_0 hRT_12_1
  have hNT_15_1 : T_15.2.2 = 0 → rk T_15 83 := by rw [hT_15]; exact rFd_r1 (by omega) hNT_12_0 hNT_12_1 hRT_12_0 hRT_12_1
  refine z_iinc hx hb 1 (lv' := [(4, vI 1), (0, .ref q), (1, vI 2), (2, vI ((w : Nat) : Int)), (3, vI j)]) dX10_fold_65 hl (k := 0) rfl (rfl) (by decide) rfl (fun ls hl => ?_)
  refine lv_goto (tgt := 50) hx hb dX10_fold_68 (by decide) ?_
  refine lv_iload hx hb dX10_fold_50 (lv_at hl 0 rfl) ?_
  refine z_iconst hx hb dX10_fold_52 rfl ?_
  refine z_icmp_ge (tgt := 71) hx hb (by decide) (by decide) dX10_fold_53 (by decide) (fun cq16 => False.elim (by omega)) (fun cq16 => ?_)
  refine lv_aload_n hx hb dX10_fold_56 rfl (lv_at hl 1 rfl) ?_
  refine lv_iload_n hx hb dX10_fold_57 rfl (lv_at hl 2 rfl) ?_
  refine z_iconst hx hb dX10_fold_58 rfl ?_
  refine lv_iload hx hb dX10_fold_59 (lv_at hl 0 rfl) ?_
  refine z_imul hx hb 2 rfl dX10_fold_61 ?_
  refine z_cVv (As := [vI 2, vI 2]) (rest := []) ⟨hx, hb, hml, hown, hts⟩ hK hP hD hS hA [0, 1, 2] [] rfl rfl rfl (c_X10_folds2 l g q a (uI x 9 T_15.2.2) T_15 2 (by omega) hZT_15 hNT_15_0 hNT_15_1 hRT_15_2 hRT_15_3) (cwV 2 hts gX10_fold_X10_folds rfl rfl rfl (by decide +kernel) ⟨Nat.le_of_ble_eq_true rfl, Nat.le_of_ble_eq_true rfl⟩) 10 0 rfl rfl rfl (fun _ _ _ _ _ _ => trivial) (fun _ _ _ => trivial) rfl hl.1 (Nat.le_of_ble_eq_true rfl) rfl dX10_fold_62 ⟨Nat.le_of_ble_eq_true rfl, Nat.le_of_ble_eq_true rfl⟩ (fun u_17 H locs hwu_17 hP hD hS => ?_)
  try dsimp only at hwu_17
  have hP : zP g [[mdl q a (uI x 9 (rFd 2 2 T_15).2.2)], [((a 0), .inl (g.2 1, 88, .inr (.inl (aL (rFd 2 2 T_15).1))))], [((a 1), .inl (g.2 1, 88, .inr (.inl (aL (rFd 2 2 T_15).2.1))))]] H := hP
  have hD : zD A [[mdl q a (uI x 9 (rFd 2 2 T_15).2.2)], [((a 0), .inl (g.2 1, 88, .inr (.inl (aL (rFd 2 2 T_15).1))))], [((a 1), .inl (g.2 1, 88, .inr (.inl (aL (rFd 2 2 T_15).2.1))))]] := hD
  obtain ⟨T_18, hT_18⟩ : ∃ T : RS, T = rFd 2 2 T_15 := ⟨_, rfl⟩
  have hP : zP g [[mdl q a (uI x 9 T_18.2.2)], [((a 0), .inl (g.2 1, 88, .inr (.inl (aL T_18.1))))], [((a 1), .inl (g.2 1, 88, .inr (.inl (aL T_18.2.1))))]] H := by rw [hT_18]; exact hP
  have hD : zD A [[mdl q a (uI x 9 T_18.2.2)], [((a 0), .inl (g.2 1, 88, .inr (.inl (aL T_18.1))))], [((a 1), .inl (g.2 1, 88, .inr (.inl (aL T_18.2.1))))]] := by rw [hT_18]; exact hD
  have hZT_18 : T_18.2.2 = 0 ∨ T_18.2.2 = 1 := by rw [hT_18]; exact rFd_01 hZT_15
  have hRT_18_0 : T_18.2.2 = 0 → rk T_18 0 := by rw [hT_18]; exact rFd_rk (by omega) hRT_15_0
  have hRT_18_1 : T_18.2.2 = 0 → rk T_18 1 := by rw [hT_18]; exact rFd_rk (by omega) hRT_15_1
  have hRT_18_2 : T_18.2.2 = 0 → rk T_18 2 := by rw [hT_18]; exact rFd_rk (by omega) hRT_15_2
  have hRT_18_3 : T_18.2.2 = 0 → rk T_18 3 := by rw [hT_18]; exact rFd_rk (by omega) hRT_15_3
  have hRT_18_4 : T_18.2.2 = 0 → rk T_18 4 := by rw [hT_18]; exact rFd_rk (by omega) hRT_15_4
  have hRT_18_5 : T_18.2.2 = 0 → rk T_18 5 := by rw [hT_18]; exact rFd_rk (by omega) hRT_15_5
  have hNT_18_0 : T_18.2.2 = 0 → rk T_18 82 := by rw [hT_18]; exact rFd_r0 (by omega) hNT_15_0 hNT_15_1 hRT_15_2 hRT_15_3
  have hNT_18_1 : T_18.2.2 = 0 → rk T_18 83 := by rw [hT_18]; exact rFd_r1 (by omega) hNT_15_0 hNT_15_1 hRT_15_2 hRT_15_3
  refine z_iinc hx hb 2 (lv' := [(4, vI 2), (0, .ref q), (1, vI 2), (2, vI ((w : Nat) : Int)), (3, vI j)]) dX10_fold_65 hl (k := 0) rfl (rfl) (by decide) rfl (fun ls hl => ?_)
  refine lv_goto (tgt := 50) hx hb dX10_fold_68 (by decide) ?_
  refine lv_iload hx hb dX10_fold_50 (lv_at hl 0 rfl) ?_
  refine z_iconst hx hb dX10_fold_52 rfl ?_
  refine z_icmp_ge (tgt := 71) hx hb (by decide) (by decide) dX10_fold_53 (by decide) (fun cq19 => False.elim (by omega)) (fun cq19 => ?_)
  refine lv_aload_n hx hb dX10_fold_56 rfl (lv_at hl 1 rfl) ?_
  refine lv_iload_n hx hb dX10_fold_57 rfl (lv_at hl 2 rfl) ?_
  refine z_iconst hx hb dX10_fold_58 rfl ?_
  refine lv_iload hx hb dX10_fold_59 (lv_at hl 0 rfl) ?_
  refine z_imul hx hb 4 rfl dX10_fold_61 ?_
  refine z_cVv (As := [vI 2, vI 4]) (rest := []) ⟨hx, hb, hml, hown, hts⟩ hK hP hD hS hA [0, 1, 2] [] rfl rfl rfl (c_X10_folds2 l g q a (uI x 9 T_18.2.2) T_18 4 (by omega) hZT_18 hNT_18_0 hNT_18_1 hRT_18_4 hRT_18_5) (cwV 2 hts gX10_fold_X10_folds rfl rfl rfl (by decide +kernel) ⟨Nat.le_of_ble_eq_true rfl, Nat.le_of_ble_eq_true rfl⟩) 10 0 rfl rfl rfl (fun _ _ _ _ _ _ => trivial) (fun _ _ _ => trivial) rfl hl.1 (Nat.le_of_ble_eq_true rfl) rfl dX10_fold_62 ⟨Nat.le_of_ble_eq_true rfl, Nat.le_of_ble_eq_true rfl⟩ (fun u_20 H locs hwu_20 hP hD hS => ?_)
  try dsimp only at hwu_20
  have hP : zP g [[mdl q a (uI x 9 (rFd 2 4 T_18).2.2)], [((a 0), .inl (g.2 1, 88, .inr (.inl (aL (rFd 2 4 T_18).1))))], [((a 1), .inl (g.2 1, 88, .inr (.inl (aL (rFd 2 4 T_18).2.1))))]] H := hP
  have hD : zD A [[mdl q a (uI x 9 (rFd 2 4 T_18).2.2)], [((a 0), .inl (g.2 1, 88, .inr (.inl (aL (rFd 2 4 T_18).1))))], [((a 1), .inl (g.2 1, 88, .inr (.inl (aL (rFd 2 4 T_18).2.1))))]] := hD
  obtain ⟨T_21, hT_21⟩ : ∃ T : RS, T = rFd 2 4 T_18 := ⟨_, rfl⟩
  have hP : zP g [[mdl q a (uI x 9 T_21.2.2)], [((a 0), .inl (g.2 1, 88, .inr (.inl (aL T_21.1))))], [((a 1), .inl (g.2 1, 88, .inr (.inl (aL T_21.2.1))))]] H := by rw [hT_21]; exact hP
  have hD : zD A [[mdl q a (uI x 9 T_21.2.2)], [((a 0), .inl (g.2 1, 88, .inr (.inl (aL T_21.1))))], [((a 1), .inl (g.2 1, 88, .inr (.inl (aL T_21.2.1))))]] := by rw [hT_21]; exact hD
  have hZT_21 : T_21.2.2 = 0 ∨ T_21.2.2 = 1 := by rw [hT_21]; exact rFd_01 hZT_18
  have hRT_21_0 : T_21.2.2 = 0 → rk T_21 0 := by rw [hT_21]; exact rFd_rk (by omega) hRT_18_0
  have hRT_21_1 : T_21.2.2 = 0 → rk T_21 1 := by rw [hT_21]; exact rFd_rk (by omega) hRT_18_1
  have hRT_21_2 : T_21.2.2 = 0 → rk T_21 2 := by rw [hT_21]; exact rFd_rk (by omega) hRT_18_2
  have hRT_21_3 : T_21.2.2 = 0 → rk T_21 3 := by rw [hT_21]; exact rFd_rk (by omega) hRT_18_3
  have hRT_21_4 : T_21.2.2 = 0 → rk T_21 4 := by rw [hT_21]; exact rFd_rk (by omega) hRT_18_4
  have hRT_21_5 : T_21.2.2 = 0 → rk T_21 5 := by rw [hT_21]; exact rFd_rk (by omega) hRT_18_5
  have hNT_21_0 : T_21.2.2 = 0 → rk T_21 82 := by rw [hT_21]; exact rFd_r0 (by omega) hNT_18_0 hNT_18_1 hRT_18_4 hRT_18_5
  have hNT_21_1 : T_21.2.2 = 0 → rk T_21 83 := by rw [hT_21]; exact rFd_r1 (by omega) hNT_18_0 hNT_18_1 hRT_18_4 hRT_18_5
  refine z_iinc hx hb 3 (lv' := [(4, vI 3), (0, .ref q), (1, vI 2), (2, vI ((w : Nat) : Int)), (3, vI j)]) dX10_fold_65 hl (k := 0) rfl (rfl) (by decide) rfl (fun ls hl => ?_)
  refine lv_goto (tgt := 50) hx hb dX10_fold_68 (by decide) ?_
  refine lv_iload hx hb dX10_fold_50 (lv_at hl 0 rfl) ?_
  refine z_iconst hx hb dX10_fold_52 rfl ?_
  refine z_icmp_ge (tgt := 71) hx hb (by decide) (by decide) dX10_fold_53 (by decide) (fun cq22 => ?_) (fun cq22 => False.elim (by omega))
  refine lv_aload_n hx hb dX10_fold_71 rfl (lv_at hl 1 rfl) ?_
  refine z_get hx hb hts hin10_ hown hK hP 0 rfl rfl 22 (by decide) (hts _ (List.mem_of_getElem? (i := 3) rfl)) rfl dX10_fold_72 ?_
  refine z_toI T_21.2.2 rfl ?_
  refine z_if_eq (tgt := 84) hx hb (by omega) dX10_fold_75 (by decide) (fun cq23 => ?_) (fun cq23 => ?_)
  · refine lv_aload_n hx hb dX10_fold_84 rfl (lv_at hl 1 rfl) ?_
    refine z_bipush hx hb 82 dX10_fold_85 rfl ?_
    refine lv_iload_n hx hb dX10_fold_87 rfl (lv_at hl 3 rfl) ?_
    refine z_iadd hx hb (((82 + w) : Nat) : Int) (by omega) dX10_fold_88 ?_
    refine lv_iload_n hx hb dX10_fold_89 rfl (lv_at hl 4 rfl) ?_
    refine z_cVl (As := [vI (((82 + w) : Nat) : Int), vI j]) (rest := []) ⟨hx, hb, hml, hown, hts⟩ hK hP hD hS hA [0, 1, 2] [] rfl rfl rfl (c_X10_partOf l g q a (uI x 9 T_21.2.2) T_21 (82 + w) j (by omega) (by omega)) (cwV 2 hts gX10_fold_X10_partOf rfl rfl rfl (by decide +kernel) ⟨Nat.le_of_ble_eq_true rfl, Nat.le_of_ble_eq_true rfl⟩) 10 0 rfl rfl rfl (fun _ _ _ _ _ _ => trivial) (fun _ _ _ => trivial) rfl hl.1 (Nat.le_of_ble_eq_true rfl) rfl dX10_fold_90 ⟨Nat.le_of_ble_eq_true rfl, Nat.le_of_ble_eq_true rfl⟩ (fun u_24 H locs hwu_24 hP hD hS => ?_)
    try dsimp only at hwu_24
    have hP : zP g [[mdl q a (uI x 9 T_21.2.2)], [((a 0), .inl (g.2 1, 88, .inr (.inl (aL T_21.1))))], [((a 1), .inl (g.2 1, 88, .inr (.inl (aL T_21.2.1))))]] H := hP
    have hD : zD A [[mdl q a (uI x 9 T_21.2.2)], [((a 0), .inl (g.2 1, 88, .inr (.inl (aL T_21.1))))], [((a 1), .inl (g.2 1, 88, .inr (.inl (aL T_21.2.1))))]] := hD
    refine z_toL (if j = 0 then T_21.1 (82 + w) else T_21.2.1 (82 + w)) rfl ?_
    have hE : T_21 = (rFd 2 4 (rFd 2 2 (rFd 2 0 (rL0 82 (rZ0 S))))) := by rw [hT_21, hT_18, hT_15, hT_12, hT_10]
    exact z_retl () [0, 1, 2] hx hb hr hlocks hK hP hD hS (by rw [← hE]; first | exact (if_pos (by omega)).symm | exact (if_neg (by omega)).symm) trivial rfl rfl (by rw [← hE]; rfl) (Nat.le_of_ble_eq_true rfl) (Nat.le_of_ble_eq_true rfl) dX10_fold_93
  · refine z_ldc2 hx hb (-2000000004) hown (hts _ (List.mem_of_getElem? (i := 4) rfl)) rfl dX10_fold_78 ?_
    refine lv_goto (tgt := 93) hx hb dX10_fold_81 (by decide) ?_
    have hE : T_21 = (rFd 2 4 (rFd 2 2 (rFd 2 0 (rL0 82 (rZ0 S))))) := by rw [hT_21, hT_18, hT_15, hT_12, hT_10]
    exact z_retl () [0, 1, 2] hx hb hr hlocks hK hP hD hS (by rw [← hE]; first | exact (if_pos (by omega)).symm | exact (if_neg (by omega)).symm) trivial rfl rfl (by rw [← hE]; rfl) (Nat.le_of_ble_eq_true rfl) (Nat.le_of_ble_eq_true rfl) dX10_fold_93

set_option maxHeartbeats 4000000 in
set_option maxRecDepth 100000 in
theorem c_X10_fold3 (l : Launch) (g : zG) (q : Nat) (a : Nat → Nat) (x : Nat → Int) (S : RS) (w : Nat) (j : Int) (hz : S.2.2 = 0 ∨ S.2.2 = 1) (hk : ∀ k, k < 6 → rk S k) (hw : w < 2) (hj : 0 ≤ j ∧ j ≤ 1) : zMet l g yX10_fold wsX10_fold 6 0 0 [.ref q, vI 3, vI ((w : Nat) : Int), vI j] zX0 [[mdl q a (uI x 9 S.2.2)], [((a 0), .inl (g.2 1, 88, .inr (.inl (aL S.1))))], [((a 1), .inl (g.2 1, 88, .inr (.inl (aL S.2.1))))]] (ql g (fun (_ : Unit) => (if (rFd 3 4 (rFd 3 2 (rFd 3 0 (rL0 82 (rZ0 S))))).2.2 = 0 then (if j = 0 then (rFd 3 4 (rFd 3 2 (rFd 3 0 (rL0 82 (rZ0 S))))).1 (82 + w) else (rFd 3 4 (rFd 3 2 (rFd 3 0 (rL0 82 (rZ0 S))))).2.1 (82 + w)) else -2000000004)) (fun (_ : Unit) => True) (fun (_ : Unit) => [[mdl q a (uI x 9 (rFd 3 4 (rFd 3 2 (rFd 3 0 (rL0 82 (rZ0 S))))).2.2)], [((a 0), .inl (g.2 1, 88, .inr (.inl (aL (rFd 3 4 (rFd 3 2 (rFd 3 0 (rL0 82 (rZ0 S))))).1))))], [((a 1), .inl (g.2 1, 88, .inr (.inl (aL (rFd 3 4 (rFd 3 2 (rFd 3 0 (rL0 82 (rZ0 S))))).2.1))))]])) := by
  refine z_ent (cc := cX10_fold) (maxL := 5) (ret := (some .long)) (by decide) rfl (Nat.le_of_ble_eq_true rfl) ?_
  intro p e s m below meth c A ls hx hb hr hml hown hts hlocks hin0 hA hK hP hD hS hXX hl
  have hown : s.vm.findClass RX10 = some m.cls := hown
  have hin10_ : ∀ w ∈ wsX100, w ∈ wsX10_fold := zw_in [65, 66, 67, 68, 69, 70, 71, 72, 73, 74, 75, 76, 77, 78, 79, 80, 81, 82, 83, 84, 85, 86, 87, 88, 89, 90] rfl
  have hl : lv_has ls 5 [(0, .ref q), (1, vI 3), (2, vI ((w : Nat) : Int)), (3, vI j)] := hl
  refine lv_iload_n hx hb dX10_fold_0 rfl (lv_at hl 1 rfl) ?_
  refine z_i2l hx hb (by decide) dX10_fold_1 ?_
  refine z_lconst hx hb 0 dX10_fold_2 rfl ?_
  refine z_ldc2 hx hb 3 hown (hts _ (List.mem_of_getElem? (i := 1) rfl)) rfl dX10_fold_3 ?_
  refine z_cSi (As := [vL 3, vL 0, vL 3]) (rest := []) ⟨hx, hb, hml, hown, hts⟩ hK hP hD hS hA [] [0, 1, 2] rfl rfl rfl (c_X10_in l g 3 0 3 (by first | decide | omega) (by first | decide | omega) (by first | decide | omega)) (va_cwS 3 hts gX10_fold_X10_in rfl rfl rfl (by decide +kernel) ⟨Nat.le_of_ble_eq_true rfl, Nat.le_of_ble_eq_true rfl⟩) (fun _ _ _ _ _ _ => trivial) (fun _ _ _ => trivial) rfl hl.1 (Nat.le_of_ble_eq_true rfl) rfl dX10_fold_6 ⟨Nat.le_of_ble_eq_true rfl, Nat.le_of_ble_eq_true rfl⟩ (fun u_1 H locs hwu_1 hP hD hS => ?_)
  try dsimp only at hwu_1
  have hP : zP g [[mdl q a (uI x 9 S.2.2)], [((a 0), .inl (g.2 1, 88, .inr (.inl (aL S.1))))], [((a 1), .inl (g.2 1, 88, .inr (.inl (aL S.2.1))))]] H := hP
  have hD : zD A [[mdl q a (uI x 9 S.2.2)], [((a 0), .inl (g.2 1, 88, .inr (.inl (aL S.1))))], [((a 1), .inl (g.2 1, 88, .inr (.inl (aL S.2.1))))]] := hD
  refine z_toI (inI 3 0 3) rfl ?_
  have hf_2 := inI_s 3 0 3
  refine z_if_eq (tgt := 32) hx hb (by omega) dX10_fold_9 (by decide) (fun cq3 => False.elim (by omega)) (fun cq3 => ?_)
  refine lv_iload_n hx hb dX10_fold_12 rfl (lv_at hl 2 rfl) ?_
  refine z_i2l hx hb (by omega) dX10_fold_13 ?_
  refine z_lconst hx hb 0 dX10_fold_14 rfl ?_
  refine z_lconst hx hb 1 dX10_fold_15 rfl ?_
  refine z_cSi (As := [vL ((w : Nat) : Int), vL 0, vL 1]) (rest := []) ⟨hx, hb, hml, hown, hts⟩ hK hP hD hS hA [] [0, 1, 2] rfl rfl rfl (c_X10_in l g ((w : Nat) : Int) 0 1 (by first | decide | omega) (by first | decide | omega) (by first | decide | omega)) (va_cwS 3 hts gX10_fold_X10_in rfl rfl rfl (by decide +kernel) ⟨Nat.le_of_ble_eq_true rfl, Nat.le_of_ble_eq_true rfl⟩) (fun _ _ _ _ _ _ => trivial) (fun _ _ _ => trivial) rfl hl.1 (Nat.le_of_ble_eq_true rfl) rfl dX10_fold_16 ⟨Nat.le_of_ble_eq_true rfl, Nat.le_of_ble_eq_true rfl⟩ (fun u_4 H locs hwu_4 hP hD hS => ?_)
  try dsimp only at hwu_4
  have hP : zP g [[mdl q a (uI x 9 S.2.2)], [((a 0), .inl (g.2 1, 88, .inr (.inl (aL S.1))))], [((a 1), .inl (g.2 1, 88, .inr (.inl (aL S.2.1))))]] H := hP
  have hD : zD A [[mdl q a (uI x 9 S.2.2)], [((a 0), .inl (g.2 1, 88, .inr (.inl (aL S.1))))], [((a 1), .inl (g.2 1, 88, .inr (.inl (aL S.2.1))))]] := hD
  refine z_toI (inI ((w : Nat) : Int) 0 1) rfl ?_
  have hf_5 := inI_s ((w : Nat) : Int) 0 1
  refine z_if_eq (tgt := 32) hx hb (by omega) dX10_fold_19 (by decide) (fun cq6 => False.elim (by omega)) (fun cq6 => ?_)
  refine lv_iload_n hx hb dX10_fold_22 rfl (lv_at hl 3 rfl) ?_
  refine z_i2l hx hb (by omega) dX10_fold_23 ?_
  refine z_lconst hx hb 0 dX10_fold_24 rfl ?_
  refine z_lconst hx hb 1 dX10_fold_25 rfl ?_
  refine z_cSi (As := [vL j, vL 0, vL 1]) (rest := []) ⟨hx, hb, hml, hown, hts⟩ hK hP hD hS hA [] [0, 1, 2] rfl rfl rfl (c_X10_in l g j 0 1 (by first | decide | omega) (by first | decide | omega) (by first | decide | omega)) (va_cwS 3 hts gX10_fold_X10_in rfl rfl rfl (by decide +kernel) ⟨Nat.le_of_ble_eq_true rfl, Nat.le_of_ble_eq_true rfl⟩) (fun _ _ _ _ _ _ => trivial) (fun _ _ _ => trivial) rfl hl.1 (Nat.le_of_ble_eq_true rfl) rfl dX10_fold_26 ⟨Nat.le_of_ble_eq_true rfl, Nat.le_of_ble_eq_true rfl⟩ (fun u_7 H locs hwu_7 hP hD hS => ?_)
  try dsimp only at hwu_7
  have hP : zP g [[mdl q a (uI x 9 S.2.2)], [((a 0), .inl (g.2 1, 88, .inr (.inl (aL S.1))))], [((a 1), .inl (g.2 1, 88, .inr (.inl (aL S.2.1))))]] H := hP
  have hD : zD A [[mdl q a (uI x 9 S.2.2)], [((a 0), .inl (g.2 1, 88, .inr (.inl (aL S.1))))], [((a 1), .inl (g.2 1, 88, .inr (.inl (aL S.2.1))))]] := hD
  refine z_toI (inI j 0 1) rfl ?_
  have hf_8 := inI_s j 0 1
  refine z_if_ne (tgt := 36) hx hb (by omega) dX10_fold_29 (by decide) (fun cq9 => ?_) (fun cq9 => False.elim (by omega))
  refine lv_aload_n hx hb dX10_fold_36 rfl (lv_at hl 0 rfl) ?_
  refine z_iconst hx hb dX10_fold_37 rfl ?_
  refine z_put hx hb hts hin10_ tyX10 tyX10_ok nmX10 hown hK hP hD hS 0 rfl rfl 22 (by decide) (hts _ (List.mem_of_getElem? (i := 3) rfl)) rfl (nar_z (by decide)) (fit_z (by decide)) (Nat.le_of_ble_eq_true rfl) dX10_fold_38 [[mdl q a (uI x 9 0)], [((a 0), .inl (g.2 1, 88, .inr (.inl (aL S.1))))], [((a 1), .inl (g.2 1, 88, .inr (.inl (aL S.2.1))))]] rfl (fun H locs hP hD hS => ?_)
  obtain ⟨T_10, hT_10⟩ : ∃ T : RS, T = rZ0  S := ⟨_, rfl⟩
  have hP : zP g [[mdl q a (uI x 9 T_10.2.2)], [((a 0), .inl (g.2 1, 88, .inr (.inl (aL T_10.1))))], [((a 1), .inl (g.2 1, 88, .inr (.inl (aL T_10.2.1))))]] H := by rw [hT_10]; exact hP
  have hD : zD A [[mdl q a (uI x 9 T_10.2.2)], [((a 0), .inl (g.2 1, 88, .inr (.inl (aL T_10.1))))], [((a 1), .inl (g.2 1, 88, .inr (.inl (aL T_10.2.1))))]] := by rw [hT_10]; exact hD
  have hZT_10 : T_10.2.2 = 0 ∨ T_10.2.2 = 1 := by rw [hT_10]; exact rZ0_01 hz
  have hNT_10_0 : T_10.2.2 = 0 → rk T_10 0 := by rw [hT_10]; exact rZ0_r (hk 0 (by decide)) 
  have hNT_10_1 : T_10.2.2 = 0 → rk T_10 1 := by rw [hT_10]; exact rZ0_r (hk 1 (by decide)) 
  have hNT_10_2 : T_10.2.2 = 0 → rk T_10 2 := by rw [hT_10]; exact rZ0_r (hk 2 (by decide)) 
  have hNT_10_3 : T_10.2.2 = 0 → rk T_10 3 := by rw [hT_10]; exact rZ0_r (hk 3 (by decide)) 
  have hNT_10_4 : T_10.2.2 = 0 → rk T_10 4 := by rw [hT_10]; exact rZ0_r (hk 4 (by decide)) 
  have hNT_10_5 : T_10.2.2 = 0 → rk T_10 5 := by rw [hT_10]; exact rZ0_r (hk 5 (by decide)) 
  refine lv_aload_n hx hb dX10_fold_41 rfl (lv_at hl 0 rfl) ?_
  refine z_bipush hx hb 82 dX10_fold_42 rfl ?_
  refine z_cVv (As := [vI 82]) (rest := []) ⟨hx, hb, hml, hown, hts⟩ hK hP hD hS hA [0, 1, 2] [] rfl rfl rfl (c_X10_layNought l g q a (uI x 9 T_10.2.2) T_10 82 (by omega)) (cwV 1 hts gX10_fold_X10_layNought rfl rfl rfl (by decide +kernel) ⟨Nat.le_of_ble_eq_true rfl, Nat.le_of_ble_eq_true rfl⟩) 10 0 rfl rfl rfl (fun _ _ _ _ _ _ => trivial) (fun _ _ _ => trivial) rfl hl.1 (Nat.le_of_ble_eq_true rfl) rfl dX10_fold_44 ⟨Nat.le_of_ble_eq_true rfl, Nat.le_of_ble_eq_true rfl⟩ (fun u_11 H locs hwu_11 hP hD hS => ?_)
  try dsimp only at hwu_11
  have hP : zP g [[mdl q a (uI x 9 T_10.2.2)], [((a 0), .inl (g.2 1, 88, .inr (.inl (aL (rL0 82 T_10).1))))], [((a 1), .inl (g.2 1, 88, .inr (.inl (aL (rL0 82 T_10).2.1))))]] H := hP
  have hD : zD A [[mdl q a (uI x 9 T_10.2.2)], [((a 0), .inl (g.2 1, 88, .inr (.inl (aL (rL0 82 T_10).1))))], [((a 1), .inl (g.2 1, 88, .inr (.inl (aL (rL0 82 T_10).2.1))))]] := hD
  obtain ⟨T_12, hT_12⟩ : ∃ T : RS, T = rL0 82 T_10 := ⟨_, rfl⟩
  have hP : zP g [[mdl q a (uI x 9 T_12.2.2)], [((a 0), .inl (g.2 1, 88, .inr (.inl (aL T_12.1))))], [((a 1), .inl (g.2 1, 88, .inr (.inl (aL T_12.2.1))))]] H := by rw [hT_12]; exact hP
  have hD : zD A [[mdl q a (uI x 9 T_12.2.2)], [((a 0), .inl (g.2 1, 88, .inr (.inl (aL T_12.1))))], [((a 1), .inl (g.2 1, 88, .inr (.inl (aL T_12.2.1))))]] := by rw [hT_12]; exact hD
  have hZT_12 : T_12.2.2 = 0 ∨ T_12.2.2 = 1 := by rw [hT_12]; exact rL0_01 hZT_10
  have hRT_12_0 : T_12.2.2 = 0 → rk T_12 0 := by rw [hT_12]; exact rL0_rk (by omega) (by omega) hNT_10_0
  have hRT_12_1 : T_12.2.2 = 0 → rk T_12 1 := by rw [hT_12]; exact rL0_rk (by omega) (by omega) hNT_10_1
  have hRT_12_2 : T_12.2.2 = 0 → rk T_12 2 := by rw [hT_12]; exact rL0_rk (by omega) (by omega) hNT_10_2
  have hRT_12_3 : T_12.2.2 = 0 → rk T_12 3 := by rw [hT_12]; exact rL0_rk (by omega) (by omega) hNT_10_3
  have hRT_12_4 : T_12.2.2 = 0 → rk T_12 4 := by rw [hT_12]; exact rL0_rk (by omega) (by omega) hNT_10_4
  have hRT_12_5 : T_12.2.2 = 0 → rk T_12 5 := by rw [hT_12]; exact rL0_rk (by omega) (by omega) hNT_10_5
  have hNT_12_0 : T_12.2.2 = 0 → rk T_12 82 := by rw [hT_12]; exact rL0_r0 
  have hNT_12_1 : T_12.2.2 = 0 → rk T_12 83 := by rw [hT_12]; exact rL0_r1 
  refine z_iconst hx hb dX10_fold_47 rfl ?_
  refine lv_istore (lv' := [(4, vI 0), (0, .ref q), (1, vI 3), (2, vI ((w : Nat) : Int)), (3, vI j)]) hx hb dX10_fold_48 hl (by decide) rfl (fun ls hl => ?_)
  refine lv_iload hx hb dX10_fold_50 (lv_at hl 0 rfl) ?_
  refine z_iconst hx hb dX10_fold_52 rfl ?_
  refine z_icmp_ge (tgt := 71) hx hb (by decide) (by decide) dX10_fold_53 (by decide) (fun cq13 => False.elim (by omega)) (fun cq13 => ?_)
  refine lv_aload_n hx hb dX10_fold_56 rfl (lv_at hl 1 rfl) ?_
  refine lv_iload_n hx hb dX10_fold_57 rfl (lv_at hl 2 rfl) ?_
  refine z_iconst hx hb dX10_fold_58 rfl ?_
  refine lv_iload hx hb dX10_fold_59 (lv_at hl 0 rfl) ?_
  refine z_imul hx hb 0 rfl dX10_fold_61 ?_
  refine z_cVv (As := [vI 3, vI 0]) (rest := []) ⟨hx, hb, hml, hown, hts⟩ hK hP hD hS hA [0, 1, 2] [] rfl rfl rfl (c_X10_folds3 l g q a (uI x 9 T_12.2.2) T_12 0 (by omega) hZT_12 hNT_12_0 hNT_12_1 hRT_12_0 hRT_12_1) (cwV 2 hts gX10_fold_X10_folds rfl rfl rfl (by decide +kernel) ⟨Nat.le_of_ble_eq_true rfl, Nat.le_of_ble_eq_true rfl⟩) 10 0 rfl rfl rfl (fun _ _ _ _ _ _ => trivial) (fun _ _ _ => trivial) rfl hl.1 (Nat.le_of_ble_eq_true rfl) rfl dX10_fold_62 ⟨Nat.le_of_ble_eq_true rfl, Nat.le_of_ble_eq_true rfl⟩ (fun u_14 H locs hwu_14 hP hD hS => ?_)
  try dsimp only at hwu_14
  have hP : zP g [[mdl q a (uI x 9 (rFd 3 0 T_12).2.2)], [((a 0), .inl (g.2 1, 88, .inr (.inl (aL (rFd 3 0 T_12).1))))], [((a 1), .inl (g.2 1, 88, .inr (.inl (aL (rFd 3 0 T_12).2.1))))]] H := hP
  have hD : zD A [[mdl q a (uI x 9 (rFd 3 0 T_12).2.2)], [((a 0), .inl (g.2 1, 88, .inr (.inl (aL (rFd 3 0 T_12).1))))], [((a 1), .inl (g.2 1, 88, .inr (.inl (aL (rFd 3 0 T_12).2.1))))]] := hD
  obtain ⟨T_15, hT_15⟩ : ∃ T : RS, T = rFd 3 0 T_12 := ⟨_, rfl⟩
  have hP : zP g [[mdl q a (uI x 9 T_15.2.2)], [((a 0), .inl (g.2 1, 88, .inr (.inl (aL T_15.1))))], [((a 1), .inl (g.2 1, 88, .inr (.inl (aL T_15.2.1))))]] H := by rw [hT_15]; exact hP
  have hD : zD A [[mdl q a (uI x 9 T_15.2.2)], [((a 0), .inl (g.2 1, 88, .inr (.inl (aL T_15.1))))], [((a 1), .inl (g.2 1, 88, .inr (.inl (aL T_15.2.1))))]] := by rw [hT_15]; exact hD
  have hZT_15 : T_15.2.2 = 0 ∨ T_15.2.2 = 1 := by rw [hT_15]; exact rFd_01 hZT_12
  have hRT_15_0 : T_15.2.2 = 0 → rk T_15 0 := by rw [hT_15]; exact rFd_rk (by omega) hRT_12_0
  have hRT_15_1 : T_15.2.2 = 0 → rk T_15 1 := by rw [hT_15]; exact rFd_rk (by omega) hRT_12_1
  have hRT_15_2 : T_15.2.2 = 0 → rk T_15 2 := by rw [hT_15]; exact rFd_rk (by omega) hRT_12_2
  have hRT_15_3 : T_15.2.2 = 0 → rk T_15 3 := by rw [hT_15]; exact rFd_rk (by omega) hRT_12_3
  have hRT_15_4 : T_15.2.2 = 0 → rk T_15 4 := by rw [hT_15]; exact rFd_rk (by omega) hRT_12_4
  have hRT_15_5 : T_15.2.2 = 0 → rk T_15 5 := by rw [hT_15]; exact rFd_rk (by omega) hRT_12_5
  have hNT_15_0 : T_15.2.2 = 0 → rk T_15 82 := by rw [hT_15]; exact rFd_r0 (by omega) hNT_12_0 hNT_12_1 hRT_12_0 hRT_12_1
  have hNT_15_1 : T_15.2.2 = 0 → rk T_15 83 := by rw [hT_15]; exact rFd_r1 (by omega) hNT_12_0 hNT_12_1 hRT_12_0 hRT_12_1
  refine z_iinc hx hb 1 (lv' := [(4, vI 1), (0, .ref q), (1, vI 3), (2, vI ((w : Nat) : Int)), (3, vI j)]) dX10_fold_65 hl (k := 0) rfl (rfl) (by decide) rfl (fun ls hl => ?_)
  refine lv_goto (tgt := 50) hx hb dX10_fold_68 (by decide) ?_
  refine lv_iload hx hb dX10_fold_50 (lv_at hl 0 rfl) ?_
  refine z_iconst hx hb dX10_fold_52 rfl ?_
  refine z_icmp_ge (tgt := 71) hx hb (by decide) (by decide) dX10_fold_53 (by decide) (fun cq16 => False.elim (by omega)) (fun cq16 => ?_)
  refine lv_aload_n hx hb dX10_fold_56 rfl (lv_at hl 1 rfl) ?_
  refine lv_iload_n hx hb dX10_fold_57 rfl (lv_at hl 2 rfl) ?_
  refine z_iconst hx hb dX10_fold_58 rfl ?_
  refine lv_iload hx hb dX10_fold_59 (lv_at hl 0 rfl) ?_
  refine z_imul hx hb 2 rfl dX10_fold_61 ?_
  refine z_cVv (As := [vI 3, vI 2]) (rest := []) ⟨hx, hb, hml, hown, hts⟩ hK hP hD hS hA [0, 1, 2] [] rfl rfl rfl (c_X10_folds3 l g q a (uI x 9 T_15.2.2) T_15 2 (by omega) hZT_15 hNT_15_0 hNT_15_1 hRT_15_2 hRT_15_3) (cwV 2 hts gX10_fold_X10_folds rfl rfl rfl (by decide +kernel) ⟨Nat.le_of_ble_eq_true rfl, Nat.le_of_ble_eq_true rfl⟩) 10 0 rfl rfl rfl (fun _ _ _ _ _ _ => trivial) (fun _ _ _ => trivial) rfl hl.1 (Nat.le_of_ble_eq_true rfl) rfl dX10_fold_62 ⟨Nat.le_of_ble_eq_true rfl, Nat.le_of_ble_eq_true rfl⟩ (fun u_17 H locs hwu_17 hP hD hS => ?_)
  try dsimp only at hwu_17
  have hP : zP g [[mdl q a (uI x 9 (rFd 3 2 T_15).2.2)], [((a 0), .inl (g.2 1, 88, .inr (.inl (aL (rFd 3 2 T_15).1))))], [((a 1), .inl (g.2 1, 88, .inr (.inl (aL (rFd 3 2 T_15).2.1))))]] H := hP
  have hD : zD A [[mdl q a (uI x 9 (rFd 3 2 T_15).2.2)], [((a 0), .inl (g.2 1, 88, .inr (.inl (aL (rFd 3 2 T_15).1))))], [((a 1), .inl (g.2 1, 88, .inr (.inl (aL (rFd 3 2 T_15).2.1))))]] := hD
  obtain ⟨T_18, hT_18⟩ : ∃ T : RS, T = rFd 3 2 T_15 := ⟨_, rfl⟩
  have hP : zP g [[mdl q a (uI x 9 T_18.2.2)], [((a 0), .inl (g.2 1, 88, .inr (.inl (aL T_18.1))))], [((a 1), .inl (g.2 1, 88, .inr (.inl (aL T_18.2.1))))]] H := by rw [hT_18]; exact hP
  have hD : zD A [[mdl q a (uI x 9 T_18.2.2)], [((a 0), .inl (g.2 1, 88, .inr (.inl (aL T_18.1))))], [((a 1), .inl (g.2 1, 88, .inr (.inl (aL T_18.2.1))))]] := by rw [hT_18]; exact hD
  have hZT_18 : T_18.2.2 = 0 ∨ T_18.2.2 = 1 := by rw [hT_18]; exact rFd_01 hZT_15
  have hRT_18_0 : T_18.2.2 = 0 → rk T_18 0 := by rw [hT_18]; exact rFd_rk (by omega) hRT_15_0
  have hRT_18_1 : T_18.2.2 = 0 → rk T_18 1 := by rw [hT_18]; exact rFd_rk (by omega) hRT_15_1
  have hRT_18_2 : T_18.2.2 = 0 → rk T_18 2 := by rw [hT_18]; exact rFd_rk (by omega) hRT_15_2
  have hRT_18_3 : T_18.2.2 = 0 → rk T_18 3 := by rw [hT_18]; exact rFd_rk (by omega) hRT_15_3
  have hRT_18_4 : T_18.2.2 = 0 → rk T_18 4 := by rw [hT_18]; exact rFd_rk (by omega) hRT_15_4
  have hRT_18_5 : T_18.2.2 = 0 → rk T_18 5 := by rw [hT_18]; exact rFd_rk (by omega) hRT_15_5
  have hNT_18_0 : T_18.2.2 = 0 → rk T_18 82 := by rw [hT_18]; exact rFd_r0 (by omega) hNT_15_0 hNT_15_1 hRT_15_2 hRT_15_3
  have hNT_18_1 : T_18.2.2 = 0 → rk T_18 83 := by rw [hT_18]; exact rFd_r1 (by omega) hNT_15_0 hNT_15_1 hRT_15_2 hRT_15_3
  refine z_iinc hx hb 2 (lv' := [(4, vI 2), (0, .ref q), (1, vI 3), (2, vI ((w : Nat) : Int)), (3, vI j)]) dX10_fold_65 hl (k := 0) rfl (rfl) (by decide) rfl (fun ls hl => ?_)
  refine lv_goto (tgt := 50) hx hb dX10_fold_68 (by decide) ?_
  refine lv_iload hx hb dX10_fold_50 (lv_at hl 0 rfl) ?_
  refine z_iconst hx hb dX10_fold_52 rfl ?_
  refine z_icmp_ge (tgt := 71) hx hb (by decide) (by decide) dX10_fold_53 (by decide) (fun cq19 => False.elim (by omega)) (fun cq19 => ?_)
  refine lv_aload_n hx hb dX10_fold_56 rfl (lv_at hl 1 rfl) ?_
  refine lv_iload_n hx hb dX10_fold_57 rfl (lv_at hl 2 rfl) ?_
  refine z_iconst hx hb dX10_fold_58 rfl ?_
  refine lv_iload hx hb dX10_fold_59 (lv_at hl 0 rfl) ?_
  refine z_imul hx hb 4 rfl dX10_fold_61 ?_
  refine z_cVv (As := [vI 3, vI 4]) (rest := []) ⟨hx, hb, hml, hown, hts⟩ hK hP hD hS hA [0, 1, 2] [] rfl rfl rfl (c_X10_folds3 l g q a (uI x 9 T_18.2.2) T_18 4 (by omega) hZT_18 hNT_18_0 hNT_18_1 hRT_18_4 hRT_18_5) (cwV 2 hts gX10_fold_X10_folds rfl rfl rfl (by decide +kernel) ⟨Nat.le_of_ble_eq_true rfl, Nat.le_of_ble_eq_true rfl⟩) 10 0 rfl rfl rfl (fun _ _ _ _ _ _ => trivial) (fun _ _ _ => trivial) rfl hl.1 (Nat.le_of_ble_eq_true rfl) rfl dX10_fold_62 ⟨Nat.le_of_ble_eq_true rfl, Nat.le_of_ble_eq_true rfl⟩ (fun u_20 H locs hwu_20 hP hD hS => ?_)
  try dsimp only at hwu_20
  have hP : zP g [[mdl q a (uI x 9 (rFd 3 4 T_18).2.2)], [((a 0), .inl (g.2 1, 88, .inr (.inl (aL (rFd 3 4 T_18).1))))], [((a 1), .inl (g.2 1, 88, .inr (.inl (aL (rFd 3 4 T_18).2.1))))]] H := hP
  have hD : zD A [[mdl q a (uI x 9 (rFd 3 4 T_18).2.2)], [((a 0), .inl (g.2 1, 88, .inr (.inl (aL (rFd 3 4 T_18).1))))], [((a 1), .inl (g.2 1, 88, .inr (.inl (aL (rFd 3 4 T_18).2.1))))]] := hD
  obtain ⟨T_21, hT_21⟩ : ∃ T : RS, T = rFd 3 4 T_18 := ⟨_, rfl⟩
  have hP : zP g [[mdl q a (uI x 9 T_21.2.2)], [((a 0), .inl (g.2 1, 88, .inr (.inl (aL T_21.1))))], [((a 1), .inl (g.2 1, 88, .inr (.inl (aL T_21.2.1))))]] H := by rw [hT_21]; exact hP
  have hD : zD A [[mdl q a (uI x 9 T_21.2.2)], [((a 0), .inl (g.2 1, 88, .inr (.inl (aL T_21.1))))], [((a 1), .inl (g.2 1, 88, .inr (.inl (aL T_21.2.1))))]] := by rw [hT_21]; exact hD
  have hZT_21 : T_21.2.2 = 0 ∨ T_21.2.2 = 1 := by rw [hT_21]; exact rFd_01 hZT_18
  have hRT_21_0 : T_21.2.2 = 0 → rk T_21 0 := by rw [hT_21]; exact rFd_rk (by omega) hRT_18_0
  have hRT_21_1 : T_21.2.2 = 0 → rk T_21 1 := by rw [hT_21]; exact rFd_rk (by omega) hRT_18_1
  have hRT_21_2 : T_21.2.2 = 0 → rk T_21 2 := by rw [hT_21]; exact rFd_rk (by omega) hRT_18_2
  have hRT_21_3 : T_21.2.2 = 0 → rk T_21 3 := by rw [hT_21]; exact rFd_rk (by omega) hRT_18_3
  have hRT_21_4 : T_21.2.2 = 0 → rk T_21 4 := by rw [hT_21]; exact rFd_rk (by omega) hRT_18_4
  have hRT_21_5 : T_21.2.2 = 0 → rk T_21 5 := by rw [hT_21]; exact rFd_rk (by omega) hRT_18_5
  have hNT_21_0 : T_21.2.2 = 0 → rk T_21 82 := by rw [hT_21]; exact rFd_r0 (by omega) hNT_18_0 hNT_18_1 hRT_18_4 hRT_18_5
  have hNT_21_1 : T_21.2.2 = 0 → rk T_21 83 := by rw [hT_21]; exact rFd_r1 (by omega) hNT_18_0 hNT_18_1 hRT_18_4 hRT_18_5
  refine z_iinc hx hb 3 (lv' := [(4, vI 3), (0, .ref q), (1, vI 3), (2, vI ((w : Nat) : Int)), (3, vI j)]) dX10_fold_65 hl (k := 0) rfl (rfl) (by decide) rfl (fun ls hl => ?_)
  refine lv_goto (tgt := 50) hx hb dX10_fold_68 (by decide) ?_
  refine lv_iload hx hb dX10_fold_50 (lv_at hl 0 rfl) ?_
  refine z_iconst hx hb dX10_fold_52 rfl ?_
  refine z_icmp_ge (tgt := 71) hx hb (by decide) (by decide) dX10_fold_53 (by decide) (fun cq22 => ?_) (fun cq22 => False.elim (by omega))
  refine lv_aload_n hx hb dX10_fold_71 rfl (lv_at hl 1 rfl) ?_
  refine z_get hx hb hts hin10_ hown hK hP 0 rfl rfl 22 (by decide) (hts _ (List.mem_of_getElem? (i := 3) rfl)) rfl dX10_fold_72 ?_
  refine z_toI T_21.2.2 rfl ?_
  refine z_if_eq (tgt := 84) hx hb (by omega) dX10_fold_75 (by decide) (fun cq23 => ?_) (fun cq23 => ?_)
  · refine lv_aload_n hx hb dX10_fold_84 rfl (lv_at hl 1 rfl) ?_
    refine z_bipush hx hb 82 dX10_fold_85 rfl ?_
    refine lv_iload_n hx hb dX10_fold_87 rfl (lv_at hl 3 rfl) ?_
    refine z_iadd hx hb (((82 + w) : Nat) : Int) (by omega) dX10_fold_88 ?_
    refine lv_iload_n hx hb dX10_fold_89 rfl (lv_at hl 4 rfl) ?_
    refine z_cVl (As := [vI (((82 + w) : Nat) : Int), vI j]) (rest := []) ⟨hx, hb, hml, hown, hts⟩ hK hP hD hS hA [0, 1, 2] [] rfl rfl rfl (c_X10_partOf l g q a (uI x 9 T_21.2.2) T_21 (82 + w) j (by omega) (by omega)) (cwV 2 hts gX10_fold_X10_partOf rfl rfl rfl (by decide +kernel) ⟨Nat.le_of_ble_eq_true rfl, Nat.le_of_ble_eq_true rfl⟩) 10 0 rfl rfl rfl (fun _ _ _ _ _ _ => trivial) (fun _ _ _ => trivial) rfl hl.1 (Nat.le_of_ble_eq_true rfl) rfl dX10_fold_90 ⟨Nat.le_of_ble_eq_true rfl, Nat.le_of_ble_eq_true rfl⟩ (fun u_24 H locs hwu_24 hP hD hS => ?_)
    try dsimp only at hwu_24
    have hP : zP g [[mdl q a (uI x 9 T_21.2.2)], [((a 0), .inl (g.2 1, 88, .inr (.inl (aL T_21.1))))], [((a 1), .inl (g.2 1, 88, .inr (.inl (aL T_21.2.1))))]] H := hP
    have hD : zD A [[mdl q a (uI x 9 T_21.2.2)], [((a 0), .inl (g.2 1, 88, .inr (.inl (aL T_21.1))))], [((a 1), .inl (g.2 1, 88, .inr (.inl (aL T_21.2.1))))]] := hD
    refine z_toL (if j = 0 then T_21.1 (82 + w) else T_21.2.1 (82 + w)) rfl ?_
    have hE : T_21 = (rFd 3 4 (rFd 3 2 (rFd 3 0 (rL0 82 (rZ0 S))))) := by rw [hT_21, hT_18, hT_15, hT_12, hT_10]
    exact z_retl () [0, 1, 2] hx hb hr hlocks hK hP hD hS (by rw [← hE]; first | exact (if_pos (by omega)).symm | exact (if_neg (by omega)).symm) trivial rfl rfl (by rw [← hE]; rfl) (Nat.le_of_ble_eq_true rfl) (Nat.le_of_ble_eq_true rfl) dX10_fold_93
  · refine z_ldc2 hx hb (-2000000004) hown (hts _ (List.mem_of_getElem? (i := 4) rfl)) rfl dX10_fold_78 ?_
    refine lv_goto (tgt := 93) hx hb dX10_fold_81 (by decide) ?_
    have hE : T_21 = (rFd 3 4 (rFd 3 2 (rFd 3 0 (rL0 82 (rZ0 S))))) := by rw [hT_21, hT_18, hT_15, hT_12, hT_10]
    exact z_retl () [0, 1, 2] hx hb hr hlocks hK hP hD hS (by rw [← hE]; first | exact (if_pos (by omega)).symm | exact (if_neg (by omega)).symm) trivial rfl rfl (by rw [← hE]; rfl) (Nat.le_of_ble_eq_true rfl) (Nat.le_of_ble_eq_true rfl) dX10_fold_93
