set_option maxHeartbeats 4000000 in
set_option maxRecDepth 100000 in
theorem c_X10_phase_unk (l : Launch) (g : zG) (q : Nat) (a : Nat → Nat) (x : Nat → Int) (pp : Int) (b0 : Int) (b1 : Int) (b2 : Int) (b3 : Int) (r9 : -2147483648 ≤ pp ∧ pp < 2147483648) (r0 : -2147483648 ≤ b0 ∧ b0 < 2147483648) (r1 : -2147483648 ≤ b1 ∧ b1 < 2147483648) (r2 : -2147483648 ≤ b2 ∧ b2 < 2147483648) (r3 : -2147483648 ≤ b3 ∧ b3 < 2147483648) (hp : ¬ (0 ≤ pp ∧ pp ≤ 2)) : zMet l g yX10_phase wsX10_phase 2 0 0 [.ref q, vI pp, vI b0, vI b1, vI b2, vI b3] zX0 [[mdl q a x]] (qi g (fun (_ : Unit) => (-2000000001)) (fun (_ : Unit) => True) (fun (_ : Unit) => [[mdl q a x]])) := by
  refine z_ent (cc := cX10_phase) (maxL := 6) (ret := (some .int)) (by decide) rfl (Nat.le_of_ble_eq_true rfl) ?_
  intro p e s m below meth c A ls hx hb hr hml hown hts hlocks hin0 hA hK hP hD hS hXX hl
  have hown : s.vm.findClass RX10 = some m.cls := hown
  have hl : lv_has ls 6 [(0, .ref q), (1, vI pp), (2, vI b0), (3, vI b1), (4, vI b2), (5, vI b3)] := hl
  refine lv_iload_n hx hb dX10_phase_0 rfl (lv_at hl 1 rfl) ?_
  refine z_cSi (As := [vI pp]) (rest := []) ⟨hx, hb, hml, hown, hts⟩ hK hP hD hS hA [] [0] rfl rfl rfl (c_X10_isPhase l g pp (by first | decide | omega)) (va_cwS 1 hts gX10_phase_X10_isPhase rfl rfl rfl (by decide +kernel) ⟨Nat.le_of_ble_eq_true rfl, Nat.le_of_ble_eq_true rfl⟩) (fun _ _ _ _ _ _ => trivial) (fun _ _ _ => trivial) rfl hl.1 (Nat.le_of_ble_eq_true rfl) rfl dX10_phase_1 ⟨Nat.le_of_ble_eq_true rfl, Nat.le_of_ble_eq_true rfl⟩ (fun u_1 H locs hwu_1 hP hD hS => ?_)
  try dsimp only at hwu_1
  have hP : zP g [[mdl q a x]] H := hP
  have hD : zD A [[mdl q a x]] := hD
  refine z_toI (inI pp 0 2) rfl ?_
  have hf_2 := inI_s pp 0 2
  refine z_if_ne (tgt := 10) hx hb (by omega) dX10_phase_4 (by decide) (fun cq3 => False.elim (by omega)) (fun cq3 => ?_)
  refine z_ldc hx hb (-2000000001) hown (hts _ (List.mem_of_getElem? (i := 1) rfl)) rfl dX10_phase_7 ?_
  exact z_reti () [0] hx hb hr rfl hlocks hK hP hD hS (rfl) trivial rfl rfl (rfl) (Nat.le_of_ble_eq_true rfl) (Nat.le_of_ble_eq_true rfl) dX10_phase_9

set_option maxHeartbeats 4000000 in
set_option maxRecDepth 100000 in
theorem c_X10_phase_out (l : Launch) (g : zG) (q : Nat) (a : Nat → Nat) (x : Nat → Int) (pp : Int) (b0 : Int) (b1 : Int) (b2 : Int) (b3 : Int) (r9 : -2147483648 ≤ pp ∧ pp < 2147483648) (r0 : -2147483648 ≤ b0 ∧ b0 < 2147483648) (r1 : -2147483648 ≤ b1 ∧ b1 < 2147483648) (r2 : -2147483648 ≤ b2 ∧ b2 < 2147483648) (r3 : -2147483648 ≤ b3 ∧ b3 < 2147483648) (hp : 0 ≤ pp ∧ pp ≤ 2) (ho : ¬ ((-9999 ≤ b0 ∧ b0 ≤ 9999) ∧ (1 ≤ b1 ∧ b1 ≤ 9999) ∧ (-9999 ≤ b2 ∧ b2 ≤ 9999) ∧ (1 ≤ b3 ∧ b3 ≤ 9999))) : zMet l g yX10_phase wsX10_phase 2 0 0 [.ref q, vI pp, vI b0, vI b1, vI b2, vI b3] zX0 [[mdl q a x]] (qi g (fun (_ : Unit) => (-2000000002)) (fun (_ : Unit) => True) (fun (_ : Unit) => [[mdl q a x]])) := by
  refine z_ent (cc := cX10_phase) (maxL := 6) (ret := (some .int)) (by decide) rfl (Nat.le_of_ble_eq_true rfl) ?_
  intro p e s m below meth c A ls hx hb hr hml hown hts hlocks hin0 hA hK hP hD hS hXX hl
  have hown : s.vm.findClass RX10 = some m.cls := hown
  have hl : lv_has ls 6 [(0, .ref q), (1, vI pp), (2, vI b0), (3, vI b1), (4, vI b2), (5, vI b3)] := hl
  refine lv_iload_n hx hb dX10_phase_0 rfl (lv_at hl 1 rfl) ?_
  refine z_cSi (As := [vI pp]) (rest := []) ⟨hx, hb, hml, hown, hts⟩ hK hP hD hS hA [] [0] rfl rfl rfl (c_X10_isPhase l g pp (by first | decide | omega)) (va_cwS 1 hts gX10_phase_X10_isPhase rfl rfl rfl (by decide +kernel) ⟨Nat.le_of_ble_eq_true rfl, Nat.le_of_ble_eq_true rfl⟩) (fun _ _ _ _ _ _ => trivial) (fun _ _ _ => trivial) rfl hl.1 (Nat.le_of_ble_eq_true rfl) rfl dX10_phase_1 ⟨Nat.le_of_ble_eq_true rfl, Nat.le_of_ble_eq_true rfl⟩ (fun u_1 H locs hwu_1 hP hD hS => ?_)
  try dsimp only at hwu_1
  have hP : zP g [[mdl q a x]] H := hP
  have hD : zD A [[mdl q a x]] := hD
  refine z_toI (inI pp 0 2) rfl ?_
  have hf_2 := inI_s pp 0 2
  refine z_if_ne (tgt := 10) hx hb (by omega) dX10_phase_4 (by decide) (fun cq3 => ?_) (fun cq3 => False.elim (by omega))
  refine lv_iload_n hx hb dX10_phase_10 rfl (lv_at hl 2 rfl) ?_
  refine z_i2l hx hb (by omega) dX10_phase_11 ?_
  refine z_ldc2 hx hb (-9999) hown (hts _ (List.mem_of_getElem? (i := 2) rfl)) rfl dX10_phase_12 ?_
  refine z_ldc2 hx hb 9999 hown (hts _ (List.mem_of_getElem? (i := 3) rfl)) rfl dX10_phase_15 ?_
  refine z_cSi (As := [vL b0, vL (-9999), vL 9999]) (rest := []) ⟨hx, hb, hml, hown, hts⟩ hK hP hD hS hA [] [0] rfl rfl rfl (c_X10_in l g b0 (-9999) 9999 (by first | decide | omega) (by first | decide | omega) (by first | decide | omega)) (va_cwS 3 hts gX10_phase_X10_in rfl rfl rfl (by decide +kernel) ⟨Nat.le_of_ble_eq_true rfl, Nat.le_of_ble_eq_true rfl⟩) (fun _ _ _ _ _ _ => trivial) (fun _ _ _ => trivial) rfl hl.1 (Nat.le_of_ble_eq_true rfl) rfl dX10_phase_18 ⟨Nat.le_of_ble_eq_true rfl, Nat.le_of_ble_eq_true rfl⟩ (fun u_4 H locs hwu_4 hP hD hS => ?_)
  try dsimp only at hwu_4
  have hP : zP g [[mdl q a x]] H := hP
  have hD : zD A [[mdl q a x]] := hD
  refine z_toI (inI b0 (-9999) 9999) rfl ?_
  have hf_5 := inI_s b0 (-9999) 9999
  refine z_if_eq (tgt := 64) hx hb (by omega) dX10_phase_21 (by decide) (fun cq6 => ?_) (fun cq6 => ?_)
  · refine z_ldc hx hb (-2000000002) hown (hts _ (List.mem_of_getElem? (i := 4) rfl)) rfl dX10_phase_64 ?_
    exact z_reti () [0] hx hb hr rfl hlocks hK hP hD hS (rfl) trivial rfl rfl (rfl) (Nat.le_of_ble_eq_true rfl) (Nat.le_of_ble_eq_true rfl) dX10_phase_66
  · refine lv_iload hx hb dX10_phase_24 (lv_at hl 4 rfl) ?_
    refine z_i2l hx hb (by omega) dX10_phase_26 ?_
    refine z_ldc2 hx hb (-9999) hown (hts _ (List.mem_of_getElem? (i := 2) rfl)) rfl dX10_phase_27 ?_
    refine z_ldc2 hx hb 9999 hown (hts _ (List.mem_of_getElem? (i := 3) rfl)) rfl dX10_phase_30 ?_
    refine z_cSi (As := [vL b2, vL (-9999), vL 9999]) (rest := []) ⟨hx, hb, hml, hown, hts⟩ hK hP hD hS hA [] [0] rfl rfl rfl (c_X10_in l g b2 (-9999) 9999 (by first | decide | omega) (by first | decide | omega) (by first | decide | omega)) (va_cwS 3 hts gX10_phase_X10_in rfl rfl rfl (by decide +kernel) ⟨Nat.le_of_ble_eq_true rfl, Nat.le_of_ble_eq_true rfl⟩) (fun _ _ _ _ _ _ => trivial) (fun _ _ _ => trivial) rfl hl.1 (Nat.le_of_ble_eq_true rfl) rfl dX10_phase_33 ⟨Nat.le_of_ble_eq_true rfl, Nat.le_of_ble_eq_true rfl⟩ (fun u_7 H locs hwu_7 hP hD hS => ?_)
    try dsimp only at hwu_7
    have hP : zP g [[mdl q a x]] H := hP
    have hD : zD A [[mdl q a x]] := hD
    refine z_toI (inI b2 (-9999) 9999) rfl ?_
    have hf_8 := inI_s b2 (-9999) 9999
    refine z_if_eq (tgt := 64) hx hb (by omega) dX10_phase_36 (by decide) (fun cq9 => ?_) (fun cq9 => ?_)
    · refine z_ldc hx hb (-2000000002) hown (hts _ (List.mem_of_getElem? (i := 4) rfl)) rfl dX10_phase_64 ?_
      exact z_reti () [0] hx hb hr rfl hlocks hK hP hD hS (rfl) trivial rfl rfl (rfl) (Nat.le_of_ble_eq_true rfl) (Nat.le_of_ble_eq_true rfl) dX10_phase_66
    · refine lv_iload_n hx hb dX10_phase_39 rfl (lv_at hl 3 rfl) ?_
      refine z_i2l hx hb (by omega) dX10_phase_40 ?_
      refine z_lconst hx hb 1 dX10_phase_41 rfl ?_
      refine z_ldc2 hx hb 9999 hown (hts _ (List.mem_of_getElem? (i := 3) rfl)) rfl dX10_phase_42 ?_
      refine z_cSi (As := [vL b1, vL 1, vL 9999]) (rest := []) ⟨hx, hb, hml, hown, hts⟩ hK hP hD hS hA [] [0] rfl rfl rfl (c_X10_in l g b1 1 9999 (by first | decide | omega) (by first | decide | omega) (by first | decide | omega)) (va_cwS 3 hts gX10_phase_X10_in rfl rfl rfl (by decide +kernel) ⟨Nat.le_of_ble_eq_true rfl, Nat.le_of_ble_eq_true rfl⟩) (fun _ _ _ _ _ _ => trivial) (fun _ _ _ => trivial) rfl hl.1 (Nat.le_of_ble_eq_true rfl) rfl dX10_phase_45 ⟨Nat.le_of_ble_eq_true rfl, Nat.le_of_ble_eq_true rfl⟩ (fun u_10 H locs hwu_10 hP hD hS => ?_)
      try dsimp only at hwu_10
      have hP : zP g [[mdl q a x]] H := hP
      have hD : zD A [[mdl q a x]] := hD
      refine z_toI (inI b1 1 9999) rfl ?_
      have hf_11 := inI_s b1 1 9999
      refine z_if_eq (tgt := 64) hx hb (by omega) dX10_phase_48 (by decide) (fun cq12 => ?_) (fun cq12 => ?_)
      · refine z_ldc hx hb (-2000000002) hown (hts _ (List.mem_of_getElem? (i := 4) rfl)) rfl dX10_phase_64 ?_
        exact z_reti () [0] hx hb hr rfl hlocks hK hP hD hS (rfl) trivial rfl rfl (rfl) (Nat.le_of_ble_eq_true rfl) (Nat.le_of_ble_eq_true rfl) dX10_phase_66
      · refine lv_iload hx hb dX10_phase_51 (lv_at hl 5 rfl) ?_
        refine z_i2l hx hb (by omega) dX10_phase_53 ?_
        refine z_lconst hx hb 1 dX10_phase_54 rfl ?_
        refine z_ldc2 hx hb 9999 hown (hts _ (List.mem_of_getElem? (i := 3) rfl)) rfl dX10_phase_55 ?_
        refine z_cSi (As := [vL b3, vL 1, vL 9999]) (rest := []) ⟨hx, hb, hml, hown, hts⟩ hK hP hD hS hA [] [0] rfl rfl rfl (c_X10_in l g b3 1 9999 (by first | decide | omega) (by first | decide | omega) (by first | decide | omega)) (va_cwS 3 hts gX10_phase_X10_in rfl rfl rfl (by decide +kernel) ⟨Nat.le_of_ble_eq_true rfl, Nat.le_of_ble_eq_true rfl⟩) (fun _ _ _ _ _ _ => trivial) (fun _ _ _ => trivial) rfl hl.1 (Nat.le_of_ble_eq_true rfl) rfl dX10_phase_58 ⟨Nat.le_of_ble_eq_true rfl, Nat.le_of_ble_eq_true rfl⟩ (fun u_13 H locs hwu_13 hP hD hS => ?_)
        try dsimp only at hwu_13
        have hP : zP g [[mdl q a x]] H := hP
        have hD : zD A [[mdl q a x]] := hD
        refine z_toI (inI b3 1 9999) rfl ?_
        have hf_14 := inI_s b3 1 9999
        refine z_if_ne (tgt := 67) hx hb (by omega) dX10_phase_61 (by decide) (fun cq15 => False.elim (by omega)) (fun cq15 => ?_)
        refine z_ldc hx hb (-2000000002) hown (hts _ (List.mem_of_getElem? (i := 4) rfl)) rfl dX10_phase_64 ?_
        exact z_reti () [0] hx hb hr rfl hlocks hK hP hD hS (rfl) trivial rfl rfl (rfl) (Nat.le_of_ble_eq_true rfl) (Nat.le_of_ble_eq_true rfl) dX10_phase_66

set_option maxHeartbeats 4000000 in
set_option maxRecDepth 100000 in
theorem c_X10_phase0 (l : Launch) (g : zG) (q : Nat) (a : Nat → Nat) (x : Nat → Int) (S : RS) (u : Nat) (b0 : Int) (b1 : Int) (b2 : Int) (b3 : Int) (hu : x 2 = (u : Int)) (hu8 : u ≤ 8) (r0 : -2147483648 ≤ b0 ∧ b0 < 2147483648) (r1 : -2147483648 ≤ b1 ∧ b1 < 2147483648) (r2 : -2147483648 ≤ b2 ∧ b2 < 2147483648) (r3 : -2147483648 ≤ b3 ∧ b3 < 2147483648) (ho : (-9999 ≤ b0 ∧ b0 ≤ 9999) ∧ (1 ≤ b1 ∧ b1 ≤ 9999) ∧ (-9999 ≤ b2 ∧ b2 ≤ 9999) ∧ (1 ≤ b3 ∧ b3 ≤ 9999)) : zMet l g yX10_phase wsX10_phase 2 0 0 [.ref q, vI 0, vI b0, vI b1, vI b2, vI b3] zX0 [[mdl q a x], [((a 0), .inl (g.2 1, 88, .inr (.inl (aL S.1))))], [((a 1), .inl (g.2 1, 88, .inr (.inl (aL S.2.1))))]] (qi g (fun (_ : Unit) => 1) (fun (_ : Unit) => True) (fun (_ : Unit) => [[mdl q a (uI x 2 (((min (u + 1) 8) : Nat) : Int))], [((a 0), .inl (g.2 1, 88, .inr (.inl (aL (rLy 1 b2 b3 (rLy 0 b0 b1 (kpS u S))).1))))], [((a 1), .inl (g.2 1, 88, .inr (.inl (aL (rLy 1 b2 b3 (rLy 0 b0 b1 (kpS u S))).2.1))))]])) := by
  refine z_ent (cc := cX10_phase) (maxL := 6) (ret := (some .int)) (by decide) rfl (Nat.le_of_ble_eq_true rfl) ?_
  intro p e s m below meth c A ls hx hb hr hml hown hts hlocks hin0 hA hK hP hD hS hXX hl
  have hown : s.vm.findClass RX10 = some m.cls := hown
  have hl : lv_has ls 6 [(0, .ref q), (1, vI 0), (2, vI b0), (3, vI b1), (4, vI b2), (5, vI b3)] := hl
  refine lv_iload_n hx hb dX10_phase_0 rfl (lv_at hl 1 rfl) ?_
  refine z_cSi (As := [vI 0]) (rest := []) ⟨hx, hb, hml, hown, hts⟩ hK hP hD hS hA [] [0, 1, 2] rfl rfl rfl (c_X10_isPhase l g 0 (by first | decide | omega)) (va_cwS 1 hts gX10_phase_X10_isPhase rfl rfl rfl (by decide +kernel) ⟨Nat.le_of_ble_eq_true rfl, Nat.le_of_ble_eq_true rfl⟩) (fun _ _ _ _ _ _ => trivial) (fun _ _ _ => trivial) rfl hl.1 (Nat.le_of_ble_eq_true rfl) rfl dX10_phase_1 ⟨Nat.le_of_ble_eq_true rfl, Nat.le_of_ble_eq_true rfl⟩ (fun u_1 H locs hwu_1 hP hD hS => ?_)
  try dsimp only at hwu_1
  have hP : zP g [[mdl q a x], [((a 0), .inl (g.2 1, 88, .inr (.inl (aL S.1))))], [((a 1), .inl (g.2 1, 88, .inr (.inl (aL S.2.1))))]] H := hP
  have hD : zD A [[mdl q a x], [((a 0), .inl (g.2 1, 88, .inr (.inl (aL S.1))))], [((a 1), .inl (g.2 1, 88, .inr (.inl (aL S.2.1))))]] := hD
  refine z_toI (inI 0 0 2) rfl ?_
  have hf_2 := inI_s 0 0 2
  refine z_if_ne (tgt := 10) hx hb (by omega) dX10_phase_4 (by decide) (fun cq3 => ?_) (fun cq3 => False.elim (by omega))
  refine lv_iload_n hx hb dX10_phase_10 rfl (lv_at hl 2 rfl) ?_
  refine z_i2l hx hb (by omega) dX10_phase_11 ?_
  refine z_ldc2 hx hb (-9999) hown (hts _ (List.mem_of_getElem? (i := 2) rfl)) rfl dX10_phase_12 ?_
  refine z_ldc2 hx hb 9999 hown (hts _ (List.mem_of_getElem? (i := 3) rfl)) rfl dX10_phase_15 ?_
  refine z_cSi (As := [vL b0, vL (-9999), vL 9999]) (rest := []) ⟨hx, hb, hml, hown, hts⟩ hK hP hD hS hA [] [0, 1, 2] rfl rfl rfl (c_X10_in l g b0 (-9999) 9999 (by first | decide | omega) (by first | decide | omega) (by first | decide | omega)) (va_cwS 3 hts gX10_phase_X10_in rfl rfl rfl (by decide +kernel) ⟨Nat.le_of_ble_eq_true rfl, Nat.le_of_ble_eq_true rfl⟩) (fun _ _ _ _ _ _ => trivial) (fun _ _ _ => trivial) rfl hl.1 (Nat.le_of_ble_eq_true rfl) rfl dX10_phase_18 ⟨Nat.le_of_ble_eq_true rfl, Nat.le_of_ble_eq_true rfl⟩ (fun u_4 H locs hwu_4 hP hD hS => ?_)
  try dsimp only at hwu_4
  have hP : zP g [[mdl q a x], [((a 0), .inl (g.2 1, 88, .inr (.inl (aL S.1))))], [((a 1), .inl (g.2 1, 88, .inr (.inl (aL S.2.1))))]] H := hP
  have hD : zD A [[mdl q a x], [((a 0), .inl (g.2 1, 88, .inr (.inl (aL S.1))))], [((a 1), .inl (g.2 1, 88, .inr (.inl (aL S.2.1))))]] := hD
  refine z_toI (inI b0 (-9999) 9999) rfl ?_
  have hf_5 := inI_s b0 (-9999) 9999
  refine z_if_eq (tgt := 64) hx hb (by omega) dX10_phase_21 (by decide) (fun cq6 => False.elim (by omega)) (fun cq6 => ?_)
  refine lv_iload hx hb dX10_phase_24 (lv_at hl 4 rfl) ?_
  refine z_i2l hx hb (by omega) dX10_phase_26 ?_
  refine z_ldc2 hx hb (-9999) hown (hts _ (List.mem_of_getElem? (i := 2) rfl)) rfl dX10_phase_27 ?_
  refine z_ldc2 hx hb 9999 hown (hts _ (List.mem_of_getElem? (i := 3) rfl)) rfl dX10_phase_30 ?_
  refine z_cSi (As := [vL b2, vL (-9999), vL 9999]) (rest := []) ⟨hx, hb, hml, hown, hts⟩ hK hP hD hS hA [] [0, 1, 2] rfl rfl rfl (c_X10_in l g b2 (-9999) 9999 (by first | decide | omega) (by first | decide | omega) (by first | decide | omega)) (va_cwS 3 hts gX10_phase_X10_in rfl rfl rfl (by decide +kernel) ⟨Nat.le_of_ble_eq_true rfl, Nat.le_of_ble_eq_true rfl⟩) (fun _ _ _ _ _ _ => trivial) (fun _ _ _ => trivial) rfl hl.1 (Nat.le_of_ble_eq_true rfl) rfl dX10_phase_33 ⟨Nat.le_of_ble_eq_true rfl, Nat.le_of_ble_eq_true rfl⟩ (fun u_7 H locs hwu_7 hP hD hS => ?_)
  try dsimp only at hwu_7
  have hP : zP g [[mdl q a x], [((a 0), .inl (g.2 1, 88, .inr (.inl (aL S.1))))], [((a 1), .inl (g.2 1, 88, .inr (.inl (aL S.2.1))))]] H := hP
  have hD : zD A [[mdl q a x], [((a 0), .inl (g.2 1, 88, .inr (.inl (aL S.1))))], [((a 1), .inl (g.2 1, 88, .inr (.inl (aL S.2.1))))]] := hD
  refine z_toI (inI b2 (-9999) 9999) rfl ?_
  have hf_8 := inI_s b2 (-9999) 9999
  refine z_if_eq (tgt := 64) hx hb (by omega) dX10_phase_36 (by decide) (fun cq9 => False.elim (by omega)) (fun cq9 => ?_)
  refine lv_iload_n hx hb dX10_phase_39 rfl (lv_at hl 3 rfl) ?_
  refine z_i2l hx hb (by omega) dX10_phase_40 ?_
  refine z_lconst hx hb 1 dX10_phase_41 rfl ?_
  refine z_ldc2 hx hb 9999 hown (hts _ (List.mem_of_getElem? (i := 3) rfl)) rfl dX10_phase_42 ?_
  refine z_cSi (As := [vL b1, vL 1, vL 9999]) (rest := []) ⟨hx, hb, hml, hown, hts⟩ hK hP hD hS hA [] [0, 1, 2] rfl rfl rfl (c_X10_in l g b1 1 9999 (by first | decide | omega) (by first | decide | omega) (by first | decide | omega)) (va_cwS 3 hts gX10_phase_X10_in rfl rfl rfl (by decide +kernel) ⟨Nat.le_of_ble_eq_true rfl, Nat.le_of_ble_eq_true rfl⟩) (fun _ _ _ _ _ _ => trivial) (fun _ _ _ => trivial) rfl hl.1 (Nat.le_of_ble_eq_true rfl) rfl dX10_phase_45 ⟨Nat.le_of_ble_eq_true rfl, Nat.le_of_ble_eq_true rfl⟩ (fun u_10 H locs hwu_10 hP hD hS => ?_)
  try dsimp only at hwu_10
  have hP : zP g [[mdl q a x], [((a 0), .inl (g.2 1, 88, .inr (.inl (aL S.1))))], [((a 1), .inl (g.2 1, 88, .inr (.inl (aL S.2.1))))]] H := hP
  have hD : zD A [[mdl q a x], [((a 0), .inl (g.2 1, 88, .inr (.inl (aL S.1))))], [((a 1), .inl (g.2 1, 88, .inr (.inl (aL S.2.1))))]] := hD
  refine z_toI (inI b1 1 9999) rfl ?_
  have hf_11 := inI_s b1 1 9999
  refine z_if_eq (tgt := 64) hx hb (by omega) dX10_phase_48 (by decide) (fun cq12 => False.elim (by omega)) (fun cq12 => ?_)
  refine lv_iload hx hb dX10_phase_51 (lv_at hl 5 rfl) ?_
  refine z_i2l hx hb (by omega) dX10_phase_53 ?_
  refine z_lconst hx hb 1 dX10_phase_54 rfl ?_
  refine z_ldc2 hx hb 9999 hown (hts _ (List.mem_of_getElem? (i := 3) rfl)) rfl dX10_phase_55 ?_
  refine z_cSi (As := [vL b3, vL 1, vL 9999]) (rest := []) ⟨hx, hb, hml, hown, hts⟩ hK hP hD hS hA [] [0, 1, 2] rfl rfl rfl (c_X10_in l g b3 1 9999 (by first | decide | omega) (by first | decide | omega) (by first | decide | omega)) (va_cwS 3 hts gX10_phase_X10_in rfl rfl rfl (by decide +kernel) ⟨Nat.le_of_ble_eq_true rfl, Nat.le_of_ble_eq_true rfl⟩) (fun _ _ _ _ _ _ => trivial) (fun _ _ _ => trivial) rfl hl.1 (Nat.le_of_ble_eq_true rfl) rfl dX10_phase_58 ⟨Nat.le_of_ble_eq_true rfl, Nat.le_of_ble_eq_true rfl⟩ (fun u_13 H locs hwu_13 hP hD hS => ?_)
  try dsimp only at hwu_13
  have hP : zP g [[mdl q a x], [((a 0), .inl (g.2 1, 88, .inr (.inl (aL S.1))))], [((a 1), .inl (g.2 1, 88, .inr (.inl (aL S.2.1))))]] H := hP
  have hD : zD A [[mdl q a x], [((a 0), .inl (g.2 1, 88, .inr (.inl (aL S.1))))], [((a 1), .inl (g.2 1, 88, .inr (.inl (aL S.2.1))))]] := hD
  refine z_toI (inI b3 1 9999) rfl ?_
  have hf_14 := inI_s b3 1 9999
  refine z_if_ne (tgt := 67) hx hb (by omega) dX10_phase_61 (by decide) (fun cq15 => ?_) (fun cq15 => False.elim (by omega))
  refine lv_aload_n hx hb dX10_phase_67 rfl (lv_at hl 0 rfl) ?_
  refine z_cVv (As := []) (rest := []) ⟨hx, hb, hml, hown, hts⟩ hK hP hD hS hA [0, 1, 2] [] rfl rfl rfl (c_X10_kp l g q a x S u hu hu8) (cwV 0 hts gX10_phase_X10_keepPast rfl rfl rfl (by decide +kernel) ⟨Nat.le_of_ble_eq_true rfl, Nat.le_of_ble_eq_true rfl⟩) 10 0 rfl rfl rfl (fun _ _ _ _ _ _ => trivial) (fun _ _ _ => trivial) rfl hl.1 (Nat.le_of_ble_eq_true rfl) rfl dX10_phase_68 ⟨Nat.le_of_ble_eq_true rfl, Nat.le_of_ble_eq_true rfl⟩ (fun u_16 H locs hwu_16 hP hD hS => ?_)
  try dsimp only at hwu_16
  have hP : zP g [[mdl q a (uI x 2 (((min (u + 1) 8) : Nat) : Int))], [((a 0), .inl (g.2 1, 88, .inr (.inl (aL (kpS u S).1))))], [((a 1), .inl (g.2 1, 88, .inr (.inl (aL (kpS u S).2.1))))]] H := hP
  have hD : zD A [[mdl q a (uI x 2 (((min (u + 1) 8) : Nat) : Int))], [((a 0), .inl (g.2 1, 88, .inr (.inl (aL (kpS u S).1))))], [((a 1), .inl (g.2 1, 88, .inr (.inl (aL (kpS u S).2.1))))]] := hD
  refine lv_aload_n hx hb dX10_phase_71 rfl (lv_at hl 0 rfl) ?_
  refine z_iconst hx hb dX10_phase_72 rfl ?_
  refine lv_iload_n hx hb dX10_phase_73 rfl (lv_at hl 1 rfl) ?_
  refine z_imul hx hb 0 rfl dX10_phase_74 ?_
  refine lv_iload_n hx hb dX10_phase_75 rfl (lv_at hl 2 rfl) ?_
  refine z_i2l hx hb (by omega) dX10_phase_76 ?_
  refine lv_iload_n hx hb dX10_phase_77 rfl (lv_at hl 3 rfl) ?_
  refine z_i2l hx hb (by omega) dX10_phase_78 ?_
  refine z_cVv (As := [vI 0, vL b0, vL b1]) (rest := []) ⟨hx, hb, hml, hown, hts⟩ hK hP hD hS hA [0, 1, 2] [] rfl rfl rfl (c_X10_lay l g q a (uI x 2 (((min (u + 1) 8) : Nat) : Int)) (kpS u S) 0 b0 b1 (by omega) (by omega) (by omega)) (cwV 3 hts gX10_phase_X10_lay rfl rfl rfl (by decide +kernel) ⟨Nat.le_of_ble_eq_true rfl, Nat.le_of_ble_eq_true rfl⟩) 10 0 rfl rfl rfl (fun _ _ _ _ _ _ => trivial) (fun _ _ _ => trivial) rfl hl.1 (Nat.le_of_ble_eq_true rfl) rfl dX10_phase_79 ⟨Nat.le_of_ble_eq_true rfl, Nat.le_of_ble_eq_true rfl⟩ (fun u_17 H locs hwu_17 hP hD hS => ?_)
  try dsimp only at hwu_17
  have hP : zP g [[mdl q a (uI x 2 (((min (u + 1) 8) : Nat) : Int))], [((a 0), .inl (g.2 1, 88, .inr (.inl (aL (rLy 0 b0 b1 (kpS u S)).1))))], [((a 1), .inl (g.2 1, 88, .inr (.inl (aL (rLy 0 b0 b1 (kpS u S)).2.1))))]] H := hP
  have hD : zD A [[mdl q a (uI x 2 (((min (u + 1) 8) : Nat) : Int))], [((a 0), .inl (g.2 1, 88, .inr (.inl (aL (rLy 0 b0 b1 (kpS u S)).1))))], [((a 1), .inl (g.2 1, 88, .inr (.inl (aL (rLy 0 b0 b1 (kpS u S)).2.1))))]] := hD
  refine lv_aload_n hx hb dX10_phase_82 rfl (lv_at hl 0 rfl) ?_
  refine z_iconst hx hb dX10_phase_83 rfl ?_
  refine lv_iload_n hx hb dX10_phase_84 rfl (lv_at hl 1 rfl) ?_
  refine z_imul hx hb 0 rfl dX10_phase_85 ?_
  refine z_iconst hx hb dX10_phase_86 rfl ?_
  refine z_iadd hx hb 1 rfl dX10_phase_87 ?_
  refine lv_iload hx hb dX10_phase_88 (lv_at hl 4 rfl) ?_
  refine z_i2l hx hb (by omega) dX10_phase_90 ?_
  refine lv_iload hx hb dX10_phase_91 (lv_at hl 5 rfl) ?_
  refine z_i2l hx hb (by omega) dX10_phase_93 ?_
  refine z_cVv (As := [vI 1, vL b2, vL b3]) (rest := []) ⟨hx, hb, hml, hown, hts⟩ hK hP hD hS hA [0, 1, 2] [] rfl rfl rfl (c_X10_lay l g q a (uI x 2 (((min (u + 1) 8) : Nat) : Int)) (rLy 0 b0 b1 (kpS u S)) 1 b2 b3 (by omega) (by omega) (by omega)) (cwV 3 hts gX10_phase_X10_lay rfl rfl rfl (by decide +kernel) ⟨Nat.le_of_ble_eq_true rfl, Nat.le_of_ble_eq_true rfl⟩) 10 0 rfl rfl rfl (fun _ _ _ _ _ _ => trivial) (fun _ _ _ => trivial) rfl hl.1 (Nat.le_of_ble_eq_true rfl) rfl dX10_phase_94 ⟨Nat.le_of_ble_eq_true rfl, Nat.le_of_ble_eq_true rfl⟩ (fun u_18 H locs hwu_18 hP hD hS => ?_)
  try dsimp only at hwu_18
  have hP : zP g [[mdl q a (uI x 2 (((min (u + 1) 8) : Nat) : Int))], [((a 0), .inl (g.2 1, 88, .inr (.inl (aL (rLy 1 b2 b3 (rLy 0 b0 b1 (kpS u S))).1))))], [((a 1), .inl (g.2 1, 88, .inr (.inl (aL (rLy 1 b2 b3 (rLy 0 b0 b1 (kpS u S))).2.1))))]] H := hP
  have hD : zD A [[mdl q a (uI x 2 (((min (u + 1) 8) : Nat) : Int))], [((a 0), .inl (g.2 1, 88, .inr (.inl (aL (rLy 1 b2 b3 (rLy 0 b0 b1 (kpS u S))).1))))], [((a 1), .inl (g.2 1, 88, .inr (.inl (aL (rLy 1 b2 b3 (rLy 0 b0 b1 (kpS u S))).2.1))))]] := hD
  refine z_iconst hx hb dX10_phase_97 rfl ?_
  exact z_reti () [0, 1, 2] hx hb hr rfl hlocks hK hP hD hS (rfl) trivial rfl rfl (rfl) (Nat.le_of_ble_eq_true rfl) (Nat.le_of_ble_eq_true rfl) dX10_phase_98

set_option maxHeartbeats 4000000 in
set_option maxRecDepth 100000 in
theorem c_X10_phase1 (l : Launch) (g : zG) (q : Nat) (a : Nat → Nat) (x : Nat → Int) (S : RS) (u : Nat) (b0 : Int) (b1 : Int) (b2 : Int) (b3 : Int) (hu : x 2 = (u : Int)) (hu8 : u ≤ 8) (r0 : -2147483648 ≤ b0 ∧ b0 < 2147483648) (r1 : -2147483648 ≤ b1 ∧ b1 < 2147483648) (r2 : -2147483648 ≤ b2 ∧ b2 < 2147483648) (r3 : -2147483648 ≤ b3 ∧ b3 < 2147483648) (ho : (-9999 ≤ b0 ∧ b0 ≤ 9999) ∧ (1 ≤ b1 ∧ b1 ≤ 9999) ∧ (-9999 ≤ b2 ∧ b2 ≤ 9999) ∧ (1 ≤ b3 ∧ b3 ≤ 9999)) : zMet l g yX10_phase wsX10_phase 2 0 0 [.ref q, vI 1, vI b0, vI b1, vI b2, vI b3] zX0 [[mdl q a x], [((a 0), .inl (g.2 1, 88, .inr (.inl (aL S.1))))], [((a 1), .inl (g.2 1, 88, .inr (.inl (aL S.2.1))))]] (qi g (fun (_ : Unit) => 1) (fun (_ : Unit) => True) (fun (_ : Unit) => [[mdl q a (uI x 2 (((min (u + 1) 8) : Nat) : Int))], [((a 0), .inl (g.2 1, 88, .inr (.inl (aL (rLy 3 b2 b3 (rLy 2 b0 b1 (kpS u S))).1))))], [((a 1), .inl (g.2 1, 88, .inr (.inl (aL (rLy 3 b2 b3 (rLy 2 b0 b1 (kpS u S))).2.1))))]])) := by
  refine z_ent (cc := cX10_phase) (maxL := 6) (ret := (some .int)) (by decide) rfl (Nat.le_of_ble_eq_true rfl) ?_
  intro p e s m below meth c A ls hx hb hr hml hown hts hlocks hin0 hA hK hP hD hS hXX hl
  have hown : s.vm.findClass RX10 = some m.cls := hown
  have hl : lv_has ls 6 [(0, .ref q), (1, vI 1), (2, vI b0), (3, vI b1), (4, vI b2), (5, vI b3)] := hl
  refine lv_iload_n hx hb dX10_phase_0 rfl (lv_at hl 1 rfl) ?_
  refine z_cSi (As := [vI 1]) (rest := []) ⟨hx, hb, hml, hown, hts⟩ hK hP hD hS hA [] [0, 1, 2] rfl rfl rfl (c_X10_isPhase l g 1 (by first | decide | omega)) (va_cwS 1 hts gX10_phase_X10_isPhase rfl rfl rfl (by decide +kernel) ⟨Nat.le_of_ble_eq_true rfl, Nat.le_of_ble_eq_true rfl⟩) (fun _ _ _ _ _ _ => trivial) (fun _ _ _ => trivial) rfl hl.1 (Nat.le_of_ble_eq_true rfl) rfl dX10_phase_1 ⟨Nat.le_of_ble_eq_true rfl, Nat.le_of_ble_eq_true rfl⟩ (fun u_1 H locs hwu_1 hP hD hS => ?_)
  try dsimp only at hwu_1
  have hP : zP g [[mdl q a x], [((a 0), .inl (g.2 1, 88, .inr (.inl (aL S.1))))], [((a 1), .inl (g.2 1, 88, .inr (.inl (aL S.2.1))))]] H := hP
  have hD : zD A [[mdl q a x], [((a 0), .inl (g.2 1, 88, .inr (.inl (aL S.1))))], [((a 1), .inl (g.2 1, 88, .inr (.inl (aL S.2.1))))]] := hD
  refine z_toI (inI 1 0 2) rfl ?_
  have hf_2 := inI_s 1 0 2
  refine z_if_ne (tgt := 10) hx hb (by omega) dX10_phase_4 (by decide) (fun cq3 => ?_) (fun cq3 => False.elim (by omega))
  refine lv_iload_n hx hb dX10_phase_10 rfl (lv_at hl 2 rfl) ?_
  refine z_i2l hx hb (by omega) dX10_phase_11 ?_
  refine z_ldc2 hx hb (-9999) hown (hts _ (List.mem_of_getElem? (i := 2) rfl)) rfl dX10_phase_12 ?_
  refine z_ldc2 hx hb 9999 hown (hts _ (List.mem_of_getElem? (i := 3) rfl)) rfl dX10_phase_15 ?_
  refine z_cSi (As := [vL b0, vL (-9999), vL 9999]) (rest := []) ⟨hx, hb, hml, hown, hts⟩ hK hP hD hS hA [] [0, 1, 2] rfl rfl rfl (c_X10_in l g b0 (-9999) 9999 (by first | decide | omega) (by first | decide | omega) (by first | decide | omega)) (va_cwS 3 hts gX10_phase_X10_in rfl rfl rfl (by decide +kernel) ⟨Nat.le_of_ble_eq_true rfl, Nat.le_of_ble_eq_true rfl⟩) (fun _ _ _ _ _ _ => trivial) (fun _ _ _ => trivial) rfl hl.1 (Nat.le_of_ble_eq_true rfl) rfl dX10_phase_18 ⟨Nat.le_of_ble_eq_true rfl, Nat.le_of_ble_eq_true rfl⟩ (fun u_4 H locs hwu_4 hP hD hS => ?_)
  try dsimp only at hwu_4
  have hP : zP g [[mdl q a x], [((a 0), .inl (g.2 1, 88, .inr (.inl (aL S.1))))], [((a 1), .inl (g.2 1, 88, .inr (.inl (aL S.2.1))))]] H := hP
  have hD : zD A [[mdl q a x], [((a 0), .inl (g.2 1, 88, .inr (.inl (aL S.1))))], [((a 1), .inl (g.2 1, 88, .inr (.inl (aL S.2.1))))]] := hD
  refine z_toI (inI b0 (-9999) 9999) rfl ?_
  have hf_5 := inI_s b0 (-9999) 9999
  refine z_if_eq (tgt := 64) hx hb (by omega) dX10_phase_21 (by decide) (fun cq6 => False.elim (by omega)) (fun cq6 => ?_)
  refine lv_iload hx hb dX10_phase_24 (lv_at hl 4 rfl) ?_
  refine z_i2l hx hb (by omega) dX10_phase_26 ?_
  refine z_ldc2 hx hb (-9999) hown (hts _ (List.mem_of_getElem? (i := 2) rfl)) rfl dX10_phase_27 ?_
  refine z_ldc2 hx hb 9999 hown (hts _ (List.mem_of_getElem? (i := 3) rfl)) rfl dX10_phase_30 ?_
  refine z_cSi (As := [vL b2, vL (-9999), vL 9999]) (rest := []) ⟨hx, hb, hml, hown, hts⟩ hK hP hD hS hA [] [0, 1, 2] rfl rfl rfl (c_X10_in l g b2 (-9999) 9999 (by first | decide | omega) (by first | decide | omega) (by first | decide | omega)) (va_cwS 3 hts gX10_phase_X10_in rfl rfl rfl (by decide +kernel) ⟨Nat.le_of_ble_eq_true rfl, Nat.le_of_ble_eq_true rfl⟩) (fun _ _ _ _ _ _ => trivial) (fun _ _ _ => trivial) rfl hl.1 (Nat.le_of_ble_eq_true rfl) rfl dX10_phase_33 ⟨Nat.le_of_ble_eq_true rfl, Nat.le_of_ble_eq_true rfl⟩ (fun u_7 H locs hwu_7 hP hD hS => ?_)
  try dsimp only at hwu_7
  have hP : zP g [[mdl q a x], [((a 0), .inl (g.2 1, 88, .inr (.inl (aL S.1))))], [((a 1), .inl (g.2 1, 88, .inr (.inl (aL S.2.1))))]] H := hP
  have hD : zD A [[mdl q a x], [((a 0), .inl (g.2 1, 88, .inr (.inl (aL S.1))))], [((a 1), .inl (g.2 1, 88, .inr (.inl (aL S.2.1))))]] := hD
  refine z_toI (inI b2 (-9999) 9999) rfl ?_
  have hf_8 := inI_s b2 (-9999) 9999
  refine z_if_eq (tgt := 64) hx hb (by omega) dX10_phase_36 (by decide) (fun cq9 => False.elim (by omega)) (fun cq9 => ?_)
  refine lv_iload_n hx hb dX10_phase_39 rfl (lv_at hl 3 rfl) ?_
  refine z_i2l hx hb (by omega) dX10_phase_40 ?_
  refine z_lconst hx hb 1 dX10_phase_41 rfl ?_
  refine z_ldc2 hx hb 9999 hown (hts _ (List.mem_of_getElem? (i := 3) rfl)) rfl dX10_phase_42 ?_
  refine z_cSi (As := [vL b1, vL 1, vL 9999]) (rest := []) ⟨hx, hb, hml, hown, hts⟩ hK hP hD hS hA [] [0, 1, 2] rfl rfl rfl (c_X10_in l g b1 1 9999 (by first | decide | omega) (by first | decide | omega) (by first | decide | omega)) (va_cwS 3 hts gX10_phase_X10_in rfl rfl rfl (by decide +kernel) ⟨Nat.le_of_ble_eq_true rfl, Nat.le_of_ble_eq_true rfl⟩) (fun _ _ _ _ _ _ => trivial) (fun _ _ _ => trivial) rfl hl.1 (Nat.le_of_ble_eq_true rfl) rfl dX10_phase_45 ⟨Nat.le_of_ble_eq_true rfl, Nat.le_of_ble_eq_true rfl⟩ (fun u_10 H locs hwu_10 hP hD hS => ?_)
  try dsimp only at hwu_10
  have hP : zP g [[mdl q a x], [((a 0), .inl (g.2 1, 88, .inr (.inl (aL S.1))))], [((a 1), .inl (g.2 1, 88, .inr (.inl (aL S.2.1))))]] H := hP
  have hD : zD A [[mdl q a x], [((a 0), .inl (g.2 1, 88, .inr (.inl (aL S.1))))], [((a 1), .inl (g.2 1, 88, .inr (.inl (aL S.2.1))))]] := hD
  refine z_toI (inI b1 1 9999) rfl ?_
  have hf_11 := inI_s b1 1 9999
  refine z_if_eq (tgt := 64) hx hb (by omega) dX10_phase_48 (by decide) (fun cq12 => False.elim (by omega)) (fun cq12 => ?_)
  refine lv_iload hx hb dX10_phase_51 (lv_at hl 5 rfl) ?_
  refine z_i2l hx hb (by omega) dX10_phase_53 ?_
  refine z_lconst hx hb 1 dX10_phase_54 rfl ?_
  refine z_ldc2 hx hb 9999 hown (hts _ (List.mem_of_getElem? (i := 3) rfl)) rfl dX10_phase_55 ?_
  refine z_cSi (As := [vL b3, vL 1, vL 9999]) (rest := []) ⟨hx, hb, hml, hown, hts⟩ hK hP hD hS hA [] [0, 1, 2] rfl rfl rfl (c_X10_in l g b3 1 9999 (by first | decide | omega) (by first | decide | omega) (by first | decide | omega)) (va_cwS 3 hts gX10_phase_X10_in rfl rfl rfl (by decide +kernel) ⟨Nat.le_of_ble_eq_true rfl, Nat.le_of_ble_eq_true rfl⟩) (fun _ _ _ _ _ _ => trivial) (fun _ _ _ => trivial) rfl hl.1 (Nat.le_of_ble_eq_true rfl) rfl dX10_phase_58 ⟨Nat.le_of_ble_eq_true rfl, Nat.le_of_ble_eq_true rfl⟩ (fun u_13 H locs hwu_13 hP hD hS => ?_)
  try dsimp only at hwu_13
  have hP : zP g [[mdl q a x], [((a 0), .inl (g.2 1, 88, .inr (.inl (aL S.1))))], [((a 1), .inl (g.2 1, 88, .inr (.inl (aL S.2.1))))]] H := hP
  have hD : zD A [[mdl q a x], [((a 0), .inl (g.2 1, 88, .inr (.inl (aL S.1))))], [((a 1), .inl (g.2 1, 88, .inr (.inl (aL S.2.1))))]] := hD
  refine z_toI (inI b3 1 9999) rfl ?_
  have hf_14 := inI_s b3 1 9999
  refine z_if_ne (tgt := 67) hx hb (by omega) dX10_phase_61 (by decide) (fun cq15 => ?_) (fun cq15 => False.elim (by omega))
  refine lv_aload_n hx hb dX10_phase_67 rfl (lv_at hl 0 rfl) ?_
  refine z_cVv (As := []) (rest := []) ⟨hx, hb, hml, hown, hts⟩ hK hP hD hS hA [0, 1, 2] [] rfl rfl rfl (c_X10_kp l g q a x S u hu hu8) (cwV 0 hts gX10_phase_X10_keepPast rfl rfl rfl (by decide +kernel) ⟨Nat.le_of_ble_eq_true rfl, Nat.le_of_ble_eq_true rfl⟩) 10 0 rfl rfl rfl (fun _ _ _ _ _ _ => trivial) (fun _ _ _ => trivial) rfl hl.1 (Nat.le_of_ble_eq_true rfl) rfl dX10_phase_68 ⟨Nat.le_of_ble_eq_true rfl, Nat.le_of_ble_eq_true rfl⟩ (fun u_16 H locs hwu_16 hP hD hS => ?_)
  try dsimp only at hwu_16
  have hP : zP g [[mdl q a (uI x 2 (((min (u + 1) 8) : Nat) : Int))], [((a 0), .inl (g.2 1, 88, .inr (.inl (aL (kpS u S).1))))], [((a 1), .inl (g.2 1, 88, .inr (.inl (aL (kpS u S).2.1))))]] H := hP
  have hD : zD A [[mdl q a (uI x 2 (((min (u + 1) 8) : Nat) : Int))], [((a 0), .inl (g.2 1, 88, .inr (.inl (aL (kpS u S).1))))], [((a 1), .inl (g.2 1, 88, .inr (.inl (aL (kpS u S).2.1))))]] := hD
  refine lv_aload_n hx hb dX10_phase_71 rfl (lv_at hl 0 rfl) ?_
  refine z_iconst hx hb dX10_phase_72 rfl ?_
  refine lv_iload_n hx hb dX10_phase_73 rfl (lv_at hl 1 rfl) ?_
  refine z_imul hx hb 2 rfl dX10_phase_74 ?_
  refine lv_iload_n hx hb dX10_phase_75 rfl (lv_at hl 2 rfl) ?_
  refine z_i2l hx hb (by omega) dX10_phase_76 ?_
  refine lv_iload_n hx hb dX10_phase_77 rfl (lv_at hl 3 rfl) ?_
  refine z_i2l hx hb (by omega) dX10_phase_78 ?_
  refine z_cVv (As := [vI 2, vL b0, vL b1]) (rest := []) ⟨hx, hb, hml, hown, hts⟩ hK hP hD hS hA [0, 1, 2] [] rfl rfl rfl (c_X10_lay l g q a (uI x 2 (((min (u + 1) 8) : Nat) : Int)) (kpS u S) 2 b0 b1 (by omega) (by omega) (by omega)) (cwV 3 hts gX10_phase_X10_lay rfl rfl rfl (by decide +kernel) ⟨Nat.le_of_ble_eq_true rfl, Nat.le_of_ble_eq_true rfl⟩) 10 0 rfl rfl rfl (fun _ _ _ _ _ _ => trivial) (fun _ _ _ => trivial) rfl hl.1 (Nat.le_of_ble_eq_true rfl) rfl dX10_phase_79 ⟨Nat.le_of_ble_eq_true rfl, Nat.le_of_ble_eq_true rfl⟩ (fun u_17 H locs hwu_17 hP hD hS => ?_)
  try dsimp only at hwu_17
  have hP : zP g [[mdl q a (uI x 2 (((min (u + 1) 8) : Nat) : Int))], [((a 0), .inl (g.2 1, 88, .inr (.inl (aL (rLy 2 b0 b1 (kpS u S)).1))))], [((a 1), .inl (g.2 1, 88, .inr (.inl (aL (rLy 2 b0 b1 (kpS u S)).2.1))))]] H := hP
  have hD : zD A [[mdl q a (uI x 2 (((min (u + 1) 8) : Nat) : Int))], [((a 0), .inl (g.2 1, 88, .inr (.inl (aL (rLy 2 b0 b1 (kpS u S)).1))))], [((a 1), .inl (g.2 1, 88, .inr (.inl (aL (rLy 2 b0 b1 (kpS u S)).2.1))))]] := hD
  refine lv_aload_n hx hb dX10_phase_82 rfl (lv_at hl 0 rfl) ?_
  refine z_iconst hx hb dX10_phase_83 rfl ?_
  refine lv_iload_n hx hb dX10_phase_84 rfl (lv_at hl 1 rfl) ?_
  refine z_imul hx hb 2 rfl dX10_phase_85 ?_
  refine z_iconst hx hb dX10_phase_86 rfl ?_
  refine z_iadd hx hb 3 rfl dX10_phase_87 ?_
  refine lv_iload hx hb dX10_phase_88 (lv_at hl 4 rfl) ?_
  refine z_i2l hx hb (by omega) dX10_phase_90 ?_
  refine lv_iload hx hb dX10_phase_91 (lv_at hl 5 rfl) ?_
  refine z_i2l hx hb (by omega) dX10_phase_93 ?_
  refine z_cVv (As := [vI 3, vL b2, vL b3]) (rest := []) ⟨hx, hb, hml, hown, hts⟩ hK hP hD hS hA [0, 1, 2] [] rfl rfl rfl (c_X10_lay l g q a (uI x 2 (((min (u + 1) 8) : Nat) : Int)) (rLy 2 b0 b1 (kpS u S)) 3 b2 b3 (by omega) (by omega) (by omega)) (cwV 3 hts gX10_phase_X10_lay rfl rfl rfl (by decide +kernel) ⟨Nat.le_of_ble_eq_true rfl, Nat.le_of_ble_eq_true rfl⟩) 10 0 rfl rfl rfl (fun _ _ _ _ _ _ => trivial) (fun _ _ _ => trivial) rfl hl.1 (Nat.le_of_ble_eq_true rfl) rfl dX10_phase_94 ⟨Nat.le_of_ble_eq_true rfl, Nat.le_of_ble_eq_true rfl⟩ (fun u_18 H locs hwu_18 hP hD hS => ?_)
  try dsimp only at hwu_18
  have hP : zP g [[mdl q a (uI x 2 (((min (u + 1) 8) : Nat) : Int))], [((a 0), .inl (g.2 1, 88, .inr (.inl (aL (rLy 3 b2 b3 (rLy 2 b0 b1 (kpS u S))).1))))], [((a 1), .inl (g.2 1, 88, .inr (.inl (aL (rLy 3 b2 b3 (rLy 2 b0 b1 (kpS u S))).2.1))))]] H := hP
  have hD : zD A [[mdl q a (uI x 2 (((min (u + 1) 8) : Nat) : Int))], [((a 0), .inl (g.2 1, 88, .inr (.inl (aL (rLy 3 b2 b3 (rLy 2 b0 b1 (kpS u S))).1))))], [((a 1), .inl (g.2 1, 88, .inr (.inl (aL (rLy 3 b2 b3 (rLy 2 b0 b1 (kpS u S))).2.1))))]] := hD
  refine z_iconst hx hb dX10_phase_97 rfl ?_
  exact z_reti () [0, 1, 2] hx hb hr rfl hlocks hK hP hD hS (rfl) trivial rfl rfl (rfl) (Nat.le_of_ble_eq_true rfl) (Nat.le_of_ble_eq_true rfl) dX10_phase_98

set_option maxHeartbeats 4000000 in
set_option maxRecDepth 100000 in
theorem c_X10_phase2 (l : Launch) (g : zG) (q : Nat) (a : Nat → Nat) (x : Nat → Int) (S : RS) (u : Nat) (b0 : Int) (b1 : Int) (b2 : Int) (b3 : Int) (hu : x 2 = (u : Int)) (hu8 : u ≤ 8) (r0 : -2147483648 ≤ b0 ∧ b0 < 2147483648) (r1 : -2147483648 ≤ b1 ∧ b1 < 2147483648) (r2 : -2147483648 ≤ b2 ∧ b2 < 2147483648) (r3 : -2147483648 ≤ b3 ∧ b3 < 2147483648) (ho : (-9999 ≤ b0 ∧ b0 ≤ 9999) ∧ (1 ≤ b1 ∧ b1 ≤ 9999) ∧ (-9999 ≤ b2 ∧ b2 ≤ 9999) ∧ (1 ≤ b3 ∧ b3 ≤ 9999)) : zMet l g yX10_phase wsX10_phase 2 0 0 [.ref q, vI 2, vI b0, vI b1, vI b2, vI b3] zX0 [[mdl q a x], [((a 0), .inl (g.2 1, 88, .inr (.inl (aL S.1))))], [((a 1), .inl (g.2 1, 88, .inr (.inl (aL S.2.1))))]] (qi g (fun (_ : Unit) => 1) (fun (_ : Unit) => True) (fun (_ : Unit) => [[mdl q a (uI x 2 (((min (u + 1) 8) : Nat) : Int))], [((a 0), .inl (g.2 1, 88, .inr (.inl (aL (rLy 5 b2 b3 (rLy 4 b0 b1 (kpS u S))).1))))], [((a 1), .inl (g.2 1, 88, .inr (.inl (aL (rLy 5 b2 b3 (rLy 4 b0 b1 (kpS u S))).2.1))))]])) := by
  refine z_ent (cc := cX10_phase) (maxL := 6) (ret := (some .int)) (by decide) rfl (Nat.le_of_ble_eq_true rfl) ?_
  intro p e s m below meth c A ls hx hb hr hml hown hts hlocks hin0 hA hK hP hD hS hXX hl
  have hown : s.vm.findClass RX10 = some m.cls := hown
  have hl : lv_has ls 6 [(0, .ref q), (1, vI 2), (2, vI b0), (3, vI b1), (4, vI b2), (5, vI b3)] := hl
  refine lv_iload_n hx hb dX10_phase_0 rfl (lv_at hl 1 rfl) ?_
  refine z_cSi (As := [vI 2]) (rest := []) ⟨hx, hb, hml, hown, hts⟩ hK hP hD hS hA [] [0, 1, 2] rfl rfl rfl (c_X10_isPhase l g 2 (by first | decide | omega)) (va_cwS 1 hts gX10_phase_X10_isPhase rfl rfl rfl (by decide +kernel) ⟨Nat.le_of_ble_eq_true rfl, Nat.le_of_ble_eq_true rfl⟩) (fun _ _ _ _ _ _ => trivial) (fun _ _ _ => trivial) rfl hl.1 (Nat.le_of_ble_eq_true rfl) rfl dX10_phase_1 ⟨Nat.le_of_ble_eq_true rfl, Nat.le_of_ble_eq_true rfl⟩ (fun u_1 H locs hwu_1 hP hD hS => ?_)
  try dsimp only at hwu_1
  have hP : zP g [[mdl q a x], [((a 0), .inl (g.2 1, 88, .inr (.inl (aL S.1))))], [((a 1), .inl (g.2 1, 88, .inr (.inl (aL S.2.1))))]] H := hP
  have hD : zD A [[mdl q a x], [((a 0), .inl (g.2 1, 88, .inr (.inl (aL S.1))))], [((a 1), .inl (g.2 1, 88, .inr (.inl (aL S.2.1))))]] := hD
  refine z_toI (inI 2 0 2) rfl ?_
  have hf_2 := inI_s 2 0 2
  refine z_if_ne (tgt := 10) hx hb (by omega) dX10_phase_4 (by decide) (fun cq3 => ?_) (fun cq3 => False.elim (by omega))
  refine lv_iload_n hx hb dX10_phase_10 rfl (lv_at hl 2 rfl) ?_
  refine z_i2l hx hb (by omega) dX10_phase_11 ?_
  refine z_ldc2 hx hb (-9999) hown (hts _ (List.mem_of_getElem? (i := 2) rfl)) rfl dX10_phase_12 ?_
  refine z_ldc2 hx hb 9999 hown (hts _ (List.mem_of_getElem? (i := 3) rfl)) rfl dX10_phase_15 ?_
  refine z_cSi (As := [vL b0, vL (-9999), vL 9999]) (rest := []) ⟨hx, hb, hml, hown, hts⟩ hK hP hD hS hA [] [0, 1, 2] rfl rfl rfl (c_X10_in l g b0 (-9999) 9999 (by first | decide | omega) (by first | decide | omega) (by first | decide | omega)) (va_cwS 3 hts gX10_phase_X10_in rfl rfl rfl (by decide +kernel) ⟨Nat.le_of_ble_eq_true rfl, Nat.le_of_ble_eq_true rfl⟩) (fun _ _ _ _ _ _ => trivial) (fun _ _ _ => trivial) rfl hl.1 (Nat.le_of_ble_eq_true rfl) rfl dX10_phase_18 ⟨Nat.le_of_ble_eq_true rfl, Nat.le_of_ble_eq_true rfl⟩ (fun u_4 H locs hwu_4 hP hD hS => ?_)
  try dsimp only at hwu_4
  have hP : zP g [[mdl q a x], [((a 0), .inl (g.2 1, 88, .inr (.inl (aL S.1))))], [((a 1), .inl (g.2 1, 88, .inr (.inl (aL S.2.1))))]] H := hP
  have hD : zD A [[mdl q a x], [((a 0), .inl (g.2 1, 88, .inr (.inl (aL S.1))))], [((a 1), .inl (g.2 1, 88, .inr (.inl (aL S.2.1))))]] := hD
  refine z_toI (inI b0 (-9999) 9999) rfl ?_
  have hf_5 := inI_s b0 (-9999) 9999
  refine z_if_eq (tgt := 64) hx hb (by omega) dX10_phase_21 (by decide) (fun cq6 => False.elim (by omega)) (fun cq6 => ?_)
  refine lv_iload hx hb dX10_phase_24 (lv_at hl 4 rfl) ?_
  refine z_i2l hx hb (by omega) dX10_phase_26 ?_
  refine z_ldc2 hx hb (-9999) hown (hts _ (List.mem_of_getElem? (i := 2) rfl)) rfl dX10_phase_27 ?_
  refine z_ldc2 hx hb 9999 hown (hts _ (List.mem_of_getElem? (i := 3) rfl)) rfl dX10_phase_30 ?_
  refine z_cSi (As := [vL b2, vL (-9999), vL 9999]) (rest := []) ⟨hx, hb, hml, hown, hts⟩ hK hP hD hS hA [] [0, 1, 2] rfl rfl rfl (c_X10_in l g b2 (-9999) 9999 (by first | decide | omega) (by first | decide | omega) (by first | decide | omega)) (va_cwS 3 hts gX10_phase_X10_in rfl rfl rfl (by decide +kernel) ⟨Nat.le_of_ble_eq_true rfl, Nat.le_of_ble_eq_true rfl⟩) (fun _ _ _ _ _ _ => trivial) (fun _ _ _ => trivial) rfl hl.1 (Nat.le_of_ble_eq_true rfl) rfl dX10_phase_33 ⟨Nat.le_of_ble_eq_true rfl, Nat.le_of_ble_eq_true rfl⟩ (fun u_7 H locs hwu_7 hP hD hS => ?_)
  try dsimp only at hwu_7
  have hP : zP g [[mdl q a x], [((a 0), .inl (g.2 1, 88, .inr (.inl (aL S.1))))], [((a 1), .inl (g.2 1, 88, .inr (.inl (aL S.2.1))))]] H := hP
  have hD : zD A [[mdl q a x], [((a 0), .inl (g.2 1, 88, .inr (.inl (aL S.1))))], [((a 1), .inl (g.2 1, 88, .inr (.inl (aL S.2.1))))]] := hD
  refine z_toI (inI b2 (-9999) 9999) rfl ?_
  have hf_8 := inI_s b2 (-9999) 9999
  refine z_if_eq (tgt := 64) hx hb (by omega) dX10_phase_36 (by decide) (fun cq9 => False.elim (by omega)) (fun cq9 => ?_)
  refine lv_iload_n hx hb dX10_phase_39 rfl (lv_at hl 3 rfl) ?_
  refine z_i2l hx hb (by omega) dX10_phase_40 ?_
  refine z_lconst hx hb 1 dX10_phase_41 rfl ?_
  refine z_ldc2 hx hb 9999 hown (hts _ (List.mem_of_getElem? (i := 3) rfl)) rfl dX10_phase_42 ?_
  refine z_cSi (As := [vL b1, vL 1, vL 9999]) (rest := []) ⟨hx, hb, hml, hown, hts⟩ hK hP hD hS hA [] [0, 1, 2] rfl rfl rfl (c_X10_in l g b1 1 9999 (by first | decide | omega) (by first | decide | omega) (by first | decide | omega)) (va_cwS 3 hts gX10_phase_X10_in rfl rfl rfl (by decide +kernel) ⟨Nat.le_of_ble_eq_true rfl, Nat.le_of_ble_eq_true rfl⟩) (fun _ _ _ _ _ _ => trivial) (fun _ _ _ => trivial) rfl hl.1 (Nat.le_of_ble_eq_true rfl) rfl dX10_phase_45 ⟨Nat.le_of_ble_eq_true rfl, Nat.le_of_ble_eq_true rfl⟩ (fun u_10 H locs hwu_10 hP hD hS => ?_)
  try dsimp only at hwu_10
  have hP : zP g [[mdl q a x], [((a 0), .inl (g.2 1, 88, .inr (.inl (aL S.1))))], [((a 1), .inl (g.2 1, 88, .inr (.inl (aL S.2.1))))]] H := hP
  have hD : zD A [[mdl q a x], [((a 0), .inl (g.2 1, 88, .inr (.inl (aL S.1))))], [((a 1), .inl (g.2 1, 88, .inr (.inl (aL S.2.1))))]] := hD
  refine z_toI (inI b1 1 9999) rfl ?_
  have hf_11 := inI_s b1 1 9999
  refine z_if_eq (tgt := 64) hx hb (by omega) dX10_phase_48 (by decide) (fun cq12 => False.elim (by omega)) (fun cq12 => ?_)
  refine lv_iload hx hb dX10_phase_51 (lv_at hl 5 rfl) ?_
  refine z_i2l hx hb (by omega) dX10_phase_53 ?_
  refine z_lconst hx hb 1 dX10_phase_54 rfl ?_
  refine z_ldc2 hx hb 9999 hown (hts _ (List.mem_of_getElem? (i := 3) rfl)) rfl dX10_phase_55 ?_
  refine z_cSi (As := [vL b3, vL 1, vL 9999]) (rest := []) ⟨hx, hb, hml, hown, hts⟩ hK hP hD hS hA [] [0, 1, 2] rfl rfl rfl (c_X10_in l g b3 1 9999 (by first | decide | omega) (by first | decide | omega) (by first | decide | omega)) (va_cwS 3 hts gX10_phase_X10_in rfl rfl rfl (by decide +kernel) ⟨Nat.le_of_ble_eq_true rfl, Nat.le_of_ble_eq_true rfl⟩) (fun _ _ _ _ _ _ => trivial) (fun _ _ _ => trivial) rfl hl.1 (Nat.le_of_ble_eq_true rfl) rfl dX10_phase_58 ⟨Nat.le_of_ble_eq_true rfl, Nat.le_of_ble_eq_true rfl⟩ (fun u_13 H locs hwu_13 hP hD hS => ?_)
  try dsimp only at hwu_13
  have hP : zP g [[mdl q a x], [((a 0), .inl (g.2 1, 88, .inr (.inl (aL S.1))))], [((a 1), .inl (g.2 1, 88, .inr (.inl (aL S.2.1))))]] H := hP
  have hD : zD A [[mdl q a x], [((a 0), .inl (g.2 1, 88, .inr (.inl (aL S.1))))], [((a 1), .inl (g.2 1, 88, .inr (.inl (aL S.2.1))))]] := hD
  refine z_toI (inI b3 1 9999) rfl ?_
  have hf_14 := inI_s b3 1 9999
  refine z_if_ne (tgt := 67) hx hb (by omega) dX10_phase_61 (by decide) (fun cq15 => ?_) (fun cq15 => False.elim (by omega))
  refine lv_aload_n hx hb dX10_phase_67 rfl (lv_at hl 0 rfl) ?_
  refine z_cVv (As := []) (rest := []) ⟨hx, hb, hml, hown, hts⟩ hK hP hD hS hA [0, 1, 2] [] rfl rfl rfl (c_X10_kp l g q a x S u hu hu8) (cwV 0 hts gX10_phase_X10_keepPast rfl rfl rfl (by decide +kernel) ⟨Nat.le_of_ble_eq_true rfl, Nat.le_of_ble_eq_true rfl⟩) 10 0 rfl rfl rfl (fun _ _ _ _ _ _ => trivial) (fun _ _ _ => trivial) rfl hl.1 (Nat.le_of_ble_eq_true rfl) rfl dX10_phase_68 ⟨Nat.le_of_ble_eq_true rfl, Nat.le_of_ble_eq_true rfl⟩ (fun u_16 H locs hwu_16 hP hD hS => ?_)
  try dsimp only at hwu_16
  have hP : zP g [[mdl q a (uI x 2 (((min (u + 1) 8) : Nat) : Int))], [((a 0), .inl (g.2 1, 88, .inr (.inl (aL (kpS u S).1))))], [((a 1), .inl (g.2 1, 88, .inr (.inl (aL (kpS u S).2.1))))]] H := hP
  have hD : zD A [[mdl q a (uI x 2 (((min (u + 1) 8) : Nat) : Int))], [((a 0), .inl (g.2 1, 88, .inr (.inl (aL (kpS u S).1))))], [((a 1), .inl (g.2 1, 88, .inr (.inl (aL (kpS u S).2.1))))]] := hD
  refine lv_aload_n hx hb dX10_phase_71 rfl (lv_at hl 0 rfl) ?_
  refine z_iconst hx hb dX10_phase_72 rfl ?_
  refine lv_iload_n hx hb dX10_phase_73 rfl (lv_at hl 1 rfl) ?_
  refine z_imul hx hb 4 rfl dX10_phase_74 ?_
  refine lv_iload_n hx hb dX10_phase_75 rfl (lv_at hl 2 rfl) ?_
  refine z_i2l hx hb (by omega) dX10_phase_76 ?_
  refine lv_iload_n hx hb dX10_phase_77 rfl (lv_at hl 3 rfl) ?_
  refine z_i2l hx hb (by omega) dX10_phase_78 ?_
  refine z_cVv (As := [vI 4, vL b0, vL b1]) (rest := []) ⟨hx, hb, hml, hown, hts⟩ hK hP hD hS hA [0, 1, 2] [] rfl rfl rfl (c_X10_lay l g q a (uI x 2 (((min (u + 1) 8) : Nat) : Int)) (kpS u S) 4 b0 b1 (by omega) (by omega) (by omega)) (cwV 3 hts gX10_phase_X10_lay rfl rfl rfl (by decide +kernel) ⟨Nat.le_of_ble_eq_true rfl, Nat.le_of_ble_eq_true rfl⟩) 10 0 rfl rfl rfl (fun _ _ _ _ _ _ => trivial) (fun _ _ _ => trivial) rfl hl.1 (Nat.le_of_ble_eq_true rfl) rfl dX10_phase_79 ⟨Nat.le_of_ble_eq_true rfl, Nat.le_of_ble_eq_true rfl⟩ (fun u_17 H locs hwu_17 hP hD hS => ?_)
  try dsimp only at hwu_17
  have hP : zP g [[mdl q a (uI x 2 (((min (u + 1) 8) : Nat) : Int))], [((a 0), .inl (g.2 1, 88, .inr (.inl (aL (rLy 4 b0 b1 (kpS u S)).1))))], [((a 1), .inl (g.2 1, 88, .inr (.inl (aL (rLy 4 b0 b1 (kpS u S)).2.1))))]] H := hP
  have hD : zD A [[mdl q a (uI x 2 (((min (u + 1) 8) : Nat) : Int))], [((a 0), .inl (g.2 1, 88, .inr (.inl (aL (rLy 4 b0 b1 (kpS u S)).1))))], [((a 1), .inl (g.2 1, 88, .inr (.inl (aL (rLy 4 b0 b1 (kpS u S)).2.1))))]] := hD
  refine lv_aload_n hx hb dX10_phase_82 rfl (lv_at hl 0 rfl) ?_
  refine z_iconst hx hb dX10_phase_83 rfl ?_
  refine lv_iload_n hx hb dX10_phase_84 rfl (lv_at hl 1 rfl) ?_
  refine z_imul hx hb 4 rfl dX10_phase_85 ?_
  refine z_iconst hx hb dX10_phase_86 rfl ?_
  refine z_iadd hx hb 5 rfl dX10_phase_87 ?_
  refine lv_iload hx hb dX10_phase_88 (lv_at hl 4 rfl) ?_
  refine z_i2l hx hb (by omega) dX10_phase_90 ?_
  refine lv_iload hx hb dX10_phase_91 (lv_at hl 5 rfl) ?_
  refine z_i2l hx hb (by omega) dX10_phase_93 ?_
  refine z_cVv (As := [vI 5, vL b2, vL b3]) (rest := []) ⟨hx, hb, hml, hown, hts⟩ hK hP hD hS hA [0, 1, 2] [] rfl rfl rfl (c_X10_lay l g q a (uI x 2 (((min (u + 1) 8) : Nat) : Int)) (rLy 4 b0 b1 (kpS u S)) 5 b2 b3 (by omega) (by omega) (by omega)) (cwV 3 hts gX10_phase_X10_lay rfl rfl rfl (by decide +kernel) ⟨Nat.le_of_ble_eq_true rfl, Nat.le_of_ble_eq_true rfl⟩) 10 0 rfl rfl rfl (fun _ _ _ _ _ _ => trivial) (fun _ _ _ => trivial) rfl hl.1 (Nat.le_of_ble_eq_true rfl) rfl dX10_phase_94 ⟨Nat.le_of_ble_eq_true rfl, Nat.le_of_ble_eq_true rfl⟩ (fun u_18 H locs hwu_18 hP hD hS => ?_)
  try dsimp only at hwu_18
  have hP : zP g [[mdl q a (uI x 2 (((min (u + 1) 8) : Nat) : Int))], [((a 0), .inl (g.2 1, 88, .inr (.inl (aL (rLy 5 b2 b3 (rLy 4 b0 b1 (kpS u S))).1))))], [((a 1), .inl (g.2 1, 88, .inr (.inl (aL (rLy 5 b2 b3 (rLy 4 b0 b1 (kpS u S))).2.1))))]] H := hP
  have hD : zD A [[mdl q a (uI x 2 (((min (u + 1) 8) : Nat) : Int))], [((a 0), .inl (g.2 1, 88, .inr (.inl (aL (rLy 5 b2 b3 (rLy 4 b0 b1 (kpS u S))).1))))], [((a 1), .inl (g.2 1, 88, .inr (.inl (aL (rLy 5 b2 b3 (rLy 4 b0 b1 (kpS u S))).2.1))))]] := hD
  refine z_iconst hx hb dX10_phase_97 rfl ?_
  exact z_reti () [0, 1, 2] hx hb hr rfl hlocks hK hP hD hS (rfl) trivial rfl rfl (rfl) (Nat.le_of_ble_eq_true rfl) (Nat.le_of_ble_eq_true rfl) dX10_phase_98

set_option maxHeartbeats 4000000 in
set_option maxRecDepth 100000 in
theorem c_X10_turn (l : Launch) (g : zG) (q : Nat) (a : Nat → Nat) (x : Nat → Int) (S : RS) (u : Nat) (hu : x 2 = (u : Int)) (hu8 : u ≤ 8) : zMet l g yX10_turn wsX10_turn 2 0 0 [.ref q] zX0 [[mdl q a x], [((a 0), .inl (g.2 1, 88, .inr (.inl (aL S.1))))], [((a 1), .inl (g.2 1, 88, .inr (.inl (aL S.2.1))))]] (qi g (fun (_ : Unit) => 1) (fun (_ : Unit) => True) (fun (_ : Unit) => [[mdl q a (uI x 2 (((min (u + 1) 8) : Nat) : Int))], [((a 0), .inl (g.2 1, 88, .inr (.inl (aL (rCp 4 66 (rCp 2 70 (rCp 0 68 (rC6 0 66 (kpS u S))))).1))))], [((a 1), .inl (g.2 1, 88, .inr (.inl (aL (rCp 4 66 (rCp 2 70 (rCp 0 68 (rC6 0 66 (kpS u S))))).2.1))))]])) := by
  refine z_ent (cc := cX10_turn) (maxL := 1) (ret := (some .int)) (by decide) rfl (Nat.le_of_ble_eq_true rfl) ?_
  intro p e s m below meth c A ls hx hb hr hml hown hts hlocks hin0 hA hK hP hD hS hXX hl
  have hown : s.vm.findClass RX10 = some m.cls := hown
  have hl : lv_has ls 1 [(0, .ref q)] := hl
  refine lv_aload_n hx hb dX10_turn_0 rfl (lv_at hl 0 rfl) ?_
  refine z_cVv (As := []) (rest := []) ⟨hx, hb, hml, hown, hts⟩ hK hP hD hS hA [0, 1, 2] [] rfl rfl rfl (c_X10_kp l g q a x S u hu hu8) (cwV 0 hts gX10_turn_X10_keepPast rfl rfl rfl (by decide +kernel) ⟨Nat.le_of_ble_eq_true rfl, Nat.le_of_ble_eq_true rfl⟩) 10 0 rfl rfl rfl (fun _ _ _ _ _ _ => trivial) (fun _ _ _ => trivial) rfl hl.1 (Nat.le_of_ble_eq_true rfl) rfl dX10_turn_1 ⟨Nat.le_of_ble_eq_true rfl, Nat.le_of_ble_eq_true rfl⟩ (fun u_1 H locs hwu_1 hP hD hS => ?_)
  try dsimp only at hwu_1
  have hP : zP g [[mdl q a (uI x 2 (((min (u + 1) 8) : Nat) : Int))], [((a 0), .inl (g.2 1, 88, .inr (.inl (aL (kpS u S).1))))], [((a 1), .inl (g.2 1, 88, .inr (.inl (aL (kpS u S).2.1))))]] H := hP
  have hD : zD A [[mdl q a (uI x 2 (((min (u + 1) 8) : Nat) : Int))], [((a 0), .inl (g.2 1, 88, .inr (.inl (aL (kpS u S).1))))], [((a 1), .inl (g.2 1, 88, .inr (.inl (aL (kpS u S).2.1))))]] := hD
  refine lv_aload_n hx hb dX10_turn_4 rfl (lv_at hl 0 rfl) ?_
  refine z_iconst hx hb dX10_turn_5 rfl ?_
  refine z_bipush hx hb 66 dX10_turn_6 rfl ?_
  refine z_cVv (As := [vI 0, vI 66]) (rest := []) ⟨hx, hb, hml, hown, hts⟩ hK hP hD hS hA [0, 1, 2] [] rfl rfl rfl (c_X10_copyPhases l g q a (uI x 2 (((min (u + 1) 8) : Nat) : Int)) (kpS u S) 0 66 (by decide) (by decide)) (cwV 2 hts gX10_turn_X10_copyPhases rfl rfl rfl (by decide +kernel) ⟨Nat.le_of_ble_eq_true rfl, Nat.le_of_ble_eq_true rfl⟩) 10 0 rfl rfl rfl (fun _ _ _ _ _ _ => trivial) (fun _ _ _ => trivial) rfl hl.1 (Nat.le_of_ble_eq_true rfl) rfl dX10_turn_8 ⟨Nat.le_of_ble_eq_true rfl, Nat.le_of_ble_eq_true rfl⟩ (fun u_2 H locs hwu_2 hP hD hS => ?_)
  try dsimp only at hwu_2
  have hP : zP g [[mdl q a (uI x 2 (((min (u + 1) 8) : Nat) : Int))], [((a 0), .inl (g.2 1, 88, .inr (.inl (aL (rC6 0 66 (kpS u S)).1))))], [((a 1), .inl (g.2 1, 88, .inr (.inl (aL (rC6 0 66 (kpS u S)).2.1))))]] H := hP
  have hD : zD A [[mdl q a (uI x 2 (((min (u + 1) 8) : Nat) : Int))], [((a 0), .inl (g.2 1, 88, .inr (.inl (aL (rC6 0 66 (kpS u S)).1))))], [((a 1), .inl (g.2 1, 88, .inr (.inl (aL (rC6 0 66 (kpS u S)).2.1))))]] := hD
  refine lv_aload_n hx hb dX10_turn_11 rfl (lv_at hl 0 rfl) ?_
  refine z_iconst hx hb dX10_turn_12 rfl ?_
  refine z_bipush hx hb 68 dX10_turn_13 rfl ?_
  refine z_cVv (As := [vI 0, vI 68]) (rest := []) ⟨hx, hb, hml, hown, hts⟩ hK hP hD hS hA [0, 1, 2] [] rfl rfl rfl (c_X10_copyTo l g q a (uI x 2 (((min (u + 1) 8) : Nat) : Int)) (rC6 0 66 (kpS u S)) 0 68 (by decide) (by decide)) (cwV 2 hts gX10_turn_X10_copyTo rfl rfl rfl (by decide +kernel) ⟨Nat.le_of_ble_eq_true rfl, Nat.le_of_ble_eq_true rfl⟩) 10 0 rfl rfl rfl (fun _ _ _ _ _ _ => trivial) (fun _ _ _ => trivial) rfl hl.1 (Nat.le_of_ble_eq_true rfl) rfl dX10_turn_15 ⟨Nat.le_of_ble_eq_true rfl, Nat.le_of_ble_eq_true rfl⟩ (fun u_3 H locs hwu_3 hP hD hS => ?_)
  try dsimp only at hwu_3
  have hP : zP g [[mdl q a (uI x 2 (((min (u + 1) 8) : Nat) : Int))], [((a 0), .inl (g.2 1, 88, .inr (.inl (aL (rCp 0 68 (rC6 0 66 (kpS u S))).1))))], [((a 1), .inl (g.2 1, 88, .inr (.inl (aL (rCp 0 68 (rC6 0 66 (kpS u S))).2.1))))]] H := hP
  have hD : zD A [[mdl q a (uI x 2 (((min (u + 1) 8) : Nat) : Int))], [((a 0), .inl (g.2 1, 88, .inr (.inl (aL (rCp 0 68 (rC6 0 66 (kpS u S))).1))))], [((a 1), .inl (g.2 1, 88, .inr (.inl (aL (rCp 0 68 (rC6 0 66 (kpS u S))).2.1))))]] := hD
  refine lv_aload_n hx hb dX10_turn_18 rfl (lv_at hl 0 rfl) ?_
  refine z_iconst hx hb dX10_turn_19 rfl ?_
  refine z_bipush hx hb 70 dX10_turn_20 rfl ?_
  refine z_cVv (As := [vI 2, vI 70]) (rest := []) ⟨hx, hb, hml, hown, hts⟩ hK hP hD hS hA [0, 1, 2] [] rfl rfl rfl (c_X10_copyTo l g q a (uI x 2 (((min (u + 1) 8) : Nat) : Int)) (rCp 0 68 (rC6 0 66 (kpS u S))) 2 70 (by decide) (by decide)) (cwV 2 hts gX10_turn_X10_copyTo rfl rfl rfl (by decide +kernel) ⟨Nat.le_of_ble_eq_true rfl, Nat.le_of_ble_eq_true rfl⟩) 10 0 rfl rfl rfl (fun _ _ _ _ _ _ => trivial) (fun _ _ _ => trivial) rfl hl.1 (Nat.le_of_ble_eq_true rfl) rfl dX10_turn_22 ⟨Nat.le_of_ble_eq_true rfl, Nat.le_of_ble_eq_true rfl⟩ (fun u_4 H locs hwu_4 hP hD hS => ?_)
  try dsimp only at hwu_4
  have hP : zP g [[mdl q a (uI x 2 (((min (u + 1) 8) : Nat) : Int))], [((a 0), .inl (g.2 1, 88, .inr (.inl (aL (rCp 2 70 (rCp 0 68 (rC6 0 66 (kpS u S)))).1))))], [((a 1), .inl (g.2 1, 88, .inr (.inl (aL (rCp 2 70 (rCp 0 68 (rC6 0 66 (kpS u S)))).2.1))))]] H := hP
  have hD : zD A [[mdl q a (uI x 2 (((min (u + 1) 8) : Nat) : Int))], [((a 0), .inl (g.2 1, 88, .inr (.inl (aL (rCp 2 70 (rCp 0 68 (rC6 0 66 (kpS u S)))).1))))], [((a 1), .inl (g.2 1, 88, .inr (.inl (aL (rCp 2 70 (rCp 0 68 (rC6 0 66 (kpS u S)))).2.1))))]] := hD
  refine lv_aload_n hx hb dX10_turn_25 rfl (lv_at hl 0 rfl) ?_
  refine z_iconst hx hb dX10_turn_26 rfl ?_
  refine z_bipush hx hb 66 dX10_turn_27 rfl ?_
  refine z_cVv (As := [vI 4, vI 66]) (rest := []) ⟨hx, hb, hml, hown, hts⟩ hK hP hD hS hA [0, 1, 2] [] rfl rfl rfl (c_X10_copyTo l g q a (uI x 2 (((min (u + 1) 8) : Nat) : Int)) (rCp 2 70 (rCp 0 68 (rC6 0 66 (kpS u S)))) 4 66 (by decide) (by decide)) (cwV 2 hts gX10_turn_X10_copyTo rfl rfl rfl (by decide +kernel) ⟨Nat.le_of_ble_eq_true rfl, Nat.le_of_ble_eq_true rfl⟩) 10 0 rfl rfl rfl (fun _ _ _ _ _ _ => trivial) (fun _ _ _ => trivial) rfl hl.1 (Nat.le_of_ble_eq_true rfl) rfl dX10_turn_29 ⟨Nat.le_of_ble_eq_true rfl, Nat.le_of_ble_eq_true rfl⟩ (fun u_5 H locs hwu_5 hP hD hS => ?_)
  try dsimp only at hwu_5
  have hP : zP g [[mdl q a (uI x 2 (((min (u + 1) 8) : Nat) : Int))], [((a 0), .inl (g.2 1, 88, .inr (.inl (aL (rCp 4 66 (rCp 2 70 (rCp 0 68 (rC6 0 66 (kpS u S))))).1))))], [((a 1), .inl (g.2 1, 88, .inr (.inl (aL (rCp 4 66 (rCp 2 70 (rCp 0 68 (rC6 0 66 (kpS u S))))).2.1))))]] H := hP
  have hD : zD A [[mdl q a (uI x 2 (((min (u + 1) 8) : Nat) : Int))], [((a 0), .inl (g.2 1, 88, .inr (.inl (aL (rCp 4 66 (rCp 2 70 (rCp 0 68 (rC6 0 66 (kpS u S))))).1))))], [((a 1), .inl (g.2 1, 88, .inr (.inl (aL (rCp 4 66 (rCp 2 70 (rCp 0 68 (rC6 0 66 (kpS u S))))).2.1))))]] := hD
  refine z_iconst hx hb dX10_turn_32 rfl ?_
  exact z_reti () [0, 1, 2] hx hb hr rfl hlocks hK hP hD hS (rfl) trivial rfl rfl (rfl) (Nat.le_of_ble_eq_true rfl) (Nat.le_of_ble_eq_true rfl) dX10_turn_33
