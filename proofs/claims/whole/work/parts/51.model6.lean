set_option maxHeartbeats 4000000 in
set_option maxRecDepth 100000 in
theorem c_X10_put_unk (l : Launch) (g : zG) (q : Nat) (a : Nat → Nat) (x : Nat → Int) (i : Int) (w : Int) (b0 : Int) (b1 : Int) (hi : -2147483648 ≤ i ∧ i < 2147483648) (hw : -2147483648 ≤ w ∧ w < 2147483648) (ha : -2147483648 ≤ b0 ∧ b0 < 2147483648) (hb_ : -2147483648 ≤ b1 ∧ b1 < 2147483648) (hu : ¬ (0 ≤ i ∧ i ≤ 2)) : zMet l g yX10_put wsX10_put 2 0 0 [.ref q, vI i, vI w, vI b0, vI b1] zX0 [[mdl q a x]] (qi g (fun (_ : Unit) => (-2000000001)) (fun (_ : Unit) => True) (fun (_ : Unit) => [[mdl q a x]])) := by
  refine z_ent (cc := cX10_put) (maxL := 6) (ret := (some .int)) (by decide) rfl (Nat.le_of_ble_eq_true rfl) ?_
  intro p e s m below meth c A ls hx hb hr hml hown hts hlocks hin0 hA hK hP hD hS hXX hl
  have hown : s.vm.findClass RX10 = some m.cls := hown
  have hl : lv_has ls 6 [(0, .ref q), (1, vI i), (2, vI w), (3, vI b0), (4, vI b1)] := hl
  refine lv_iload_n hx hb dX10_put_0 rfl (lv_at hl 1 rfl) ?_
  refine z_cSi (As := [vI i]) (rest := []) ⟨hx, hb, hml, hown, hts⟩ hK hP hD hS hA [] [0] rfl rfl rfl (c_X10_isStore l g i (by first | decide | omega)) (va_cwS 1 hts gX10_put_X10_isStore rfl rfl rfl (by decide +kernel) ⟨Nat.le_of_ble_eq_true rfl, Nat.le_of_ble_eq_true rfl⟩) (fun _ _ _ _ _ _ => trivial) (fun _ _ _ => trivial) rfl hl.1 (Nat.le_of_ble_eq_true rfl) rfl dX10_put_1 ⟨Nat.le_of_ble_eq_true rfl, Nat.le_of_ble_eq_true rfl⟩ (fun u_1 H locs hwu_1 hP hD hS => ?_)
  try dsimp only at hwu_1
  have hP : zP g [[mdl q a x]] H := hP
  have hD : zD A [[mdl q a x]] := hD
  refine z_toI (inI i 0 2) rfl ?_
  have hf_2 := inI_s i 0 2
  refine z_if_ne (tgt := 10) hx hb (by omega) dX10_put_4 (by decide) (fun cq3 => False.elim (by omega)) (fun cq3 => ?_)
  refine z_ldc hx hb (-2000000001) hown (hts _ (List.mem_of_getElem? (i := 1) rfl)) rfl dX10_put_7 ?_
  exact z_reti () [0] hx hb hr rfl hlocks hK hP hD hS (rfl) trivial rfl rfl (rfl) (Nat.le_of_ble_eq_true rfl) (Nat.le_of_ble_eq_true rfl) dX10_put_9

set_option maxHeartbeats 4000000 in
set_option maxRecDepth 100000 in
theorem c_X10_put_out (l : Launch) (g : zG) (q : Nat) (a : Nat → Nat) (x : Nat → Int) (i : Int) (w : Int) (b0 : Int) (b1 : Int) (hi : -2147483648 ≤ i ∧ i < 2147483648) (hw : -2147483648 ≤ w ∧ w < 2147483648) (ha : -2147483648 ≤ b0 ∧ b0 < 2147483648) (hb_ : -2147483648 ≤ b1 ∧ b1 < 2147483648) (hu : 0 ≤ i ∧ i ≤ 2) (ho : ¬ ((0 ≤ w ∧ w ≤ 1) ∧ (-9999 ≤ b0 ∧ b0 ≤ 9999) ∧ (-9999 ≤ b1 ∧ b1 ≤ 9999))) : zMet l g yX10_put wsX10_put 2 0 0 [.ref q, vI i, vI w, vI b0, vI b1] zX0 [[mdl q a x]] (qi g (fun (_ : Unit) => (-2000000002)) (fun (_ : Unit) => True) (fun (_ : Unit) => [[mdl q a x]])) := by
  refine z_ent (cc := cX10_put) (maxL := 6) (ret := (some .int)) (by decide) rfl (Nat.le_of_ble_eq_true rfl) ?_
  intro p e s m below meth c A ls hx hb hr hml hown hts hlocks hin0 hA hK hP hD hS hXX hl
  have hown : s.vm.findClass RX10 = some m.cls := hown
  have hl : lv_has ls 6 [(0, .ref q), (1, vI i), (2, vI w), (3, vI b0), (4, vI b1)] := hl
  refine lv_iload_n hx hb dX10_put_0 rfl (lv_at hl 1 rfl) ?_
  refine z_cSi (As := [vI i]) (rest := []) ⟨hx, hb, hml, hown, hts⟩ hK hP hD hS hA [] [0] rfl rfl rfl (c_X10_isStore l g i (by first | decide | omega)) (va_cwS 1 hts gX10_put_X10_isStore rfl rfl rfl (by decide +kernel) ⟨Nat.le_of_ble_eq_true rfl, Nat.le_of_ble_eq_true rfl⟩) (fun _ _ _ _ _ _ => trivial) (fun _ _ _ => trivial) rfl hl.1 (Nat.le_of_ble_eq_true rfl) rfl dX10_put_1 ⟨Nat.le_of_ble_eq_true rfl, Nat.le_of_ble_eq_true rfl⟩ (fun u_1 H locs hwu_1 hP hD hS => ?_)
  try dsimp only at hwu_1
  have hP : zP g [[mdl q a x]] H := hP
  have hD : zD A [[mdl q a x]] := hD
  refine z_toI (inI i 0 2) rfl ?_
  have hf_2 := inI_s i 0 2
  refine z_if_ne (tgt := 10) hx hb (by omega) dX10_put_4 (by decide) (fun cq3 => ?_) (fun cq3 => False.elim (by omega))
  refine lv_iload_n hx hb dX10_put_10 rfl (lv_at hl 2 rfl) ?_
  refine z_i2l hx hb (by omega) dX10_put_11 ?_
  refine z_lconst hx hb 0 dX10_put_12 rfl ?_
  refine z_lconst hx hb 1 dX10_put_13 rfl ?_
  refine z_cSi (As := [vL w, vL 0, vL 1]) (rest := []) ⟨hx, hb, hml, hown, hts⟩ hK hP hD hS hA [] [0] rfl rfl rfl (c_X10_in l g w 0 1 (by first | decide | omega) (by first | decide | omega) (by first | decide | omega)) (va_cwS 3 hts gX10_put_X10_in rfl rfl rfl (by decide +kernel) ⟨Nat.le_of_ble_eq_true rfl, Nat.le_of_ble_eq_true rfl⟩) (fun _ _ _ _ _ _ => trivial) (fun _ _ _ => trivial) rfl hl.1 (Nat.le_of_ble_eq_true rfl) rfl dX10_put_14 ⟨Nat.le_of_ble_eq_true rfl, Nat.le_of_ble_eq_true rfl⟩ (fun u_4 H locs hwu_4 hP hD hS => ?_)
  try dsimp only at hwu_4
  have hP : zP g [[mdl q a x]] H := hP
  have hD : zD A [[mdl q a x]] := hD
  refine z_toI (inI w 0 1) rfl ?_
  have hf_5 := inI_s w 0 1
  refine z_if_eq (tgt := 49) hx hb (by omega) dX10_put_17 (by decide) (fun cq6 => ?_) (fun cq6 => ?_)
  · refine z_ldc hx hb (-2000000002) hown (hts _ (List.mem_of_getElem? (i := 4) rfl)) rfl dX10_put_49 ?_
    exact z_reti () [0] hx hb hr rfl hlocks hK hP hD hS (rfl) trivial rfl rfl (rfl) (Nat.le_of_ble_eq_true rfl) (Nat.le_of_ble_eq_true rfl) dX10_put_51
  · refine lv_iload_n hx hb dX10_put_20 rfl (lv_at hl 3 rfl) ?_
    refine z_i2l hx hb (by omega) dX10_put_21 ?_
    refine z_ldc2 hx hb (-9999) hown (hts _ (List.mem_of_getElem? (i := 2) rfl)) rfl dX10_put_22 ?_
    refine z_ldc2 hx hb 9999 hown (hts _ (List.mem_of_getElem? (i := 3) rfl)) rfl dX10_put_25 ?_
    refine z_cSi (As := [vL b0, vL (-9999), vL 9999]) (rest := []) ⟨hx, hb, hml, hown, hts⟩ hK hP hD hS hA [] [0] rfl rfl rfl (c_X10_in l g b0 (-9999) 9999 (by first | decide | omega) (by first | decide | omega) (by first | decide | omega)) (va_cwS 3 hts gX10_put_X10_in rfl rfl rfl (by decide +kernel) ⟨Nat.le_of_ble_eq_true rfl, Nat.le_of_ble_eq_true rfl⟩) (fun _ _ _ _ _ _ => trivial) (fun _ _ _ => trivial) rfl hl.1 (Nat.le_of_ble_eq_true rfl) rfl dX10_put_28 ⟨Nat.le_of_ble_eq_true rfl, Nat.le_of_ble_eq_true rfl⟩ (fun u_7 H locs hwu_7 hP hD hS => ?_)
    try dsimp only at hwu_7
    have hP : zP g [[mdl q a x]] H := hP
    have hD : zD A [[mdl q a x]] := hD
    refine z_toI (inI b0 (-9999) 9999) rfl ?_
    have hf_8 := inI_s b0 (-9999) 9999
    refine z_if_eq (tgt := 49) hx hb (by omega) dX10_put_31 (by decide) (fun cq9 => ?_) (fun cq9 => ?_)
    · refine z_ldc hx hb (-2000000002) hown (hts _ (List.mem_of_getElem? (i := 4) rfl)) rfl dX10_put_49 ?_
      exact z_reti () [0] hx hb hr rfl hlocks hK hP hD hS (rfl) trivial rfl rfl (rfl) (Nat.le_of_ble_eq_true rfl) (Nat.le_of_ble_eq_true rfl) dX10_put_51
    · refine lv_iload hx hb dX10_put_34 (lv_at hl 4 rfl) ?_
      refine z_i2l hx hb (by omega) dX10_put_36 ?_
      refine z_ldc2 hx hb (-9999) hown (hts _ (List.mem_of_getElem? (i := 2) rfl)) rfl dX10_put_37 ?_
      refine z_ldc2 hx hb 9999 hown (hts _ (List.mem_of_getElem? (i := 3) rfl)) rfl dX10_put_40 ?_
      refine z_cSi (As := [vL b1, vL (-9999), vL 9999]) (rest := []) ⟨hx, hb, hml, hown, hts⟩ hK hP hD hS hA [] [0] rfl rfl rfl (c_X10_in l g b1 (-9999) 9999 (by first | decide | omega) (by first | decide | omega) (by first | decide | omega)) (va_cwS 3 hts gX10_put_X10_in rfl rfl rfl (by decide +kernel) ⟨Nat.le_of_ble_eq_true rfl, Nat.le_of_ble_eq_true rfl⟩) (fun _ _ _ _ _ _ => trivial) (fun _ _ _ => trivial) rfl hl.1 (Nat.le_of_ble_eq_true rfl) rfl dX10_put_43 ⟨Nat.le_of_ble_eq_true rfl, Nat.le_of_ble_eq_true rfl⟩ (fun u_10 H locs hwu_10 hP hD hS => ?_)
      try dsimp only at hwu_10
      have hP : zP g [[mdl q a x]] H := hP
      have hD : zD A [[mdl q a x]] := hD
      refine z_toI (inI b1 (-9999) 9999) rfl ?_
      have hf_11 := inI_s b1 (-9999) 9999
      refine z_if_ne (tgt := 52) hx hb (by omega) dX10_put_46 (by decide) (fun cq12 => False.elim (by omega)) (fun cq12 => ?_)
      refine z_ldc hx hb (-2000000002) hown (hts _ (List.mem_of_getElem? (i := 4) rfl)) rfl dX10_put_49 ?_
      exact z_reti () [0] hx hb hr rfl hlocks hK hP hD hS (rfl) trivial rfl rfl (rfl) (Nat.le_of_ble_eq_true rfl) (Nat.le_of_ble_eq_true rfl) dX10_put_51

set_option maxHeartbeats 4000000 in
set_option maxRecDepth 100000 in
theorem c_X10_put0_null (l : Launch) (g : zG) (q : Nat) (a : Nat → Nat) (x : Nat → Int) (z : Nat → Int) (w : Int) (b0 : Int) (b1 : Int) (hw : -2147483648 ≤ w ∧ w < 2147483648) (ha : -2147483648 ≤ b0 ∧ b0 < 2147483648) (hb_ : -2147483648 ≤ b1 ∧ b1 < 2147483648) (ho : (0 ≤ w ∧ w ≤ 1) ∧ (-9999 ≤ b0 ∧ b0 ≤ 9999) ∧ (-9999 ≤ b1 ∧ b1 ≤ 9999)) (hz0 : z 0 = -1) : zMet l g yX10_put wsX10_put 2 0 0 [.ref q, vI 0, vI w, vI b0, vI b1] zX0 [[mdl q a x], [((a 7), .inl (g.2 0, 3, .inl (aI z)))]] (qi g (fun (_ : Unit) => (-2000000011)) (fun (_ : Unit) => True) (fun (_ : Unit) => [[mdl q a x], [((a 7), .inl (g.2 0, 3, .inl (aI z)))]])) := by
  refine z_ent (cc := cX10_put) (maxL := 6) (ret := (some .int)) (by decide) rfl (Nat.le_of_ble_eq_true rfl) ?_
  intro p e s m below meth c A ls hx hb hr hml hown hts hlocks hin0 hA hK hP hD hS hXX hl
  have hown : s.vm.findClass RX10 = some m.cls := hown
  have hin10_ : ∀ w ∈ wsX100, w ∈ wsX10_put := zw_in [19, 20, 21, 22, 23, 24, 25, 26, 27, 28, 29, 30, 31, 32, 33, 34, 35, 36, 37, 38, 39, 40, 41, 42, 43, 44] rfl
  have hl : lv_has ls 6 [(0, .ref q), (1, vI 0), (2, vI w), (3, vI b0), (4, vI b1)] := hl
  refine lv_iload_n hx hb dX10_put_0 rfl (lv_at hl 1 rfl) ?_
  refine z_cSi (As := [vI 0]) (rest := []) ⟨hx, hb, hml, hown, hts⟩ hK hP hD hS hA [] [0, 1] rfl rfl rfl (c_X10_isStore l g 0 (by first | decide | omega)) (va_cwS 1 hts gX10_put_X10_isStore rfl rfl rfl (by decide +kernel) ⟨Nat.le_of_ble_eq_true rfl, Nat.le_of_ble_eq_true rfl⟩) (fun _ _ _ _ _ _ => trivial) (fun _ _ _ => trivial) rfl hl.1 (Nat.le_of_ble_eq_true rfl) rfl dX10_put_1 ⟨Nat.le_of_ble_eq_true rfl, Nat.le_of_ble_eq_true rfl⟩ (fun u_1 H locs hwu_1 hP hD hS => ?_)
  try dsimp only at hwu_1
  have hP : zP g [[mdl q a x], [((a 7), .inl (g.2 0, 3, .inl (aI z)))]] H := hP
  have hD : zD A [[mdl q a x], [((a 7), .inl (g.2 0, 3, .inl (aI z)))]] := hD
  refine z_toI (inI 0 0 2) rfl ?_
  have hf_2 := inI_s 0 0 2
  refine z_if_ne (tgt := 10) hx hb (by omega) dX10_put_4 (by decide) (fun cq3 => ?_) (fun cq3 => False.elim (by omega))
  refine lv_iload_n hx hb dX10_put_10 rfl (lv_at hl 2 rfl) ?_
  refine z_i2l hx hb (by omega) dX10_put_11 ?_
  refine z_lconst hx hb 0 dX10_put_12 rfl ?_
  refine z_lconst hx hb 1 dX10_put_13 rfl ?_
  refine z_cSi (As := [vL w, vL 0, vL 1]) (rest := []) ⟨hx, hb, hml, hown, hts⟩ hK hP hD hS hA [] [0, 1] rfl rfl rfl (c_X10_in l g w 0 1 (by first | decide | omega) (by first | decide | omega) (by first | decide | omega)) (va_cwS 3 hts gX10_put_X10_in rfl rfl rfl (by decide +kernel) ⟨Nat.le_of_ble_eq_true rfl, Nat.le_of_ble_eq_true rfl⟩) (fun _ _ _ _ _ _ => trivial) (fun _ _ _ => trivial) rfl hl.1 (Nat.le_of_ble_eq_true rfl) rfl dX10_put_14 ⟨Nat.le_of_ble_eq_true rfl, Nat.le_of_ble_eq_true rfl⟩ (fun u_4 H locs hwu_4 hP hD hS => ?_)
  try dsimp only at hwu_4
  have hP : zP g [[mdl q a x], [((a 7), .inl (g.2 0, 3, .inl (aI z)))]] H := hP
  have hD : zD A [[mdl q a x], [((a 7), .inl (g.2 0, 3, .inl (aI z)))]] := hD
  refine z_toI (inI w 0 1) rfl ?_
  have hf_5 := inI_s w 0 1
  refine z_if_eq (tgt := 49) hx hb (by omega) dX10_put_17 (by decide) (fun cq6 => False.elim (by omega)) (fun cq6 => ?_)
  refine lv_iload_n hx hb dX10_put_20 rfl (lv_at hl 3 rfl) ?_
  refine z_i2l hx hb (by omega) dX10_put_21 ?_
  refine z_ldc2 hx hb (-9999) hown (hts _ (List.mem_of_getElem? (i := 2) rfl)) rfl dX10_put_22 ?_
  refine z_ldc2 hx hb 9999 hown (hts _ (List.mem_of_getElem? (i := 3) rfl)) rfl dX10_put_25 ?_
  refine z_cSi (As := [vL b0, vL (-9999), vL 9999]) (rest := []) ⟨hx, hb, hml, hown, hts⟩ hK hP hD hS hA [] [0, 1] rfl rfl rfl (c_X10_in l g b0 (-9999) 9999 (by first | decide | omega) (by first | decide | omega) (by first | decide | omega)) (va_cwS 3 hts gX10_put_X10_in rfl rfl rfl (by decide +kernel) ⟨Nat.le_of_ble_eq_true rfl, Nat.le_of_ble_eq_true rfl⟩) (fun _ _ _ _ _ _ => trivial) (fun _ _ _ => trivial) rfl hl.1 (Nat.le_of_ble_eq_true rfl) rfl dX10_put_28 ⟨Nat.le_of_ble_eq_true rfl, Nat.le_of_ble_eq_true rfl⟩ (fun u_7 H locs hwu_7 hP hD hS => ?_)
  try dsimp only at hwu_7
  have hP : zP g [[mdl q a x], [((a 7), .inl (g.2 0, 3, .inl (aI z)))]] H := hP
  have hD : zD A [[mdl q a x], [((a 7), .inl (g.2 0, 3, .inl (aI z)))]] := hD
  refine z_toI (inI b0 (-9999) 9999) rfl ?_
  have hf_8 := inI_s b0 (-9999) 9999
  refine z_if_eq (tgt := 49) hx hb (by omega) dX10_put_31 (by decide) (fun cq9 => False.elim (by omega)) (fun cq9 => ?_)
  refine lv_iload hx hb dX10_put_34 (lv_at hl 4 rfl) ?_
  refine z_i2l hx hb (by omega) dX10_put_36 ?_
  refine z_ldc2 hx hb (-9999) hown (hts _ (List.mem_of_getElem? (i := 2) rfl)) rfl dX10_put_37 ?_
  refine z_ldc2 hx hb 9999 hown (hts _ (List.mem_of_getElem? (i := 3) rfl)) rfl dX10_put_40 ?_
  refine z_cSi (As := [vL b1, vL (-9999), vL 9999]) (rest := []) ⟨hx, hb, hml, hown, hts⟩ hK hP hD hS hA [] [0, 1] rfl rfl rfl (c_X10_in l g b1 (-9999) 9999 (by first | decide | omega) (by first | decide | omega) (by first | decide | omega)) (va_cwS 3 hts gX10_put_X10_in rfl rfl rfl (by decide +kernel) ⟨Nat.le_of_ble_eq_true rfl, Nat.le_of_ble_eq_true rfl⟩) (fun _ _ _ _ _ _ => trivial) (fun _ _ _ => trivial) rfl hl.1 (Nat.le_of_ble_eq_true rfl) rfl dX10_put_43 ⟨Nat.le_of_ble_eq_true rfl, Nat.le_of_ble_eq_true rfl⟩ (fun u_10 H locs hwu_10 hP hD hS => ?_)
  try dsimp only at hwu_10
  have hP : zP g [[mdl q a x], [((a 7), .inl (g.2 0, 3, .inl (aI z)))]] H := hP
  have hD : zD A [[mdl q a x], [((a 7), .inl (g.2 0, 3, .inl (aI z)))]] := hD
  refine z_toI (inI b1 (-9999) 9999) rfl ?_
  have hf_11 := inI_s b1 (-9999) 9999
  refine z_if_ne (tgt := 52) hx hb (by omega) dX10_put_46 (by decide) (fun cq12 => ?_) (fun cq12 => False.elim (by omega))
  refine lv_aload_n hx hb dX10_put_52 rfl (lv_at hl 0 rfl) ?_
  refine z_get hx hb hts hin10_ hown hK hP 0 rfl rfl 11 (by decide) (hts _ (List.mem_of_getElem? (i := 5) rfl)) rfl dX10_put_53 ?_
  refine lv_iload_n hx hb dX10_put_56 rfl (lv_at hl 1 rfl) ?_
  refine z_iald hx hb hK hP 1 rfl 0 rfl (by decide) (by decide) dX10_put_57 ?_
  refine z_if_ge (tgt := 65) hx hb (by omega) dX10_put_58 (by decide) (fun cq13 => False.elim (by omega)) (fun cq13 => ?_)
  refine z_ldcw hx hb (-2000000011) hown (hts _ (List.mem_of_getElem? (i := 6) rfl)) rfl dX10_put_61 ?_
  exact z_reti () [0, 1] hx hb hr rfl hlocks hK hP hD hS (rfl) trivial rfl rfl (rfl) (Nat.le_of_ble_eq_true rfl) (Nat.le_of_ble_eq_true rfl) dX10_put_64

set_option maxHeartbeats 4000000 in
set_option maxRecDepth 100000 in
theorem c_X10_put0_room (l : Launch) (g : zG) (q : Nat) (a : Nat → Nat) (x : Nat → Int) (z : Nat → Int) (w : Int) (b0 : Int) (b1 : Int) (hw : -2147483648 ≤ w ∧ w < 2147483648) (ha : -2147483648 ≤ b0 ∧ b0 < 2147483648) (hb_ : -2147483648 ≤ b1 ∧ b1 < 2147483648) (ho : (0 ≤ w ∧ w ≤ 1) ∧ (-9999 ≤ b0 ∧ b0 ≤ 9999) ∧ (-9999 ≤ b1 ∧ b1 ≤ 9999)) (hz0 : z 0 = 8) : zMet l g yX10_put wsX10_put 2 0 0 [.ref q, vI 0, vI w, vI b0, vI b1] zX0 [[mdl q a x], [((a 7), .inl (g.2 0, 3, .inl (aI z)))]] (qi g (fun (_ : Unit) => (-2000000014)) (fun (_ : Unit) => True) (fun (_ : Unit) => [[mdl q a x], [((a 7), .inl (g.2 0, 3, .inl (aI z)))]])) := by
  refine z_ent (cc := cX10_put) (maxL := 6) (ret := (some .int)) (by decide) rfl (Nat.le_of_ble_eq_true rfl) ?_
  intro p e s m below meth c A ls hx hb hr hml hown hts hlocks hin0 hA hK hP hD hS hXX hl
  have hown : s.vm.findClass RX10 = some m.cls := hown
  have hin10_ : ∀ w ∈ wsX100, w ∈ wsX10_put := zw_in [19, 20, 21, 22, 23, 24, 25, 26, 27, 28, 29, 30, 31, 32, 33, 34, 35, 36, 37, 38, 39, 40, 41, 42, 43, 44] rfl
  have hl : lv_has ls 6 [(0, .ref q), (1, vI 0), (2, vI w), (3, vI b0), (4, vI b1)] := hl
  refine lv_iload_n hx hb dX10_put_0 rfl (lv_at hl 1 rfl) ?_
  refine z_cSi (As := [vI 0]) (rest := []) ⟨hx, hb, hml, hown, hts⟩ hK hP hD hS hA [] [0, 1] rfl rfl rfl (c_X10_isStore l g 0 (by first | decide | omega)) (va_cwS 1 hts gX10_put_X10_isStore rfl rfl rfl (by decide +kernel) ⟨Nat.le_of_ble_eq_true rfl, Nat.le_of_ble_eq_true rfl⟩) (fun _ _ _ _ _ _ => trivial) (fun _ _ _ => trivial) rfl hl.1 (Nat.le_of_ble_eq_true rfl) rfl dX10_put_1 ⟨Nat.le_of_ble_eq_true rfl, Nat.le_of_ble_eq_true rfl⟩ (fun u_1 H locs hwu_1 hP hD hS => ?_)
  try dsimp only at hwu_1
  have hP : zP g [[mdl q a x], [((a 7), .inl (g.2 0, 3, .inl (aI z)))]] H := hP
  have hD : zD A [[mdl q a x], [((a 7), .inl (g.2 0, 3, .inl (aI z)))]] := hD
  refine z_toI (inI 0 0 2) rfl ?_
  have hf_2 := inI_s 0 0 2
  refine z_if_ne (tgt := 10) hx hb (by omega) dX10_put_4 (by decide) (fun cq3 => ?_) (fun cq3 => False.elim (by omega))
  refine lv_iload_n hx hb dX10_put_10 rfl (lv_at hl 2 rfl) ?_
  refine z_i2l hx hb (by omega) dX10_put_11 ?_
  refine z_lconst hx hb 0 dX10_put_12 rfl ?_
  refine z_lconst hx hb 1 dX10_put_13 rfl ?_
  refine z_cSi (As := [vL w, vL 0, vL 1]) (rest := []) ⟨hx, hb, hml, hown, hts⟩ hK hP hD hS hA [] [0, 1] rfl rfl rfl (c_X10_in l g w 0 1 (by first | decide | omega) (by first | decide | omega) (by first | decide | omega)) (va_cwS 3 hts gX10_put_X10_in rfl rfl rfl (by decide +kernel) ⟨Nat.le_of_ble_eq_true rfl, Nat.le_of_ble_eq_true rfl⟩) (fun _ _ _ _ _ _ => trivial) (fun _ _ _ => trivial) rfl hl.1 (Nat.le_of_ble_eq_true rfl) rfl dX10_put_14 ⟨Nat.le_of_ble_eq_true rfl, Nat.le_of_ble_eq_true rfl⟩ (fun u_4 H locs hwu_4 hP hD hS => ?_)
  try dsimp only at hwu_4
  have hP : zP g [[mdl q a x], [((a 7), .inl (g.2 0, 3, .inl (aI z)))]] H := hP
  have hD : zD A [[mdl q a x], [((a 7), .inl (g.2 0, 3, .inl (aI z)))]] := hD
  refine z_toI (inI w 0 1) rfl ?_
  have hf_5 := inI_s w 0 1
  refine z_if_eq (tgt := 49) hx hb (by omega) dX10_put_17 (by decide) (fun cq6 => False.elim (by omega)) (fun cq6 => ?_)
  refine lv_iload_n hx hb dX10_put_20 rfl (lv_at hl 3 rfl) ?_
  refine z_i2l hx hb (by omega) dX10_put_21 ?_
  refine z_ldc2 hx hb (-9999) hown (hts _ (List.mem_of_getElem? (i := 2) rfl)) rfl dX10_put_22 ?_
  refine z_ldc2 hx hb 9999 hown (hts _ (List.mem_of_getElem? (i := 3) rfl)) rfl dX10_put_25 ?_
  refine z_cSi (As := [vL b0, vL (-9999), vL 9999]) (rest := []) ⟨hx, hb, hml, hown, hts⟩ hK hP hD hS hA [] [0, 1] rfl rfl rfl (c_X10_in l g b0 (-9999) 9999 (by first | decide | omega) (by first | decide | omega) (by first | decide | omega)) (va_cwS 3 hts gX10_put_X10_in rfl rfl rfl (by decide +kernel) ⟨Nat.le_of_ble_eq_true rfl, Nat.le_of_ble_eq_true rfl⟩) (fun _ _ _ _ _ _ => trivial) (fun _ _ _ => trivial) rfl hl.1 (Nat.le_of_ble_eq_true rfl) rfl dX10_put_28 ⟨Nat.le_of_ble_eq_true rfl, Nat.le_of_ble_eq_true rfl⟩ (fun u_7 H locs hwu_7 hP hD hS => ?_)
  try dsimp only at hwu_7
  have hP : zP g [[mdl q a x], [((a 7), .inl (g.2 0, 3, .inl (aI z)))]] H := hP
  have hD : zD A [[mdl q a x], [((a 7), .inl (g.2 0, 3, .inl (aI z)))]] := hD
  refine z_toI (inI b0 (-9999) 9999) rfl ?_
  have hf_8 := inI_s b0 (-9999) 9999
  refine z_if_eq (tgt := 49) hx hb (by omega) dX10_put_31 (by decide) (fun cq9 => False.elim (by omega)) (fun cq9 => ?_)
  refine lv_iload hx hb dX10_put_34 (lv_at hl 4 rfl) ?_
  refine z_i2l hx hb (by omega) dX10_put_36 ?_
  refine z_ldc2 hx hb (-9999) hown (hts _ (List.mem_of_getElem? (i := 2) rfl)) rfl dX10_put_37 ?_
  refine z_ldc2 hx hb 9999 hown (hts _ (List.mem_of_getElem? (i := 3) rfl)) rfl dX10_put_40 ?_
  refine z_cSi (As := [vL b1, vL (-9999), vL 9999]) (rest := []) ⟨hx, hb, hml, hown, hts⟩ hK hP hD hS hA [] [0, 1] rfl rfl rfl (c_X10_in l g b1 (-9999) 9999 (by first | decide | omega) (by first | decide | omega) (by first | decide | omega)) (va_cwS 3 hts gX10_put_X10_in rfl rfl rfl (by decide +kernel) ⟨Nat.le_of_ble_eq_true rfl, Nat.le_of_ble_eq_true rfl⟩) (fun _ _ _ _ _ _ => trivial) (fun _ _ _ => trivial) rfl hl.1 (Nat.le_of_ble_eq_true rfl) rfl dX10_put_43 ⟨Nat.le_of_ble_eq_true rfl, Nat.le_of_ble_eq_true rfl⟩ (fun u_10 H locs hwu_10 hP hD hS => ?_)
  try dsimp only at hwu_10
  have hP : zP g [[mdl q a x], [((a 7), .inl (g.2 0, 3, .inl (aI z)))]] H := hP
  have hD : zD A [[mdl q a x], [((a 7), .inl (g.2 0, 3, .inl (aI z)))]] := hD
  refine z_toI (inI b1 (-9999) 9999) rfl ?_
  have hf_11 := inI_s b1 (-9999) 9999
  refine z_if_ne (tgt := 52) hx hb (by omega) dX10_put_46 (by decide) (fun cq12 => ?_) (fun cq12 => False.elim (by omega))
  refine lv_aload_n hx hb dX10_put_52 rfl (lv_at hl 0 rfl) ?_
  refine z_get hx hb hts hin10_ hown hK hP 0 rfl rfl 11 (by decide) (hts _ (List.mem_of_getElem? (i := 5) rfl)) rfl dX10_put_53 ?_
  refine lv_iload_n hx hb dX10_put_56 rfl (lv_at hl 1 rfl) ?_
  refine z_iald hx hb hK hP 1 rfl 0 rfl (by decide) (by decide) dX10_put_57 ?_
  refine z_if_ge (tgt := 65) hx hb (by omega) dX10_put_58 (by decide) (fun cq13 => ?_) (fun cq13 => False.elim (by omega))
  refine lv_aload_n hx hb dX10_put_65 rfl (lv_at hl 0 rfl) ?_
  refine z_get hx hb hts hin10_ hown hK hP 0 rfl rfl 11 (by decide) (hts _ (List.mem_of_getElem? (i := 5) rfl)) rfl dX10_put_66 ?_
  refine lv_iload_n hx hb dX10_put_69 rfl (lv_at hl 1 rfl) ?_
  refine z_iald hx hb hK hP 1 rfl 0 rfl (by decide) (by decide) dX10_put_70 ?_
  refine z_bipush hx hb 8 dX10_put_71 rfl ?_
  refine z_icmp_ne (tgt := 80) hx hb (by omega) (by decide) dX10_put_73 (by decide) (fun cq14 => False.elim (by omega)) (fun cq14 => ?_)
  refine z_ldcw hx hb (-2000000014) hown (hts _ (List.mem_of_getElem? (i := 7) rfl)) rfl dX10_put_76 ?_
  exact z_reti () [0, 1] hx hb hr rfl hlocks hK hP hD hS (rfl) trivial rfl rfl (rfl) (Nat.le_of_ble_eq_true rfl) (Nat.le_of_ble_eq_true rfl) dX10_put_79

set_option maxHeartbeats 4000000 in
set_option maxRecDepth 100000 in
theorem c_X10_put0_ok (l : Launch) (g : zG) (q : Nat) (a : Nat → Nat) (x : Nat → Int) (z : Nat → Int) (kd : Nat → Int) (fa : Nat → Int) (fb : Nat → Int) (n : Nat) (w : Int) (b0 : Int) (b1 : Int) (hw : -2147483648 ≤ w ∧ w < 2147483648) (ha : -2147483648 ≤ b0 ∧ b0 < 2147483648) (hb_ : -2147483648 ≤ b1 ∧ b1 < 2147483648) (ho : (0 ≤ w ∧ w ≤ 1) ∧ (-9999 ≤ b0 ∧ b0 ≤ 9999) ∧ (-9999 ≤ b1 ∧ b1 ≤ 9999)) (hz0 : z 0 = (n : Int)) (hn : n < 8) : zMet l g yX10_put wsX10_put 2 0 0 [.ref q, vI 0, vI w, vI b0, vI b1] zX0 [[mdl q a x], [((a 7), .inl (g.2 0, 3, .inl (aI z)))], [((a 8), .inl (g.2 0, 24, .inl (aI kd)))], [((a 9), .inl (g.2 0, 24, .inl (aI fa)))], [((a 10), .inl (g.2 0, 24, .inl (aI fb)))]] (qi g (fun (_ : Unit) => (((n + 1) : Nat) : Int)) (fun (_ : Unit) => True) (fun (_ : Unit) => [[mdl q a x], [((a 7), .inl (g.2 0, 3, .inl (aI (uI z 0 (((n + 1) : Nat) : Int)))))], [((a 8), .inl (g.2 0, 24, .inl (aI (uI kd (0 + n) w))))], [((a 9), .inl (g.2 0, 24, .inl (aI (uI fa (0 + n) b0))))], [((a 10), .inl (g.2 0, 24, .inl (aI (uI fb (0 + n) (if w = 0 then 0 else b1)))))]])) := by
  refine z_ent (cc := cX10_put) (maxL := 6) (ret := (some .int)) (by decide) rfl (Nat.le_of_ble_eq_true rfl) ?_
  intro p e s m below meth c A ls hx hb hr hml hown hts hlocks hin0 hA hK hP hD hS hXX hl
  have hown : s.vm.findClass RX10 = some m.cls := hown
  have hin10_ : ∀ w ∈ wsX100, w ∈ wsX10_put := zw_in [19, 20, 21, 22, 23, 24, 25, 26, 27, 28, 29, 30, 31, 32, 33, 34, 35, 36, 37, 38, 39, 40, 41, 42, 43, 44] rfl
  have hl : lv_has ls 6 [(0, .ref q), (1, vI 0), (2, vI w), (3, vI b0), (4, vI b1)] := hl
  refine lv_iload_n hx hb dX10_put_0 rfl (lv_at hl 1 rfl) ?_
  refine z_cSi (As := [vI 0]) (rest := []) ⟨hx, hb, hml, hown, hts⟩ hK hP hD hS hA [] [0, 1, 2, 3, 4] rfl rfl rfl (c_X10_isStore l g 0 (by first | decide | omega)) (va_cwS 1 hts gX10_put_X10_isStore rfl rfl rfl (by decide +kernel) ⟨Nat.le_of_ble_eq_true rfl, Nat.le_of_ble_eq_true rfl⟩) (fun _ _ _ _ _ _ => trivial) (fun _ _ _ => trivial) rfl hl.1 (Nat.le_of_ble_eq_true rfl) rfl dX10_put_1 ⟨Nat.le_of_ble_eq_true rfl, Nat.le_of_ble_eq_true rfl⟩ (fun u_1 H locs hwu_1 hP hD hS => ?_)
  try dsimp only at hwu_1
  have hP : zP g [[mdl q a x], [((a 7), .inl (g.2 0, 3, .inl (aI z)))], [((a 8), .inl (g.2 0, 24, .inl (aI kd)))], [((a 9), .inl (g.2 0, 24, .inl (aI fa)))], [((a 10), .inl (g.2 0, 24, .inl (aI fb)))]] H := hP
  have hD : zD A [[mdl q a x], [((a 7), .inl (g.2 0, 3, .inl (aI z)))], [((a 8), .inl (g.2 0, 24, .inl (aI kd)))], [((a 9), .inl (g.2 0, 24, .inl (aI fa)))], [((a 10), .inl (g.2 0, 24, .inl (aI fb)))]] := hD
  refine z_toI (inI 0 0 2) rfl ?_
  have hf_2 := inI_s 0 0 2
  refine z_if_ne (tgt := 10) hx hb (by omega) dX10_put_4 (by decide) (fun cq3 => ?_) (fun cq3 => False.elim (by omega))
  refine lv_iload_n hx hb dX10_put_10 rfl (lv_at hl 2 rfl) ?_
  refine z_i2l hx hb (by omega) dX10_put_11 ?_
  refine z_lconst hx hb 0 dX10_put_12 rfl ?_
  refine z_lconst hx hb 1 dX10_put_13 rfl ?_
  refine z_cSi (As := [vL w, vL 0, vL 1]) (rest := []) ⟨hx, hb, hml, hown, hts⟩ hK hP hD hS hA [] [0, 1, 2, 3, 4] rfl rfl rfl (c_X10_in l g w 0 1 (by first | decide | omega) (by first | decide | omega) (by first | decide | omega)) (va_cwS 3 hts gX10_put_X10_in rfl rfl rfl (by decide +kernel) ⟨Nat.le_of_ble_eq_true rfl, Nat.le_of_ble_eq_true rfl⟩) (fun _ _ _ _ _ _ => trivial) (fun _ _ _ => trivial) rfl hl.1 (Nat.le_of_ble_eq_true rfl) rfl dX10_put_14 ⟨Nat.le_of_ble_eq_true rfl, Nat.le_of_ble_eq_true rfl⟩ (fun u_4 H locs hwu_4 hP hD hS => ?_)
  try dsimp only at hwu_4
  have hP : zP g [[mdl q a x], [((a 7), .inl (g.2 0, 3, .inl (aI z)))], [((a 8), .inl (g.2 0, 24, .inl (aI kd)))], [((a 9), .inl (g.2 0, 24, .inl (aI fa)))], [((a 10), .inl (g.2 0, 24, .inl (aI fb)))]] H := hP
  have hD : zD A [[mdl q a x], [((a 7), .inl (g.2 0, 3, .inl (aI z)))], [((a 8), .inl (g.2 0, 24, .inl (aI kd)))], [((a 9), .inl (g.2 0, 24, .inl (aI fa)))], [((a 10), .inl (g.2 0, 24, .inl (aI fb)))]] := hD
  refine z_toI (inI w 0 1) rfl ?_
  have hf_5 := inI_s w 0 1
  refine z_if_eq (tgt := 49) hx hb (by omega) dX10_put_17 (by decide) (fun cq6 => False.elim (by omega)) (fun cq6 => ?_)
  refine lv_iload_n hx hb dX10_put_20 rfl (lv_at hl 3 rfl) ?_
  refine z_i2l hx hb (by omega) dX10_put_21 ?_
  refine z_ldc2 hx hb (-9999) hown (hts _ (List.mem_of_getElem? (i := 2) rfl)) rfl dX10_put_22 ?_
  refine z_ldc2 hx hb 9999 hown (hts _ (List.mem_of_getElem? (i := 3) rfl)) rfl dX10_put_25 ?_
  refine z_cSi (As := [vL b0, vL (-9999), vL 9999]) (rest := []) ⟨hx, hb, hml, hown, hts⟩ hK hP hD hS hA [] [0, 1, 2, 3, 4] rfl rfl rfl (c_X10_in l g b0 (-9999) 9999 (by first | decide | omega) (by first | decide | omega) (by first | decide | omega)) (va_cwS 3 hts gX10_put_X10_in rfl rfl rfl (by decide +kernel) ⟨Nat.le_of_ble_eq_true rfl, Nat.le_of_ble_eq_true rfl⟩) (fun _ _ _ _ _ _ => trivial) (fun _ _ _ => trivial) rfl hl.1 (Nat.le_of_ble_eq_true rfl) rfl dX10_put_28 ⟨Nat.le_of_ble_eq_true rfl, Nat.le_of_ble_eq_true rfl⟩ (fun u_7 H locs hwu_7 hP hD hS => ?_)
  try dsimp only at hwu_7
  have hP : zP g [[mdl q a x], [((a 7), .inl (g.2 0, 3, .inl (aI z)))], [((a 8), .inl (g.2 0, 24, .inl (aI kd)))], [((a 9), .inl (g.2 0, 24, .inl (aI fa)))], [((a 10), .inl (g.2 0, 24, .inl (aI fb)))]] H := hP
  have hD : zD A [[mdl q a x], [((a 7), .inl (g.2 0, 3, .inl (aI z)))], [((a 8), .inl (g.2 0, 24, .inl (aI kd)))], [((a 9), .inl (g.2 0, 24, .inl (aI fa)))], [((a 10), .inl (g.2 0, 24, .inl (aI fb)))]] := hD
  refine z_toI (inI b0 (-9999) 9999) rfl ?_
  have hf_8 := inI_s b0 (-9999) 9999
  refine z_if_eq (tgt := 49) hx hb (by omega) dX10_put_31 (by decide) (fun cq9 => False.elim (by omega)) (fun cq9 => ?_)
  refine lv_iload hx hb dX10_put_34 (lv_at hl 4 rfl) ?_
  refine z_i2l hx hb (by omega) dX10_put_36 ?_
  refine z_ldc2 hx hb (-9999) hown (hts _ (List.mem_of_getElem? (i := 2) rfl)) rfl dX10_put_37 ?_
  refine z_ldc2 hx hb 9999 hown (hts _ (List.mem_of_getElem? (i := 3) rfl)) rfl dX10_put_40 ?_
  refine z_cSi (As := [vL b1, vL (-9999), vL 9999]) (rest := []) ⟨hx, hb, hml, hown, hts⟩ hK hP hD hS hA [] [0, 1, 2, 3, 4] rfl rfl rfl (c_X10_in l g b1 (-9999) 9999 (by first | decide | omega) (by first | decide | omega) (by first | decide | omega)) (va_cwS 3 hts gX10_put_X10_in rfl rfl rfl (by decide +kernel) ⟨Nat.le_of_ble_eq_true rfl, Nat.le_of_ble_eq_true rfl⟩) (fun _ _ _ _ _ _ => trivial) (fun _ _ _ => trivial) rfl hl.1 (Nat.le_of_ble_eq_true rfl) rfl dX10_put_43 ⟨Nat.le_of_ble_eq_true rfl, Nat.le_of_ble_eq_true rfl⟩ (fun u_10 H locs hwu_10 hP hD hS => ?_)
  try dsimp only at hwu_10
  have hP : zP g [[mdl q a x], [((a 7), .inl (g.2 0, 3, .inl (aI z)))], [((a 8), .inl (g.2 0, 24, .inl (aI kd)))], [((a 9), .inl (g.2 0, 24, .inl (aI fa)))], [((a 10), .inl (g.2 0, 24, .inl (aI fb)))]] H := hP
  have hD : zD A [[mdl q a x], [((a 7), .inl (g.2 0, 3, .inl (aI z)))], [((a 8), .inl (g.2 0, 24, .inl (aI kd)))], [((a 9), .inl (g.2 0, 24, .inl (aI fa)))], [((a 10), .inl (g.2 0, 24, .inl (aI fb)))]] := hD
  refine z_toI (inI b1 (-9999) 9999) rfl ?_
  have hf_11 := inI_s b1 (-9999) 9999
  refine z_if_ne (tgt := 52) hx hb (by omega) dX10_put_46 (by decide) (fun cq12 => ?_) (fun cq12 => False.elim (by omega))
  refine lv_aload_n hx hb dX10_put_52 rfl (lv_at hl 0 rfl) ?_
  refine z_get hx hb hts hin10_ hown hK hP 0 rfl rfl 11 (by decide) (hts _ (List.mem_of_getElem? (i := 5) rfl)) rfl dX10_put_53 ?_
  refine lv_iload_n hx hb dX10_put_56 rfl (lv_at hl 1 rfl) ?_
  refine z_iald hx hb hK hP 1 rfl 0 rfl (by decide) (by decide) dX10_put_57 ?_
  refine z_if_ge (tgt := 65) hx hb (by omega) dX10_put_58 (by decide) (fun cq13 => ?_) (fun cq13 => False.elim (by omega))
  refine lv_aload_n hx hb dX10_put_65 rfl (lv_at hl 0 rfl) ?_
  refine z_get hx hb hts hin10_ hown hK hP 0 rfl rfl 11 (by decide) (hts _ (List.mem_of_getElem? (i := 5) rfl)) rfl dX10_put_66 ?_
  refine lv_iload_n hx hb dX10_put_69 rfl (lv_at hl 1 rfl) ?_
  refine z_iald hx hb hK hP 1 rfl 0 rfl (by decide) (by decide) dX10_put_70 ?_
  refine z_bipush hx hb 8 dX10_put_71 rfl ?_
  refine z_icmp_ne (tgt := 80) hx hb (by omega) (by decide) dX10_put_73 (by decide) (fun cq14 => ?_) (fun cq14 => False.elim (by omega))
  refine z_bipush hx hb 8 dX10_put_80 rfl ?_
  refine lv_iload_n hx hb dX10_put_82 rfl (lv_at hl 1 rfl) ?_
  refine z_imul hx hb 0 rfl dX10_put_83 ?_
  refine lv_aload_n hx hb dX10_put_84 rfl (lv_at hl 0 rfl) ?_
  refine z_get hx hb hts hin10_ hown hK hP 0 rfl rfl 11 (by decide) (hts _ (List.mem_of_getElem? (i := 5) rfl)) rfl dX10_put_85 ?_
  refine lv_iload_n hx hb dX10_put_88 rfl (lv_at hl 1 rfl) ?_
  refine z_iald hx hb hK hP 1 rfl 0 rfl (by decide) (by decide) dX10_put_89 ?_
  refine z_iadd hx hb (0 + (z 0)) rfl dX10_put_90 ?_
  refine z_toI (((0 + n) : Nat) : Int) (by omega) ?_
  refine lv_istore (lv' := [(5, vI (((0 + n) : Nat) : Int)), (0, .ref q), (1, vI 0), (2, vI w), (3, vI b0), (4, vI b1)]) hx hb dX10_put_91 hl (by decide) rfl (fun ls hl => ?_)
  refine lv_aload_n hx hb dX10_put_93 rfl (lv_at hl 1 rfl) ?_
  refine z_get hx hb hts hin10_ hown hK hP 0 rfl rfl 12 (by decide) (hts _ (List.mem_of_getElem? (i := 8) rfl)) rfl dX10_put_94 ?_
  refine lv_iload hx hb dX10_put_97 (lv_at hl 0 rfl) ?_
  refine lv_iload_n hx hb dX10_put_99 rfl (lv_at hl 3 rfl) ?_
  refine z_iast hx hb hK hP 2 hD hS rfl (0 + n) (by omega) (by omega) (by decide) dX10_put_100 [[mdl q a x], [((a 7), .inl (g.2 0, 3, .inl (aI z)))], [((a 8), .inl (g.2 0, 24, .inl (aI (uI kd (0 + n) w))))], [((a 9), .inl (g.2 0, 24, .inl (aI fa)))], [((a 10), .inl (g.2 0, 24, .inl (aI fb)))]] rfl (fun H locs hP hD hS => ?_)
  refine lv_aload_n hx hb dX10_put_101 rfl (lv_at hl 1 rfl) ?_
  refine z_get hx hb hts hin10_ hown hK hP 0 rfl rfl 13 (by decide) (hts _ (List.mem_of_getElem? (i := 9) rfl)) rfl dX10_put_102 ?_
  refine lv_iload hx hb dX10_put_105 (lv_at hl 0 rfl) ?_
  refine lv_iload_n hx hb dX10_put_107 rfl (lv_at hl 4 rfl) ?_
  refine z_iast hx hb hK hP 3 hD hS rfl (0 + n) (by omega) (by omega) (by decide) dX10_put_108 [[mdl q a x], [((a 7), .inl (g.2 0, 3, .inl (aI z)))], [((a 8), .inl (g.2 0, 24, .inl (aI (uI kd (0 + n) w))))], [((a 9), .inl (g.2 0, 24, .inl (aI (uI fa (0 + n) b0))))], [((a 10), .inl (g.2 0, 24, .inl (aI fb)))]] rfl (fun H locs hP hD hS => ?_)
  refine lv_aload_n hx hb dX10_put_109 rfl (lv_at hl 1 rfl) ?_
  refine z_get hx hb hts hin10_ hown hK hP 0 rfl rfl 14 (by decide) (hts _ (List.mem_of_getElem? (i := 10) rfl)) rfl dX10_put_110 ?_
  refine lv_iload hx hb dX10_put_113 (lv_at hl 0 rfl) ?_
  have j126 : W p l e (zRm 2 0 0) s m ([.ref q, vI 0, vI w, vI b0, vI b1] : List Value).toArray below meth c H locs (0) (0) (MQ below ((qi g (fun (_ : Unit) => (((n + 1) : Nat) : Int)) (fun (_ : Unit) => True) (fun (_ : Unit) => [[mdl q a x], [((a 7), .inl (g.2 0, 3, .inl (aI (uI z 0 (((n + 1) : Nat) : Int)))))], [((a 8), .inl (g.2 0, 24, .inl (aI (uI kd (0 + n) w))))], [((a 9), .inl (g.2 0, 24, .inl (aI (uI fa (0 + n) b0))))], [((a 10), .inl (g.2 0, 24, .inl (aI (uI fb (0 + n) (if w = 0 then 0 else b1)))))]])) A) ([.ref q, vI 0, vI w, vI b0, vI b1] : List Value).toArray s 0 0 A) (F0 m 126 ls [vI (if w = 0 then 0 else b1), vI (((0 + n) : Nat) : Int), .ref (a 10)]) := by
    refine z_iast hx hb hK hP 4 hD hS rfl (0 + n) (by omega) (by omega) (by decide) dX10_put_126 [[mdl q a x], [((a 7), .inl (g.2 0, 3, .inl (aI z)))], [((a 8), .inl (g.2 0, 24, .inl (aI (uI kd (0 + n) w))))], [((a 9), .inl (g.2 0, 24, .inl (aI (uI fa (0 + n) b0))))], [((a 10), .inl (g.2 0, 24, .inl (aI (uI fb (0 + n) (if w = 0 then 0 else b1)))))]] rfl (fun H locs hP hD hS => ?_)
    refine lv_aload_n hx hb dX10_put_127 rfl (lv_at hl 1 rfl) ?_
    refine z_get hx hb hts hin10_ hown hK hP 0 rfl rfl 11 (by decide) (hts _ (List.mem_of_getElem? (i := 5) rfl)) rfl dX10_put_128 ?_
    refine lv_iload_n hx hb dX10_put_131 rfl (lv_at hl 2 rfl) ?_
    refine lv_dup2_11 hx hb dX10_put_132 rfl rfl ?_
    refine z_iald hx hb hK hP 1 rfl 0 rfl (by decide) (by decide) dX10_put_133 ?_
    refine z_iconst hx hb dX10_put_134 rfl ?_
    refine z_iadd hx hb ((z 0) + 1) rfl dX10_put_135 ?_
    refine z_toI (((n + 1) : Nat) : Int) (by omega) ?_
    refine z_iast hx hb hK hP 1 hD hS rfl 0 rfl (by decide) (by decide) dX10_put_136 [[mdl q a x], [((a 7), .inl (g.2 0, 3, .inl (aI (uI z 0 (((n + 1) : Nat) : Int)))))], [((a 8), .inl (g.2 0, 24, .inl (aI (uI kd (0 + n) w))))], [((a 9), .inl (g.2 0, 24, .inl (aI (uI fa (0 + n) b0))))], [((a 10), .inl (g.2 0, 24, .inl (aI (uI fb (0 + n) (if w = 0 then 0 else b1)))))]] rfl (fun H locs hP hD hS => ?_)
    refine lv_aload_n hx hb dX10_put_137 rfl (lv_at hl 1 rfl) ?_
    refine z_get hx hb hts hin10_ hown hK hP 0 rfl rfl 11 (by decide) (hts _ (List.mem_of_getElem? (i := 5) rfl)) rfl dX10_put_138 ?_
    refine lv_iload_n hx hb dX10_put_141 rfl (lv_at hl 2 rfl) ?_
    refine z_iald hx hb hK hP 1 rfl 0 rfl (by decide) (by decide) dX10_put_142 ?_
    exact z_reti () [0, 1, 2, 3, 4] hx hb hr rfl hlocks hK hP hD hS (rfl) trivial rfl rfl (rfl) (Nat.le_of_ble_eq_true rfl) (Nat.le_of_ble_eq_true rfl) dX10_put_143
  refine lv_iload_n hx hb dX10_put_115 rfl (lv_at hl 3 rfl) ?_
  refine z_iconst hx hb dX10_put_116 rfl ?_
  refine z_icmp_ne (tgt := 125) hx hb (by omega) (by decide) dX10_put_117 (by decide) (fun cq15 => ?_) (fun cq15 => ?_)
  · refine z_iconst hx hb dX10_put_125 rfl ?_
    refine z_toI (if w = 0 then 0 else b1) (by first | rw [if_pos (by omega)] | rw [if_neg (by omega)]) ?_
    exact j126
  · refine lv_iload hx hb dX10_put_120 (lv_at hl 5 rfl) ?_
    refine lv_goto (tgt := 126) hx hb dX10_put_122 (by decide) ?_
    refine z_toI (if w = 0 then 0 else b1) (by first | rw [if_pos (by omega)] | rw [if_neg (by omega)]) ?_
    exact j126

set_option maxHeartbeats 4000000 in
set_option maxRecDepth 100000 in
theorem c_X10_take0_null (l : Launch) (g : zG) (q : Nat) (a : Nat → Nat) (x : Nat → Int) (z : Nat → Int) (w : Int) (hw : -2147483648 ≤ w ∧ w < 2147483648) (ho : 0 ≤ w ∧ w ≤ 1) (hz0 : z 0 = -1) : zMet l g yX10_take wsX10_take 2 0 0 [.ref q, vI 0, vI w] zX0 [[mdl q a x], [((a 7), .inl (g.2 0, 3, .inl (aI z)))]] (qi g (fun (_ : Unit) => (-2000000011)) (fun (_ : Unit) => True) (fun (_ : Unit) => [[mdl q a x], [((a 7), .inl (g.2 0, 3, .inl (aI z)))]])) := by
  refine z_ent (cc := cX10_take) (maxL := 6) (ret := (some .int)) (by decide) rfl (Nat.le_of_ble_eq_true rfl) ?_
  intro p e s m below meth c A ls hx hb hr hml hown hts hlocks hin0 hA hK hP hD hS hXX hl
  have hown : s.vm.findClass RX10 = some m.cls := hown
  have hin10_ : ∀ w ∈ wsX100, w ∈ wsX10_take := zw_in [18, 19, 20, 21, 22, 23, 24, 25, 26, 27, 28, 29, 30, 31, 32, 33, 34, 35, 36, 37, 38, 39, 40, 41, 42, 43] rfl
  have hl : lv_has ls 6 [(0, .ref q), (1, vI 0), (2, vI w)] := hl
  refine lv_iload_n hx hb dX10_take_0 rfl (lv_at hl 1 rfl) ?_
  refine z_cSi (As := [vI 0]) (rest := []) ⟨hx, hb, hml, hown, hts⟩ hK hP hD hS hA [] [0, 1] rfl rfl rfl (c_X10_isStore l g 0 (by first | decide | omega)) (va_cwS 1 hts gX10_take_X10_isStore rfl rfl rfl (by decide +kernel) ⟨Nat.le_of_ble_eq_true rfl, Nat.le_of_ble_eq_true rfl⟩) (fun _ _ _ _ _ _ => trivial) (fun _ _ _ => trivial) rfl hl.1 (Nat.le_of_ble_eq_true rfl) rfl dX10_take_1 ⟨Nat.le_of_ble_eq_true rfl, Nat.le_of_ble_eq_true rfl⟩ (fun u_1 H locs hwu_1 hP hD hS => ?_)
  try dsimp only at hwu_1
  have hP : zP g [[mdl q a x], [((a 7), .inl (g.2 0, 3, .inl (aI z)))]] H := hP
  have hD : zD A [[mdl q a x], [((a 7), .inl (g.2 0, 3, .inl (aI z)))]] := hD
  refine z_toI (inI 0 0 2) rfl ?_
  have hf_2 := inI_s 0 0 2
  refine z_if_ne (tgt := 10) hx hb (by omega) dX10_take_4 (by decide) (fun cq3 => ?_) (fun cq3 => False.elim (by omega))
  refine lv_iload_n hx hb dX10_take_10 rfl (lv_at hl 2 rfl) ?_
  refine z_i2l hx hb (by omega) dX10_take_11 ?_
  refine z_lconst hx hb 0 dX10_take_12 rfl ?_
  refine z_lconst hx hb 1 dX10_take_13 rfl ?_
  refine z_cSi (As := [vL w, vL 0, vL 1]) (rest := []) ⟨hx, hb, hml, hown, hts⟩ hK hP hD hS hA [] [0, 1] rfl rfl rfl (c_X10_in l g w 0 1 (by first | decide | omega) (by first | decide | omega) (by first | decide | omega)) (va_cwS 3 hts gX10_take_X10_in rfl rfl rfl (by decide +kernel) ⟨Nat.le_of_ble_eq_true rfl, Nat.le_of_ble_eq_true rfl⟩) (fun _ _ _ _ _ _ => trivial) (fun _ _ _ => trivial) rfl hl.1 (Nat.le_of_ble_eq_true rfl) rfl dX10_take_14 ⟨Nat.le_of_ble_eq_true rfl, Nat.le_of_ble_eq_true rfl⟩ (fun u_4 H locs hwu_4 hP hD hS => ?_)
  try dsimp only at hwu_4
  have hP : zP g [[mdl q a x], [((a 7), .inl (g.2 0, 3, .inl (aI z)))]] H := hP
  have hD : zD A [[mdl q a x], [((a 7), .inl (g.2 0, 3, .inl (aI z)))]] := hD
  refine z_toI (inI w 0 1) rfl ?_
  have hf_5 := inI_s w 0 1
  refine z_if_ne (tgt := 23) hx hb (by omega) dX10_take_17 (by decide) (fun cq6 => ?_) (fun cq6 => False.elim (by omega))
  refine lv_aload_n hx hb dX10_take_23 rfl (lv_at hl 0 rfl) ?_
  refine z_get hx hb hts hin10_ hown hK hP 0 rfl rfl 11 (by decide) (hts _ (List.mem_of_getElem? (i := 3) rfl)) rfl dX10_take_24 ?_
  refine lv_iload_n hx hb dX10_take_27 rfl (lv_at hl 1 rfl) ?_
  refine z_iald hx hb hK hP 1 rfl 0 rfl (by decide) (by decide) dX10_take_28 ?_
  refine z_iconst hx hb dX10_take_29 rfl ?_
  refine z_icmp_ge (tgt := 52) hx hb (by omega) (by decide) dX10_take_30 (by decide) (fun cq7 => False.elim (by omega)) (fun cq7 => ?_)
  refine lv_aload_n hx hb dX10_take_33 rfl (lv_at hl 0 rfl) ?_
  refine z_get hx hb hts hin10_ hown hK hP 0 rfl rfl 11 (by decide) (hts _ (List.mem_of_getElem? (i := 3) rfl)) rfl dX10_take_34 ?_
  refine lv_iload_n hx hb dX10_take_37 rfl (lv_at hl 1 rfl) ?_
  refine z_iald hx hb hK hP 1 rfl 0 rfl (by decide) (by decide) dX10_take_38 ?_
  refine z_if_ge (tgt := 48) hx hb (by omega) dX10_take_39 (by decide) (fun cq8 => False.elim (by omega)) (fun cq8 => ?_)
  refine z_ldcw hx hb (-2000000011) hown (hts _ (List.mem_of_getElem? (i := 4) rfl)) rfl dX10_take_42 ?_
  refine lv_goto (tgt := 51) hx hb dX10_take_45 (by decide) ?_
  exact z_reti () [0, 1] hx hb hr rfl hlocks hK hP hD hS (rfl) trivial rfl rfl (rfl) (Nat.le_of_ble_eq_true rfl) (Nat.le_of_ble_eq_true rfl) dX10_take_51

set_option maxHeartbeats 4000000 in
set_option maxRecDepth 100000 in
theorem c_X10_take0_empty (l : Launch) (g : zG) (q : Nat) (a : Nat → Nat) (x : Nat → Int) (z : Nat → Int) (w : Int) (hw : -2147483648 ≤ w ∧ w < 2147483648) (ho : 0 ≤ w ∧ w ≤ 1) (hz0 : z 0 = 0) : zMet l g yX10_take wsX10_take 2 0 0 [.ref q, vI 0, vI w] zX0 [[mdl q a x], [((a 7), .inl (g.2 0, 3, .inl (aI z)))]] (qi g (fun (_ : Unit) => (-2000000012)) (fun (_ : Unit) => True) (fun (_ : Unit) => [[mdl q a x], [((a 7), .inl (g.2 0, 3, .inl (aI z)))]])) := by
  refine z_ent (cc := cX10_take) (maxL := 6) (ret := (some .int)) (by decide) rfl (Nat.le_of_ble_eq_true rfl) ?_
  intro p e s m below meth c A ls hx hb hr hml hown hts hlocks hin0 hA hK hP hD hS hXX hl
  have hown : s.vm.findClass RX10 = some m.cls := hown
  have hin10_ : ∀ w ∈ wsX100, w ∈ wsX10_take := zw_in [18, 19, 20, 21, 22, 23, 24, 25, 26, 27, 28, 29, 30, 31, 32, 33, 34, 35, 36, 37, 38, 39, 40, 41, 42, 43] rfl
  have hl : lv_has ls 6 [(0, .ref q), (1, vI 0), (2, vI w)] := hl
  refine lv_iload_n hx hb dX10_take_0 rfl (lv_at hl 1 rfl) ?_
  refine z_cSi (As := [vI 0]) (rest := []) ⟨hx, hb, hml, hown, hts⟩ hK hP hD hS hA [] [0, 1] rfl rfl rfl (c_X10_isStore l g 0 (by first | decide | omega)) (va_cwS 1 hts gX10_take_X10_isStore rfl rfl rfl (by decide +kernel) ⟨Nat.le_of_ble_eq_true rfl, Nat.le_of_ble_eq_true rfl⟩) (fun _ _ _ _ _ _ => trivial) (fun _ _ _ => trivial) rfl hl.1 (Nat.le_of_ble_eq_true rfl) rfl dX10_take_1 ⟨Nat.le_of_ble_eq_true rfl, Nat.le_of_ble_eq_true rfl⟩ (fun u_1 H locs hwu_1 hP hD hS => ?_)
  try dsimp only at hwu_1
  have hP : zP g [[mdl q a x], [((a 7), .inl (g.2 0, 3, .inl (aI z)))]] H := hP
  have hD : zD A [[mdl q a x], [((a 7), .inl (g.2 0, 3, .inl (aI z)))]] := hD
  refine z_toI (inI 0 0 2) rfl ?_
  have hf_2 := inI_s 0 0 2
  refine z_if_ne (tgt := 10) hx hb (by omega) dX10_take_4 (by decide) (fun cq3 => ?_) (fun cq3 => False.elim (by omega))
  refine lv_iload_n hx hb dX10_take_10 rfl (lv_at hl 2 rfl) ?_
  refine z_i2l hx hb (by omega) dX10_take_11 ?_
  refine z_lconst hx hb 0 dX10_take_12 rfl ?_
  refine z_lconst hx hb 1 dX10_take_13 rfl ?_
  refine z_cSi (As := [vL w, vL 0, vL 1]) (rest := []) ⟨hx, hb, hml, hown, hts⟩ hK hP hD hS hA [] [0, 1] rfl rfl rfl (c_X10_in l g w 0 1 (by first | decide | omega) (by first | decide | omega) (by first | decide | omega)) (va_cwS 3 hts gX10_take_X10_in rfl rfl rfl (by decide +kernel) ⟨Nat.le_of_ble_eq_true rfl, Nat.le_of_ble_eq_true rfl⟩) (fun _ _ _ _ _ _ => trivial) (fun _ _ _ => trivial) rfl hl.1 (Nat.le_of_ble_eq_true rfl) rfl dX10_take_14 ⟨Nat.le_of_ble_eq_true rfl, Nat.le_of_ble_eq_true rfl⟩ (fun u_4 H locs hwu_4 hP hD hS => ?_)
  try dsimp only at hwu_4
  have hP : zP g [[mdl q a x], [((a 7), .inl (g.2 0, 3, .inl (aI z)))]] H := hP
  have hD : zD A [[mdl q a x], [((a 7), .inl (g.2 0, 3, .inl (aI z)))]] := hD
  refine z_toI (inI w 0 1) rfl ?_
  have hf_5 := inI_s w 0 1
  refine z_if_ne (tgt := 23) hx hb (by omega) dX10_take_17 (by decide) (fun cq6 => ?_) (fun cq6 => False.elim (by omega))
  refine lv_aload_n hx hb dX10_take_23 rfl (lv_at hl 0 rfl) ?_
  refine z_get hx hb hts hin10_ hown hK hP 0 rfl rfl 11 (by decide) (hts _ (List.mem_of_getElem? (i := 3) rfl)) rfl dX10_take_24 ?_
  refine lv_iload_n hx hb dX10_take_27 rfl (lv_at hl 1 rfl) ?_
  refine z_iald hx hb hK hP 1 rfl 0 rfl (by decide) (by decide) dX10_take_28 ?_
  refine z_iconst hx hb dX10_take_29 rfl ?_
  refine z_icmp_ge (tgt := 52) hx hb (by omega) (by decide) dX10_take_30 (by decide) (fun cq7 => False.elim (by omega)) (fun cq7 => ?_)
  refine lv_aload_n hx hb dX10_take_33 rfl (lv_at hl 0 rfl) ?_
  refine z_get hx hb hts hin10_ hown hK hP 0 rfl rfl 11 (by decide) (hts _ (List.mem_of_getElem? (i := 3) rfl)) rfl dX10_take_34 ?_
  refine lv_iload_n hx hb dX10_take_37 rfl (lv_at hl 1 rfl) ?_
  refine z_iald hx hb hK hP 1 rfl 0 rfl (by decide) (by decide) dX10_take_38 ?_
  refine z_if_ge (tgt := 48) hx hb (by omega) dX10_take_39 (by decide) (fun cq8 => ?_) (fun cq8 => False.elim (by omega))
  refine z_ldcw hx hb (-2000000012) hown (hts _ (List.mem_of_getElem? (i := 5) rfl)) rfl dX10_take_48 ?_
  exact z_reti () [0, 1] hx hb hr rfl hlocks hK hP hD hS (rfl) trivial rfl rfl (rfl) (Nat.le_of_ble_eq_true rfl) (Nat.le_of_ble_eq_true rfl) dX10_take_51

set_option maxHeartbeats 4000000 in
set_option maxRecDepth 100000 in
theorem c_X10_take0_cast (l : Launch) (g : zG) (q : Nat) (a : Nat → Nat) (x : Nat → Int) (z : Nat → Int) (kd : Nat → Int) (fa : Nat → Int) (fb : Nat → Int) (n : Nat) (w : Int) (hw : -2147483648 ≤ w ∧ w < 2147483648) (ho : 0 ≤ w ∧ w ≤ 1) (hkb : ∀ i, 0 ≤ kd i ∧ kd i ≤ 1) (hz0 : z 0 = (n : Int)) (hn : 1 ≤ n ∧ n ≤ 8) (hc : kd (0 + (n - 1)) ≠ w) : zMet l g yX10_take wsX10_take 2 0 0 [.ref q, vI 0, vI w] zX0 [[mdl q a x], [((a 7), .inl (g.2 0, 3, .inl (aI z)))], [((a 8), .inl (g.2 0, 24, .inl (aI kd)))], [((a 9), .inl (g.2 0, 24, .inl (aI fa)))], [((a 10), .inl (g.2 0, 24, .inl (aI fb)))]] (qi g (fun (_ : Unit) => (-2000000013)) (fun (_ : Unit) => True) (fun (_ : Unit) => [[mdl q a x], [((a 7), .inl (g.2 0, 3, .inl (aI z)))], [((a 8), .inl (g.2 0, 24, .inl (aI kd)))], [((a 9), .inl (g.2 0, 24, .inl (aI fa)))], [((a 10), .inl (g.2 0, 24, .inl (aI fb)))]])) := by
  have hk9 := hkb (0 + (n - 1))
  refine z_ent (cc := cX10_take) (maxL := 6) (ret := (some .int)) (by decide) rfl (Nat.le_of_ble_eq_true rfl) ?_
  intro p e s m below meth c A ls hx hb hr hml hown hts hlocks hin0 hA hK hP hD hS hXX hl
  have hown : s.vm.findClass RX10 = some m.cls := hown
  have hin10_ : ∀ w ∈ wsX100, w ∈ wsX10_take := zw_in [18, 19, 20, 21, 22, 23, 24, 25, 26, 27, 28, 29, 30, 31, 32, 33, 34, 35, 36, 37, 38, 39, 40, 41, 42, 43] rfl
  have hl : lv_has ls 6 [(0, .ref q), (1, vI 0), (2, vI w)] := hl
  refine lv_iload_n hx hb dX10_take_0 rfl (lv_at hl 1 rfl) ?_
  refine z_cSi (As := [vI 0]) (rest := []) ⟨hx, hb, hml, hown, hts⟩ hK hP hD hS hA [] [0, 1, 2, 3, 4] rfl rfl rfl (c_X10_isStore l g 0 (by first | decide | omega)) (va_cwS 1 hts gX10_take_X10_isStore rfl rfl rfl (by decide +kernel) ⟨Nat.le_of_ble_eq_true rfl, Nat.le_of_ble_eq_true rfl⟩) (fun _ _ _ _ _ _ => trivial) (fun _ _ _ => trivial) rfl hl.1 (Nat.le_of_ble_eq_true rfl) rfl dX10_take_1 ⟨Nat.le_of_ble_eq_true rfl, Nat.le_of_ble_eq_true rfl⟩ (fun u_1 H locs hwu_1 hP hD hS => ?_)
  try dsimp only at hwu_1
  have hP : zP g [[mdl q a x], [((a 7), .inl (g.2 0, 3, .inl (aI z)))], [((a 8), .inl (g.2 0, 24, .inl (aI kd)))], [((a 9), .inl (g.2 0, 24, .inl (aI fa)))], [((a 10), .inl (g.2 0, 24, .inl (aI fb)))]] H := hP
  have hD : zD A [[mdl q a x], [((a 7), .inl (g.2 0, 3, .inl (aI z)))], [((a 8), .inl (g.2 0, 24, .inl (aI kd)))], [((a 9), .inl (g.2 0, 24, .inl (aI fa)))], [((a 10), .inl (g.2 0, 24, .inl (aI fb)))]] := hD
  refine z_toI (inI 0 0 2) rfl ?_
  have hf_2 := inI_s 0 0 2
  refine z_if_ne (tgt := 10) hx hb (by omega) dX10_take_4 (by decide) (fun cq3 => ?_) (fun cq3 => False.elim (by omega))
  refine lv_iload_n hx hb dX10_take_10 rfl (lv_at hl 2 rfl) ?_
  refine z_i2l hx hb (by omega) dX10_take_11 ?_
  refine z_lconst hx hb 0 dX10_take_12 rfl ?_
  refine z_lconst hx hb 1 dX10_take_13 rfl ?_
  refine z_cSi (As := [vL w, vL 0, vL 1]) (rest := []) ⟨hx, hb, hml, hown, hts⟩ hK hP hD hS hA [] [0, 1, 2, 3, 4] rfl rfl rfl (c_X10_in l g w 0 1 (by first | decide | omega) (by first | decide | omega) (by first | decide | omega)) (va_cwS 3 hts gX10_take_X10_in rfl rfl rfl (by decide +kernel) ⟨Nat.le_of_ble_eq_true rfl, Nat.le_of_ble_eq_true rfl⟩) (fun _ _ _ _ _ _ => trivial) (fun _ _ _ => trivial) rfl hl.1 (Nat.le_of_ble_eq_true rfl) rfl dX10_take_14 ⟨Nat.le_of_ble_eq_true rfl, Nat.le_of_ble_eq_true rfl⟩ (fun u_4 H locs hwu_4 hP hD hS => ?_)
  try dsimp only at hwu_4
  have hP : zP g [[mdl q a x], [((a 7), .inl (g.2 0, 3, .inl (aI z)))], [((a 8), .inl (g.2 0, 24, .inl (aI kd)))], [((a 9), .inl (g.2 0, 24, .inl (aI fa)))], [((a 10), .inl (g.2 0, 24, .inl (aI fb)))]] H := hP
  have hD : zD A [[mdl q a x], [((a 7), .inl (g.2 0, 3, .inl (aI z)))], [((a 8), .inl (g.2 0, 24, .inl (aI kd)))], [((a 9), .inl (g.2 0, 24, .inl (aI fa)))], [((a 10), .inl (g.2 0, 24, .inl (aI fb)))]] := hD
  refine z_toI (inI w 0 1) rfl ?_
  have hf_5 := inI_s w 0 1
  refine z_if_ne (tgt := 23) hx hb (by omega) dX10_take_17 (by decide) (fun cq6 => ?_) (fun cq6 => False.elim (by omega))
  refine lv_aload_n hx hb dX10_take_23 rfl (lv_at hl 0 rfl) ?_
  refine z_get hx hb hts hin10_ hown hK hP 0 rfl rfl 11 (by decide) (hts _ (List.mem_of_getElem? (i := 3) rfl)) rfl dX10_take_24 ?_
  refine lv_iload_n hx hb dX10_take_27 rfl (lv_at hl 1 rfl) ?_
  refine z_iald hx hb hK hP 1 rfl 0 rfl (by decide) (by decide) dX10_take_28 ?_
  refine z_iconst hx hb dX10_take_29 rfl ?_
  refine z_icmp_ge (tgt := 52) hx hb (by omega) (by decide) dX10_take_30 (by decide) (fun cq7 => ?_) (fun cq7 => False.elim (by omega))
  refine z_bipush hx hb 8 dX10_take_52 rfl ?_
  refine lv_iload_n hx hb dX10_take_54 rfl (lv_at hl 1 rfl) ?_
  refine z_imul hx hb 0 rfl dX10_take_55 ?_
  refine lv_aload_n hx hb dX10_take_56 rfl (lv_at hl 0 rfl) ?_
  refine z_get hx hb hts hin10_ hown hK hP 0 rfl rfl 11 (by decide) (hts _ (List.mem_of_getElem? (i := 3) rfl)) rfl dX10_take_57 ?_
  refine lv_iload_n hx hb dX10_take_60 rfl (lv_at hl 1 rfl) ?_
  refine z_iald hx hb hK hP 1 rfl 0 rfl (by decide) (by decide) dX10_take_61 ?_
  refine z_iadd hx hb (0 + (z 0)) rfl dX10_take_62 ?_
  refine z_iconst hx hb dX10_take_63 rfl ?_
  refine z_isub hx hb ((0 + (z 0)) - 1) rfl dX10_take_64 ?_
  refine z_toI (((0 + (n - 1)) : Nat) : Int) (by omega) ?_
  refine lv_istore_n (lv' := [(3, vI (((0 + (n - 1)) : Nat) : Int)), (0, .ref q), (1, vI 0), (2, vI w)]) hx hb dX10_take_65 rfl hl (by decide) rfl (fun ls hl => ?_)
  refine lv_aload_n hx hb dX10_take_66 rfl (lv_at hl 1 rfl) ?_
  refine z_get hx hb hts hin10_ hown hK hP 0 rfl rfl 12 (by decide) (hts _ (List.mem_of_getElem? (i := 6) rfl)) rfl dX10_take_67 ?_
  refine lv_iload_n hx hb dX10_take_70 rfl (lv_at hl 0 rfl) ?_
  refine z_iald hx hb hK hP 2 rfl (0 + (n - 1)) (by omega) (by omega) (by decide) dX10_take_71 ?_
  refine lv_iload_n hx hb dX10_take_72 rfl (lv_at hl 3 rfl) ?_
  refine z_icmp_eq (tgt := 80) hx hb (by omega) (by omega) dX10_take_73 (by decide) (fun cq8 => False.elim (by omega)) (fun cq8 => ?_)
  refine z_ldcw hx hb (-2000000013) hown (hts _ (List.mem_of_getElem? (i := 7) rfl)) rfl dX10_take_76 ?_
  exact z_reti () [0, 1, 2, 3, 4] hx hb hr rfl hlocks hK hP hD hS (by first | rfl | rw [if_pos (by omega)] | rw [if_neg (by omega)]) trivial rfl rfl (rfl) (Nat.le_of_ble_eq_true rfl) (Nat.le_of_ble_eq_true rfl) dX10_take_79

set_option maxHeartbeats 4000000 in
set_option maxRecDepth 100000 in
theorem c_X10_take0_ok (l : Launch) (g : zG) (q : Nat) (a : Nat → Nat) (x : Nat → Int) (z : Nat → Int) (kd : Nat → Int) (fa : Nat → Int) (fb : Nat → Int) (n : Nat) (w : Int) (hw : -2147483648 ≤ w ∧ w < 2147483648) (ho : 0 ≤ w ∧ w ≤ 1) (hkb : ∀ i, 0 ≤ kd i ∧ kd i ≤ 1) (hz0 : z 0 = (n : Int)) (hn : 1 ≤ n ∧ n ≤ 8) (hc : kd (0 + (n - 1)) = w) : zMet l g yX10_take wsX10_take 2 0 0 [.ref q, vI 0, vI w] zX0 [[mdl q a x], [((a 7), .inl (g.2 0, 3, .inl (aI z)))], [((a 8), .inl (g.2 0, 24, .inl (aI kd)))], [((a 9), .inl (g.2 0, 24, .inl (aI fa)))], [((a 10), .inl (g.2 0, 24, .inl (aI fb)))]] (qi g (fun (_ : Unit) => (if w = 0 then fa (0 + (n - 1)) else fa (0 + (n - 1)) * fa (0 + (n - 1)) - fa (0 + (n - 1)) * fb (0 + (n - 1)) + fb (0 + (n - 1)) * fb (0 + (n - 1)))) (fun (_ : Unit) => True) (fun (_ : Unit) => [[mdl q a x], [((a 7), .inl (g.2 0, 3, .inl (aI (uI z 0 (((n - 1) : Nat) : Int)))))], [((a 8), .inl (g.2 0, 24, .inl (aI kd)))], [((a 9), .inl (g.2 0, 24, .inl (aI fa)))], [((a 10), .inl (g.2 0, 24, .inl (aI fb)))]])) := by
  have hk9 := hkb (0 + (n - 1))
  refine z_ent (cc := cX10_take) (maxL := 6) (ret := (some .int)) (by decide) rfl (Nat.le_of_ble_eq_true rfl) ?_
  intro p e s m below meth c A ls hx hb hr hml hown hts hlocks hin0 hA hK hP hD hS hXX hl
  have hown : s.vm.findClass RX10 = some m.cls := hown
  have hin10_ : ∀ w ∈ wsX100, w ∈ wsX10_take := zw_in [18, 19, 20, 21, 22, 23, 24, 25, 26, 27, 28, 29, 30, 31, 32, 33, 34, 35, 36, 37, 38, 39, 40, 41, 42, 43] rfl
  have hl : lv_has ls 6 [(0, .ref q), (1, vI 0), (2, vI w)] := hl
  refine lv_iload_n hx hb dX10_take_0 rfl (lv_at hl 1 rfl) ?_
  refine z_cSi (As := [vI 0]) (rest := []) ⟨hx, hb, hml, hown, hts⟩ hK hP hD hS hA [] [0, 1, 2, 3, 4] rfl rfl rfl (c_X10_isStore l g 0 (by first | decide | omega)) (va_cwS 1 hts gX10_take_X10_isStore rfl rfl rfl (by decide +kernel) ⟨Nat.le_of_ble_eq_true rfl, Nat.le_of_ble_eq_true rfl⟩) (fun _ _ _ _ _ _ => trivial) (fun _ _ _ => trivial) rfl hl.1 (Nat.le_of_ble_eq_true rfl) rfl dX10_take_1 ⟨Nat.le_of_ble_eq_true rfl, Nat.le_of_ble_eq_true rfl⟩ (fun u_1 H locs hwu_1 hP hD hS => ?_)
  try dsimp only at hwu_1
  have hP : zP g [[mdl q a x], [((a 7), .inl (g.2 0, 3, .inl (aI z)))], [((a 8), .inl (g.2 0, 24, .inl (aI kd)))], [((a 9), .inl (g.2 0, 24, .inl (aI fa)))], [((a 10), .inl (g.2 0, 24, .inl (aI fb)))]] H := hP
  have hD : zD A [[mdl q a x], [((a 7), .inl (g.2 0, 3, .inl (aI z)))], [((a 8), .inl (g.2 0, 24, .inl (aI kd)))], [((a 9), .inl (g.2 0, 24, .inl (aI fa)))], [((a 10), .inl (g.2 0, 24, .inl (aI fb)))]] := hD
  refine z_toI (inI 0 0 2) rfl ?_
  have hf_2 := inI_s 0 0 2
  refine z_if_ne (tgt := 10) hx hb (by omega) dX10_take_4 (by decide) (fun cq3 => ?_) (fun cq3 => False.elim (by omega))
  refine lv_iload_n hx hb dX10_take_10 rfl (lv_at hl 2 rfl) ?_
  refine z_i2l hx hb (by omega) dX10_take_11 ?_
  refine z_lconst hx hb 0 dX10_take_12 rfl ?_
  refine z_lconst hx hb 1 dX10_take_13 rfl ?_
  refine z_cSi (As := [vL w, vL 0, vL 1]) (rest := []) ⟨hx, hb, hml, hown, hts⟩ hK hP hD hS hA [] [0, 1, 2, 3, 4] rfl rfl rfl (c_X10_in l g w 0 1 (by first | decide | omega) (by first | decide | omega) (by first | decide | omega)) (va_cwS 3 hts gX10_take_X10_in rfl rfl rfl (by decide +kernel) ⟨Nat.le_of_ble_eq_true rfl, Nat.le_of_ble_eq_true rfl⟩) (fun _ _ _ _ _ _ => trivial) (fun _ _ _ => trivial) rfl hl.1 (Nat.le_of_ble_eq_true rfl) rfl dX10_take_14 ⟨Nat.le_of_ble_eq_true rfl, Nat.le_of_ble_eq_true rfl⟩ (fun u_4 H locs hwu_4 hP hD hS => ?_)
  try dsimp only at hwu_4
  have hP : zP g [[mdl q a x], [((a 7), .inl (g.2 0, 3, .inl (aI z)))], [((a 8), .inl (g.2 0, 24, .inl (aI kd)))], [((a 9), .inl (g.2 0, 24, .inl (aI fa)))], [((a 10), .inl (g.2 0, 24, .inl (aI fb)))]] H := hP
  have hD : zD A [[mdl q a x], [((a 7), .inl (g.2 0, 3, .inl (aI z)))], [((a 8), .inl (g.2 0, 24, .inl (aI kd)))], [((a 9), .inl (g.2 0, 24, .inl (aI fa)))], [((a 10), .inl (g.2 0, 24, .inl (aI fb)))]] := hD
  refine z_toI (inI w 0 1) rfl ?_
  have hf_5 := inI_s w 0 1
  refine z_if_ne (tgt := 23) hx hb (by omega) dX10_take_17 (by decide) (fun cq6 => ?_) (fun cq6 => False.elim (by omega))
  refine lv_aload_n hx hb dX10_take_23 rfl (lv_at hl 0 rfl) ?_
  refine z_get hx hb hts hin10_ hown hK hP 0 rfl rfl 11 (by decide) (hts _ (List.mem_of_getElem? (i := 3) rfl)) rfl dX10_take_24 ?_
  refine lv_iload_n hx hb dX10_take_27 rfl (lv_at hl 1 rfl) ?_
  refine z_iald hx hb hK hP 1 rfl 0 rfl (by decide) (by decide) dX10_take_28 ?_
  refine z_iconst hx hb dX10_take_29 rfl ?_
  refine z_icmp_ge (tgt := 52) hx hb (by omega) (by decide) dX10_take_30 (by decide) (fun cq7 => ?_) (fun cq7 => False.elim (by omega))
  refine z_bipush hx hb 8 dX10_take_52 rfl ?_
  refine lv_iload_n hx hb dX10_take_54 rfl (lv_at hl 1 rfl) ?_
  refine z_imul hx hb 0 rfl dX10_take_55 ?_
  refine lv_aload_n hx hb dX10_take_56 rfl (lv_at hl 0 rfl) ?_
  refine z_get hx hb hts hin10_ hown hK hP 0 rfl rfl 11 (by decide) (hts _ (List.mem_of_getElem? (i := 3) rfl)) rfl dX10_take_57 ?_
  refine lv_iload_n hx hb dX10_take_60 rfl (lv_at hl 1 rfl) ?_
  refine z_iald hx hb hK hP 1 rfl 0 rfl (by decide) (by decide) dX10_take_61 ?_
  refine z_iadd hx hb (0 + (z 0)) rfl dX10_take_62 ?_
  refine z_iconst hx hb dX10_take_63 rfl ?_
  refine z_isub hx hb ((0 + (z 0)) - 1) rfl dX10_take_64 ?_
  refine z_toI (((0 + (n - 1)) : Nat) : Int) (by omega) ?_
  refine lv_istore_n (lv' := [(3, vI (((0 + (n - 1)) : Nat) : Int)), (0, .ref q), (1, vI 0), (2, vI w)]) hx hb dX10_take_65 rfl hl (by decide) rfl (fun ls hl => ?_)
  refine lv_aload_n hx hb dX10_take_66 rfl (lv_at hl 1 rfl) ?_
  refine z_get hx hb hts hin10_ hown hK hP 0 rfl rfl 12 (by decide) (hts _ (List.mem_of_getElem? (i := 6) rfl)) rfl dX10_take_67 ?_
  refine lv_iload_n hx hb dX10_take_70 rfl (lv_at hl 0 rfl) ?_
  refine z_iald hx hb hK hP 2 rfl (0 + (n - 1)) (by omega) (by omega) (by decide) dX10_take_71 ?_
  refine lv_iload_n hx hb dX10_take_72 rfl (lv_at hl 3 rfl) ?_
  refine z_icmp_eq (tgt := 80) hx hb (by omega) (by omega) dX10_take_73 (by decide) (fun cq8 => ?_) (fun cq8 => False.elim (by omega))
  refine lv_aload_n hx hb dX10_take_80 rfl (lv_at hl 1 rfl) ?_
  refine z_get hx hb hts hin10_ hown hK hP 0 rfl rfl 11 (by decide) (hts _ (List.mem_of_getElem? (i := 3) rfl)) rfl dX10_take_81 ?_
  refine lv_iload_n hx hb dX10_take_84 rfl (lv_at hl 2 rfl) ?_
  refine lv_dup2_11 hx hb dX10_take_85 rfl rfl ?_
  refine z_iald hx hb hK hP 1 rfl 0 rfl (by decide) (by decide) dX10_take_86 ?_
  refine z_iconst hx hb dX10_take_87 rfl ?_
  refine z_isub hx hb ((z 0) - 1) rfl dX10_take_88 ?_
  refine z_toI (((n - 1) : Nat) : Int) (by omega) ?_
  refine z_iast hx hb hK hP 1 hD hS rfl 0 rfl (by decide) (by decide) dX10_take_89 [[mdl q a x], [((a 7), .inl (g.2 0, 3, .inl (aI (uI z 0 (((n - 1) : Nat) : Int)))))], [((a 8), .inl (g.2 0, 24, .inl (aI kd)))], [((a 9), .inl (g.2 0, 24, .inl (aI fa)))], [((a 10), .inl (g.2 0, 24, .inl (aI fb)))]] rfl (fun H locs hP hD hS => ?_)
  refine lv_aload_n hx hb dX10_take_90 rfl (lv_at hl 1 rfl) ?_
  refine z_get hx hb hts hin10_ hown hK hP 0 rfl rfl 13 (by decide) (hts _ (List.mem_of_getElem? (i := 8) rfl)) rfl dX10_take_91 ?_
  refine lv_iload_n hx hb dX10_take_94 rfl (lv_at hl 0 rfl) ?_
  refine z_iald hx hb hK hP 3 rfl (0 + (n - 1)) (by omega) (by omega) (by decide) dX10_take_95 ?_
  refine lv_istore (lv' := [(4, vI (fa (0 + (n - 1)))), (3, vI (((0 + (n - 1)) : Nat) : Int)), (0, .ref q), (1, vI 0), (2, vI w)]) hx hb dX10_take_96 hl (by decide) rfl (fun ls hl => ?_)
  refine lv_aload_n hx hb dX10_take_98 rfl (lv_at hl 2 rfl) ?_
  refine z_get hx hb hts hin10_ hown hK hP 0 rfl rfl 14 (by decide) (hts _ (List.mem_of_getElem? (i := 9) rfl)) rfl dX10_take_99 ?_
  refine lv_iload_n hx hb dX10_take_102 rfl (lv_at hl 1 rfl) ?_
  refine z_iald hx hb hK hP 4 rfl (0 + (n - 1)) (by omega) (by omega) (by decide) dX10_take_103 ?_
  refine lv_istore (lv' := [(5, vI (fb (0 + (n - 1)))), (4, vI (fa (0 + (n - 1)))), (3, vI (((0 + (n - 1)) : Nat) : Int)), (0, .ref q), (1, vI 0), (2, vI w)]) hx hb dX10_take_104 hl (by decide) rfl (fun ls hl => ?_)
  refine lv_iload_n hx hb dX10_take_106 rfl (lv_at hl 5 rfl) ?_
  refine z_if_ne (tgt := 115) hx hb (by omega) dX10_take_107 (by decide) (fun cq9 => ?_) (fun cq9 => ?_)
  · refine lv_iload hx hb dX10_take_115 (lv_at hl 1 rfl) ?_
    refine lv_iload hx hb dX10_take_117 (lv_at hl 1 rfl) ?_
    refine z_imul hx hb ((fa (0 + (n - 1))) * (fa (0 + (n - 1)))) rfl dX10_take_119 ?_
    refine lv_iload hx hb dX10_take_120 (lv_at hl 1 rfl) ?_
    refine lv_iload hx hb dX10_take_122 (lv_at hl 0 rfl) ?_
    refine z_imul hx hb ((fa (0 + (n - 1))) * (fb (0 + (n - 1)))) rfl dX10_take_124 ?_
    refine z_isub hx hb (((fa (0 + (n - 1))) * (fa (0 + (n - 1)))) - ((fa (0 + (n - 1))) * (fb (0 + (n - 1))))) rfl dX10_take_125 ?_
    refine lv_iload hx hb dX10_take_126 (lv_at hl 0 rfl) ?_
    refine lv_iload hx hb dX10_take_128 (lv_at hl 0 rfl) ?_
    refine z_imul hx hb ((fb (0 + (n - 1))) * (fb (0 + (n - 1)))) rfl dX10_take_130 ?_
    refine z_iadd hx hb ((((fa (0 + (n - 1))) * (fa (0 + (n - 1)))) - ((fa (0 + (n - 1))) * (fb (0 + (n - 1))))) + ((fb (0 + (n - 1))) * (fb (0 + (n - 1))))) rfl dX10_take_131 ?_
    exact z_reti () [0, 1, 2, 3, 4] hx hb hr rfl hlocks hK hP hD hS (by first | rfl | rw [if_pos (by omega)] | rw [if_neg (by omega)]) trivial rfl rfl (rfl) (Nat.le_of_ble_eq_true rfl) (Nat.le_of_ble_eq_true rfl) dX10_take_132
  · refine lv_iload hx hb dX10_take_110 (lv_at hl 1 rfl) ?_
    refine lv_goto (tgt := 132) hx hb dX10_take_112 (by decide) ?_
    exact z_reti () [0, 1, 2, 3, 4] hx hb hr rfl hlocks hK hP hD hS (by first | rfl | rw [if_pos (by omega)] | rw [if_neg (by omega)]) trivial rfl rfl (rfl) (Nat.le_of_ble_eq_true rfl) (Nat.le_of_ble_eq_true rfl) dX10_take_132

set_option maxHeartbeats 4000000 in
set_option maxRecDepth 100000 in
theorem c_X10_put1_null (l : Launch) (g : zG) (q : Nat) (a : Nat → Nat) (x : Nat → Int) (z : Nat → Int) (w : Int) (b0 : Int) (b1 : Int) (hw : -2147483648 ≤ w ∧ w < 2147483648) (ha : -2147483648 ≤ b0 ∧ b0 < 2147483648) (hb_ : -2147483648 ≤ b1 ∧ b1 < 2147483648) (ho : (0 ≤ w ∧ w ≤ 1) ∧ (-9999 ≤ b0 ∧ b0 ≤ 9999) ∧ (-9999 ≤ b1 ∧ b1 ≤ 9999)) (hz0 : z 1 = -1) : zMet l g yX10_put wsX10_put 2 0 0 [.ref q, vI 1, vI w, vI b0, vI b1] zX0 [[mdl q a x], [((a 7), .inl (g.2 0, 3, .inl (aI z)))]] (qi g (fun (_ : Unit) => (-2000000011)) (fun (_ : Unit) => True) (fun (_ : Unit) => [[mdl q a x], [((a 7), .inl (g.2 0, 3, .inl (aI z)))]])) := by
  refine z_ent (cc := cX10_put) (maxL := 6) (ret := (some .int)) (by decide) rfl (Nat.le_of_ble_eq_true rfl) ?_
  intro p e s m below meth c A ls hx hb hr hml hown hts hlocks hin0 hA hK hP hD hS hXX hl
  have hown : s.vm.findClass RX10 = some m.cls := hown
  have hin10_ : ∀ w ∈ wsX100, w ∈ wsX10_put := zw_in [19, 20, 21, 22, 23, 24, 25, 26, 27, 28, 29, 30, 31, 32, 33, 34, 35, 36, 37, 38, 39, 40, 41, 42, 43, 44] rfl
  have hl : lv_has ls 6 [(0, .ref q), (1, vI 1), (2, vI w), (3, vI b0), (4, vI b1)] := hl
  refine lv_iload_n hx hb dX10_put_0 rfl (lv_at hl 1 rfl) ?_
  refine z_cSi (As := [vI 1]) (rest := []) ⟨hx, hb, hml, hown, hts⟩ hK hP hD hS hA [] [0, 1] rfl rfl rfl (c_X10_isStore l g 1 (by first | decide | omega)) (va_cwS 1 hts gX10_put_X10_isStore rfl rfl rfl (by decide +kernel) ⟨Nat.le_of_ble_eq_true rfl, Nat.le_of_ble_eq_true rfl⟩) (fun _ _ _ _ _ _ => trivial) (fun _ _ _ => trivial) rfl hl.1 (Nat.le_of_ble_eq_true rfl) rfl dX10_put_1 ⟨Nat.le_of_ble_eq_true rfl, Nat.le_of_ble_eq_true rfl⟩ (fun u_1 H locs hwu_1 hP hD hS => ?_)
  try dsimp only at hwu_1
  have hP : zP g [[mdl q a x], [((a 7), .inl (g.2 0, 3, .inl (aI z)))]] H := hP
  have hD : zD A [[mdl q a x], [((a 7), .inl (g.2 0, 3, .inl (aI z)))]] := hD
  refine z_toI (inI 1 0 2) rfl ?_
  have hf_2 := inI_s 1 0 2
  refine z_if_ne (tgt := 10) hx hb (by omega) dX10_put_4 (by decide) (fun cq3 => ?_) (fun cq3 => False.elim (by omega))
  refine lv_iload_n hx hb dX10_put_10 rfl (lv_at hl 2 rfl) ?_
  refine z_i2l hx hb (by omega) dX10_put_11 ?_
  refine z_lconst hx hb 0 dX10_put_12 rfl ?_
  refine z_lconst hx hb 1 dX10_put_13 rfl ?_
  refine z_cSi (As := [vL w, vL 0, vL 1]) (rest := []) ⟨hx, hb, hml, hown, hts⟩ hK hP hD hS hA [] [0, 1] rfl rfl rfl (c_X10_in l g w 0 1 (by first | decide | omega) (by first | decide | omega) (by first | decide | omega)) (va_cwS 3 hts gX10_put_X10_in rfl rfl rfl (by decide +kernel) ⟨Nat.le_of_ble_eq_true rfl, Nat.le_of_ble_eq_true rfl⟩) (fun _ _ _ _ _ _ => trivial) (fun _ _ _ => trivial) rfl hl.1 (Nat.le_of_ble_eq_true rfl) rfl dX10_put_14 ⟨Nat.le_of_ble_eq_true rfl, Nat.le_of_ble_eq_true rfl⟩ (fun u_4 H locs hwu_4 hP hD hS => ?_)
  try dsimp only at hwu_4
  have hP : zP g [[mdl q a x], [((a 7), .inl (g.2 0, 3, .inl (aI z)))]] H := hP
  have hD : zD A [[mdl q a x], [((a 7), .inl (g.2 0, 3, .inl (aI z)))]] := hD
  refine z_toI (inI w 0 1) rfl ?_
  have hf_5 := inI_s w 0 1
  refine z_if_eq (tgt := 49) hx hb (by omega) dX10_put_17 (by decide) (fun cq6 => False.elim (by omega)) (fun cq6 => ?_)
  refine lv_iload_n hx hb dX10_put_20 rfl (lv_at hl 3 rfl) ?_
  refine z_i2l hx hb (by omega) dX10_put_21 ?_
  refine z_ldc2 hx hb (-9999) hown (hts _ (List.mem_of_getElem? (i := 2) rfl)) rfl dX10_put_22 ?_
  refine z_ldc2 hx hb 9999 hown (hts _ (List.mem_of_getElem? (i := 3) rfl)) rfl dX10_put_25 ?_
  refine z_cSi (As := [vL b0, vL (-9999), vL 9999]) (rest := []) ⟨hx, hb, hml, hown, hts⟩ hK hP hD hS hA [] [0, 1] rfl rfl rfl (c_X10_in l g b0 (-9999) 9999 (by first | decide | omega) (by first | decide | omega) (by first | decide | omega)) (va_cwS 3 hts gX10_put_X10_in rfl rfl rfl (by decide +kernel) ⟨Nat.le_of_ble_eq_true rfl, Nat.le_of_ble_eq_true rfl⟩) (fun _ _ _ _ _ _ => trivial) (fun _ _ _ => trivial) rfl hl.1 (Nat.le_of_ble_eq_true rfl) rfl dX10_put_28 ⟨Nat.le_of_ble_eq_true rfl, Nat.le_of_ble_eq_true rfl⟩ (fun u_7 H locs hwu_7 hP hD hS => ?_)
  try dsimp only at hwu_7
  have hP : zP g [[mdl q a x], [((a 7), .inl (g.2 0, 3, .inl (aI z)))]] H := hP
  have hD : zD A [[mdl q a x], [((a 7), .inl (g.2 0, 3, .inl (aI z)))]] := hD
  refine z_toI (inI b0 (-9999) 9999) rfl ?_
  have hf_8 := inI_s b0 (-9999) 9999
  refine z_if_eq (tgt := 49) hx hb (by omega) dX10_put_31 (by decide) (fun cq9 => False.elim (by omega)) (fun cq9 => ?_)
  refine lv_iload hx hb dX10_put_34 (lv_at hl 4 rfl) ?_
  refine z_i2l hx hb (by omega) dX10_put_36 ?_
  refine z_ldc2 hx hb (-9999) hown (hts _ (List.mem_of_getElem? (i := 2) rfl)) rfl dX10_put_37 ?_
  refine z_ldc2 hx hb 9999 hown (hts _ (List.mem_of_getElem? (i := 3) rfl)) rfl dX10_put_40 ?_
  refine z_cSi (As := [vL b1, vL (-9999), vL 9999]) (rest := []) ⟨hx, hb, hml, hown, hts⟩ hK hP hD hS hA [] [0, 1] rfl rfl rfl (c_X10_in l g b1 (-9999) 9999 (by first | decide | omega) (by first | decide | omega) (by first | decide | omega)) (va_cwS 3 hts gX10_put_X10_in rfl rfl rfl (by decide +kernel) ⟨Nat.le_of_ble_eq_true rfl, Nat.le_of_ble_eq_true rfl⟩) (fun _ _ _ _ _ _ => trivial) (fun _ _ _ => trivial) rfl hl.1 (Nat.le_of_ble_eq_true rfl) rfl dX10_put_43 ⟨Nat.le_of_ble_eq_true rfl, Nat.le_of_ble_eq_true rfl⟩ (fun u_10 H locs hwu_10 hP hD hS => ?_)
  try dsimp only at hwu_10
  have hP : zP g [[mdl q a x], [((a 7), .inl (g.2 0, 3, .inl (aI z)))]] H := hP
  have hD : zD A [[mdl q a x], [((a 7), .inl (g.2 0, 3, .inl (aI z)))]] := hD
  refine z_toI (inI b1 (-9999) 9999) rfl ?_
  have hf_11 := inI_s b1 (-9999) 9999
  refine z_if_ne (tgt := 52) hx hb (by omega) dX10_put_46 (by decide) (fun cq12 => ?_) (fun cq12 => False.elim (by omega))
  refine lv_aload_n hx hb dX10_put_52 rfl (lv_at hl 0 rfl) ?_
  refine z_get hx hb hts hin10_ hown hK hP 0 rfl rfl 11 (by decide) (hts _ (List.mem_of_getElem? (i := 5) rfl)) rfl dX10_put_53 ?_
  refine lv_iload_n hx hb dX10_put_56 rfl (lv_at hl 1 rfl) ?_
  refine z_iald hx hb hK hP 1 rfl 1 rfl (by decide) (by decide) dX10_put_57 ?_
  refine z_if_ge (tgt := 65) hx hb (by omega) dX10_put_58 (by decide) (fun cq13 => False.elim (by omega)) (fun cq13 => ?_)
  refine z_ldcw hx hb (-2000000011) hown (hts _ (List.mem_of_getElem? (i := 6) rfl)) rfl dX10_put_61 ?_
  exact z_reti () [0, 1] hx hb hr rfl hlocks hK hP hD hS (rfl) trivial rfl rfl (rfl) (Nat.le_of_ble_eq_true rfl) (Nat.le_of_ble_eq_true rfl) dX10_put_64

set_option maxHeartbeats 4000000 in
set_option maxRecDepth 100000 in
theorem c_X10_put1_room (l : Launch) (g : zG) (q : Nat) (a : Nat → Nat) (x : Nat → Int) (z : Nat → Int) (w : Int) (b0 : Int) (b1 : Int) (hw : -2147483648 ≤ w ∧ w < 2147483648) (ha : -2147483648 ≤ b0 ∧ b0 < 2147483648) (hb_ : -2147483648 ≤ b1 ∧ b1 < 2147483648) (ho : (0 ≤ w ∧ w ≤ 1) ∧ (-9999 ≤ b0 ∧ b0 ≤ 9999) ∧ (-9999 ≤ b1 ∧ b1 ≤ 9999)) (hz0 : z 1 = 8) : zMet l g yX10_put wsX10_put 2 0 0 [.ref q, vI 1, vI w, vI b0, vI b1] zX0 [[mdl q a x], [((a 7), .inl (g.2 0, 3, .inl (aI z)))]] (qi g (fun (_ : Unit) => (-2000000014)) (fun (_ : Unit) => True) (fun (_ : Unit) => [[mdl q a x], [((a 7), .inl (g.2 0, 3, .inl (aI z)))]])) := by
  refine z_ent (cc := cX10_put) (maxL := 6) (ret := (some .int)) (by decide) rfl (Nat.le_of_ble_eq_true rfl) ?_
  intro p e s m below meth c A ls hx hb hr hml hown hts hlocks hin0 hA hK hP hD hS hXX hl
  have hown : s.vm.findClass RX10 = some m.cls := hown
  have hin10_ : ∀ w ∈ wsX100, w ∈ wsX10_put := zw_in [19, 20, 21, 22, 23, 24, 25, 26, 27, 28, 29, 30, 31, 32, 33, 34, 35, 36, 37, 38, 39, 40, 41, 42, 43, 44] rfl
  have hl : lv_has ls 6 [(0, .ref q), (1, vI 1), (2, vI w), (3, vI b0), (4, vI b1)] := hl
  refine lv_iload_n hx hb dX10_put_0 rfl (lv_at hl 1 rfl) ?_
  refine z_cSi (As := [vI 1]) (rest := []) ⟨hx, hb, hml, hown, hts⟩ hK hP hD hS hA [] [0, 1] rfl rfl rfl (c_X10_isStore l g 1 (by first | decide | omega)) (va_cwS 1 hts gX10_put_X10_isStore rfl rfl rfl (by decide +kernel) ⟨Nat.le_of_ble_eq_true rfl, Nat.le_of_ble_eq_true rfl⟩) (fun _ _ _ _ _ _ => trivial) (fun _ _ _ => trivial) rfl hl.1 (Nat.le_of_ble_eq_true rfl) rfl dX10_put_1 ⟨Nat.le_of_ble_eq_true rfl, Nat.le_of_ble_eq_true rfl⟩ (fun u_1 H locs hwu_1 hP hD hS => ?_)
  try dsimp only at hwu_1
  have hP : zP g [[mdl q a x], [((a 7), .inl (g.2 0, 3, .inl (aI z)))]] H := hP
  have hD : zD A [[mdl q a x], [((a 7), .inl (g.2 0, 3, .inl (aI z)))]] := hD
  refine z_toI (inI 1 0 2) rfl ?_
  have hf_2 := inI_s 1 0 2
  refine z_if_ne (tgt := 10) hx hb (by omega) dX10_put_4 (by decide) (fun cq3 => ?_) (fun cq3 => False.elim (by omega))
  refine lv_iload_n hx hb dX10_put_10 rfl (lv_at hl 2 rfl) ?_
  refine z_i2l hx hb (by omega) dX10_put_11 ?_
  refine z_lconst hx hb 0 dX10_put_12 rfl ?_
  refine z_lconst hx hb 1 dX10_put_13 rfl ?_
  refine z_cSi (As := [vL w, vL 0, vL 1]) (rest := []) ⟨hx, hb, hml, hown, hts⟩ hK hP hD hS hA [] [0, 1] rfl rfl rfl (c_X10_in l g w 0 1 (by first | decide | omega) (by first | decide | omega) (by first | decide | omega)) (va_cwS 3 hts gX10_put_X10_in rfl rfl rfl (by decide +kernel) ⟨Nat.le_of_ble_eq_true rfl, Nat.le_of_ble_eq_true rfl⟩) (fun _ _ _ _ _ _ => trivial) (fun _ _ _ => trivial) rfl hl.1 (Nat.le_of_ble_eq_true rfl) rfl dX10_put_14 ⟨Nat.le_of_ble_eq_true rfl, Nat.le_of_ble_eq_true rfl⟩ (fun u_4 H locs hwu_4 hP hD hS => ?_)
  try dsimp only at hwu_4
  have hP : zP g [[mdl q a x], [((a 7), .inl (g.2 0, 3, .inl (aI z)))]] H := hP
  have hD : zD A [[mdl q a x], [((a 7), .inl (g.2 0, 3, .inl (aI z)))]] := hD
  refine z_toI (inI w 0 1) rfl ?_
  have hf_5 := inI_s w 0 1
  refine z_if_eq (tgt := 49) hx hb (by omega) dX10_put_17 (by decide) (fun cq6 => False.elim (by omega)) (fun cq6 => ?_)
  refine lv_iload_n hx hb dX10_put_20 rfl (lv_at hl 3 rfl) ?_
  refine z_i2l hx hb (by omega) dX10_put_21 ?_
  refine z_ldc2 hx hb (-9999) hown (hts _ (List.mem_of_getElem? (i := 2) rfl)) rfl dX10_put_22 ?_
  refine z_ldc2 hx hb 9999 hown (hts _ (List.mem_of_getElem? (i := 3) rfl)) rfl dX10_put_25 ?_
  refine z_cSi (As := [vL b0, vL (-9999), vL 9999]) (rest := []) ⟨hx, hb, hml, hown, hts⟩ hK hP hD hS hA [] [0, 1] rfl rfl rfl (c_X10_in l g b0 (-9999) 9999 (by first | decide | omega) (by first | decide | omega) (by first | decide | omega)) (va_cwS 3 hts gX10_put_X10_in rfl rfl rfl (by decide +kernel) ⟨Nat.le_of_ble_eq_true rfl, Nat.le_of_ble_eq_true rfl⟩) (fun _ _ _ _ _ _ => trivial) (fun _ _ _ => trivial) rfl hl.1 (Nat.le_of_ble_eq_true rfl) rfl dX10_put_28 ⟨Nat.le_of_ble_eq_true rfl, Nat.le_of_ble_eq_true rfl⟩ (fun u_7 H locs hwu_7 hP hD hS => ?_)
  try dsimp only at hwu_7
  have hP : zP g [[mdl q a x], [((a 7), .inl (g.2 0, 3, .inl (aI z)))]] H := hP
  have hD : zD A [[mdl q a x], [((a 7), .inl (g.2 0, 3, .inl (aI z)))]] := hD
  refine z_toI (inI b0 (-9999) 9999) rfl ?_
  have hf_8 := inI_s b0 (-9999) 9999
  refine z_if_eq (tgt := 49) hx hb (by omega) dX10_put_31 (by decide) (fun cq9 => False.elim (by omega)) (fun cq9 => ?_)
  refine lv_iload hx hb dX10_put_34 (lv_at hl 4 rfl) ?_
  refine z_i2l hx hb (by omega) dX10_put_36 ?_
  refine z_ldc2 hx hb (-9999) hown (hts _ (List.mem_of_getElem? (i := 2) rfl)) rfl dX10_put_37 ?_
  refine z_ldc2 hx hb 9999 hown (hts _ (List.mem_of_getElem? (i := 3) rfl)) rfl dX10_put_40 ?_
  refine z_cSi (As := [vL b1, vL (-9999), vL 9999]) (rest := []) ⟨hx, hb, hml, hown, hts⟩ hK hP hD hS hA [] [0, 1] rfl rfl rfl (c_X10_in l g b1 (-9999) 9999 (by first | decide | omega) (by first | decide | omega) (by first | decide | omega)) (va_cwS 3 hts gX10_put_X10_in rfl rfl rfl (by decide +kernel) ⟨Nat.le_of_ble_eq_true rfl, Nat.le_of_ble_eq_true rfl⟩) (fun _ _ _ _ _ _ => trivial) (fun _ _ _ => trivial) rfl hl.1 (Nat.le_of_ble_eq_true rfl) rfl dX10_put_43 ⟨Nat.le_of_ble_eq_true rfl, Nat.le_of_ble_eq_true rfl⟩ (fun u_10 H locs hwu_10 hP hD hS => ?_)
  try dsimp only at hwu_10
  have hP : zP g [[mdl q a x], [((a 7), .inl (g.2 0, 3, .inl (aI z)))]] H := hP
  have hD : zD A [[mdl q a x], [((a 7), .inl (g.2 0, 3, .inl (aI z)))]] := hD
  refine z_toI (inI b1 (-9999) 9999) rfl ?_
  have hf_11 := inI_s b1 (-9999) 9999
  refine z_if_ne (tgt := 52) hx hb (by omega) dX10_put_46 (by decide) (fun cq12 => ?_) (fun cq12 => False.elim (by omega))
  refine lv_aload_n hx hb dX10_put_52 rfl (lv_at hl 0 rfl) ?_
  refine z_get hx hb hts hin10_ hown hK hP 0 rfl rfl 11 (by decide) (hts _ (List.mem_of_getElem? (i := 5) rfl)) rfl dX10_put_53 ?_
  refine lv_iload_n hx hb dX10_put_56 rfl (lv_at hl 1 rfl) ?_
  refine z_iald hx hb hK hP 1 rfl 1 rfl (by decide) (by decide) dX10_put_57 ?_
  refine z_if_ge (tgt := 65) hx hb (by omega) dX10_put_58 (by decide) (fun cq13 => ?_) (fun cq13 => False.elim (by omega))
  refine lv_aload_n hx hb dX10_put_65 rfl (lv_at hl 0 rfl) ?_
  refine z_get hx hb hts hin10_ hown hK hP 0 rfl rfl 11 (by decide) (hts _ (List.mem_of_getElem? (i := 5) rfl)) rfl dX10_put_66 ?_
  refine lv_iload_n hx hb dX10_put_69 rfl (lv_at hl 1 rfl) ?_
  refine z_iald hx hb hK hP 1 rfl 1 rfl (by decide) (by decide) dX10_put_70 ?_
  refine z_bipush hx hb 8 dX10_put_71 rfl ?_
  refine z_icmp_ne (tgt := 80) hx hb (by omega) (by decide) dX10_put_73 (by decide) (fun cq14 => False.elim (by omega)) (fun cq14 => ?_)
  refine z_ldcw hx hb (-2000000014) hown (hts _ (List.mem_of_getElem? (i := 7) rfl)) rfl dX10_put_76 ?_
  exact z_reti () [0, 1] hx hb hr rfl hlocks hK hP hD hS (rfl) trivial rfl rfl (rfl) (Nat.le_of_ble_eq_true rfl) (Nat.le_of_ble_eq_true rfl) dX10_put_79

set_option maxHeartbeats 4000000 in
set_option maxRecDepth 100000 in
theorem c_X10_put1_ok (l : Launch) (g : zG) (q : Nat) (a : Nat → Nat) (x : Nat → Int) (z : Nat → Int) (kd : Nat → Int) (fa : Nat → Int) (fb : Nat → Int) (n : Nat) (w : Int) (b0 : Int) (b1 : Int) (hw : -2147483648 ≤ w ∧ w < 2147483648) (ha : -2147483648 ≤ b0 ∧ b0 < 2147483648) (hb_ : -2147483648 ≤ b1 ∧ b1 < 2147483648) (ho : (0 ≤ w ∧ w ≤ 1) ∧ (-9999 ≤ b0 ∧ b0 ≤ 9999) ∧ (-9999 ≤ b1 ∧ b1 ≤ 9999)) (hz0 : z 1 = (n : Int)) (hn : n < 8) : zMet l g yX10_put wsX10_put 2 0 0 [.ref q, vI 1, vI w, vI b0, vI b1] zX0 [[mdl q a x], [((a 7), .inl (g.2 0, 3, .inl (aI z)))], [((a 8), .inl (g.2 0, 24, .inl (aI kd)))], [((a 9), .inl (g.2 0, 24, .inl (aI fa)))], [((a 10), .inl (g.2 0, 24, .inl (aI fb)))]] (qi g (fun (_ : Unit) => (((n + 1) : Nat) : Int)) (fun (_ : Unit) => True) (fun (_ : Unit) => [[mdl q a x], [((a 7), .inl (g.2 0, 3, .inl (aI (uI z 1 (((n + 1) : Nat) : Int)))))], [((a 8), .inl (g.2 0, 24, .inl (aI (uI kd (8 + n) w))))], [((a 9), .inl (g.2 0, 24, .inl (aI (uI fa (8 + n) b0))))], [((a 10), .inl (g.2 0, 24, .inl (aI (uI fb (8 + n) (if w = 0 then 0 else b1)))))]])) := by
  refine z_ent (cc := cX10_put) (maxL := 6) (ret := (some .int)) (by decide) rfl (Nat.le_of_ble_eq_true rfl) ?_
  intro p e s m below meth c A ls hx hb hr hml hown hts hlocks hin0 hA hK hP hD hS hXX hl
  have hown : s.vm.findClass RX10 = some m.cls := hown
  have hin10_ : ∀ w ∈ wsX100, w ∈ wsX10_put := zw_in [19, 20, 21, 22, 23, 24, 25, 26, 27, 28, 29, 30, 31, 32, 33, 34, 35, 36, 37, 38, 39, 40, 41, 42, 43, 44] rfl
  have hl : lv_has ls 6 [(0, .ref q), (1, vI 1), (2, vI w), (3, vI b0), (4, vI b1)] := hl
  refine lv_iload_n hx hb dX10_put_0 rfl (lv_at hl 1 rfl) ?_
  refine z_cSi (As := [vI 1]) (rest := []) ⟨hx, hb, hml, hown, hts⟩ hK hP hD hS hA [] [0, 1, 2, 3, 4] rfl rfl rfl (c_X10_isStore l g 1 (by first | decide | omega)) (va_cwS 1 hts gX10_put_X10_isStore rfl rfl rfl (by decide +kernel) ⟨Nat.le_of_ble_eq_true rfl, Nat.le_of_ble_eq_true rfl⟩) (fun _ _ _ _ _ _ => trivial) (fun _ _ _ => trivial) rfl hl.1 (Nat.le_of_ble_eq_true rfl) rfl dX10_put_1 ⟨Nat.le_of_ble_eq_true rfl, Nat.le_of_ble_eq_true rfl⟩ (fun u_1 H locs hwu_1 hP hD hS => ?_)
  try dsimp only at hwu_1
  have hP : zP g [[mdl q a x], [((a 7), .inl (g.2 0, 3, .inl (aI z)))], [((a 8), .inl (g.2 0, 24, .inl (aI kd)))], [((a 9), .inl (g.2 0, 24, .inl (aI fa)))], [((a 10), .inl (g.2 0, 24, .inl (aI fb)))]] H := hP
  have hD : zD A [[mdl q a x], [((a 7), .inl (g.2 0, 3, .inl (aI z)))], [((a 8), .inl (g.2 0, 24, .inl (aI kd)))], [((a 9), .inl (g.2 0, 24, .inl (aI fa)))], [((a 10), .inl (g.2 0, 24, .inl (aI fb)))]] := hD
  refine z_toI (inI 1 0 2) rfl ?_
  have hf_2 := inI_s 1 0 2
  refine z_if_ne (tgt := 10) hx hb (by omega) dX10_put_4 (by decide) (fun cq3 => ?_) (fun cq3 => False.elim (by omega))
  refine lv_iload_n hx hb dX10_put_10 rfl (lv_at hl 2 rfl) ?_
  refine z_i2l hx hb (by omega) dX10_put_11 ?_
  refine z_lconst hx hb 0 dX10_put_12 rfl ?_
  refine z_lconst hx hb 1 dX10_put_13 rfl ?_
  refine z_cSi (As := [vL w, vL 0, vL 1]) (rest := []) ⟨hx, hb, hml, hown, hts⟩ hK hP hD hS hA [] [0, 1, 2, 3, 4] rfl rfl rfl (c_X10_in l g w 0 1 (by first | decide | omega) (by first | decide | omega) (by first | decide | omega)) (va_cwS 3 hts gX10_put_X10_in rfl rfl rfl (by decide +kernel) ⟨Nat.le_of_ble_eq_true rfl, Nat.le_of_ble_eq_true rfl⟩) (fun _ _ _ _ _ _ => trivial) (fun _ _ _ => trivial) rfl hl.1 (Nat.le_of_ble_eq_true rfl) rfl dX10_put_14 ⟨Nat.le_of_ble_eq_true rfl, Nat.le_of_ble_eq_true rfl⟩ (fun u_4 H locs hwu_4 hP hD hS => ?_)
  try dsimp only at hwu_4
  have hP : zP g [[mdl q a x], [((a 7), .inl (g.2 0, 3, .inl (aI z)))], [((a 8), .inl (g.2 0, 24, .inl (aI kd)))], [((a 9), .inl (g.2 0, 24, .inl (aI fa)))], [((a 10), .inl (g.2 0, 24, .inl (aI fb)))]] H := hP
  have hD : zD A [[mdl q a x], [((a 7), .inl (g.2 0, 3, .inl (aI z)))], [((a 8), .inl (g.2 0, 24, .inl (aI kd)))], [((a 9), .inl (g.2 0, 24, .inl (aI fa)))], [((a 10), .inl (g.2 0, 24, .inl (aI fb)))]] := hD
  refine z_toI (inI w 0 1) rfl ?_
  have hf_5 := inI_s w 0 1
  refine z_if_eq (tgt := 49) hx hb (by omega) dX10_put_17 (by decide) (fun cq6 => False.elim (by omega)) (fun cq6 => ?_)
  refine lv_iload_n hx hb dX10_put_20 rfl (lv_at hl 3 rfl) ?_
  refine z_i2l hx hb (by omega) dX10_put_21 ?_
  refine z_ldc2 hx hb (-9999) hown (hts _ (List.mem_of_getElem? (i := 2) rfl)) rfl dX10_put_22 ?_
  refine z_ldc2 hx hb 9999 hown (hts _ (List.mem_of_getElem? (i := 3) rfl)) rfl dX10_put_25 ?_
  refine z_cSi (As := [vL b0, vL (-9999), vL 9999]) (rest := []) ⟨hx, hb, hml, hown, hts⟩ hK hP hD hS hA [] [0, 1, 2, 3, 4] rfl rfl rfl (c_X10_in l g b0 (-9999) 9999 (by first | decide | omega) (by first | decide | omega) (by first | decide | omega)) (va_cwS 3 hts gX10_put_X10_in rfl rfl rfl (by decide +kernel) ⟨Nat.le_of_ble_eq_true rfl, Nat.le_of_ble_eq_true rfl⟩) (fun _ _ _ _ _ _ => trivial) (fun _ _ _ => trivial) rfl hl.1 (Nat.le_of_ble_eq_true rfl) rfl dX10_put_28 ⟨Nat.le_of_ble_eq_true rfl, Nat.le_of_ble_eq_true rfl⟩ (fun u_7 H locs hwu_7 hP hD hS => ?_)
  try dsimp only at hwu_7
  have hP : zP g [[mdl q a x], [((a 7), .inl (g.2 0, 3, .inl (aI z)))], [((a 8), .inl (g.2 0, 24, .inl (aI kd)))], [((a 9), .inl (g.2 0, 24, .inl (aI fa)))], [((a 10), .inl (g.2 0, 24, .inl (aI fb)))]] H := hP
  have hD : zD A [[mdl q a x], [((a 7), .inl (g.2 0, 3, .inl (aI z)))], [((a 8), .inl (g.2 0, 24, .inl (aI kd)))], [((a 9), .inl (g.2 0, 24, .inl (aI fa)))], [((a 10), .inl (g.2 0, 24, .inl (aI fb)))]] := hD
  refine z_toI (inI b0 (-9999) 9999) rfl ?_
  have hf_8 := inI_s b0 (-9999) 9999
  refine z_if_eq (tgt := 49) hx hb (by omega) dX10_put_31 (by decide) (fun cq9 => False.elim (by omega)) (fun cq9 => ?_)
  refine lv_iload hx hb dX10_put_34 (lv_at hl 4 rfl) ?_
  refine z_i2l hx hb (by omega) dX10_put_36 ?_
  refine z_ldc2 hx hb (-9999) hown (hts _ (List.mem_of_getElem? (i := 2) rfl)) rfl dX10_put_37 ?_
  refine z_ldc2 hx hb 9999 hown (hts _ (List.mem_of_getElem? (i := 3) rfl)) rfl dX10_put_40 ?_
  refine z_cSi (As := [vL b1, vL (-9999), vL 9999]) (rest := []) ⟨hx, hb, hml, hown, hts⟩ hK hP hD hS hA [] [0, 1, 2, 3, 4] rfl rfl rfl (c_X10_in l g b1 (-9999) 9999 (by first | decide | omega) (by first | decide | omega) (by first | decide | omega)) (va_cwS 3 hts gX10_put_X10_in rfl rfl rfl (by decide +kernel) ⟨Nat.le_of_ble_eq_true rfl, Nat.le_of_ble_eq_true rfl⟩) (fun _ _ _ _ _ _ => trivial) (fun _ _ _ => trivial) rfl hl.1 (Nat.le_of_ble_eq_true rfl) rfl dX10_put_43 ⟨Nat.le_of_ble_eq_true rfl, Nat.le_of_ble_eq_true rfl⟩ (fun u_10 H locs hwu_10 hP hD hS => ?_)
  try dsimp only at hwu_10
  have hP : zP g [[mdl q a x], [((a 7), .inl (g.2 0, 3, .inl (aI z)))], [((a 8), .inl (g.2 0, 24, .inl (aI kd)))], [((a 9), .inl (g.2 0, 24, .inl (aI fa)))], [((a 10), .inl (g.2 0, 24, .inl (aI fb)))]] H := hP
  have hD : zD A [[mdl q a x], [((a 7), .inl (g.2 0, 3, .inl (aI z)))], [((a 8), .inl (g.2 0, 24, .inl (aI kd)))], [((a 9), .inl (g.2 0, 24, .inl (aI fa)))], [((a 10), .inl (g.2 0, 24, .inl (aI fb)))]] := hD
  refine z_toI (inI b1 (-9999) 9999) rfl ?_
  have hf_11 := inI_s b1 (-9999) 9999
  refine z_if_ne (tgt := 52) hx hb (by omega) dX10_put_46 (by decide) (fun cq12 => ?_) (fun cq12 => False.elim (by omega))
  refine lv_aload_n hx hb dX10_put_52 rfl (lv_at hl 0 rfl) ?_
  refine z_get hx hb hts hin10_ hown hK hP 0 rfl rfl 11 (by decide) (hts _ (List.mem_of_getElem? (i := 5) rfl)) rfl dX10_put_53 ?_
  refine lv_iload_n hx hb dX10_put_56 rfl (lv_at hl 1 rfl) ?_
  refine z_iald hx hb hK hP 1 rfl 1 rfl (by decide) (by decide) dX10_put_57 ?_
  refine z_if_ge (tgt := 65) hx hb (by omega) dX10_put_58 (by decide) (fun cq13 => ?_) (fun cq13 => False.elim (by omega))
  refine lv_aload_n hx hb dX10_put_65 rfl (lv_at hl 0 rfl) ?_
  refine z_get hx hb hts hin10_ hown hK hP 0 rfl rfl 11 (by decide) (hts _ (List.mem_of_getElem? (i := 5) rfl)) rfl dX10_put_66 ?_
  refine lv_iload_n hx hb dX10_put_69 rfl (lv_at hl 1 rfl) ?_
  refine z_iald hx hb hK hP 1 rfl 1 rfl (by decide) (by decide) dX10_put_70 ?_
  refine z_bipush hx hb 8 dX10_put_71 rfl ?_
  refine z_icmp_ne (tgt := 80) hx hb (by omega) (by decide) dX10_put_73 (by decide) (fun cq14 => ?_) (fun cq14 => False.elim (by omega))
  refine z_bipush hx hb 8 dX10_put_80 rfl ?_
  refine lv_iload_n hx hb dX10_put_82 rfl (lv_at hl 1 rfl) ?_
  refine z_imul hx hb 8 rfl dX10_put_83 ?_
  refine lv_aload_n hx hb dX10_put_84 rfl (lv_at hl 0 rfl) ?_
  refine z_get hx hb hts hin10_ hown hK hP 0 rfl rfl 11 (by decide) (hts _ (List.mem_of_getElem? (i := 5) rfl)) rfl dX10_put_85 ?_
  refine lv_iload_n hx hb dX10_put_88 rfl (lv_at hl 1 rfl) ?_
  refine z_iald hx hb hK hP 1 rfl 1 rfl (by decide) (by decide) dX10_put_89 ?_
  refine z_iadd hx hb (8 + (z 1)) rfl dX10_put_90 ?_
  refine z_toI (((8 + n) : Nat) : Int) (by omega) ?_
  refine lv_istore (lv' := [(5, vI (((8 + n) : Nat) : Int)), (0, .ref q), (1, vI 1), (2, vI w), (3, vI b0), (4, vI b1)]) hx hb dX10_put_91 hl (by decide) rfl (fun ls hl => ?_)
  refine lv_aload_n hx hb dX10_put_93 rfl (lv_at hl 1 rfl) ?_
  refine z_get hx hb hts hin10_ hown hK hP 0 rfl rfl 12 (by decide) (hts _ (List.mem_of_getElem? (i := 8) rfl)) rfl dX10_put_94 ?_
  refine lv_iload hx hb dX10_put_97 (lv_at hl 0 rfl) ?_
  refine lv_iload_n hx hb dX10_put_99 rfl (lv_at hl 3 rfl) ?_
  refine z_iast hx hb hK hP 2 hD hS rfl (8 + n) (by omega) (by omega) (by decide) dX10_put_100 [[mdl q a x], [((a 7), .inl (g.2 0, 3, .inl (aI z)))], [((a 8), .inl (g.2 0, 24, .inl (aI (uI kd (8 + n) w))))], [((a 9), .inl (g.2 0, 24, .inl (aI fa)))], [((a 10), .inl (g.2 0, 24, .inl (aI fb)))]] rfl (fun H locs hP hD hS => ?_)
  refine lv_aload_n hx hb dX10_put_101 rfl (lv_at hl 1 rfl) ?_
  refine z_get hx hb hts hin10_ hown hK hP 0 rfl rfl 13 (by decide) (hts _ (List.mem_of_getElem? (i := 9) rfl)) rfl dX10_put_102 ?_
  refine lv_iload hx hb dX10_put_105 (lv_at hl 0 rfl) ?_
  refine lv_iload_n hx hb dX10_put_107 rfl (lv_at hl 4 rfl) ?_
  refine z_iast hx hb hK hP 3 hD hS rfl (8 + n) (by omega) (by omega) (by decide) dX10_put_108 [[mdl q a x], [((a 7), .inl (g.2 0, 3, .inl (aI z)))], [((a 8), .inl (g.2 0, 24, .inl (aI (uI kd (8 + n) w))))], [((a 9), .inl (g.2 0, 24, .inl (aI (uI fa (8 + n) b0))))], [((a 10), .inl (g.2 0, 24, .inl (aI fb)))]] rfl (fun H locs hP hD hS => ?_)
  refine lv_aload_n hx hb dX10_put_109 rfl (lv_at hl 1 rfl) ?_
  refine z_get hx hb hts hin10_ hown hK hP 0 rfl rfl 14 (by decide) (hts _ (List.mem_of_getElem? (i := 10) rfl)) rfl dX10_put_110 ?_
  refine lv_iload hx hb dX10_put_113 (lv_at hl 0 rfl) ?_
  have j126 : W p l e (zRm 2 0 0) s m ([.ref q, vI 1, vI w, vI b0, vI b1] : List Value).toArray below meth c H locs (0) (0) (MQ below ((qi g (fun (_ : Unit) => (((n + 1) : Nat) : Int)) (fun (_ : Unit) => True) (fun (_ : Unit) => [[mdl q a x], [((a 7), .inl (g.2 0, 3, .inl (aI (uI z 1 (((n + 1) : Nat) : Int)))))], [((a 8), .inl (g.2 0, 24, .inl (aI (uI kd (8 + n) w))))], [((a 9), .inl (g.2 0, 24, .inl (aI (uI fa (8 + n) b0))))], [((a 10), .inl (g.2 0, 24, .inl (aI (uI fb (8 + n) (if w = 0 then 0 else b1)))))]])) A) ([.ref q, vI 1, vI w, vI b0, vI b1] : List Value).toArray s 0 0 A) (F0 m 126 ls [vI (if w = 0 then 0 else b1), vI (((8 + n) : Nat) : Int), .ref (a 10)]) := by
    refine z_iast hx hb hK hP 4 hD hS rfl (8 + n) (by omega) (by omega) (by decide) dX10_put_126 [[mdl q a x], [((a 7), .inl (g.2 0, 3, .inl (aI z)))], [((a 8), .inl (g.2 0, 24, .inl (aI (uI kd (8 + n) w))))], [((a 9), .inl (g.2 0, 24, .inl (aI (uI fa (8 + n) b0))))], [((a 10), .inl (g.2 0, 24, .inl (aI (uI fb (8 + n) (if w = 0 then 0 else b1)))))]] rfl (fun H locs hP hD hS => ?_)
    refine lv_aload_n hx hb dX10_put_127 rfl (lv_at hl 1 rfl) ?_
    refine z_get hx hb hts hin10_ hown hK hP 0 rfl rfl 11 (by decide) (hts _ (List.mem_of_getElem? (i := 5) rfl)) rfl dX10_put_128 ?_
    refine lv_iload_n hx hb dX10_put_131 rfl (lv_at hl 2 rfl) ?_
    refine lv_dup2_11 hx hb dX10_put_132 rfl rfl ?_
    refine z_iald hx hb hK hP 1 rfl 1 rfl (by decide) (by decide) dX10_put_133 ?_
    refine z_iconst hx hb dX10_put_134 rfl ?_
    refine z_iadd hx hb ((z 1) + 1) rfl dX10_put_135 ?_
    refine z_toI (((n + 1) : Nat) : Int) (by omega) ?_
    refine z_iast hx hb hK hP 1 hD hS rfl 1 rfl (by decide) (by decide) dX10_put_136 [[mdl q a x], [((a 7), .inl (g.2 0, 3, .inl (aI (uI z 1 (((n + 1) : Nat) : Int)))))], [((a 8), .inl (g.2 0, 24, .inl (aI (uI kd (8 + n) w))))], [((a 9), .inl (g.2 0, 24, .inl (aI (uI fa (8 + n) b0))))], [((a 10), .inl (g.2 0, 24, .inl (aI (uI fb (8 + n) (if w = 0 then 0 else b1)))))]] rfl (fun H locs hP hD hS => ?_)
    refine lv_aload_n hx hb dX10_put_137 rfl (lv_at hl 1 rfl) ?_
    refine z_get hx hb hts hin10_ hown hK hP 0 rfl rfl 11 (by decide) (hts _ (List.mem_of_getElem? (i := 5) rfl)) rfl dX10_put_138 ?_
    refine lv_iload_n hx hb dX10_put_141 rfl (lv_at hl 2 rfl) ?_
    refine z_iald hx hb hK hP 1 rfl 1 rfl (by decide) (by decide) dX10_put_142 ?_
    exact z_reti () [0, 1, 2, 3, 4] hx hb hr rfl hlocks hK hP hD hS (rfl) trivial rfl rfl (rfl) (Nat.le_of_ble_eq_true rfl) (Nat.le_of_ble_eq_true rfl) dX10_put_143
  refine lv_iload_n hx hb dX10_put_115 rfl (lv_at hl 3 rfl) ?_
  refine z_iconst hx hb dX10_put_116 rfl ?_
  refine z_icmp_ne (tgt := 125) hx hb (by omega) (by decide) dX10_put_117 (by decide) (fun cq15 => ?_) (fun cq15 => ?_)
  · refine z_iconst hx hb dX10_put_125 rfl ?_
    refine z_toI (if w = 0 then 0 else b1) (by first | rw [if_pos (by omega)] | rw [if_neg (by omega)]) ?_
    exact j126
  · refine lv_iload hx hb dX10_put_120 (lv_at hl 5 rfl) ?_
    refine lv_goto (tgt := 126) hx hb dX10_put_122 (by decide) ?_
    refine z_toI (if w = 0 then 0 else b1) (by first | rw [if_pos (by omega)] | rw [if_neg (by omega)]) ?_
    exact j126

set_option maxHeartbeats 4000000 in
set_option maxRecDepth 100000 in
theorem c_X10_take1_null (l : Launch) (g : zG) (q : Nat) (a : Nat → Nat) (x : Nat → Int) (z : Nat → Int) (w : Int) (hw : -2147483648 ≤ w ∧ w < 2147483648) (ho : 0 ≤ w ∧ w ≤ 1) (hz0 : z 1 = -1) : zMet l g yX10_take wsX10_take 2 0 0 [.ref q, vI 1, vI w] zX0 [[mdl q a x], [((a 7), .inl (g.2 0, 3, .inl (aI z)))]] (qi g (fun (_ : Unit) => (-2000000011)) (fun (_ : Unit) => True) (fun (_ : Unit) => [[mdl q a x], [((a 7), .inl (g.2 0, 3, .inl (aI z)))]])) := by
  refine z_ent (cc := cX10_take) (maxL := 6) (ret := (some .int)) (by decide) rfl (Nat.le_of_ble_eq_true rfl) ?_
  intro p e s m below meth c A ls hx hb hr hml hown hts hlocks hin0 hA hK hP hD hS hXX hl
  have hown : s.vm.findClass RX10 = some m.cls := hown
  have hin10_ : ∀ w ∈ wsX100, w ∈ wsX10_take := zw_in [18, 19, 20, 21, 22, 23, 24, 25, 26, 27, 28, 29, 30, 31, 32, 33, 34, 35, 36, 37, 38, 39, 40, 41, 42, 43] rfl
  have hl : lv_has ls 6 [(0, .ref q), (1, vI 1), (2, vI w)] := hl
  refine lv_iload_n hx hb dX10_take_0 rfl (lv_at hl 1 rfl) ?_
  refine z_cSi (As := [vI 1]) (rest := []) ⟨hx, hb, hml, hown, hts⟩ hK hP hD hS hA [] [0, 1] rfl rfl rfl (c_X10_isStore l g 1 (by first | decide | omega)) (va_cwS 1 hts gX10_take_X10_isStore rfl rfl rfl (by decide +kernel) ⟨Nat.le_of_ble_eq_true rfl, Nat.le_of_ble_eq_true rfl⟩) (fun _ _ _ _ _ _ => trivial) (fun _ _ _ => trivial) rfl hl.1 (Nat.le_of_ble_eq_true rfl) rfl dX10_take_1 ⟨Nat.le_of_ble_eq_true rfl, Nat.le_of_ble_eq_true rfl⟩ (fun u_1 H locs hwu_1 hP hD hS => ?_)
  try dsimp only at hwu_1
  have hP : zP g [[mdl q a x], [((a 7), .inl (g.2 0, 3, .inl (aI z)))]] H := hP
  have hD : zD A [[mdl q a x], [((a 7), .inl (g.2 0, 3, .inl (aI z)))]] := hD
  refine z_toI (inI 1 0 2) rfl ?_
  have hf_2 := inI_s 1 0 2
  refine z_if_ne (tgt := 10) hx hb (by omega) dX10_take_4 (by decide) (fun cq3 => ?_) (fun cq3 => False.elim (by omega))
  refine lv_iload_n hx hb dX10_take_10 rfl (lv_at hl 2 rfl) ?_
  refine z_i2l hx hb (by omega) dX10_take_11 ?_
  refine z_lconst hx hb 0 dX10_take_12 rfl ?_
  refine z_lconst hx hb 1 dX10_take_13 rfl ?_
  refine z_cSi (As := [vL w, vL 0, vL 1]) (rest := []) ⟨hx, hb, hml, hown, hts⟩ hK hP hD hS hA [] [0, 1] rfl rfl rfl (c_X10_in l g w 0 1 (by first | decide | omega) (by first | decide | omega) (by first | decide | omega)) (va_cwS 3 hts gX10_take_X10_in rfl rfl rfl (by decide +kernel) ⟨Nat.le_of_ble_eq_true rfl, Nat.le_of_ble_eq_true rfl⟩) (fun _ _ _ _ _ _ => trivial) (fun _ _ _ => trivial) rfl hl.1 (Nat.le_of_ble_eq_true rfl) rfl dX10_take_14 ⟨Nat.le_of_ble_eq_true rfl, Nat.le_of_ble_eq_true rfl⟩ (fun u_4 H locs hwu_4 hP hD hS => ?_)
  try dsimp only at hwu_4
  have hP : zP g [[mdl q a x], [((a 7), .inl (g.2 0, 3, .inl (aI z)))]] H := hP
  have hD : zD A [[mdl q a x], [((a 7), .inl (g.2 0, 3, .inl (aI z)))]] := hD
  refine z_toI (inI w 0 1) rfl ?_
  have hf_5 := inI_s w 0 1
  refine z_if_ne (tgt := 23) hx hb (by omega) dX10_take_17 (by decide) (fun cq6 => ?_) (fun cq6 => False.elim (by omega))
  refine lv_aload_n hx hb dX10_take_23 rfl (lv_at hl 0 rfl) ?_
  refine z_get hx hb hts hin10_ hown hK hP 0 rfl rfl 11 (by decide) (hts _ (List.mem_of_getElem? (i := 3) rfl)) rfl dX10_take_24 ?_
  refine lv_iload_n hx hb dX10_take_27 rfl (lv_at hl 1 rfl) ?_
  refine z_iald hx hb hK hP 1 rfl 1 rfl (by decide) (by decide) dX10_take_28 ?_
  refine z_iconst hx hb dX10_take_29 rfl ?_
  refine z_icmp_ge (tgt := 52) hx hb (by omega) (by decide) dX10_take_30 (by decide) (fun cq7 => False.elim (by omega)) (fun cq7 => ?_)
  refine lv_aload_n hx hb dX10_take_33 rfl (lv_at hl 0 rfl) ?_
  refine z_get hx hb hts hin10_ hown hK hP 0 rfl rfl 11 (by decide) (hts _ (List.mem_of_getElem? (i := 3) rfl)) rfl dX10_take_34 ?_
  refine lv_iload_n hx hb dX10_take_37 rfl (lv_at hl 1 rfl) ?_
  refine z_iald hx hb hK hP 1 rfl 1 rfl (by decide) (by decide) dX10_take_38 ?_
  refine z_if_ge (tgt := 48) hx hb (by omega) dX10_take_39 (by decide) (fun cq8 => False.elim (by omega)) (fun cq8 => ?_)
  refine z_ldcw hx hb (-2000000011) hown (hts _ (List.mem_of_getElem? (i := 4) rfl)) rfl dX10_take_42 ?_
  refine lv_goto (tgt := 51) hx hb dX10_take_45 (by decide) ?_
  exact z_reti () [0, 1] hx hb hr rfl hlocks hK hP hD hS (rfl) trivial rfl rfl (rfl) (Nat.le_of_ble_eq_true rfl) (Nat.le_of_ble_eq_true rfl) dX10_take_51

set_option maxHeartbeats 4000000 in
set_option maxRecDepth 100000 in
theorem c_X10_take1_empty (l : Launch) (g : zG) (q : Nat) (a : Nat → Nat) (x : Nat → Int) (z : Nat → Int) (w : Int) (hw : -2147483648 ≤ w ∧ w < 2147483648) (ho : 0 ≤ w ∧ w ≤ 1) (hz0 : z 1 = 0) : zMet l g yX10_take wsX10_take 2 0 0 [.ref q, vI 1, vI w] zX0 [[mdl q a x], [((a 7), .inl (g.2 0, 3, .inl (aI z)))]] (qi g (fun (_ : Unit) => (-2000000012)) (fun (_ : Unit) => True) (fun (_ : Unit) => [[mdl q a x], [((a 7), .inl (g.2 0, 3, .inl (aI z)))]])) := by
  refine z_ent (cc := cX10_take) (maxL := 6) (ret := (some .int)) (by decide) rfl (Nat.le_of_ble_eq_true rfl) ?_
  intro p e s m below meth c A ls hx hb hr hml hown hts hlocks hin0 hA hK hP hD hS hXX hl
  have hown : s.vm.findClass RX10 = some m.cls := hown
  have hin10_ : ∀ w ∈ wsX100, w ∈ wsX10_take := zw_in [18, 19, 20, 21, 22, 23, 24, 25, 26, 27, 28, 29, 30, 31, 32, 33, 34, 35, 36, 37, 38, 39, 40, 41, 42, 43] rfl
  have hl : lv_has ls 6 [(0, .ref q), (1, vI 1), (2, vI w)] := hl
  refine lv_iload_n hx hb dX10_take_0 rfl (lv_at hl 1 rfl) ?_
  refine z_cSi (As := [vI 1]) (rest := []) ⟨hx, hb, hml, hown, hts⟩ hK hP hD hS hA [] [0, 1] rfl rfl rfl (c_X10_isStore l g 1 (by first | decide | omega)) (va_cwS 1 hts gX10_take_X10_isStore rfl rfl rfl (by decide +kernel) ⟨Nat.le_of_ble_eq_true rfl, Nat.le_of_ble_eq_true rfl⟩) (fun _ _ _ _ _ _ => trivial) (fun _ _ _ => trivial) rfl hl.1 (Nat.le_of_ble_eq_true rfl) rfl dX10_take_1 ⟨Nat.le_of_ble_eq_true rfl, Nat.le_of_ble_eq_true rfl⟩ (fun u_1 H locs hwu_1 hP hD hS => ?_)
  try dsimp only at hwu_1
  have hP : zP g [[mdl q a x], [((a 7), .inl (g.2 0, 3, .inl (aI z)))]] H := hP
  have hD : zD A [[mdl q a x], [((a 7), .inl (g.2 0, 3, .inl (aI z)))]] := hD
  refine z_toI (inI 1 0 2) rfl ?_
  have hf_2 := inI_s 1 0 2
  refine z_if_ne (tgt := 10) hx hb (by omega) dX10_take_4 (by decide) (fun cq3 => ?_) (fun cq3 => False.elim (by omega))
  refine lv_iload_n hx hb dX10_take_10 rfl (lv_at hl 2 rfl) ?_
  refine z_i2l hx hb (by omega) dX10_take_11 ?_
  refine z_lconst hx hb 0 dX10_take_12 rfl ?_
  refine z_lconst hx hb 1 dX10_take_13 rfl ?_
  refine z_cSi (As := [vL w, vL 0, vL 1]) (rest := []) ⟨hx, hb, hml, hown, hts⟩ hK hP hD hS hA [] [0, 1] rfl rfl rfl (c_X10_in l g w 0 1 (by first | decide | omega) (by first | decide | omega) (by first | decide | omega)) (va_cwS 3 hts gX10_take_X10_in rfl rfl rfl (by decide +kernel) ⟨Nat.le_of_ble_eq_true rfl, Nat.le_of_ble_eq_true rfl⟩) (fun _ _ _ _ _ _ => trivial) (fun _ _ _ => trivial) rfl hl.1 (Nat.le_of_ble_eq_true rfl) rfl dX10_take_14 ⟨Nat.le_of_ble_eq_true rfl, Nat.le_of_ble_eq_true rfl⟩ (fun u_4 H locs hwu_4 hP hD hS => ?_)
  try dsimp only at hwu_4
  have hP : zP g [[mdl q a x], [((a 7), .inl (g.2 0, 3, .inl (aI z)))]] H := hP
  have hD : zD A [[mdl q a x], [((a 7), .inl (g.2 0, 3, .inl (aI z)))]] := hD
  refine z_toI (inI w 0 1) rfl ?_
  have hf_5 := inI_s w 0 1
  refine z_if_ne (tgt := 23) hx hb (by omega) dX10_take_17 (by decide) (fun cq6 => ?_) (fun cq6 => False.elim (by omega))
  refine lv_aload_n hx hb dX10_take_23 rfl (lv_at hl 0 rfl) ?_
  refine z_get hx hb hts hin10_ hown hK hP 0 rfl rfl 11 (by decide) (hts _ (List.mem_of_getElem? (i := 3) rfl)) rfl dX10_take_24 ?_
  refine lv_iload_n hx hb dX10_take_27 rfl (lv_at hl 1 rfl) ?_
  refine z_iald hx hb hK hP 1 rfl 1 rfl (by decide) (by decide) dX10_take_28 ?_
  refine z_iconst hx hb dX10_take_29 rfl ?_
  refine z_icmp_ge (tgt := 52) hx hb (by omega) (by decide) dX10_take_30 (by decide) (fun cq7 => False.elim (by omega)) (fun cq7 => ?_)
  refine lv_aload_n hx hb dX10_take_33 rfl (lv_at hl 0 rfl) ?_
  refine z_get hx hb hts hin10_ hown hK hP 0 rfl rfl 11 (by decide) (hts _ (List.mem_of_getElem? (i := 3) rfl)) rfl dX10_take_34 ?_
  refine lv_iload_n hx hb dX10_take_37 rfl (lv_at hl 1 rfl) ?_
  refine z_iald hx hb hK hP 1 rfl 1 rfl (by decide) (by decide) dX10_take_38 ?_
  refine z_if_ge (tgt := 48) hx hb (by omega) dX10_take_39 (by decide) (fun cq8 => ?_) (fun cq8 => False.elim (by omega))
  refine z_ldcw hx hb (-2000000012) hown (hts _ (List.mem_of_getElem? (i := 5) rfl)) rfl dX10_take_48 ?_
  exact z_reti () [0, 1] hx hb hr rfl hlocks hK hP hD hS (rfl) trivial rfl rfl (rfl) (Nat.le_of_ble_eq_true rfl) (Nat.le_of_ble_eq_true rfl) dX10_take_51

set_option maxHeartbeats 4000000 in
set_option maxRecDepth 100000 in
theorem c_X10_take1_cast (l : Launch) (g : zG) (q : Nat) (a : Nat → Nat) (x : Nat → Int) (z : Nat → Int) (kd : Nat → Int) (fa : Nat → Int) (fb : Nat → Int) (n : Nat) (w : Int) (hw : -2147483648 ≤ w ∧ w < 2147483648) (ho : 0 ≤ w ∧ w ≤ 1) (hkb : ∀ i, 0 ≤ kd i ∧ kd i ≤ 1) (hz0 : z 1 = (n : Int)) (hn : 1 ≤ n ∧ n ≤ 8) (hc : kd (8 + (n - 1)) ≠ w) : zMet l g yX10_take wsX10_take 2 0 0 [.ref q, vI 1, vI w] zX0 [[mdl q a x], [((a 7), .inl (g.2 0, 3, .inl (aI z)))], [((a 8), .inl (g.2 0, 24, .inl (aI kd)))], [((a 9), .inl (g.2 0, 24, .inl (aI fa)))], [((a 10), .inl (g.2 0, 24, .inl (aI fb)))]] (qi g (fun (_ : Unit) => (-2000000013)) (fun (_ : Unit) => True) (fun (_ : Unit) => [[mdl q a x], [((a 7), .inl (g.2 0, 3, .inl (aI z)))], [((a 8), .inl (g.2 0, 24, .inl (aI kd)))], [((a 9), .inl (g.2 0, 24, .inl (aI fa)))], [((a 10), .inl (g.2 0, 24, .inl (aI fb)))]])) := by
  have hk9 := hkb (8 + (n - 1))
  refine z_ent (cc := cX10_take) (maxL := 6) (ret := (some .int)) (by decide) rfl (Nat.le_of_ble_eq_true rfl) ?_
  intro p e s m below meth c A ls hx hb hr hml hown hts hlocks hin0 hA hK hP hD hS hXX hl
  have hown : s.vm.findClass RX10 = some m.cls := hown
  have hin10_ : ∀ w ∈ wsX100, w ∈ wsX10_take := zw_in [18, 19, 20, 21, 22, 23, 24, 25, 26, 27, 28, 29, 30, 31, 32, 33, 34, 35, 36, 37, 38, 39, 40, 41, 42, 43] rfl
  have hl : lv_has ls 6 [(0, .ref q), (1, vI 1), (2, vI w)] := hl
  refine lv_iload_n hx hb dX10_take_0 rfl (lv_at hl 1 rfl) ?_
  refine z_cSi (As := [vI 1]) (rest := []) ⟨hx, hb, hml, hown, hts⟩ hK hP hD hS hA [] [0, 1, 2, 3, 4] rfl rfl rfl (c_X10_isStore l g 1 (by first | decide | omega)) (va_cwS 1 hts gX10_take_X10_isStore rfl rfl rfl (by decide +kernel) ⟨Nat.le_of_ble_eq_true rfl, Nat.le_of_ble_eq_true rfl⟩) (fun _ _ _ _ _ _ => trivial) (fun _ _ _ => trivial) rfl hl.1 (Nat.le_of_ble_eq_true rfl) rfl dX10_take_1 ⟨Nat.le_of_ble_eq_true rfl, Nat.le_of_ble_eq_true rfl⟩ (fun u_1 H locs hwu_1 hP hD hS => ?_)
  try dsimp only at hwu_1
  have hP : zP g [[mdl q a x], [((a 7), .inl (g.2 0, 3, .inl (aI z)))], [((a 8), .inl (g.2 0, 24, .inl (aI kd)))], [((a 9), .inl (g.2 0, 24, .inl (aI fa)))], [((a 10), .inl (g.2 0, 24, .inl (aI fb)))]] H := hP
  have hD : zD A [[mdl q a x], [((a 7), .inl (g.2 0, 3, .inl (aI z)))], [((a 8), .inl (g.2 0, 24, .inl (aI kd)))], [((a 9), .inl (g.2 0, 24, .inl (aI fa)))], [((a 10), .inl (g.2 0, 24, .inl (aI fb)))]] := hD
  refine z_toI (inI 1 0 2) rfl ?_
  have hf_2 := inI_s 1 0 2
  refine z_if_ne (tgt := 10) hx hb (by omega) dX10_take_4 (by decide) (fun cq3 => ?_) (fun cq3 => False.elim (by omega))
  refine lv_iload_n hx hb dX10_take_10 rfl (lv_at hl 2 rfl) ?_
  refine z_i2l hx hb (by omega) dX10_take_11 ?_
  refine z_lconst hx hb 0 dX10_take_12 rfl ?_
  refine z_lconst hx hb 1 dX10_take_13 rfl ?_
  refine z_cSi (As := [vL w, vL 0, vL 1]) (rest := []) ⟨hx, hb, hml, hown, hts⟩ hK hP hD hS hA [] [0, 1, 2, 3, 4] rfl rfl rfl (c_X10_in l g w 0 1 (by first | decide | omega) (by first | decide | omega) (by first | decide | omega)) (va_cwS 3 hts gX10_take_X10_in rfl rfl rfl (by decide +kernel) ⟨Nat.le_of_ble_eq_true rfl, Nat.le_of_ble_eq_true rfl⟩) (fun _ _ _ _ _ _ => trivial) (fun _ _ _ => trivial) rfl hl.1 (Nat.le_of_ble_eq_true rfl) rfl dX10_take_14 ⟨Nat.le_of_ble_eq_true rfl, Nat.le_of_ble_eq_true rfl⟩ (fun u_4 H locs hwu_4 hP hD hS => ?_)
  try dsimp only at hwu_4
  have hP : zP g [[mdl q a x], [((a 7), .inl (g.2 0, 3, .inl (aI z)))], [((a 8), .inl (g.2 0, 24, .inl (aI kd)))], [((a 9), .inl (g.2 0, 24, .inl (aI fa)))], [((a 10), .inl (g.2 0, 24, .inl (aI fb)))]] H := hP
  have hD : zD A [[mdl q a x], [((a 7), .inl (g.2 0, 3, .inl (aI z)))], [((a 8), .inl (g.2 0, 24, .inl (aI kd)))], [((a 9), .inl (g.2 0, 24, .inl (aI fa)))], [((a 10), .inl (g.2 0, 24, .inl (aI fb)))]] := hD
  refine z_toI (inI w 0 1) rfl ?_
  have hf_5 := inI_s w 0 1
  refine z_if_ne (tgt := 23) hx hb (by omega) dX10_take_17 (by decide) (fun cq6 => ?_) (fun cq6 => False.elim (by omega))
  refine lv_aload_n hx hb dX10_take_23 rfl (lv_at hl 0 rfl) ?_
  refine z_get hx hb hts hin10_ hown hK hP 0 rfl rfl 11 (by decide) (hts _ (List.mem_of_getElem? (i := 3) rfl)) rfl dX10_take_24 ?_
  refine lv_iload_n hx hb dX10_take_27 rfl (lv_at hl 1 rfl) ?_
  refine z_iald hx hb hK hP 1 rfl 1 rfl (by decide) (by decide) dX10_take_28 ?_
  refine z_iconst hx hb dX10_take_29 rfl ?_
  refine z_icmp_ge (tgt := 52) hx hb (by omega) (by decide) dX10_take_30 (by decide) (fun cq7 => ?_) (fun cq7 => False.elim (by omega))
  refine z_bipush hx hb 8 dX10_take_52 rfl ?_
  refine lv_iload_n hx hb dX10_take_54 rfl (lv_at hl 1 rfl) ?_
  refine z_imul hx hb 8 rfl dX10_take_55 ?_
  refine lv_aload_n hx hb dX10_take_56 rfl (lv_at hl 0 rfl) ?_
  refine z_get hx hb hts hin10_ hown hK hP 0 rfl rfl 11 (by decide) (hts _ (List.mem_of_getElem? (i := 3) rfl)) rfl dX10_take_57 ?_
  refine lv_iload_n hx hb dX10_take_60 rfl (lv_at hl 1 rfl) ?_
  refine z_iald hx hb hK hP 1 rfl 1 rfl (by decide) (by decide) dX10_take_61 ?_
  refine z_iadd hx hb (8 + (z 1)) rfl dX10_take_62 ?_
  refine z_iconst hx hb dX10_take_63 rfl ?_
  refine z_isub hx hb ((8 + (z 1)) - 1) rfl dX10_take_64 ?_
  refine z_toI (((8 + (n - 1)) : Nat) : Int) (by omega) ?_
  refine lv_istore_n (lv' := [(3, vI (((8 + (n - 1)) : Nat) : Int)), (0, .ref q), (1, vI 1), (2, vI w)]) hx hb dX10_take_65 rfl hl (by decide) rfl (fun ls hl => ?_)
  refine lv_aload_n hx hb dX10_take_66 rfl (lv_at hl 1 rfl) ?_
  refine z_get hx hb hts hin10_ hown hK hP 0 rfl rfl 12 (by decide) (hts _ (List.mem_of_getElem? (i := 6) rfl)) rfl dX10_take_67 ?_
  refine lv_iload_n hx hb dX10_take_70 rfl (lv_at hl 0 rfl) ?_
  refine z_iald hx hb hK hP 2 rfl (8 + (n - 1)) (by omega) (by omega) (by decide) dX10_take_71 ?_
  refine lv_iload_n hx hb dX10_take_72 rfl (lv_at hl 3 rfl) ?_
  refine z_icmp_eq (tgt := 80) hx hb (by omega) (by omega) dX10_take_73 (by decide) (fun cq8 => False.elim (by omega)) (fun cq8 => ?_)
  refine z_ldcw hx hb (-2000000013) hown (hts _ (List.mem_of_getElem? (i := 7) rfl)) rfl dX10_take_76 ?_
  exact z_reti () [0, 1, 2, 3, 4] hx hb hr rfl hlocks hK hP hD hS (by first | rfl | rw [if_pos (by omega)] | rw [if_neg (by omega)]) trivial rfl rfl (rfl) (Nat.le_of_ble_eq_true rfl) (Nat.le_of_ble_eq_true rfl) dX10_take_79

set_option maxHeartbeats 4000000 in
set_option maxRecDepth 100000 in
theorem c_X10_take1_ok (l : Launch) (g : zG) (q : Nat) (a : Nat → Nat) (x : Nat → Int) (z : Nat → Int) (kd : Nat → Int) (fa : Nat → Int) (fb : Nat → Int) (n : Nat) (w : Int) (hw : -2147483648 ≤ w ∧ w < 2147483648) (ho : 0 ≤ w ∧ w ≤ 1) (hkb : ∀ i, 0 ≤ kd i ∧ kd i ≤ 1) (hz0 : z 1 = (n : Int)) (hn : 1 ≤ n ∧ n ≤ 8) (hc : kd (8 + (n - 1)) = w) : zMet l g yX10_take wsX10_take 2 0 0 [.ref q, vI 1, vI w] zX0 [[mdl q a x], [((a 7), .inl (g.2 0, 3, .inl (aI z)))], [((a 8), .inl (g.2 0, 24, .inl (aI kd)))], [((a 9), .inl (g.2 0, 24, .inl (aI fa)))], [((a 10), .inl (g.2 0, 24, .inl (aI fb)))]] (qi g (fun (_ : Unit) => (if w = 0 then fa (8 + (n - 1)) else fa (8 + (n - 1)) * fa (8 + (n - 1)) - fa (8 + (n - 1)) * fb (8 + (n - 1)) + fb (8 + (n - 1)) * fb (8 + (n - 1)))) (fun (_ : Unit) => True) (fun (_ : Unit) => [[mdl q a x], [((a 7), .inl (g.2 0, 3, .inl (aI (uI z 1 (((n - 1) : Nat) : Int)))))], [((a 8), .inl (g.2 0, 24, .inl (aI kd)))], [((a 9), .inl (g.2 0, 24, .inl (aI fa)))], [((a 10), .inl (g.2 0, 24, .inl (aI fb)))]])) := by
  have hk9 := hkb (8 + (n - 1))
  refine z_ent (cc := cX10_take) (maxL := 6) (ret := (some .int)) (by decide) rfl (Nat.le_of_ble_eq_true rfl) ?_
  intro p e s m below meth c A ls hx hb hr hml hown hts hlocks hin0 hA hK hP hD hS hXX hl
  have hown : s.vm.findClass RX10 = some m.cls := hown
  have hin10_ : ∀ w ∈ wsX100, w ∈ wsX10_take := zw_in [18, 19, 20, 21, 22, 23, 24, 25, 26, 27, 28, 29, 30, 31, 32, 33, 34, 35, 36, 37, 38, 39, 40, 41, 42, 43] rfl
  have hl : lv_has ls 6 [(0, .ref q), (1, vI 1), (2, vI w)] := hl
  refine lv_iload_n hx hb dX10_take_0 rfl (lv_at hl 1 rfl) ?_
  refine z_cSi (As := [vI 1]) (rest := []) ⟨hx, hb, hml, hown, hts⟩ hK hP hD hS hA [] [0, 1, 2, 3, 4] rfl rfl rfl (c_X10_isStore l g 1 (by first | decide | omega)) (va_cwS 1 hts gX10_take_X10_isStore rfl rfl rfl (by decide +kernel) ⟨Nat.le_of_ble_eq_true rfl, Nat.le_of_ble_eq_true rfl⟩) (fun _ _ _ _ _ _ => trivial) (fun _ _ _ => trivial) rfl hl.1 (Nat.le_of_ble_eq_true rfl) rfl dX10_take_1 ⟨Nat.le_of_ble_eq_true rfl, Nat.le_of_ble_eq_true rfl⟩ (fun u_1 H locs hwu_1 hP hD hS => ?_)
  try dsimp only at hwu_1
  have hP : zP g [[mdl q a x], [((a 7), .inl (g.2 0, 3, .inl (aI z)))], [((a 8), .inl (g.2 0, 24, .inl (aI kd)))], [((a 9), .inl (g.2 0, 24, .inl (aI fa)))], [((a 10), .inl (g.2 0, 24, .inl (aI fb)))]] H := hP
  have hD : zD A [[mdl q a x], [((a 7), .inl (g.2 0, 3, .inl (aI z)))], [((a 8), .inl (g.2 0, 24, .inl (aI kd)))], [((a 9), .inl (g.2 0, 24, .inl (aI fa)))], [((a 10), .inl (g.2 0, 24, .inl (aI fb)))]] := hD
  refine z_toI (inI 1 0 2) rfl ?_
  have hf_2 := inI_s 1 0 2
  refine z_if_ne (tgt := 10) hx hb (by omega) dX10_take_4 (by decide) (fun cq3 => ?_) (fun cq3 => False.elim (by omega))
  refine lv_iload_n hx hb dX10_take_10 rfl (lv_at hl 2 rfl) ?_
  refine z_i2l hx hb (by omega) dX10_take_11 ?_
  refine z_lconst hx hb 0 dX10_take_12 rfl ?_
  refine z_lconst hx hb 1 dX10_take_13 rfl ?_
  refine z_cSi (As := [vL w, vL 0, vL 1]) (rest := []) ⟨hx, hb, hml, hown, hts⟩ hK hP hD hS hA [] [0, 1, 2, 3, 4] rfl rfl rfl (c_X10_in l g w 0 1 (by first | decide | omega) (by first | decide | omega) (by first | decide | omega)) (va_cwS 3 hts gX10_take_X10_in rfl rfl rfl (by decide +kernel) ⟨Nat.le_of_ble_eq_true rfl, Nat.le_of_ble_eq_true rfl⟩) (fun _ _ _ _ _ _ => trivial) (fun _ _ _ => trivial) rfl hl.1 (Nat.le_of_ble_eq_true rfl) rfl dX10_take_14 ⟨Nat.le_of_ble_eq_true rfl, Nat.le_of_ble_eq_true rfl⟩ (fun u_4 H locs hwu_4 hP hD hS => ?_)
  try dsimp only at hwu_4
  have hP : zP g [[mdl q a x], [((a 7), .inl (g.2 0, 3, .inl (aI z)))], [((a 8), .inl (g.2 0, 24, .inl (aI kd)))], [((a 9), .inl (g.2 0, 24, .inl (aI fa)))], [((a 10), .inl (g.2 0, 24, .inl (aI fb)))]] H := hP
  have hD : zD A [[mdl q a x], [((a 7), .inl (g.2 0, 3, .inl (aI z)))], [((a 8), .inl (g.2 0, 24, .inl (aI kd)))], [((a 9), .inl (g.2 0, 24, .inl (aI fa)))], [((a 10), .inl (g.2 0, 24, .inl (aI fb)))]] := hD
  refine z_toI (inI w 0 1) rfl ?_
  have hf_5 := inI_s w 0 1
  refine z_if_ne (tgt := 23) hx hb (by omega) dX10_take_17 (by decide) (fun cq6 => ?_) (fun cq6 => False.elim (by omega))
  refine lv_aload_n hx hb dX10_take_23 rfl (lv_at hl 0 rfl) ?_
  refine z_get hx hb hts hin10_ hown hK hP 0 rfl rfl 11 (by decide) (hts _ (List.mem_of_getElem? (i := 3) rfl)) rfl dX10_take_24 ?_
  refine lv_iload_n hx hb dX10_take_27 rfl (lv_at hl 1 rfl) ?_
  refine z_iald hx hb hK hP 1 rfl 1 rfl (by decide) (by decide) dX10_take_28 ?_
  refine z_iconst hx hb dX10_take_29 rfl ?_
  refine z_icmp_ge (tgt := 52) hx hb (by omega) (by decide) dX10_take_30 (by decide) (fun cq7 => ?_) (fun cq7 => False.elim (by omega))
  refine z_bipush hx hb 8 dX10_take_52 rfl ?_
  refine lv_iload_n hx hb dX10_take_54 rfl (lv_at hl 1 rfl) ?_
  refine z_imul hx hb 8 rfl dX10_take_55 ?_
  refine lv_aload_n hx hb dX10_take_56 rfl (lv_at hl 0 rfl) ?_
  refine z_get hx hb hts hin10_ hown hK hP 0 rfl rfl 11 (by decide) (hts _ (List.mem_of_getElem? (i := 3) rfl)) rfl dX10_take_57 ?_
  refine lv_iload_n hx hb dX10_take_60 rfl (lv_at hl 1 rfl) ?_
  refine z_iald hx hb hK hP 1 rfl 1 rfl (by decide) (by decide) dX10_take_61 ?_
  refine z_iadd hx hb (8 + (z 1)) rfl dX10_take_62 ?_
  refine z_iconst hx hb dX10_take_63 rfl ?_
  refine z_isub hx hb ((8 + (z 1)) - 1) rfl dX10_take_64 ?_
  refine z_toI (((8 + (n - 1)) : Nat) : Int) (by omega) ?_
  refine lv_istore_n (lv' := [(3, vI (((8 + (n - 1)) : Nat) : Int)), (0, .ref q), (1, vI 1), (2, vI w)]) hx hb dX10_take_65 rfl hl (by decide) rfl (fun ls hl => ?_)
  refine lv_aload_n hx hb dX10_take_66 rfl (lv_at hl 1 rfl) ?_
  refine z_get hx hb hts hin10_ hown hK hP 0 rfl rfl 12 (by decide) (hts _ (List.mem_of_getElem? (i := 6) rfl)) rfl dX10_take_67 ?_
  refine lv_iload_n hx hb dX10_take_70 rfl (lv_at hl 0 rfl) ?_
  refine z_iald hx hb hK hP 2 rfl (8 + (n - 1)) (by omega) (by omega) (by decide) dX10_take_71 ?_
  refine lv_iload_n hx hb dX10_take_72 rfl (lv_at hl 3 rfl) ?_
  refine z_icmp_eq (tgt := 80) hx hb (by omega) (by omega) dX10_take_73 (by decide) (fun cq8 => ?_) (fun cq8 => False.elim (by omega))
  refine lv_aload_n hx hb dX10_take_80 rfl (lv_at hl 1 rfl) ?_
  refine z_get hx hb hts hin10_ hown hK hP 0 rfl rfl 11 (by decide) (hts _ (List.mem_of_getElem? (i := 3) rfl)) rfl dX10_take_81 ?_
  refine lv_iload_n hx hb dX10_take_84 rfl (lv_at hl 2 rfl) ?_
  refine lv_dup2_11 hx hb dX10_take_85 rfl rfl ?_
  refine z_iald hx hb hK hP 1 rfl 1 rfl (by decide) (by decide) dX10_take_86 ?_
  refine z_iconst hx hb dX10_take_87 rfl ?_
  refine z_isub hx hb ((z 1) - 1) rfl dX10_take_88 ?_
  refine z_toI (((n - 1) : Nat) : Int) (by omega) ?_
  refine z_iast hx hb hK hP 1 hD hS rfl 1 rfl (by decide) (by decide) dX10_take_89 [[mdl q a x], [((a 7), .inl (g.2 0, 3, .inl (aI (uI z 1 (((n - 1) : Nat) : Int)))))], [((a 8), .inl (g.2 0, 24, .inl (aI kd)))], [((a 9), .inl (g.2 0, 24, .inl (aI fa)))], [((a 10), .inl (g.2 0, 24, .inl (aI fb)))]] rfl (fun H locs hP hD hS => ?_)
  refine lv_aload_n hx hb dX10_take_90 rfl (lv_at hl 1 rfl) ?_
  refine z_get hx hb hts hin10_ hown hK hP 0 rfl rfl 13 (by decide) (hts _ (List.mem_of_getElem? (i := 8) rfl)) rfl dX10_take_91 ?_
  refine lv_iload_n hx hb dX10_take_94 rfl (lv_at hl 0 rfl) ?_
  refine z_iald hx hb hK hP 3 rfl (8 + (n - 1)) (by omega) (by omega) (by decide) dX10_take_95 ?_
  refine lv_istore (lv' := [(4, vI (fa (8 + (n - 1)))), (3, vI (((8 + (n - 1)) : Nat) : Int)), (0, .ref q), (1, vI 1), (2, vI w)]) hx hb dX10_take_96 hl (by decide) rfl (fun ls hl => ?_)
  refine lv_aload_n hx hb dX10_take_98 rfl (lv_at hl 2 rfl) ?_
  refine z_get hx hb hts hin10_ hown hK hP 0 rfl rfl 14 (by decide) (hts _ (List.mem_of_getElem? (i := 9) rfl)) rfl dX10_take_99 ?_
  refine lv_iload_n hx hb dX10_take_102 rfl (lv_at hl 1 rfl) ?_
  refine z_iald hx hb hK hP 4 rfl (8 + (n - 1)) (by omega) (by omega) (by decide) dX10_take_103 ?_
  refine lv_istore (lv' := [(5, vI (fb (8 + (n - 1)))), (4, vI (fa (8 + (n - 1)))), (3, vI (((8 + (n - 1)) : Nat) : Int)), (0, .ref q), (1, vI 1), (2, vI w)]) hx hb dX10_take_104 hl (by decide) rfl (fun ls hl => ?_)
  refine lv_iload_n hx hb dX10_take_106 rfl (lv_at hl 5 rfl) ?_
  refine z_if_ne (tgt := 115) hx hb (by omega) dX10_take_107 (by decide) (fun cq9 => ?_) (fun cq9 => ?_)
  · refine lv_iload hx hb dX10_take_115 (lv_at hl 1 rfl) ?_
    refine lv_iload hx hb dX10_take_117 (lv_at hl 1 rfl) ?_
    refine z_imul hx hb ((fa (8 + (n - 1))) * (fa (8 + (n - 1)))) rfl dX10_take_119 ?_
    refine lv_iload hx hb dX10_take_120 (lv_at hl 1 rfl) ?_
    refine lv_iload hx hb dX10_take_122 (lv_at hl 0 rfl) ?_
    refine z_imul hx hb ((fa (8 + (n - 1))) * (fb (8 + (n - 1)))) rfl dX10_take_124 ?_
    refine z_isub hx hb (((fa (8 + (n - 1))) * (fa (8 + (n - 1)))) - ((fa (8 + (n - 1))) * (fb (8 + (n - 1))))) rfl dX10_take_125 ?_
    refine lv_iload hx hb dX10_take_126 (lv_at hl 0 rfl) ?_
    refine lv_iload hx hb dX10_take_128 (lv_at hl 0 rfl) ?_
    refine z_imul hx hb ((fb (8 + (n - 1))) * (fb (8 + (n - 1)))) rfl dX10_take_130 ?_
    refine z_iadd hx hb ((((fa (8 + (n - 1))) * (fa (8 + (n - 1)))) - ((fa (8 + (n - 1))) * (fb (8 + (n - 1))))) + ((fb (8 + (n - 1))) * (fb (8 + (n - 1))))) rfl dX10_take_131 ?_
    exact z_reti () [0, 1, 2, 3, 4] hx hb hr rfl hlocks hK hP hD hS (by first | rfl | rw [if_pos (by omega)] | rw [if_neg (by omega)]) trivial rfl rfl (rfl) (Nat.le_of_ble_eq_true rfl) (Nat.le_of_ble_eq_true rfl) dX10_take_132
  · refine lv_iload hx hb dX10_take_110 (lv_at hl 1 rfl) ?_
    refine lv_goto (tgt := 132) hx hb dX10_take_112 (by decide) ?_
    exact z_reti () [0, 1, 2, 3, 4] hx hb hr rfl hlocks hK hP hD hS (by first | rfl | rw [if_pos (by omega)] | rw [if_neg (by omega)]) trivial rfl rfl (rfl) (Nat.le_of_ble_eq_true rfl) (Nat.le_of_ble_eq_true rfl) dX10_take_132

set_option maxHeartbeats 4000000 in
set_option maxRecDepth 100000 in
theorem c_X10_put2_null (l : Launch) (g : zG) (q : Nat) (a : Nat → Nat) (x : Nat → Int) (z : Nat → Int) (w : Int) (b0 : Int) (b1 : Int) (hw : -2147483648 ≤ w ∧ w < 2147483648) (ha : -2147483648 ≤ b0 ∧ b0 < 2147483648) (hb_ : -2147483648 ≤ b1 ∧ b1 < 2147483648) (ho : (0 ≤ w ∧ w ≤ 1) ∧ (-9999 ≤ b0 ∧ b0 ≤ 9999) ∧ (-9999 ≤ b1 ∧ b1 ≤ 9999)) (hz0 : z 2 = -1) : zMet l g yX10_put wsX10_put 2 0 0 [.ref q, vI 2, vI w, vI b0, vI b1] zX0 [[mdl q a x], [((a 7), .inl (g.2 0, 3, .inl (aI z)))]] (qi g (fun (_ : Unit) => (-2000000011)) (fun (_ : Unit) => True) (fun (_ : Unit) => [[mdl q a x], [((a 7), .inl (g.2 0, 3, .inl (aI z)))]])) := by
  refine z_ent (cc := cX10_put) (maxL := 6) (ret := (some .int)) (by decide) rfl (Nat.le_of_ble_eq_true rfl) ?_
  intro p e s m below meth c A ls hx hb hr hml hown hts hlocks hin0 hA hK hP hD hS hXX hl
  have hown : s.vm.findClass RX10 = some m.cls := hown
  have hin10_ : ∀ w ∈ wsX100, w ∈ wsX10_put := zw_in [19, 20, 21, 22, 23, 24, 25, 26, 27, 28, 29, 30, 31, 32, 33, 34, 35, 36, 37, 38, 39, 40, 41, 42, 43, 44] rfl
  have hl : lv_has ls 6 [(0, .ref q), (1, vI 2), (2, vI w), (3, vI b0), (4, vI b1)] := hl
  refine lv_iload_n hx hb dX10_put_0 rfl (lv_at hl 1 rfl) ?_
  refine z_cSi (As := [vI 2]) (rest := []) ⟨hx, hb, hml, hown, hts⟩ hK hP hD hS hA [] [0, 1] rfl rfl rfl (c_X10_isStore l g 2 (by first | decide | omega)) (va_cwS 1 hts gX10_put_X10_isStore rfl rfl rfl (by decide +kernel) ⟨Nat.le_of_ble_eq_true rfl, Nat.le_of_ble_eq_true rfl⟩) (fun _ _ _ _ _ _ => trivial) (fun _ _ _ => trivial) rfl hl.1 (Nat.le_of_ble_eq_true rfl) rfl dX10_put_1 ⟨Nat.le_of_ble_eq_true rfl, Nat.le_of_ble_eq_true rfl⟩ (fun u_1 H locs hwu_1 hP hD hS => ?_)
  try dsimp only at hwu_1
  have hP : zP g [[mdl q a x], [((a 7), .inl (g.2 0, 3, .inl (aI z)))]] H := hP
  have hD : zD A [[mdl q a x], [((a 7), .inl (g.2 0, 3, .inl (aI z)))]] := hD
  refine z_toI (inI 2 0 2) rfl ?_
  have hf_2 := inI_s 2 0 2
  refine z_if_ne (tgt := 10) hx hb (by omega) dX10_put_4 (by decide) (fun cq3 => ?_) (fun cq3 => False.elim (by omega))
  refine lv_iload_n hx hb dX10_put_10 rfl (lv_at hl 2 rfl) ?_
  refine z_i2l hx hb (by omega) dX10_put_11 ?_
  refine z_lconst hx hb 0 dX10_put_12 rfl ?_
  refine z_lconst hx hb 1 dX10_put_13 rfl ?_
  refine z_cSi (As := [vL w, vL 0, vL 1]) (rest := []) ⟨hx, hb, hml, hown, hts⟩ hK hP hD hS hA [] [0, 1] rfl rfl rfl (c_X10_in l g w 0 1 (by first | decide | omega) (by first | decide | omega) (by first | decide | omega)) (va_cwS 3 hts gX10_put_X10_in rfl rfl rfl (by decide +kernel) ⟨Nat.le_of_ble_eq_true rfl, Nat.le_of_ble_eq_true rfl⟩) (fun _ _ _ _ _ _ => trivial) (fun _ _ _ => trivial) rfl hl.1 (Nat.le_of_ble_eq_true rfl) rfl dX10_put_14 ⟨Nat.le_of_ble_eq_true rfl, Nat.le_of_ble_eq_true rfl⟩ (fun u_4 H locs hwu_4 hP hD hS => ?_)
  try dsimp only at hwu_4
  have hP : zP g [[mdl q a x], [((a 7), .inl (g.2 0, 3, .inl (aI z)))]] H := hP
  have hD : zD A [[mdl q a x], [((a 7), .inl (g.2 0, 3, .inl (aI z)))]] := hD
  refine z_toI (inI w 0 1) rfl ?_
  have hf_5 := inI_s w 0 1
  refine z_if_eq (tgt := 49) hx hb (by omega) dX10_put_17 (by decide) (fun cq6 => False.elim (by omega)) (fun cq6 => ?_)
  refine lv_iload_n hx hb dX10_put_20 rfl (lv_at hl 3 rfl) ?_
  refine z_i2l hx hb (by omega) dX10_put_21 ?_
  refine z_ldc2 hx hb (-9999) hown (hts _ (List.mem_of_getElem? (i := 2) rfl)) rfl dX10_put_22 ?_
  refine z_ldc2 hx hb 9999 hown (hts _ (List.mem_of_getElem? (i := 3) rfl)) rfl dX10_put_25 ?_
  refine z_cSi (As := [vL b0, vL (-9999), vL 9999]) (rest := []) ⟨hx, hb, hml, hown, hts⟩ hK hP hD hS hA [] [0, 1] rfl rfl rfl (c_X10_in l g b0 (-9999) 9999 (by first | decide | omega) (by first | decide | omega) (by first | decide | omega)) (va_cwS 3 hts gX10_put_X10_in rfl rfl rfl (by decide +kernel) ⟨Nat.le_of_ble_eq_true rfl, Nat.le_of_ble_eq_true rfl⟩) (fun _ _ _ _ _ _ => trivial) (fun _ _ _ => trivial) rfl hl.1 (Nat.le_of_ble_eq_true rfl) rfl dX10_put_28 ⟨Nat.le_of_ble_eq_true rfl, Nat.le_of_ble_eq_true rfl⟩ (fun u_7 H locs hwu_7 hP hD hS => ?_)
  try dsimp only at hwu_7
  have hP : zP g [[mdl q a x], [((a 7), .inl (g.2 0, 3, .inl (aI z)))]] H := hP
  have hD : zD A [[mdl q a x], [((a 7), .inl (g.2 0, 3, .inl (aI z)))]] := hD
  refine z_toI (inI b0 (-9999) 9999) rfl ?_
  have hf_8 := inI_s b0 (-9999) 9999
  refine z_if_eq (tgt := 49) hx hb (by omega) dX10_put_31 (by decide) (fun cq9 => False.elim (by omega)) (fun cq9 => ?_)
  refine lv_iload hx hb dX10_put_34 (lv_at hl 4 rfl) ?_
  refine z_i2l hx hb (by omega) dX10_put_36 ?_
  refine z_ldc2 hx hb (-9999) hown (hts _ (List.mem_of_getElem? (i := 2) rfl)) rfl dX10_put_37 ?_
  refine z_ldc2 hx hb 9999 hown (hts _ (List.mem_of_getElem? (i := 3) rfl)) rfl dX10_put_40 ?_
  refine z_cSi (As := [vL b1, vL (-9999), vL 9999]) (rest := []) ⟨hx, hb, hml, hown, hts⟩ hK hP hD hS hA [] [0, 1] rfl rfl rfl (c_X10_in l g b1 (-9999) 9999 (by first | decide | omega) (by first | decide | omega) (by first | decide | omega)) (va_cwS 3 hts gX10_put_X10_in rfl rfl rfl (by decide +kernel) ⟨Nat.le_of_ble_eq_true rfl, Nat.le_of_ble_eq_true rfl⟩) (fun _ _ _ _ _ _ => trivial) (fun _ _ _ => trivial) rfl hl.1 (Nat.le_of_ble_eq_true rfl) rfl dX10_put_43 ⟨Nat.le_of_ble_eq_true rfl, Nat.le_of_ble_eq_true rfl⟩ (fun u_10 H locs hwu_10 hP hD hS => ?_)
  try dsimp only at hwu_10
  have hP : zP g [[mdl q a x], [((a 7), .inl (g.2 0, 3, .inl (aI z)))]] H := hP
  have hD : zD A [[mdl q a x], [((a 7), .inl (g.2 0, 3, .inl (aI z)))]] := hD
  refine z_toI (inI b1 (-9999) 9999) rfl ?_
  have hf_11 := inI_s b1 (-9999) 9999
  refine z_if_ne (tgt := 52) hx hb (by omega) dX10_put_46 (by decide) (fun cq12 => ?_) (fun cq12 => False.elim (by omega))
  refine lv_aload_n hx hb dX10_put_52 rfl (lv_at hl 0 rfl) ?_
  refine z_get hx hb hts hin10_ hown hK hP 0 rfl rfl 11 (by decide) (hts _ (List.mem_of_getElem? (i := 5) rfl)) rfl dX10_put_53 ?_
  refine lv_iload_n hx hb dX10_put_56 rfl (lv_at hl 1 rfl) ?_
  refine z_iald hx hb hK hP 1 rfl 2 rfl (by decide) (by decide) dX10_put_57 ?_
  refine z_if_ge (tgt := 65) hx hb (by omega) dX10_put_58 (by decide) (fun cq13 => False.elim (by omega)) (fun cq13 => ?_)
  refine z_ldcw hx hb (-2000000011) hown (hts _ (List.mem_of_getElem? (i := 6) rfl)) rfl dX10_put_61 ?_
  exact z_reti () [0, 1] hx hb hr rfl hlocks hK hP hD hS (rfl) trivial rfl rfl (rfl) (Nat.le_of_ble_eq_true rfl) (Nat.le_of_ble_eq_true rfl) dX10_put_64

set_option maxHeartbeats 4000000 in
set_option maxRecDepth 100000 in
theorem c_X10_put2_room (l : Launch) (g : zG) (q : Nat) (a : Nat → Nat) (x : Nat → Int) (z : Nat → Int) (w : Int) (b0 : Int) (b1 : Int) (hw : -2147483648 ≤ w ∧ w < 2147483648) (ha : -2147483648 ≤ b0 ∧ b0 < 2147483648) (hb_ : -2147483648 ≤ b1 ∧ b1 < 2147483648) (ho : (0 ≤ w ∧ w ≤ 1) ∧ (-9999 ≤ b0 ∧ b0 ≤ 9999) ∧ (-9999 ≤ b1 ∧ b1 ≤ 9999)) (hz0 : z 2 = 8) : zMet l g yX10_put wsX10_put 2 0 0 [.ref q, vI 2, vI w, vI b0, vI b1] zX0 [[mdl q a x], [((a 7), .inl (g.2 0, 3, .inl (aI z)))]] (qi g (fun (_ : Unit) => (-2000000014)) (fun (_ : Unit) => True) (fun (_ : Unit) => [[mdl q a x], [((a 7), .inl (g.2 0, 3, .inl (aI z)))]])) := by
  refine z_ent (cc := cX10_put) (maxL := 6) (ret := (some .int)) (by decide) rfl (Nat.le_of_ble_eq_true rfl) ?_
  intro p e s m below meth c A ls hx hb hr hml hown hts hlocks hin0 hA hK hP hD hS hXX hl
  have hown : s.vm.findClass RX10 = some m.cls := hown
  have hin10_ : ∀ w ∈ wsX100, w ∈ wsX10_put := zw_in [19, 20, 21, 22, 23, 24, 25, 26, 27, 28, 29, 30, 31, 32, 33, 34, 35, 36, 37, 38, 39, 40, 41, 42, 43, 44] rfl
  have hl : lv_has ls 6 [(0, .ref q), (1, vI 2), (2, vI w), (3, vI b0), (4, vI b1)] := hl
  refine lv_iload_n hx hb dX10_put_0 rfl (lv_at hl 1 rfl) ?_
  refine z_cSi (As := [vI 2]) (rest := []) ⟨hx, hb, hml, hown, hts⟩ hK hP hD hS hA [] [0, 1] rfl rfl rfl (c_X10_isStore l g 2 (by first | decide | omega)) (va_cwS 1 hts gX10_put_X10_isStore rfl rfl rfl (by decide +kernel) ⟨Nat.le_of_ble_eq_true rfl, Nat.le_of_ble_eq_true rfl⟩) (fun _ _ _ _ _ _ => trivial) (fun _ _ _ => trivial) rfl hl.1 (Nat.le_of_ble_eq_true rfl) rfl dX10_put_1 ⟨Nat.le_of_ble_eq_true rfl, Nat.le_of_ble_eq_true rfl⟩ (fun u_1 H locs hwu_1 hP hD hS => ?_)
  try dsimp only at hwu_1
  have hP : zP g [[mdl q a x], [((a 7), .inl (g.2 0, 3, .inl (aI z)))]] H := hP
  have hD : zD A [[mdl q a x], [((a 7), .inl (g.2 0, 3, .inl (aI z)))]] := hD
  refine z_toI (inI 2 0 2) rfl ?_
  have hf_2 := inI_s 2 0 2
  refine z_if_ne (tgt := 10) hx hb (by omega) dX10_put_4 (by decide) (fun cq3 => ?_) (fun cq3 => False.elim (by omega))
  refine lv_iload_n hx hb dX10_put_10 rfl (lv_at hl 2 rfl) ?_
  refine z_i2l hx hb (by omega) dX10_put_11 ?_
  refine z_lconst hx hb 0 dX10_put_12 rfl ?_
  refine z_lconst hx hb 1 dX10_put_13 rfl ?_
  refine z_cSi (As := [vL w, vL 0, vL 1]) (rest := []) ⟨hx, hb, hml, hown, hts⟩ hK hP hD hS hA [] [0, 1] rfl rfl rfl (c_X10_in l g w 0 1 (by first | decide | omega) (by first | decide | omega) (by first | decide | omega)) (va_cwS 3 hts gX10_put_X10_in rfl rfl rfl (by decide +kernel) ⟨Nat.le_of_ble_eq_true rfl, Nat.le_of_ble_eq_true rfl⟩) (fun _ _ _ _ _ _ => trivial) (fun _ _ _ => trivial) rfl hl.1 (Nat.le_of_ble_eq_true rfl) rfl dX10_put_14 ⟨Nat.le_of_ble_eq_true rfl, Nat.le_of_ble_eq_true rfl⟩ (fun u_4 H locs hwu_4 hP hD hS => ?_)
  try dsimp only at hwu_4
  have hP : zP g [[mdl q a x], [((a 7), .inl (g.2 0, 3, .inl (aI z)))]] H := hP
  have hD : zD A [[mdl q a x], [((a 7), .inl (g.2 0, 3, .inl (aI z)))]] := hD
  refine z_toI (inI w 0 1) rfl ?_
  have hf_5 := inI_s w 0 1
  refine z_if_eq (tgt := 49) hx hb (by omega) dX10_put_17 (by decide) (fun cq6 => False.elim (by omega)) (fun cq6 => ?_)
  refine lv_iload_n hx hb dX10_put_20 rfl (lv_at hl 3 rfl) ?_
  refine z_i2l hx hb (by omega) dX10_put_21 ?_
  refine z_ldc2 hx hb (-9999) hown (hts _ (List.mem_of_getElem? (i := 2) rfl)) rfl dX10_put_22 ?_
  refine z_ldc2 hx hb 9999 hown (hts _ (List.mem_of_getElem? (i := 3) rfl)) rfl dX10_put_25 ?_
  refine z_cSi (As := [vL b0, vL (-9999), vL 9999]) (rest := []) ⟨hx, hb, hml, hown, hts⟩ hK hP hD hS hA [] [0, 1] rfl rfl rfl (c_X10_in l g b0 (-9999) 9999 (by first | decide | omega) (by first | decide | omega) (by first | decide | omega)) (va_cwS 3 hts gX10_put_X10_in rfl rfl rfl (by decide +kernel) ⟨Nat.le_of_ble_eq_true rfl, Nat.le_of_ble_eq_true rfl⟩) (fun _ _ _ _ _ _ => trivial) (fun _ _ _ => trivial) rfl hl.1 (Nat.le_of_ble_eq_true rfl) rfl dX10_put_28 ⟨Nat.le_of_ble_eq_true rfl, Nat.le_of_ble_eq_true rfl⟩ (fun u_7 H locs hwu_7 hP hD hS => ?_)
  try dsimp only at hwu_7
  have hP : zP g [[mdl q a x], [((a 7), .inl (g.2 0, 3, .inl (aI z)))]] H := hP
  have hD : zD A [[mdl q a x], [((a 7), .inl (g.2 0, 3, .inl (aI z)))]] := hD
  refine z_toI (inI b0 (-9999) 9999) rfl ?_
  have hf_8 := inI_s b0 (-9999) 9999
  refine z_if_eq (tgt := 49) hx hb (by omega) dX10_put_31 (by decide) (fun cq9 => False.elim (by omega)) (fun cq9 => ?_)
  refine lv_iload hx hb dX10_put_34 (lv_at hl 4 rfl) ?_
  refine z_i2l hx hb (by omega) dX10_put_36 ?_
  refine z_ldc2 hx hb (-9999) hown (hts _ (List.mem_of_getElem? (i := 2) rfl)) rfl dX10_put_37 ?_
  refine z_ldc2 hx hb 9999 hown (hts _ (List.mem_of_getElem? (i := 3) rfl)) rfl dX10_put_40 ?_
  refine z_cSi (As := [vL b1, vL (-9999), vL 9999]) (rest := []) ⟨hx, hb, hml, hown, hts⟩ hK hP hD hS hA [] [0, 1] rfl rfl rfl (c_X10_in l g b1 (-9999) 9999 (by first | decide | omega) (by first | decide | omega) (by first | decide | omega)) (va_cwS 3 hts gX10_put_X10_in rfl rfl rfl (by decide +kernel) ⟨Nat.le_of_ble_eq_true rfl, Nat.le_of_ble_eq_true rfl⟩) (fun _ _ _ _ _ _ => trivial) (fun _ _ _ => trivial) rfl hl.1 (Nat.le_of_ble_eq_true rfl) rfl dX10_put_43 ⟨Nat.le_of_ble_eq_true rfl, Nat.le_of_ble_eq_true rfl⟩ (fun u_10 H locs hwu_10 hP hD hS => ?_)
  try dsimp only at hwu_10
  have hP : zP g [[mdl q a x], [((a 7), .inl (g.2 0, 3, .inl (aI z)))]] H := hP
  have hD : zD A [[mdl q a x], [((a 7), .inl (g.2 0, 3, .inl (aI z)))]] := hD
  refine z_toI (inI b1 (-9999) 9999) rfl ?_
  have hf_11 := inI_s b1 (-9999) 9999
  refine z_if_ne (tgt := 52) hx hb (by omega) dX10_put_46 (by decide) (fun cq12 => ?_) (fun cq12 => False.elim (by omega))
  refine lv_aload_n hx hb dX10_put_52 rfl (lv_at hl 0 rfl) ?_
  refine z_get hx hb hts hin10_ hown hK hP 0 rfl rfl 11 (by decide) (hts _ (List.mem_of_getElem? (i := 5) rfl)) rfl dX10_put_53 ?_
  refine lv_iload_n hx hb dX10_put_56 rfl (lv_at hl 1 rfl) ?_
  refine z_iald hx hb hK hP 1 rfl 2 rfl (by decide) (by decide) dX10_put_57 ?_
  refine z_if_ge (tgt := 65) hx hb (by omega) dX10_put_58 (by decide) (fun cq13 => ?_) (fun cq13 => False.elim (by omega))
  refine lv_aload_n hx hb dX10_put_65 rfl (lv_at hl 0 rfl) ?_
  refine z_get hx hb hts hin10_ hown hK hP 0 rfl rfl 11 (by decide) (hts _ (List.mem_of_getElem? (i := 5) rfl)) rfl dX10_put_66 ?_
  refine lv_iload_n hx hb dX10_put_69 rfl (lv_at hl 1 rfl) ?_
  refine z_iald hx hb hK hP 1 rfl 2 rfl (by decide) (by decide) dX10_put_70 ?_
  refine z_bipush hx hb 8 dX10_put_71 rfl ?_
  refine z_icmp_ne (tgt := 80) hx hb (by omega) (by decide) dX10_put_73 (by decide) (fun cq14 => False.elim (by omega)) (fun cq14 => ?_)
  refine z_ldcw hx hb (-2000000014) hown (hts _ (List.mem_of_getElem? (i := 7) rfl)) rfl dX10_put_76 ?_
  exact z_reti () [0, 1] hx hb hr rfl hlocks hK hP hD hS (rfl) trivial rfl rfl (rfl) (Nat.le_of_ble_eq_true rfl) (Nat.le_of_ble_eq_true rfl) dX10_put_79

set_option maxHeartbeats 4000000 in
set_option maxRecDepth 100000 in
theorem c_X10_put2_ok (l : Launch) (g : zG) (q : Nat) (a : Nat → Nat) (x : Nat → Int) (z : Nat → Int) (kd : Nat → Int) (fa : Nat → Int) (fb : Nat → Int) (n : Nat) (w : Int) (b0 : Int) (b1 : Int) (hw : -2147483648 ≤ w ∧ w < 2147483648) (ha : -2147483648 ≤ b0 ∧ b0 < 2147483648) (hb_ : -2147483648 ≤ b1 ∧ b1 < 2147483648) (ho : (0 ≤ w ∧ w ≤ 1) ∧ (-9999 ≤ b0 ∧ b0 ≤ 9999) ∧ (-9999 ≤ b1 ∧ b1 ≤ 9999)) (hz0 : z 2 = (n : Int)) (hn : n < 8) : zMet l g yX10_put wsX10_put 2 0 0 [.ref q, vI 2, vI w, vI b0, vI b1] zX0 [[mdl q a x], [((a 7), .inl (g.2 0, 3, .inl (aI z)))], [((a 8), .inl (g.2 0, 24, .inl (aI kd)))], [((a 9), .inl (g.2 0, 24, .inl (aI fa)))], [((a 10), .inl (g.2 0, 24, .inl (aI fb)))]] (qi g (fun (_ : Unit) => (((n + 1) : Nat) : Int)) (fun (_ : Unit) => True) (fun (_ : Unit) => [[mdl q a x], [((a 7), .inl (g.2 0, 3, .inl (aI (uI z 2 (((n + 1) : Nat) : Int)))))], [((a 8), .inl (g.2 0, 24, .inl (aI (uI kd (16 + n) w))))], [((a 9), .inl (g.2 0, 24, .inl (aI (uI fa (16 + n) b0))))], [((a 10), .inl (g.2 0, 24, .inl (aI (uI fb (16 + n) (if w = 0 then 0 else b1)))))]])) := by
  refine z_ent (cc := cX10_put) (maxL := 6) (ret := (some .int)) (by decide) rfl (Nat.le_of_ble_eq_true rfl) ?_
  intro p e s m below meth c A ls hx hb hr hml hown hts hlocks hin0 hA hK hP hD hS hXX hl
  have hown : s.vm.findClass RX10 = some m.cls := hown
  have hin10_ : ∀ w ∈ wsX100, w ∈ wsX10_put := zw_in [19, 20, 21, 22, 23, 24, 25, 26, 27, 28, 29, 30, 31, 32, 33, 34, 35, 36, 37, 38, 39, 40, 41, 42, 43, 44] rfl
  have hl : lv_has ls 6 [(0, .ref q), (1, vI 2), (2, vI w), (3, vI b0), (4, vI b1)] := hl
  refine lv_iload_n hx hb dX10_put_0 rfl (lv_at hl 1 rfl) ?_
  refine z_cSi (As := [vI 2]) (rest := []) ⟨hx, hb, hml, hown, hts⟩ hK hP hD hS hA [] [0, 1, 2, 3, 4] rfl rfl rfl (c_X10_isStore l g 2 (by first | decide | omega)) (va_cwS 1 hts gX10_put_X10_isStore rfl rfl rfl (by decide +kernel) ⟨Nat.le_of_ble_eq_true rfl, Nat.le_of_ble_eq_true rfl⟩) (fun _ _ _ _ _ _ => trivial) (fun _ _ _ => trivial) rfl hl.1 (Nat.le_of_ble_eq_true rfl) rfl dX10_put_1 ⟨Nat.le_of_ble_eq_true rfl, Nat.le_of_ble_eq_true rfl⟩ (fun u_1 H locs hwu_1 hP hD hS => ?_)
  try dsimp only at hwu_1
  have hP : zP g [[mdl q a x], [((a 7), .inl (g.2 0, 3, .inl (aI z)))], [((a 8), .inl (g.2 0, 24, .inl (aI kd)))], [((a 9), .inl (g.2 0, 24, .inl (aI fa)))], [((a 10), .inl (g.2 0, 24, .inl (aI fb)))]] H := hP
  have hD : zD A [[mdl q a x], [((a 7), .inl (g.2 0, 3, .inl (aI z)))], [((a 8), .inl (g.2 0, 24, .inl (aI kd)))], [((a 9), .inl (g.2 0, 24, .inl (aI fa)))], [((a 10), .inl (g.2 0, 24, .inl (aI fb)))]] := hD
  refine z_toI (inI 2 0 2) rfl ?_
  have hf_2 := inI_s 2 0 2
  refine z_if_ne (tgt := 10) hx hb (by omega) dX10_put_4 (by decide) (fun cq3 => ?_) (fun cq3 => False.elim (by omega))
  refine lv_iload_n hx hb dX10_put_10 rfl (lv_at hl 2 rfl) ?_
  refine z_i2l hx hb (by omega) dX10_put_11 ?_
  refine z_lconst hx hb 0 dX10_put_12 rfl ?_
  refine z_lconst hx hb 1 dX10_put_13 rfl ?_
  refine z_cSi (As := [vL w, vL 0, vL 1]) (rest := []) ⟨hx, hb, hml, hown, hts⟩ hK hP hD hS hA [] [0, 1, 2, 3, 4] rfl rfl rfl (c_X10_in l g w 0 1 (by first | decide | omega) (by first | decide | omega) (by first | decide | omega)) (va_cwS 3 hts gX10_put_X10_in rfl rfl rfl (by decide +kernel) ⟨Nat.le_of_ble_eq_true rfl, Nat.le_of_ble_eq_true rfl⟩) (fun _ _ _ _ _ _ => trivial) (fun _ _ _ => trivial) rfl hl.1 (Nat.le_of_ble_eq_true rfl) rfl dX10_put_14 ⟨Nat.le_of_ble_eq_true rfl, Nat.le_of_ble_eq_true rfl⟩ (fun u_4 H locs hwu_4 hP hD hS => ?_)
  try dsimp only at hwu_4
  have hP : zP g [[mdl q a x], [((a 7), .inl (g.2 0, 3, .inl (aI z)))], [((a 8), .inl (g.2 0, 24, .inl (aI kd)))], [((a 9), .inl (g.2 0, 24, .inl (aI fa)))], [((a 10), .inl (g.2 0, 24, .inl (aI fb)))]] H := hP
  have hD : zD A [[mdl q a x], [((a 7), .inl (g.2 0, 3, .inl (aI z)))], [((a 8), .inl (g.2 0, 24, .inl (aI kd)))], [((a 9), .inl (g.2 0, 24, .inl (aI fa)))], [((a 10), .inl (g.2 0, 24, .inl (aI fb)))]] := hD
  refine z_toI (inI w 0 1) rfl ?_
  have hf_5 := inI_s w 0 1
  refine z_if_eq (tgt := 49) hx hb (by omega) dX10_put_17 (by decide) (fun cq6 => False.elim (by omega)) (fun cq6 => ?_)
  refine lv_iload_n hx hb dX10_put_20 rfl (lv_at hl 3 rfl) ?_
  refine z_i2l hx hb (by omega) dX10_put_21 ?_
  refine z_ldc2 hx hb (-9999) hown (hts _ (List.mem_of_getElem? (i := 2) rfl)) rfl dX10_put_22 ?_
  refine z_ldc2 hx hb 9999 hown (hts _ (List.mem_of_getElem? (i := 3) rfl)) rfl dX10_put_25 ?_
  refine z_cSi (As := [vL b0, vL (-9999), vL 9999]) (rest := []) ⟨hx, hb, hml, hown, hts⟩ hK hP hD hS hA [] [0, 1, 2, 3, 4] rfl rfl rfl (c_X10_in l g b0 (-9999) 9999 (by first | decide | omega) (by first | decide | omega) (by first | decide | omega)) (va_cwS 3 hts gX10_put_X10_in rfl rfl rfl (by decide +kernel) ⟨Nat.le_of_ble_eq_true rfl, Nat.le_of_ble_eq_true rfl⟩) (fun _ _ _ _ _ _ => trivial) (fun _ _ _ => trivial) rfl hl.1 (Nat.le_of_ble_eq_true rfl) rfl dX10_put_28 ⟨Nat.le_of_ble_eq_true rfl, Nat.le_of_ble_eq_true rfl⟩ (fun u_7 H locs hwu_7 hP hD hS => ?_)
  try dsimp only at hwu_7
  have hP : zP g [[mdl q a x], [((a 7), .inl (g.2 0, 3, .inl (aI z)))], [((a 8), .inl (g.2 0, 24, .inl (aI kd)))], [((a 9), .inl (g.2 0, 24, .inl (aI fa)))], [((a 10), .inl (g.2 0, 24, .inl (aI fb)))]] H := hP
  have hD : zD A [[mdl q a x], [((a 7), .inl (g.2 0, 3, .inl (aI z)))], [((a 8), .inl (g.2 0, 24, .inl (aI kd)))], [((a 9), .inl (g.2 0, 24, .inl (aI fa)))], [((a 10), .inl (g.2 0, 24, .inl (aI fb)))]] := hD
  refine z_toI (inI b0 (-9999) 9999) rfl ?_
  have hf_8 := inI_s b0 (-9999) 9999
  refine z_if_eq (tgt := 49) hx hb (by omega) dX10_put_31 (by decide) (fun cq9 => False.elim (by omega)) (fun cq9 => ?_)
  refine lv_iload hx hb dX10_put_34 (lv_at hl 4 rfl) ?_
  refine z_i2l hx hb (by omega) dX10_put_36 ?_
  refine z_ldc2 hx hb (-9999) hown (hts _ (List.mem_of_getElem? (i := 2) rfl)) rfl dX10_put_37 ?_
  refine z_ldc2 hx hb 9999 hown (hts _ (List.mem_of_getElem? (i := 3) rfl)) rfl dX10_put_40 ?_
  refine z_cSi (As := [vL b1, vL (-9999), vL 9999]) (rest := []) ⟨hx, hb, hml, hown, hts⟩ hK hP hD hS hA [] [0, 1, 2, 3, 4] rfl rfl rfl (c_X10_in l g b1 (-9999) 9999 (by first | decide | omega) (by first | decide | omega) (by first | decide | omega)) (va_cwS 3 hts gX10_put_X10_in rfl rfl rfl (by decide +kernel) ⟨Nat.le_of_ble_eq_true rfl, Nat.le_of_ble_eq_true rfl⟩) (fun _ _ _ _ _ _ => trivial) (fun _ _ _ => trivial) rfl hl.1 (Nat.le_of_ble_eq_true rfl) rfl dX10_put_43 ⟨Nat.le_of_ble_eq_true rfl, Nat.le_of_ble_eq_true rfl⟩ (fun u_10 H locs hwu_10 hP hD hS => ?_)
  try dsimp only at hwu_10
  have hP : zP g [[mdl q a x], [((a 7), .inl (g.2 0, 3, .inl (aI z)))], [((a 8), .inl (g.2 0, 24, .inl (aI kd)))], [((a 9), .inl (g.2 0, 24, .inl (aI fa)))], [((a 10), .inl (g.2 0, 24, .inl (aI fb)))]] H := hP
  have hD : zD A [[mdl q a x], [((a 7), .inl (g.2 0, 3, .inl (aI z)))], [((a 8), .inl (g.2 0, 24, .inl (aI kd)))], [((a 9), .inl (g.2 0, 24, .inl (aI fa)))], [((a 10), .inl (g.2 0, 24, .inl (aI fb)))]] := hD
  refine z_toI (inI b1 (-9999) 9999) rfl ?_
  have hf_11 := inI_s b1 (-9999) 9999
  refine z_if_ne (tgt := 52) hx hb (by omega) dX10_put_46 (by decide) (fun cq12 => ?_) (fun cq12 => False.elim (by omega))
  refine lv_aload_n hx hb dX10_put_52 rfl (lv_at hl 0 rfl) ?_
  refine z_get hx hb hts hin10_ hown hK hP 0 rfl rfl 11 (by decide) (hts _ (List.mem_of_getElem? (i := 5) rfl)) rfl dX10_put_53 ?_
  refine lv_iload_n hx hb dX10_put_56 rfl (lv_at hl 1 rfl) ?_
  refine z_iald hx hb hK hP 1 rfl 2 rfl (by decide) (by decide) dX10_put_57 ?_
  refine z_if_ge (tgt := 65) hx hb (by omega) dX10_put_58 (by decide) (fun cq13 => ?_) (fun cq13 => False.elim (by omega))
  refine lv_aload_n hx hb dX10_put_65 rfl (lv_at hl 0 rfl) ?_
  refine z_get hx hb hts hin10_ hown hK hP 0 rfl rfl 11 (by decide) (hts _ (List.mem_of_getElem? (i := 5) rfl)) rfl dX10_put_66 ?_
  refine lv_iload_n hx hb dX10_put_69 rfl (lv_at hl 1 rfl) ?_
  refine z_iald hx hb hK hP 1 rfl 2 rfl (by decide) (by decide) dX10_put_70 ?_
  refine z_bipush hx hb 8 dX10_put_71 rfl ?_
  refine z_icmp_ne (tgt := 80) hx hb (by omega) (by decide) dX10_put_73 (by decide) (fun cq14 => ?_) (fun cq14 => False.elim (by omega))
  refine z_bipush hx hb 8 dX10_put_80 rfl ?_
  refine lv_iload_n hx hb dX10_put_82 rfl (lv_at hl 1 rfl) ?_
  refine z_imul hx hb 16 rfl dX10_put_83 ?_
  refine lv_aload_n hx hb dX10_put_84 rfl (lv_at hl 0 rfl) ?_
  refine z_get hx hb hts hin10_ hown hK hP 0 rfl rfl 11 (by decide) (hts _ (List.mem_of_getElem? (i := 5) rfl)) rfl dX10_put_85 ?_
  refine lv_iload_n hx hb dX10_put_88 rfl (lv_at hl 1 rfl) ?_
  refine z_iald hx hb hK hP 1 rfl 2 rfl (by decide) (by decide) dX10_put_89 ?_
  refine z_iadd hx hb (16 + (z 2)) rfl dX10_put_90 ?_
  refine z_toI (((16 + n) : Nat) : Int) (by omega) ?_
  refine lv_istore (lv' := [(5, vI (((16 + n) : Nat) : Int)), (0, .ref q), (1, vI 2), (2, vI w), (3, vI b0), (4, vI b1)]) hx hb dX10_put_91 hl (by decide) rfl (fun ls hl => ?_)
  refine lv_aload_n hx hb dX10_put_93 rfl (lv_at hl 1 rfl) ?_
  refine z_get hx hb hts hin10_ hown hK hP 0 rfl rfl 12 (by decide) (hts _ (List.mem_of_getElem? (i := 8) rfl)) rfl dX10_put_94 ?_
  refine lv_iload hx hb dX10_put_97 (lv_at hl 0 rfl) ?_
  refine lv_iload_n hx hb dX10_put_99 rfl (lv_at hl 3 rfl) ?_
  refine z_iast hx hb hK hP 2 hD hS rfl (16 + n) (by omega) (by omega) (by decide) dX10_put_100 [[mdl q a x], [((a 7), .inl (g.2 0, 3, .inl (aI z)))], [((a 8), .inl (g.2 0, 24, .inl (aI (uI kd (16 + n) w))))], [((a 9), .inl (g.2 0, 24, .inl (aI fa)))], [((a 10), .inl (g.2 0, 24, .inl (aI fb)))]] rfl (fun H locs hP hD hS => ?_)
  refine lv_aload_n hx hb dX10_put_101 rfl (lv_at hl 1 rfl) ?_
  refine z_get hx hb hts hin10_ hown hK hP 0 rfl rfl 13 (by decide) (hts _ (List.mem_of_getElem? (i := 9) rfl)) rfl dX10_put_102 ?_
  refine lv_iload hx hb dX10_put_105 (lv_at hl 0 rfl) ?_
  refine lv_iload_n hx hb dX10_put_107 rfl (lv_at hl 4 rfl) ?_
  refine z_iast hx hb hK hP 3 hD hS rfl (16 + n) (by omega) (by omega) (by decide) dX10_put_108 [[mdl q a x], [((a 7), .inl (g.2 0, 3, .inl (aI z)))], [((a 8), .inl (g.2 0, 24, .inl (aI (uI kd (16 + n) w))))], [((a 9), .inl (g.2 0, 24, .inl (aI (uI fa (16 + n) b0))))], [((a 10), .inl (g.2 0, 24, .inl (aI fb)))]] rfl (fun H locs hP hD hS => ?_)
  refine lv_aload_n hx hb dX10_put_109 rfl (lv_at hl 1 rfl) ?_
  refine z_get hx hb hts hin10_ hown hK hP 0 rfl rfl 14 (by decide) (hts _ (List.mem_of_getElem? (i := 10) rfl)) rfl dX10_put_110 ?_
  refine lv_iload hx hb dX10_put_113 (lv_at hl 0 rfl) ?_
  have j126 : W p l e (zRm 2 0 0) s m ([.ref q, vI 2, vI w, vI b0, vI b1] : List Value).toArray below meth c H locs (0) (0) (MQ below ((qi g (fun (_ : Unit) => (((n + 1) : Nat) : Int)) (fun (_ : Unit) => True) (fun (_ : Unit) => [[mdl q a x], [((a 7), .inl (g.2 0, 3, .inl (aI (uI z 2 (((n + 1) : Nat) : Int)))))], [((a 8), .inl (g.2 0, 24, .inl (aI (uI kd (16 + n) w))))], [((a 9), .inl (g.2 0, 24, .inl (aI (uI fa (16 + n) b0))))], [((a 10), .inl (g.2 0, 24, .inl (aI (uI fb (16 + n) (if w = 0 then 0 else b1)))))]])) A) ([.ref q, vI 2, vI w, vI b0, vI b1] : List Value).toArray s 0 0 A) (F0 m 126 ls [vI (if w = 0 then 0 else b1), vI (((16 + n) : Nat) : Int), .ref (a 10)]) := by
    refine z_iast hx hb hK hP 4 hD hS rfl (16 + n) (by omega) (by omega) (by decide) dX10_put_126 [[mdl q a x], [((a 7), .inl (g.2 0, 3, .inl (aI z)))], [((a 8), .inl (g.2 0, 24, .inl (aI (uI kd (16 + n) w))))], [((a 9), .inl (g.2 0, 24, .inl (aI (uI fa (16 + n) b0))))], [((a 10), .inl (g.2 0, 24, .inl (aI (uI fb (16 + n) (if w = 0 then 0 else b1)))))]] rfl (fun H locs hP hD hS => ?_)
    refine lv_aload_n hx hb dX10_put_127 rfl (lv_at hl 1 rfl) ?_
    refine z_get hx hb hts hin10_ hown hK hP 0 rfl rfl 11 (by decide) (hts _ (List.mem_of_getElem? (i := 5) rfl)) rfl dX10_put_128 ?_
    refine lv_iload_n hx hb dX10_put_131 rfl (lv_at hl 2 rfl) ?_
    refine lv_dup2_11 hx hb dX10_put_132 rfl rfl ?_
    refine z_iald hx hb hK hP 1 rfl 2 rfl (by decide) (by decide) dX10_put_133 ?_
    refine z_iconst hx hb dX10_put_134 rfl ?_
    refine z_iadd hx hb ((z 2) + 1) rfl dX10_put_135 ?_
    refine z_toI (((n + 1) : Nat) : Int) (by omega) ?_
    refine z_iast hx hb hK hP 1 hD hS rfl 2 rfl (by decide) (by decide) dX10_put_136 [[mdl q a x], [((a 7), .inl (g.2 0, 3, .inl (aI (uI z 2 (((n + 1) : Nat) : Int)))))], [((a 8), .inl (g.2 0, 24, .inl (aI (uI kd (16 + n) w))))], [((a 9), .inl (g.2 0, 24, .inl (aI (uI fa (16 + n) b0))))], [((a 10), .inl (g.2 0, 24, .inl (aI (uI fb (16 + n) (if w = 0 then 0 else b1)))))]] rfl (fun H locs hP hD hS => ?_)
    refine lv_aload_n hx hb dX10_put_137 rfl (lv_at hl 1 rfl) ?_
    refine z_get hx hb hts hin10_ hown hK hP 0 rfl rfl 11 (by decide) (hts _ (List.mem_of_getElem? (i := 5) rfl)) rfl dX10_put_138 ?_
    refine lv_iload_n hx hb dX10_put_141 rfl (lv_at hl 2 rfl) ?_
    refine z_iald hx hb hK hP 1 rfl 2 rfl (by decide) (by decide) dX10_put_142 ?_
    exact z_reti () [0, 1, 2, 3, 4] hx hb hr rfl hlocks hK hP hD hS (rfl) trivial rfl rfl (rfl) (Nat.le_of_ble_eq_true rfl) (Nat.le_of_ble_eq_true rfl) dX10_put_143
  refine lv_iload_n hx hb dX10_put_115 rfl (lv_at hl 3 rfl) ?_
  refine z_iconst hx hb dX10_put_116 rfl ?_
  refine z_icmp_ne (tgt := 125) hx hb (by omega) (by decide) dX10_put_117 (by decide) (fun cq15 => ?_) (fun cq15 => ?_)
  · refine z_iconst hx hb dX10_put_125 rfl ?_
    refine z_toI (if w = 0 then 0 else b1) (by first | rw [if_pos (by omega)] | rw [if_neg (by omega)]) ?_
    exact j126
  · refine lv_iload hx hb dX10_put_120 (lv_at hl 5 rfl) ?_
    refine lv_goto (tgt := 126) hx hb dX10_put_122 (by decide) ?_
    refine z_toI (if w = 0 then 0 else b1) (by first | rw [if_pos (by omega)] | rw [if_neg (by omega)]) ?_
    exact j126

set_option maxHeartbeats 4000000 in
set_option maxRecDepth 100000 in
theorem c_X10_take2_null (l : Launch) (g : zG) (q : Nat) (a : Nat → Nat) (x : Nat → Int) (z : Nat → Int) (w : Int) (hw : -2147483648 ≤ w ∧ w < 2147483648) (ho : 0 ≤ w ∧ w ≤ 1) (hz0 : z 2 = -1) : zMet l g yX10_take wsX10_take 2 0 0 [.ref q, vI 2, vI w] zX0 [[mdl q a x], [((a 7), .inl (g.2 0, 3, .inl (aI z)))]] (qi g (fun (_ : Unit) => (-2000000011)) (fun (_ : Unit) => True) (fun (_ : Unit) => [[mdl q a x], [((a 7), .inl (g.2 0, 3, .inl (aI z)))]])) := by
  refine z_ent (cc := cX10_take) (maxL := 6) (ret := (some .int)) (by decide) rfl (Nat.le_of_ble_eq_true rfl) ?_
  intro p e s m below meth c A ls hx hb hr hml hown hts hlocks hin0 hA hK hP hD hS hXX hl
  have hown : s.vm.findClass RX10 = some m.cls := hown
  have hin10_ : ∀ w ∈ wsX100, w ∈ wsX10_take := zw_in [18, 19, 20, 21, 22, 23, 24, 25, 26, 27, 28, 29, 30, 31, 32, 33, 34, 35, 36, 37, 38, 39, 40, 41, 42, 43] rfl
  have hl : lv_has ls 6 [(0, .ref q), (1, vI 2), (2, vI w)] := hl
  refine lv_iload_n hx hb dX10_take_0 rfl (lv_at hl 1 rfl) ?_
  refine z_cSi (As := [vI 2]) (rest := []) ⟨hx, hb, hml, hown, hts⟩ hK hP hD hS hA [] [0, 1] rfl rfl rfl (c_X10_isStore l g 2 (by first | decide | omega)) (va_cwS 1 hts gX10_take_X10_isStore rfl rfl rfl (by decide +kernel) ⟨Nat.le_of_ble_eq_true rfl, Nat.le_of_ble_eq_true rfl⟩) (fun _ _ _ _ _ _ => trivial) (fun _ _ _ => trivial) rfl hl.1 (Nat.le_of_ble_eq_true rfl) rfl dX10_take_1 ⟨Nat.le_of_ble_eq_true rfl, Nat.le_of_ble_eq_true rfl⟩ (fun u_1 H locs hwu_1 hP hD hS => ?_)
  try dsimp only at hwu_1
  have hP : zP g [[mdl q a x], [((a 7), .inl (g.2 0, 3, .inl (aI z)))]] H := hP
  have hD : zD A [[mdl q a x], [((a 7), .inl (g.2 0, 3, .inl (aI z)))]] := hD
  refine z_toI (inI 2 0 2) rfl ?_
  have hf_2 := inI_s 2 0 2
  refine z_if_ne (tgt := 10) hx hb (by omega) dX10_take_4 (by decide) (fun cq3 => ?_) (fun cq3 => False.elim (by omega))
  refine lv_iload_n hx hb dX10_take_10 rfl (lv_at hl 2 rfl) ?_
  refine z_i2l hx hb (by omega) dX10_take_11 ?_
  refine z_lconst hx hb 0 dX10_take_12 rfl ?_
  refine z_lconst hx hb 1 dX10_take_13 rfl ?_
  refine z_cSi (As := [vL w, vL 0, vL 1]) (rest := []) ⟨hx, hb, hml, hown, hts⟩ hK hP hD hS hA [] [0, 1] rfl rfl rfl (c_X10_in l g w 0 1 (by first | decide | omega) (by first | decide | omega) (by first | decide | omega)) (va_cwS 3 hts gX10_take_X10_in rfl rfl rfl (by decide +kernel) ⟨Nat.le_of_ble_eq_true rfl, Nat.le_of_ble_eq_true rfl⟩) (fun _ _ _ _ _ _ => trivial) (fun _ _ _ => trivial) rfl hl.1 (Nat.le_of_ble_eq_true rfl) rfl dX10_take_14 ⟨Nat.le_of_ble_eq_true rfl, Nat.le_of_ble_eq_true rfl⟩ (fun u_4 H locs hwu_4 hP hD hS => ?_)
  try dsimp only at hwu_4
  have hP : zP g [[mdl q a x], [((a 7), .inl (g.2 0, 3, .inl (aI z)))]] H := hP
  have hD : zD A [[mdl q a x], [((a 7), .inl (g.2 0, 3, .inl (aI z)))]] := hD
  refine z_toI (inI w 0 1) rfl ?_
  have hf_5 := inI_s w 0 1
  refine z_if_ne (tgt := 23) hx hb (by omega) dX10_take_17 (by decide) (fun cq6 => ?_) (fun cq6 => False.elim (by omega))
  refine lv_aload_n hx hb dX10_take_23 rfl (lv_at hl 0 rfl) ?_
  refine z_get hx hb hts hin10_ hown hK hP 0 rfl rfl 11 (by decide) (hts _ (List.mem_of_getElem? (i := 3) rfl)) rfl dX10_take_24 ?_
  refine lv_iload_n hx hb dX10_take_27 rfl (lv_at hl 1 rfl) ?_
  refine z_iald hx hb hK hP 1 rfl 2 rfl (by decide) (by decide) dX10_take_28 ?_
  refine z_iconst hx hb dX10_take_29 rfl ?_
  refine z_icmp_ge (tgt := 52) hx hb (by omega) (by decide) dX10_take_30 (by decide) (fun cq7 => False.elim (by omega)) (fun cq7 => ?_)
  refine lv_aload_n hx hb dX10_take_33 rfl (lv_at hl 0 rfl) ?_
  refine z_get hx hb hts hin10_ hown hK hP 0 rfl rfl 11 (by decide) (hts _ (List.mem_of_getElem? (i := 3) rfl)) rfl dX10_take_34 ?_
  refine lv_iload_n hx hb dX10_take_37 rfl (lv_at hl 1 rfl) ?_
  refine z_iald hx hb hK hP 1 rfl 2 rfl (by decide) (by decide) dX10_take_38 ?_
  refine z_if_ge (tgt := 48) hx hb (by omega) dX10_take_39 (by decide) (fun cq8 => False.elim (by omega)) (fun cq8 => ?_)
  refine z_ldcw hx hb (-2000000011) hown (hts _ (List.mem_of_getElem? (i := 4) rfl)) rfl dX10_take_42 ?_
  refine lv_goto (tgt := 51) hx hb dX10_take_45 (by decide) ?_
  exact z_reti () [0, 1] hx hb hr rfl hlocks hK hP hD hS (rfl) trivial rfl rfl (rfl) (Nat.le_of_ble_eq_true rfl) (Nat.le_of_ble_eq_true rfl) dX10_take_51

set_option maxHeartbeats 4000000 in
set_option maxRecDepth 100000 in
theorem c_X10_take2_empty (l : Launch) (g : zG) (q : Nat) (a : Nat → Nat) (x : Nat → Int) (z : Nat → Int) (w : Int) (hw : -2147483648 ≤ w ∧ w < 2147483648) (ho : 0 ≤ w ∧ w ≤ 1) (hz0 : z 2 = 0) : zMet l g yX10_take wsX10_take 2 0 0 [.ref q, vI 2, vI w] zX0 [[mdl q a x], [((a 7), .inl (g.2 0, 3, .inl (aI z)))]] (qi g (fun (_ : Unit) => (-2000000012)) (fun (_ : Unit) => True) (fun (_ : Unit) => [[mdl q a x], [((a 7), .inl (g.2 0, 3, .inl (aI z)))]])) := by
  refine z_ent (cc := cX10_take) (maxL := 6) (ret := (some .int)) (by decide) rfl (Nat.le_of_ble_eq_true rfl) ?_
  intro p e s m below meth c A ls hx hb hr hml hown hts hlocks hin0 hA hK hP hD hS hXX hl
  have hown : s.vm.findClass RX10 = some m.cls := hown
  have hin10_ : ∀ w ∈ wsX100, w ∈ wsX10_take := zw_in [18, 19, 20, 21, 22, 23, 24, 25, 26, 27, 28, 29, 30, 31, 32, 33, 34, 35, 36, 37, 38, 39, 40, 41, 42, 43] rfl
  have hl : lv_has ls 6 [(0, .ref q), (1, vI 2), (2, vI w)] := hl
  refine lv_iload_n hx hb dX10_take_0 rfl (lv_at hl 1 rfl) ?_
  refine z_cSi (As := [vI 2]) (rest := []) ⟨hx, hb, hml, hown, hts⟩ hK hP hD hS hA [] [0, 1] rfl rfl rfl (c_X10_isStore l g 2 (by first | decide | omega)) (va_cwS 1 hts gX10_take_X10_isStore rfl rfl rfl (by decide +kernel) ⟨Nat.le_of_ble_eq_true rfl, Nat.le_of_ble_eq_true rfl⟩) (fun _ _ _ _ _ _ => trivial) (fun _ _ _ => trivial) rfl hl.1 (Nat.le_of_ble_eq_true rfl) rfl dX10_take_1 ⟨Nat.le_of_ble_eq_true rfl, Nat.le_of_ble_eq_true rfl⟩ (fun u_1 H locs hwu_1 hP hD hS => ?_)
  try dsimp only at hwu_1
  have hP : zP g [[mdl q a x], [((a 7), .inl (g.2 0, 3, .inl (aI z)))]] H := hP
  have hD : zD A [[mdl q a x], [((a 7), .inl (g.2 0, 3, .inl (aI z)))]] := hD
  refine z_toI (inI 2 0 2) rfl ?_
  have hf_2 := inI_s 2 0 2
  refine z_if_ne (tgt := 10) hx hb (by omega) dX10_take_4 (by decide) (fun cq3 => ?_) (fun cq3 => False.elim (by omega))
  refine lv_iload_n hx hb dX10_take_10 rfl (lv_at hl 2 rfl) ?_
  refine z_i2l hx hb (by omega) dX10_take_11 ?_
  refine z_lconst hx hb 0 dX10_take_12 rfl ?_
  refine z_lconst hx hb 1 dX10_take_13 rfl ?_
  refine z_cSi (As := [vL w, vL 0, vL 1]) (rest := []) ⟨hx, hb, hml, hown, hts⟩ hK hP hD hS hA [] [0, 1] rfl rfl rfl (c_X10_in l g w 0 1 (by first | decide | omega) (by first | decide | omega) (by first | decide | omega)) (va_cwS 3 hts gX10_take_X10_in rfl rfl rfl (by decide +kernel) ⟨Nat.le_of_ble_eq_true rfl, Nat.le_of_ble_eq_true rfl⟩) (fun _ _ _ _ _ _ => trivial) (fun _ _ _ => trivial) rfl hl.1 (Nat.le_of_ble_eq_true rfl) rfl dX10_take_14 ⟨Nat.le_of_ble_eq_true rfl, Nat.le_of_ble_eq_true rfl⟩ (fun u_4 H locs hwu_4 hP hD hS => ?_)
  try dsimp only at hwu_4
  have hP : zP g [[mdl q a x], [((a 7), .inl (g.2 0, 3, .inl (aI z)))]] H := hP
  have hD : zD A [[mdl q a x], [((a 7), .inl (g.2 0, 3, .inl (aI z)))]] := hD
  refine z_toI (inI w 0 1) rfl ?_
  have hf_5 := inI_s w 0 1
  refine z_if_ne (tgt := 23) hx hb (by omega) dX10_take_17 (by decide) (fun cq6 => ?_) (fun cq6 => False.elim (by omega))
  refine lv_aload_n hx hb dX10_take_23 rfl (lv_at hl 0 rfl) ?_
  refine z_get hx hb hts hin10_ hown hK hP 0 rfl rfl 11 (by decide) (hts _ (List.mem_of_getElem? (i := 3) rfl)) rfl dX10_take_24 ?_
  refine lv_iload_n hx hb dX10_take_27 rfl (lv_at hl 1 rfl) ?_
  refine z_iald hx hb hK hP 1 rfl 2 rfl (by decide) (by decide) dX10_take_28 ?_
  refine z_iconst hx hb dX10_take_29 rfl ?_
  refine z_icmp_ge (tgt := 52) hx hb (by omega) (by decide) dX10_take_30 (by decide) (fun cq7 => False.elim (by omega)) (fun cq7 => ?_)
  refine lv_aload_n hx hb dX10_take_33 rfl (lv_at hl 0 rfl) ?_
  refine z_get hx hb hts hin10_ hown hK hP 0 rfl rfl 11 (by decide) (hts _ (List.mem_of_getElem? (i := 3) rfl)) rfl dX10_take_34 ?_
  refine lv_iload_n hx hb dX10_take_37 rfl (lv_at hl 1 rfl) ?_
  refine z_iald hx hb hK hP 1 rfl 2 rfl (by decide) (by decide) dX10_take_38 ?_
  refine z_if_ge (tgt := 48) hx hb (by omega) dX10_take_39 (by decide) (fun cq8 => ?_) (fun cq8 => False.elim (by omega))
  refine z_ldcw hx hb (-2000000012) hown (hts _ (List.mem_of_getElem? (i := 5) rfl)) rfl dX10_take_48 ?_
  exact z_reti () [0, 1] hx hb hr rfl hlocks hK hP hD hS (rfl) trivial rfl rfl (rfl) (Nat.le_of_ble_eq_true rfl) (Nat.le_of_ble_eq_true rfl) dX10_take_51

set_option maxHeartbeats 4000000 in
set_option maxRecDepth 100000 in
theorem c_X10_take2_cast (l : Launch) (g : zG) (q : Nat) (a : Nat → Nat) (x : Nat → Int) (z : Nat → Int) (kd : Nat → Int) (fa : Nat → Int) (fb : Nat → Int) (n : Nat) (w : Int) (hw : -2147483648 ≤ w ∧ w < 2147483648) (ho : 0 ≤ w ∧ w ≤ 1) (hkb : ∀ i, 0 ≤ kd i ∧ kd i ≤ 1) (hz0 : z 2 = (n : Int)) (hn : 1 ≤ n ∧ n ≤ 8) (hc : kd (16 + (n - 1)) ≠ w) : zMet l g yX10_take wsX10_take 2 0 0 [.ref q, vI 2, vI w] zX0 [[mdl q a x], [((a 7), .inl (g.2 0, 3, .inl (aI z)))], [((a 8), .inl (g.2 0, 24, .inl (aI kd)))], [((a 9), .inl (g.2 0, 24, .inl (aI fa)))], [((a 10), .inl (g.2 0, 24, .inl (aI fb)))]] (qi g (fun (_ : Unit) => (-2000000013)) (fun (_ : Unit) => True) (fun (_ : Unit) => [[mdl q a x], [((a 7), .inl (g.2 0, 3, .inl (aI z)))], [((a 8), .inl (g.2 0, 24, .inl (aI kd)))], [((a 9), .inl (g.2 0, 24, .inl (aI fa)))], [((a 10), .inl (g.2 0, 24, .inl (aI fb)))]])) := by
  have hk9 := hkb (16 + (n - 1))
  refine z_ent (cc := cX10_take) (maxL := 6) (ret := (some .int)) (by decide) rfl (Nat.le_of_ble_eq_true rfl) ?_
  intro p e s m below meth c A ls hx hb hr hml hown hts hlocks hin0 hA hK hP hD hS hXX hl
  have hown : s.vm.findClass RX10 = some m.cls := hown
  have hin10_ : ∀ w ∈ wsX100, w ∈ wsX10_take := zw_in [18, 19, 20, 21, 22, 23, 24, 25, 26, 27, 28, 29, 30, 31, 32, 33, 34, 35, 36, 37, 38, 39, 40, 41, 42, 43] rfl
  have hl : lv_has ls 6 [(0, .ref q), (1, vI 2), (2, vI w)] := hl
  refine lv_iload_n hx hb dX10_take_0 rfl (lv_at hl 1 rfl) ?_
  refine z_cSi (As := [vI 2]) (rest := []) ⟨hx, hb, hml, hown, hts⟩ hK hP hD hS hA [] [0, 1, 2, 3, 4] rfl rfl rfl (c_X10_isStore l g 2 (by first | decide | omega)) (va_cwS 1 hts gX10_take_X10_isStore rfl rfl rfl (by decide +kernel) ⟨Nat.le_of_ble_eq_true rfl, Nat.le_of_ble_eq_true rfl⟩) (fun _ _ _ _ _ _ => trivial) (fun _ _ _ => trivial) rfl hl.1 (Nat.le_of_ble_eq_true rfl) rfl dX10_take_1 ⟨Nat.le_of_ble_eq_true rfl, Nat.le_of_ble_eq_true rfl⟩ (fun u_1 H locs hwu_1 hP hD hS => ?_)
  try dsimp only at hwu_1
  have hP : zP g [[mdl q a x], [((a 7), .inl (g.2 0, 3, .inl (aI z)))], [((a 8), .inl (g.2 0, 24, .inl (aI kd)))], [((a 9), .inl (g.2 0, 24, .inl (aI fa)))], [((a 10), .inl (g.2 0, 24, .inl (aI fb)))]] H := hP
  have hD : zD A [[mdl q a x], [((a 7), .inl (g.2 0, 3, .inl (aI z)))], [((a 8), .inl (g.2 0, 24, .inl (aI kd)))], [((a 9), .inl (g.2 0, 24, .inl (aI fa)))], [((a 10), .inl (g.2 0, 24, .inl (aI fb)))]] := hD
  refine z_toI (inI 2 0 2) rfl ?_
  have hf_2 := inI_s 2 0 2
  refine z_if_ne (tgt := 10) hx hb (by omega) dX10_take_4 (by decide) (fun cq3 => ?_) (fun cq3 => False.elim (by omega))
  refine lv_iload_n hx hb dX10_take_10 rfl (lv_at hl 2 rfl) ?_
  refine z_i2l hx hb (by omega) dX10_take_11 ?_
  refine z_lconst hx hb 0 dX10_take_12 rfl ?_
  refine z_lconst hx hb 1 dX10_take_13 rfl ?_
  refine z_cSi (As := [vL w, vL 0, vL 1]) (rest := []) ⟨hx, hb, hml, hown, hts⟩ hK hP hD hS hA [] [0, 1, 2, 3, 4] rfl rfl rfl (c_X10_in l g w 0 1 (by first | decide | omega) (by first | decide | omega) (by first | decide | omega)) (va_cwS 3 hts gX10_take_X10_in rfl rfl rfl (by decide +kernel) ⟨Nat.le_of_ble_eq_true rfl, Nat.le_of_ble_eq_true rfl⟩) (fun _ _ _ _ _ _ => trivial) (fun _ _ _ => trivial) rfl hl.1 (Nat.le_of_ble_eq_true rfl) rfl dX10_take_14 ⟨Nat.le_of_ble_eq_true rfl, Nat.le_of_ble_eq_true rfl⟩ (fun u_4 H locs hwu_4 hP hD hS => ?_)
  try dsimp only at hwu_4
  have hP : zP g [[mdl q a x], [((a 7), .inl (g.2 0, 3, .inl (aI z)))], [((a 8), .inl (g.2 0, 24, .inl (aI kd)))], [((a 9), .inl (g.2 0, 24, .inl (aI fa)))], [((a 10), .inl (g.2 0, 24, .inl (aI fb)))]] H := hP
  have hD : zD A [[mdl q a x], [((a 7), .inl (g.2 0, 3, .inl (aI z)))], [((a 8), .inl (g.2 0, 24, .inl (aI kd)))], [((a 9), .inl (g.2 0, 24, .inl (aI fa)))], [((a 10), .inl (g.2 0, 24, .inl (aI fb)))]] := hD
  refine z_toI (inI w 0 1) rfl ?_
  have hf_5 := inI_s w 0 1
  refine z_if_ne (tgt := 23) hx hb (by omega) dX10_take_17 (by decide) (fun cq6 => ?_) (fun cq6 => False.elim (by omega))
  refine lv_aload_n hx hb dX10_take_23 rfl (lv_at hl 0 rfl) ?_
  refine z_get hx hb hts hin10_ hown hK hP 0 rfl rfl 11 (by decide) (hts _ (List.mem_of_getElem? (i := 3) rfl)) rfl dX10_take_24 ?_
  refine lv_iload_n hx hb dX10_take_27 rfl (lv_at hl 1 rfl) ?_
  refine z_iald hx hb hK hP 1 rfl 2 rfl (by decide) (by decide) dX10_take_28 ?_
  refine z_iconst hx hb dX10_take_29 rfl ?_
  refine z_icmp_ge (tgt := 52) hx hb (by omega) (by decide) dX10_take_30 (by decide) (fun cq7 => ?_) (fun cq7 => False.elim (by omega))
  refine z_bipush hx hb 8 dX10_take_52 rfl ?_
  refine lv_iload_n hx hb dX10_take_54 rfl (lv_at hl 1 rfl) ?_
  refine z_imul hx hb 16 rfl dX10_take_55 ?_
  refine lv_aload_n hx hb dX10_take_56 rfl (lv_at hl 0 rfl) ?_
  refine z_get hx hb hts hin10_ hown hK hP 0 rfl rfl 11 (by decide) (hts _ (List.mem_of_getElem? (i := 3) rfl)) rfl dX10_take_57 ?_
  refine lv_iload_n hx hb dX10_take_60 rfl (lv_at hl 1 rfl) ?_
  refine z_iald hx hb hK hP 1 rfl 2 rfl (by decide) (by decide) dX10_take_61 ?_
  refine z_iadd hx hb (16 + (z 2)) rfl dX10_take_62 ?_
  refine z_iconst hx hb dX10_take_63 rfl ?_
  refine z_isub hx hb ((16 + (z 2)) - 1) rfl dX10_take_64 ?_
  refine z_toI (((16 + (n - 1)) : Nat) : Int) (by omega) ?_
  refine lv_istore_n (lv' := [(3, vI (((16 + (n - 1)) : Nat) : Int)), (0, .ref q), (1, vI 2), (2, vI w)]) hx hb dX10_take_65 rfl hl (by decide) rfl (fun ls hl => ?_)
  refine lv_aload_n hx hb dX10_take_66 rfl (lv_at hl 1 rfl) ?_
  refine z_get hx hb hts hin10_ hown hK hP 0 rfl rfl 12 (by decide) (hts _ (List.mem_of_getElem? (i := 6) rfl)) rfl dX10_take_67 ?_
  refine lv_iload_n hx hb dX10_take_70 rfl (lv_at hl 0 rfl) ?_
  refine z_iald hx hb hK hP 2 rfl (16 + (n - 1)) (by omega) (by omega) (by decide) dX10_take_71 ?_
  refine lv_iload_n hx hb dX10_take_72 rfl (lv_at hl 3 rfl) ?_
  refine z_icmp_eq (tgt := 80) hx hb (by omega) (by omega) dX10_take_73 (by decide) (fun cq8 => False.elim (by omega)) (fun cq8 => ?_)
  refine z_ldcw hx hb (-2000000013) hown (hts _ (List.mem_of_getElem? (i := 7) rfl)) rfl dX10_take_76 ?_
  exact z_reti () [0, 1, 2, 3, 4] hx hb hr rfl hlocks hK hP hD hS (by first | rfl | rw [if_pos (by omega)] | rw [if_neg (by omega)]) trivial rfl rfl (rfl) (Nat.le_of_ble_eq_true rfl) (Nat.le_of_ble_eq_true rfl) dX10_take_79

set_option maxHeartbeats 4000000 in
set_option maxRecDepth 100000 in
theorem c_X10_take2_ok (l : Launch) (g : zG) (q : Nat) (a : Nat → Nat) (x : Nat → Int) (z : Nat → Int) (kd : Nat → Int) (fa : Nat → Int) (fb : Nat → Int) (n : Nat) (w : Int) (hw : -2147483648 ≤ w ∧ w < 2147483648) (ho : 0 ≤ w ∧ w ≤ 1) (hkb : ∀ i, 0 ≤ kd i ∧ kd i ≤ 1) (hz0 : z 2 = (n : Int)) (hn : 1 ≤ n ∧ n ≤ 8) (hc : kd (16 + (n - 1)) = w) : zMet l g yX10_take wsX10_take 2 0 0 [.ref q, vI 2, vI w] zX0 [[mdl q a x], [((a 7), .inl (g.2 0, 3, .inl (aI z)))], [((a 8), .inl (g.2 0, 24, .inl (aI kd)))], [((a 9), .inl (g.2 0, 24, .inl (aI fa)))], [((a 10), .inl (g.2 0, 24, .inl (aI fb)))]] (qi g (fun (_ : Unit) => (if w = 0 then fa (16 + (n - 1)) else fa (16 + (n - 1)) * fa (16 + (n - 1)) - fa (16 + (n - 1)) * fb (16 + (n - 1)) + fb (16 + (n - 1)) * fb (16 + (n - 1)))) (fun (_ : Unit) => True) (fun (_ : Unit) => [[mdl q a x], [((a 7), .inl (g.2 0, 3, .inl (aI (uI z 2 (((n - 1) : Nat) : Int)))))], [((a 8), .inl (g.2 0, 24, .inl (aI kd)))], [((a 9), .inl (g.2 0, 24, .inl (aI fa)))], [((a 10), .inl (g.2 0, 24, .inl (aI fb)))]])) := by
  have hk9 := hkb (16 + (n - 1))
  refine z_ent (cc := cX10_take) (maxL := 6) (ret := (some .int)) (by decide) rfl (Nat.le_of_ble_eq_true rfl) ?_
  intro p e s m below meth c A ls hx hb hr hml hown hts hlocks hin0 hA hK hP hD hS hXX hl
  have hown : s.vm.findClass RX10 = some m.cls := hown
  have hin10_ : ∀ w ∈ wsX100, w ∈ wsX10_take := zw_in [18, 19, 20, 21, 22, 23, 24, 25, 26, 27, 28, 29, 30, 31, 32, 33, 34, 35, 36, 37, 38, 39, 40, 41, 42, 43] rfl
  have hl : lv_has ls 6 [(0, .ref q), (1, vI 2), (2, vI w)] := hl
  refine lv_iload_n hx hb dX10_take_0 rfl (lv_at hl 1 rfl) ?_
  refine z_cSi (As := [vI 2]) (rest := []) ⟨hx, hb, hml, hown, hts⟩ hK hP hD hS hA [] [0, 1, 2, 3, 4] rfl rfl rfl (c_X10_isStore l g 2 (by first | decide | omega)) (va_cwS 1 hts gX10_take_X10_isStore rfl rfl rfl (by decide +kernel) ⟨Nat.le_of_ble_eq_true rfl, Nat.le_of_ble_eq_true rfl⟩) (fun _ _ _ _ _ _ => trivial) (fun _ _ _ => trivial) rfl hl.1 (Nat.le_of_ble_eq_true rfl) rfl dX10_take_1 ⟨Nat.le_of_ble_eq_true rfl, Nat.le_of_ble_eq_true rfl⟩ (fun u_1 H locs hwu_1 hP hD hS => ?_)
  try dsimp only at hwu_1
  have hP : zP g [[mdl q a x], [((a 7), .inl (g.2 0, 3, .inl (aI z)))], [((a 8), .inl (g.2 0, 24, .inl (aI kd)))], [((a 9), .inl (g.2 0, 24, .inl (aI fa)))], [((a 10), .inl (g.2 0, 24, .inl (aI fb)))]] H := hP
  have hD : zD A [[mdl q a x], [((a 7), .inl (g.2 0, 3, .inl (aI z)))], [((a 8), .inl (g.2 0, 24, .inl (aI kd)))], [((a 9), .inl (g.2 0, 24, .inl (aI fa)))], [((a 10), .inl (g.2 0, 24, .inl (aI fb)))]] := hD
  refine z_toI (inI 2 0 2) rfl ?_
  have hf_2 := inI_s 2 0 2
  refine z_if_ne (tgt := 10) hx hb (by omega) dX10_take_4 (by decide) (fun cq3 => ?_) (fun cq3 => False.elim (by omega))
  refine lv_iload_n hx hb dX10_take_10 rfl (lv_at hl 2 rfl) ?_
  refine z_i2l hx hb (by omega) dX10_take_11 ?_
  refine z_lconst hx hb 0 dX10_take_12 rfl ?_
  refine z_lconst hx hb 1 dX10_take_13 rfl ?_
  refine z_cSi (As := [vL w, vL 0, vL 1]) (rest := []) ⟨hx, hb, hml, hown, hts⟩ hK hP hD hS hA [] [0, 1, 2, 3, 4] rfl rfl rfl (c_X10_in l g w 0 1 (by first | decide | omega) (by first | decide | omega) (by first | decide | omega)) (va_cwS 3 hts gX10_take_X10_in rfl rfl rfl (by decide +kernel) ⟨Nat.le_of_ble_eq_true rfl, Nat.le_of_ble_eq_true rfl⟩) (fun _ _ _ _ _ _ => trivial) (fun _ _ _ => trivial) rfl hl.1 (Nat.le_of_ble_eq_true rfl) rfl dX10_take_14 ⟨Nat.le_of_ble_eq_true rfl, Nat.le_of_ble_eq_true rfl⟩ (fun u_4 H locs hwu_4 hP hD hS => ?_)
  try dsimp only at hwu_4
  have hP : zP g [[mdl q a x], [((a 7), .inl (g.2 0, 3, .inl (aI z)))], [((a 8), .inl (g.2 0, 24, .inl (aI kd)))], [((a 9), .inl (g.2 0, 24, .inl (aI fa)))], [((a 10), .inl (g.2 0, 24, .inl (aI fb)))]] H := hP
  have hD : zD A [[mdl q a x], [((a 7), .inl (g.2 0, 3, .inl (aI z)))], [((a 8), .inl (g.2 0, 24, .inl (aI kd)))], [((a 9), .inl (g.2 0, 24, .inl (aI fa)))], [((a 10), .inl (g.2 0, 24, .inl (aI fb)))]] := hD
  refine z_toI (inI w 0 1) rfl ?_
  have hf_5 := inI_s w 0 1
  refine z_if_ne (tgt := 23) hx hb (by omega) dX10_take_17 (by decide) (fun cq6 => ?_) (fun cq6 => False.elim (by omega))
  refine lv_aload_n hx hb dX10_take_23 rfl (lv_at hl 0 rfl) ?_
  refine z_get hx hb hts hin10_ hown hK hP 0 rfl rfl 11 (by decide) (hts _ (List.mem_of_getElem? (i := 3) rfl)) rfl dX10_take_24 ?_
  refine lv_iload_n hx hb dX10_take_27 rfl (lv_at hl 1 rfl) ?_
  refine z_iald hx hb hK hP 1 rfl 2 rfl (by decide) (by decide) dX10_take_28 ?_
  refine z_iconst hx hb dX10_take_29 rfl ?_
  refine z_icmp_ge (tgt := 52) hx hb (by omega) (by decide) dX10_take_30 (by decide) (fun cq7 => ?_) (fun cq7 => False.elim (by omega))
  refine z_bipush hx hb 8 dX10_take_52 rfl ?_
  refine lv_iload_n hx hb dX10_take_54 rfl (lv_at hl 1 rfl) ?_
  refine z_imul hx hb 16 rfl dX10_take_55 ?_
  refine lv_aload_n hx hb dX10_take_56 rfl (lv_at hl 0 rfl) ?_
  refine z_get hx hb hts hin10_ hown hK hP 0 rfl rfl 11 (by decide) (hts _ (List.mem_of_getElem? (i := 3) rfl)) rfl dX10_take_57 ?_
  refine lv_iload_n hx hb dX10_take_60 rfl (lv_at hl 1 rfl) ?_
  refine z_iald hx hb hK hP 1 rfl 2 rfl (by decide) (by decide) dX10_take_61 ?_
  refine z_iadd hx hb (16 + (z 2)) rfl dX10_take_62 ?_
  refine z_iconst hx hb dX10_take_63 rfl ?_
  refine z_isub hx hb ((16 + (z 2)) - 1) rfl dX10_take_64 ?_
  refine z_toI (((16 + (n - 1)) : Nat) : Int) (by omega) ?_
  refine lv_istore_n (lv' := [(3, vI (((16 + (n - 1)) : Nat) : Int)), (0, .ref q), (1, vI 2), (2, vI w)]) hx hb dX10_take_65 rfl hl (by decide) rfl (fun ls hl => ?_)
  refine lv_aload_n hx hb dX10_take_66 rfl (lv_at hl 1 rfl) ?_
  refine z_get hx hb hts hin10_ hown hK hP 0 rfl rfl 12 (by decide) (hts _ (List.mem_of_getElem? (i := 6) rfl)) rfl dX10_take_67 ?_
  refine lv_iload_n hx hb dX10_take_70 rfl (lv_at hl 0 rfl) ?_
  refine z_iald hx hb hK hP 2 rfl (16 + (n - 1)) (by omega) (by omega) (by decide) dX10_take_71 ?_
  refine lv_iload_n hx hb dX10_take_72 rfl (lv_at hl 3 rfl) ?_
  refine z_icmp_eq (tgt := 80) hx hb (by omega) (by omega) dX10_take_73 (by decide) (fun cq8 => ?_) (fun cq8 => False.elim (by omega))
  refine lv_aload_n hx hb dX10_take_80 rfl (lv_at hl 1 rfl) ?_
  refine z_get hx hb hts hin10_ hown hK hP 0 rfl rfl 11 (by decide) (hts _ (List.mem_of_getElem? (i := 3) rfl)) rfl dX10_take_81 ?_
  refine lv_iload_n hx hb dX10_take_84 rfl (lv_at hl 2 rfl) ?_
  refine lv_dup2_11 hx hb dX10_take_85 rfl rfl ?_
  refine z_iald hx hb hK hP 1 rfl 2 rfl (by decide) (by decide) dX10_take_86 ?_
  refine z_iconst hx hb dX10_take_87 rfl ?_
  refine z_isub hx hb ((z 2) - 1) rfl dX10_take_88 ?_
  refine z_toI (((n - 1) : Nat) : Int) (by omega) ?_
  refine z_iast hx hb hK hP 1 hD hS rfl 2 rfl (by decide) (by decide) dX10_take_89 [[mdl q a x], [((a 7), .inl (g.2 0, 3, .inl (aI (uI z 2 (((n - 1) : Nat) : Int)))))], [((a 8), .inl (g.2 0, 24, .inl (aI kd)))], [((a 9), .inl (g.2 0, 24, .inl (aI fa)))], [((a 10), .inl (g.2 0, 24, .inl (aI fb)))]] rfl (fun H locs hP hD hS => ?_)
  refine lv_aload_n hx hb dX10_take_90 rfl (lv_at hl 1 rfl) ?_
  refine z_get hx hb hts hin10_ hown hK hP 0 rfl rfl 13 (by decide) (hts _ (List.mem_of_getElem? (i := 8) rfl)) rfl dX10_take_91 ?_
  refine lv_iload_n hx hb dX10_take_94 rfl (lv_at hl 0 rfl) ?_
  refine z_iald hx hb hK hP 3 rfl (16 + (n - 1)) (by omega) (by omega) (by decide) dX10_take_95 ?_
  refine lv_istore (lv' := [(4, vI (fa (16 + (n - 1)))), (3, vI (((16 + (n - 1)) : Nat) : Int)), (0, .ref q), (1, vI 2), (2, vI w)]) hx hb dX10_take_96 hl (by decide) rfl (fun ls hl => ?_)
  refine lv_aload_n hx hb dX10_take_98 rfl (lv_at hl 2 rfl) ?_
  refine z_get hx hb hts hin10_ hown hK hP 0 rfl rfl 14 (by decide) (hts _ (List.mem_of_getElem? (i := 9) rfl)) rfl dX10_take_99 ?_
  refine lv_iload_n hx hb dX10_take_102 rfl (lv_at hl 1 rfl) ?_
  refine z_iald hx hb hK hP 4 rfl (16 + (n - 1)) (by omega) (by omega) (by decide) dX10_take_103 ?_
  refine lv_istore (lv' := [(5, vI (fb (16 + (n - 1)))), (4, vI (fa (16 + (n - 1)))), (3, vI (((16 + (n - 1)) : Nat) : Int)), (0, .ref q), (1, vI 2), (2, vI w)]) hx hb dX10_take_104 hl (by decide) rfl (fun ls hl => ?_)
  refine lv_iload_n hx hb dX10_take_106 rfl (lv_at hl 5 rfl) ?_
  refine z_if_ne (tgt := 115) hx hb (by omega) dX10_take_107 (by decide) (fun cq9 => ?_) (fun cq9 => ?_)
  · refine lv_iload hx hb dX10_take_115 (lv_at hl 1 rfl) ?_
    refine lv_iload hx hb dX10_take_117 (lv_at hl 1 rfl) ?_
    refine z_imul hx hb ((fa (16 + (n - 1))) * (fa (16 + (n - 1)))) rfl dX10_take_119 ?_
    refine lv_iload hx hb dX10_take_120 (lv_at hl 1 rfl) ?_
    refine lv_iload hx hb dX10_take_122 (lv_at hl 0 rfl) ?_
    refine z_imul hx hb ((fa (16 + (n - 1))) * (fb (16 + (n - 1)))) rfl dX10_take_124 ?_
    refine z_isub hx hb (((fa (16 + (n - 1))) * (fa (16 + (n - 1)))) - ((fa (16 + (n - 1))) * (fb (16 + (n - 1))))) rfl dX10_take_125 ?_
    refine lv_iload hx hb dX10_take_126 (lv_at hl 0 rfl) ?_
    refine lv_iload hx hb dX10_take_128 (lv_at hl 0 rfl) ?_
    refine z_imul hx hb ((fb (16 + (n - 1))) * (fb (16 + (n - 1)))) rfl dX10_take_130 ?_
    refine z_iadd hx hb ((((fa (16 + (n - 1))) * (fa (16 + (n - 1)))) - ((fa (16 + (n - 1))) * (fb (16 + (n - 1))))) + ((fb (16 + (n - 1))) * (fb (16 + (n - 1))))) rfl dX10_take_131 ?_
    exact z_reti () [0, 1, 2, 3, 4] hx hb hr rfl hlocks hK hP hD hS (by first | rfl | rw [if_pos (by omega)] | rw [if_neg (by omega)]) trivial rfl rfl (rfl) (Nat.le_of_ble_eq_true rfl) (Nat.le_of_ble_eq_true rfl) dX10_take_132
  · refine lv_iload hx hb dX10_take_110 (lv_at hl 1 rfl) ?_
    refine lv_goto (tgt := 132) hx hb dX10_take_112 (by decide) ?_
    exact z_reti () [0, 1, 2, 3, 4] hx hb hr rfl hlocks hK hP hD hS (by first | rfl | rw [if_pos (by omega)] | rw [if_neg (by omega)]) trivial rfl rfl (rfl) (Nat.le_of_ble_eq_true rfl) (Nat.le_of_ble_eq_true rfl) dX10_take_132
