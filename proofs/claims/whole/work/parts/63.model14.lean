set_option maxHeartbeats 4000000 in
set_option maxRecDepth 100000 in
theorem c_X10_told_unk (l : Launch) (g : zG) (q : Nat) (a : Nat → Nat) (x : Nat → Int) (pp : Int) (w : Int) (j : Int) (hp : -2147483648 ≤ pp ∧ pp < 2147483648) (hw : -2147483648 ≤ w ∧ w < 2147483648) (hj : -2147483648 ≤ j ∧ j < 2147483648) (hu : ¬ (0 ≤ pp ∧ pp ≤ 2)) : zMet l g yX10_told wsX10_told 2 0 0 [.ref q, vI pp, vI w, vI j] zX0 [[mdl q a x]] (ql g (fun (_ : Unit) => (-2000000001)) (fun (_ : Unit) => True) (fun (_ : Unit) => [[mdl q a x]])) := by
  refine z_ent (cc := cX10_told) (maxL := 4) (ret := (some .long)) (by decide) rfl (Nat.le_of_ble_eq_true rfl) ?_
  intro p e s m below meth c A ls hx hb hr hml hown hts hlocks hin0 hA hK hP hD hS hXX hl
  have hown : s.vm.findClass RX10 = some m.cls := hown
  have hl : lv_has ls 4 [(0, .ref q), (1, vI pp), (2, vI w), (3, vI j)] := hl
  refine lv_iload_n hx hb dX10_told_0 rfl (lv_at hl 1 rfl) ?_
  refine z_cSi (As := [vI pp]) (rest := []) ⟨hx, hb, hml, hown, hts⟩ hK hP hD hS hA [] [0] rfl rfl rfl (c_X10_isPhase l g pp (by first | decide | omega)) (va_cwS 1 hts gX10_told_X10_isPhase rfl rfl rfl (by decide +kernel) ⟨Nat.le_of_ble_eq_true rfl, Nat.le_of_ble_eq_true rfl⟩) (fun _ _ _ _ _ _ => trivial) (fun _ _ _ => trivial) rfl hl.1 (Nat.le_of_ble_eq_true rfl) rfl dX10_told_1 ⟨Nat.le_of_ble_eq_true rfl, Nat.le_of_ble_eq_true rfl⟩ (fun u_1 H locs hwu_1 hP hD hS => ?_)
  try dsimp only at hwu_1
  have hP : zP g [[mdl q a x]] H := hP
  have hD : zD A [[mdl q a x]] := hD
  refine z_toI (inI pp 0 2) rfl ?_
  have hf_2 := inI_s pp 0 2
  refine z_if_ne (tgt := 11) hx hb (by omega) dX10_told_4 (by decide) (fun cq3 => False.elim (by omega)) (fun cq3 => ?_)
  refine z_ldc2 hx hb (-2000000001) hown (hts _ (List.mem_of_getElem? (i := 1) rfl)) rfl dX10_told_7 ?_
  exact z_retl () [0] hx hb hr hlocks hK hP hD hS (rfl) trivial rfl rfl (rfl) (Nat.le_of_ble_eq_true rfl) (Nat.le_of_ble_eq_true rfl) dX10_told_10

set_option maxHeartbeats 4000000 in
set_option maxRecDepth 100000 in
theorem c_X10_told_out (l : Launch) (g : zG) (q : Nat) (a : Nat → Nat) (x : Nat → Int) (pp : Int) (w : Int) (j : Int) (hp : -2147483648 ≤ pp ∧ pp < 2147483648) (hw : -2147483648 ≤ w ∧ w < 2147483648) (hj : -2147483648 ≤ j ∧ j < 2147483648) (hu : 0 ≤ pp ∧ pp ≤ 2) (ho : ¬ ((0 ≤ w ∧ w ≤ 2) ∧ (0 ≤ j ∧ j ≤ 1))) : zMet l g yX10_told wsX10_told 2 0 0 [.ref q, vI pp, vI w, vI j] zX0 [[mdl q a x]] (ql g (fun (_ : Unit) => (-2000000002)) (fun (_ : Unit) => True) (fun (_ : Unit) => [[mdl q a x]])) := by
  refine z_ent (cc := cX10_told) (maxL := 4) (ret := (some .long)) (by decide) rfl (Nat.le_of_ble_eq_true rfl) ?_
  intro p e s m below meth c A ls hx hb hr hml hown hts hlocks hin0 hA hK hP hD hS hXX hl
  have hown : s.vm.findClass RX10 = some m.cls := hown
  have hl : lv_has ls 4 [(0, .ref q), (1, vI pp), (2, vI w), (3, vI j)] := hl
  refine lv_iload_n hx hb dX10_told_0 rfl (lv_at hl 1 rfl) ?_
  refine z_cSi (As := [vI pp]) (rest := []) ⟨hx, hb, hml, hown, hts⟩ hK hP hD hS hA [] [0] rfl rfl rfl (c_X10_isPhase l g pp (by first | decide | omega)) (va_cwS 1 hts gX10_told_X10_isPhase rfl rfl rfl (by decide +kernel) ⟨Nat.le_of_ble_eq_true rfl, Nat.le_of_ble_eq_true rfl⟩) (fun _ _ _ _ _ _ => trivial) (fun _ _ _ => trivial) rfl hl.1 (Nat.le_of_ble_eq_true rfl) rfl dX10_told_1 ⟨Nat.le_of_ble_eq_true rfl, Nat.le_of_ble_eq_true rfl⟩ (fun u_1 H locs hwu_1 hP hD hS => ?_)
  try dsimp only at hwu_1
  have hP : zP g [[mdl q a x]] H := hP
  have hD : zD A [[mdl q a x]] := hD
  refine z_toI (inI pp 0 2) rfl ?_
  have hf_2 := inI_s pp 0 2
  refine z_if_ne (tgt := 11) hx hb (by omega) dX10_told_4 (by decide) (fun cq3 => ?_) (fun cq3 => False.elim (by omega))
  refine lv_iload_n hx hb dX10_told_11 rfl (lv_at hl 2 rfl) ?_
  refine z_i2l hx hb (by omega) dX10_told_12 ?_
  refine z_lconst hx hb 0 dX10_told_13 rfl ?_
  refine z_ldc2 hx hb 2 hown (hts _ (List.mem_of_getElem? (i := 2) rfl)) rfl dX10_told_14 ?_
  refine z_cSi (As := [vL w, vL 0, vL 2]) (rest := []) ⟨hx, hb, hml, hown, hts⟩ hK hP hD hS hA [] [0] rfl rfl rfl (c_X10_in l g w 0 2 (by first | decide | omega) (by first | decide | omega) (by first | decide | omega)) (va_cwS 3 hts gX10_told_X10_in rfl rfl rfl (by decide +kernel) ⟨Nat.le_of_ble_eq_true rfl, Nat.le_of_ble_eq_true rfl⟩) (fun _ _ _ _ _ _ => trivial) (fun _ _ _ => trivial) rfl hl.1 (Nat.le_of_ble_eq_true rfl) rfl dX10_told_17 ⟨Nat.le_of_ble_eq_true rfl, Nat.le_of_ble_eq_true rfl⟩ (fun u_4 H locs hwu_4 hP hD hS => ?_)
  try dsimp only at hwu_4
  have hP : zP g [[mdl q a x]] H := hP
  have hD : zD A [[mdl q a x]] := hD
  refine z_toI (inI w 0 2) rfl ?_
  have hf_5 := inI_s w 0 2
  refine z_if_eq (tgt := 33) hx hb (by omega) dX10_told_20 (by decide) (fun cq6 => ?_) (fun cq6 => ?_)
  · refine z_ldc2 hx hb (-2000000002) hown (hts _ (List.mem_of_getElem? (i := 3) rfl)) rfl dX10_told_33 ?_
    exact z_retl () [0] hx hb hr hlocks hK hP hD hS (rfl) trivial rfl rfl (rfl) (Nat.le_of_ble_eq_true rfl) (Nat.le_of_ble_eq_true rfl) dX10_told_36
  · refine lv_iload_n hx hb dX10_told_23 rfl (lv_at hl 3 rfl) ?_
    refine z_i2l hx hb (by omega) dX10_told_24 ?_
    refine z_lconst hx hb 0 dX10_told_25 rfl ?_
    refine z_lconst hx hb 1 dX10_told_26 rfl ?_
    refine z_cSi (As := [vL j, vL 0, vL 1]) (rest := []) ⟨hx, hb, hml, hown, hts⟩ hK hP hD hS hA [] [0] rfl rfl rfl (c_X10_in l g j 0 1 (by first | decide | omega) (by first | decide | omega) (by first | decide | omega)) (va_cwS 3 hts gX10_told_X10_in rfl rfl rfl (by decide +kernel) ⟨Nat.le_of_ble_eq_true rfl, Nat.le_of_ble_eq_true rfl⟩) (fun _ _ _ _ _ _ => trivial) (fun _ _ _ => trivial) rfl hl.1 (Nat.le_of_ble_eq_true rfl) rfl dX10_told_27 ⟨Nat.le_of_ble_eq_true rfl, Nat.le_of_ble_eq_true rfl⟩ (fun u_7 H locs hwu_7 hP hD hS => ?_)
    try dsimp only at hwu_7
    have hP : zP g [[mdl q a x]] H := hP
    have hD : zD A [[mdl q a x]] := hD
    refine z_toI (inI j 0 1) rfl ?_
    have hf_8 := inI_s j 0 1
    refine z_if_ne (tgt := 37) hx hb (by omega) dX10_told_30 (by decide) (fun cq9 => False.elim (by omega)) (fun cq9 => ?_)
    refine z_ldc2 hx hb (-2000000002) hown (hts _ (List.mem_of_getElem? (i := 3) rfl)) rfl dX10_told_33 ?_
    exact z_retl () [0] hx hb hr hlocks hK hP hD hS (rfl) trivial rfl rfl (rfl) (Nat.le_of_ble_eq_true rfl) (Nat.le_of_ble_eq_true rfl) dX10_told_36

set_option maxHeartbeats 4000000 in
set_option maxRecDepth 100000 in
theorem c_X10_told0 (l : Launch) (g : zG) (q : Nat) (a : Nat → Nat) (x : Nat → Int) (S : RS) (w : Nat) (j : Int) (hw : w < 2) (hj : 0 ≤ j ∧ j ≤ 1) : zMet l g yX10_told wsX10_told 2 0 0 [.ref q, vI 0, vI ((w : Nat) : Int), vI j] zX0 [[mdl q a x], [((a 0), .inl (g.2 1, 88, .inr (.inl (aL S.1))))], [((a 1), .inl (g.2 1, 88, .inr (.inl (aL S.2.1))))]] (ql g (fun (_ : Unit) => (if j = 0 then S.1 (0 + w) else S.2.1 (0 + w))) (fun (_ : Unit) => True) (fun (_ : Unit) => [[mdl q a x], [((a 0), .inl (g.2 1, 88, .inr (.inl (aL S.1))))], [((a 1), .inl (g.2 1, 88, .inr (.inl (aL S.2.1))))]])) := by
  refine z_ent (cc := cX10_told) (maxL := 4) (ret := (some .long)) (by decide) rfl (Nat.le_of_ble_eq_true rfl) ?_
  intro p e s m below meth c A ls hx hb hr hml hown hts hlocks hin0 hA hK hP hD hS hXX hl
  have hown : s.vm.findClass RX10 = some m.cls := hown
  have hl : lv_has ls 4 [(0, .ref q), (1, vI 0), (2, vI ((w : Nat) : Int)), (3, vI j)] := hl
  refine lv_iload_n hx hb dX10_told_0 rfl (lv_at hl 1 rfl) ?_
  refine z_cSi (As := [vI 0]) (rest := []) ⟨hx, hb, hml, hown, hts⟩ hK hP hD hS hA [] [0, 1, 2] rfl rfl rfl (c_X10_isPhase l g 0 (by first | decide | omega)) (va_cwS 1 hts gX10_told_X10_isPhase rfl rfl rfl (by decide +kernel) ⟨Nat.le_of_ble_eq_true rfl, Nat.le_of_ble_eq_true rfl⟩) (fun _ _ _ _ _ _ => trivial) (fun _ _ _ => trivial) rfl hl.1 (Nat.le_of_ble_eq_true rfl) rfl dX10_told_1 ⟨Nat.le_of_ble_eq_true rfl, Nat.le_of_ble_eq_true rfl⟩ (fun u_1 H locs hwu_1 hP hD hS => ?_)
  try dsimp only at hwu_1
  have hP : zP g [[mdl q a x], [((a 0), .inl (g.2 1, 88, .inr (.inl (aL S.1))))], [((a 1), .inl (g.2 1, 88, .inr (.inl (aL S.2.1))))]] H := hP
  have hD : zD A [[mdl q a x], [((a 0), .inl (g.2 1, 88, .inr (.inl (aL S.1))))], [((a 1), .inl (g.2 1, 88, .inr (.inl (aL S.2.1))))]] := hD
  refine z_toI (inI 0 0 2) rfl ?_
  have hf_2 := inI_s 0 0 2
  refine z_if_ne (tgt := 11) hx hb (by omega) dX10_told_4 (by decide) (fun cq3 => ?_) (fun cq3 => False.elim (by omega))
  refine lv_iload_n hx hb dX10_told_11 rfl (lv_at hl 2 rfl) ?_
  refine z_i2l hx hb (by omega) dX10_told_12 ?_
  refine z_lconst hx hb 0 dX10_told_13 rfl ?_
  refine z_ldc2 hx hb 2 hown (hts _ (List.mem_of_getElem? (i := 2) rfl)) rfl dX10_told_14 ?_
  refine z_cSi (As := [vL ((w : Nat) : Int), vL 0, vL 2]) (rest := []) ⟨hx, hb, hml, hown, hts⟩ hK hP hD hS hA [] [0, 1, 2] rfl rfl rfl (c_X10_in l g ((w : Nat) : Int) 0 2 (by first | decide | omega) (by first | decide | omega) (by first | decide | omega)) (va_cwS 3 hts gX10_told_X10_in rfl rfl rfl (by decide +kernel) ⟨Nat.le_of_ble_eq_true rfl, Nat.le_of_ble_eq_true rfl⟩) (fun _ _ _ _ _ _ => trivial) (fun _ _ _ => trivial) rfl hl.1 (Nat.le_of_ble_eq_true rfl) rfl dX10_told_17 ⟨Nat.le_of_ble_eq_true rfl, Nat.le_of_ble_eq_true rfl⟩ (fun u_4 H locs hwu_4 hP hD hS => ?_)
  try dsimp only at hwu_4
  have hP : zP g [[mdl q a x], [((a 0), .inl (g.2 1, 88, .inr (.inl (aL S.1))))], [((a 1), .inl (g.2 1, 88, .inr (.inl (aL S.2.1))))]] H := hP
  have hD : zD A [[mdl q a x], [((a 0), .inl (g.2 1, 88, .inr (.inl (aL S.1))))], [((a 1), .inl (g.2 1, 88, .inr (.inl (aL S.2.1))))]] := hD
  refine z_toI (inI ((w : Nat) : Int) 0 2) rfl ?_
  have hf_5 := inI_s ((w : Nat) : Int) 0 2
  refine z_if_eq (tgt := 33) hx hb (by omega) dX10_told_20 (by decide) (fun cq6 => False.elim (by omega)) (fun cq6 => ?_)
  refine lv_iload_n hx hb dX10_told_23 rfl (lv_at hl 3 rfl) ?_
  refine z_i2l hx hb (by omega) dX10_told_24 ?_
  refine z_lconst hx hb 0 dX10_told_25 rfl ?_
  refine z_lconst hx hb 1 dX10_told_26 rfl ?_
  refine z_cSi (As := [vL j, vL 0, vL 1]) (rest := []) ⟨hx, hb, hml, hown, hts⟩ hK hP hD hS hA [] [0, 1, 2] rfl rfl rfl (c_X10_in l g j 0 1 (by first | decide | omega) (by first | decide | omega) (by first | decide | omega)) (va_cwS 3 hts gX10_told_X10_in rfl rfl rfl (by decide +kernel) ⟨Nat.le_of_ble_eq_true rfl, Nat.le_of_ble_eq_true rfl⟩) (fun _ _ _ _ _ _ => trivial) (fun _ _ _ => trivial) rfl hl.1 (Nat.le_of_ble_eq_true rfl) rfl dX10_told_27 ⟨Nat.le_of_ble_eq_true rfl, Nat.le_of_ble_eq_true rfl⟩ (fun u_7 H locs hwu_7 hP hD hS => ?_)
  try dsimp only at hwu_7
  have hP : zP g [[mdl q a x], [((a 0), .inl (g.2 1, 88, .inr (.inl (aL S.1))))], [((a 1), .inl (g.2 1, 88, .inr (.inl (aL S.2.1))))]] H := hP
  have hD : zD A [[mdl q a x], [((a 0), .inl (g.2 1, 88, .inr (.inl (aL S.1))))], [((a 1), .inl (g.2 1, 88, .inr (.inl (aL S.2.1))))]] := hD
  refine z_toI (inI j 0 1) rfl ?_
  have hf_8 := inI_s j 0 1
  refine z_if_ne (tgt := 37) hx hb (by omega) dX10_told_30 (by decide) (fun cq9 => ?_) (fun cq9 => False.elim (by omega))
  refine lv_iload_n hx hb dX10_told_37 rfl (lv_at hl 2 rfl) ?_
  refine z_iconst hx hb dX10_told_38 rfl ?_
  refine z_icmp_ge (tgt := 53) hx hb (by omega) (by decide) dX10_told_39 (by decide) (fun cq10 => False.elim (by omega)) (fun cq10 => ?_)
  refine lv_aload_n hx hb dX10_told_42 rfl (lv_at hl 0 rfl) ?_
  refine z_iconst hx hb dX10_told_43 rfl ?_
  refine lv_iload_n hx hb dX10_told_44 rfl (lv_at hl 1 rfl) ?_
  refine z_imul hx hb 0 rfl dX10_told_45 ?_
  refine lv_iload_n hx hb dX10_told_46 rfl (lv_at hl 2 rfl) ?_
  refine z_iadd hx hb (((0 + w) : Nat) : Int) (by omega) dX10_told_47 ?_
  refine lv_iload_n hx hb dX10_told_48 rfl (lv_at hl 3 rfl) ?_
  refine z_cVl (As := [vI (((0 + w) : Nat) : Int), vI j]) (rest := []) ⟨hx, hb, hml, hown, hts⟩ hK hP hD hS hA [0, 1, 2] [] rfl rfl rfl (c_X10_partOf l g q a x S (0 + w) j (by omega) (by omega)) (cwV 2 hts gX10_told_X10_partOf rfl rfl rfl (by decide +kernel) ⟨Nat.le_of_ble_eq_true rfl, Nat.le_of_ble_eq_true rfl⟩) 10 0 rfl rfl rfl (fun _ _ _ _ _ _ => trivial) (fun _ _ _ => trivial) rfl hl.1 (Nat.le_of_ble_eq_true rfl) rfl dX10_told_49 ⟨Nat.le_of_ble_eq_true rfl, Nat.le_of_ble_eq_true rfl⟩ (fun u_11 H locs hwu_11 hP hD hS => ?_)
  try dsimp only at hwu_11
  have hP : zP g [[mdl q a x], [((a 0), .inl (g.2 1, 88, .inr (.inl (aL S.1))))], [((a 1), .inl (g.2 1, 88, .inr (.inl (aL S.2.1))))]] H := hP
  have hD : zD A [[mdl q a x], [((a 0), .inl (g.2 1, 88, .inr (.inl (aL S.1))))], [((a 1), .inl (g.2 1, 88, .inr (.inl (aL S.2.1))))]] := hD
  refine z_toL (if j = 0 then S.1 (0 + w) else S.2.1 (0 + w)) rfl ?_
  exact z_retl () [0, 1, 2] hx hb hr hlocks hK hP hD hS (rfl) trivial rfl rfl (rfl) (Nat.le_of_ble_eq_true rfl) (Nat.le_of_ble_eq_true rfl) dX10_told_52

set_option maxHeartbeats 4000000 in
set_option maxRecDepth 100000 in
theorem c_X10_told0_n (l : Launch) (g : zG) (q : Nat) (a : Nat → Nat) (x : Nat → Int) (S : RS) (j : Int) (hz : S.2.2 = 0 ∨ S.2.2 = 1) (hk : ∀ k, k < 6 → rk S k) (hj : 0 ≤ j ∧ j ≤ 1) : zMet l g yX10_told wsX10_told 5 0 0 [.ref q, vI 0, vI 2, vI j] zX0 [[mdl q a (uI x 9 S.2.2)], [((a 0), .inl (g.2 1, 88, .inr (.inl (aL S.1))))], [((a 1), .inl (g.2 1, 88, .inr (.inl (aL S.2.1))))]] (ql g (fun (_ : Unit) => (if (rNm 78 0 (rZ0 S)).2.2 = 0 then (if j = 0 then (rNm 78 0 (rZ0 S)).1 78 else (rNm 78 0 (rZ0 S)).2.1 78) else -2000000004)) (fun (_ : Unit) => True) (fun (_ : Unit) => [[mdl q a (uI x 9 (rNm 78 0 (rZ0 S)).2.2)], [((a 0), .inl (g.2 1, 88, .inr (.inl (aL (rNm 78 0 (rZ0 S)).1))))], [((a 1), .inl (g.2 1, 88, .inr (.inl (aL (rNm 78 0 (rZ0 S)).2.1))))]])) := by
  refine z_ent (cc := cX10_told) (maxL := 4) (ret := (some .long)) (by decide) rfl (Nat.le_of_ble_eq_true rfl) ?_
  intro p e s m below meth c A ls hx hb hr hml hown hts hlocks hin0 hA hK hP hD hS hXX hl
  have hown : s.vm.findClass RX10 = some m.cls := hown
  have hin10_ : ∀ w ∈ wsX100, w ∈ wsX10_told := zw_in [45, 46, 47, 48, 49, 50, 51, 52, 53, 54, 55, 56, 57, 58, 59, 60, 61, 62, 63, 64, 65, 66, 67, 68, 69, 70] rfl
  have hl : lv_has ls 4 [(0, .ref q), (1, vI 0), (2, vI 2), (3, vI j)] := hl
  refine lv_iload_n hx hb dX10_told_0 rfl (lv_at hl 1 rfl) ?_
  refine z_cSi (As := [vI 0]) (rest := []) ⟨hx, hb, hml, hown, hts⟩ hK hP hD hS hA [] [0, 1, 2] rfl rfl rfl (c_X10_isPhase l g 0 (by first | decide | omega)) (va_cwS 1 hts gX10_told_X10_isPhase rfl rfl rfl (by decide +kernel) ⟨Nat.le_of_ble_eq_true rfl, Nat.le_of_ble_eq_true rfl⟩) (fun _ _ _ _ _ _ => trivial) (fun _ _ _ => trivial) rfl hl.1 (Nat.le_of_ble_eq_true rfl) rfl dX10_told_1 ⟨Nat.le_of_ble_eq_true rfl, Nat.le_of_ble_eq_true rfl⟩ (fun u_1 H locs hwu_1 hP hD hS => ?_)
  try dsimp only at hwu_1
  have hP : zP g [[mdl q a (uI x 9 S.2.2)], [((a 0), .inl (g.2 1, 88, .inr (.inl (aL S.1))))], [((a 1), .inl (g.2 1, 88, .inr (.inl (aL S.2.1))))]] H := hP
  have hD : zD A [[mdl q a (uI x 9 S.2.2)], [((a 0), .inl (g.2 1, 88, .inr (.inl (aL S.1))))], [((a 1), .inl (g.2 1, 88, .inr (.inl (aL S.2.1))))]] := hD
  refine z_toI (inI 0 0 2) rfl ?_
  have hf_2 := inI_s 0 0 2
  refine z_if_ne (tgt := 11) hx hb (by omega) dX10_told_4 (by decide) (fun cq3 => ?_) (fun cq3 => False.elim (by omega))
  refine lv_iload_n hx hb dX10_told_11 rfl (lv_at hl 2 rfl) ?_
  refine z_i2l hx hb (by decide) dX10_told_12 ?_
  refine z_lconst hx hb 0 dX10_told_13 rfl ?_
  refine z_ldc2 hx hb 2 hown (hts _ (List.mem_of_getElem? (i := 2) rfl)) rfl dX10_told_14 ?_
  refine z_cSi (As := [vL 2, vL 0, vL 2]) (rest := []) ⟨hx, hb, hml, hown, hts⟩ hK hP hD hS hA [] [0, 1, 2] rfl rfl rfl (c_X10_in l g 2 0 2 (by first | decide | omega) (by first | decide | omega) (by first | decide | omega)) (va_cwS 3 hts gX10_told_X10_in rfl rfl rfl (by decide +kernel) ⟨Nat.le_of_ble_eq_true rfl, Nat.le_of_ble_eq_true rfl⟩) (fun _ _ _ _ _ _ => trivial) (fun _ _ _ => trivial) rfl hl.1 (Nat.le_of_ble_eq_true rfl) rfl dX10_told_17 ⟨Nat.le_of_ble_eq_true rfl, Nat.le_of_ble_eq_true rfl⟩ (fun u_4 H locs hwu_4 hP hD hS => ?_)
  try dsimp only at hwu_4
  have hP : zP g [[mdl q a (uI x 9 S.2.2)], [((a 0), .inl (g.2 1, 88, .inr (.inl (aL S.1))))], [((a 1), .inl (g.2 1, 88, .inr (.inl (aL S.2.1))))]] H := hP
  have hD : zD A [[mdl q a (uI x 9 S.2.2)], [((a 0), .inl (g.2 1, 88, .inr (.inl (aL S.1))))], [((a 1), .inl (g.2 1, 88, .inr (.inl (aL S.2.1))))]] := hD
  refine z_toI (inI 2 0 2) rfl ?_
  have hf_5 := inI_s 2 0 2
  refine z_if_eq (tgt := 33) hx hb (by omega) dX10_told_20 (by decide) (fun cq6 => False.elim (by omega)) (fun cq6 => ?_)
  refine lv_iload_n hx hb dX10_told_23 rfl (lv_at hl 3 rfl) ?_
  refine z_i2l hx hb (by omega) dX10_told_24 ?_
  refine z_lconst hx hb 0 dX10_told_25 rfl ?_
  refine z_lconst hx hb 1 dX10_told_26 rfl ?_
  refine z_cSi (As := [vL j, vL 0, vL 1]) (rest := []) ⟨hx, hb, hml, hown, hts⟩ hK hP hD hS hA [] [0, 1, 2] rfl rfl rfl (c_X10_in l g j 0 1 (by first | decide | omega) (by first | decide | omega) (by first | decide | omega)) (va_cwS 3 hts gX10_told_X10_in rfl rfl rfl (by decide +kernel) ⟨Nat.le_of_ble_eq_true rfl, Nat.le_of_ble_eq_true rfl⟩) (fun _ _ _ _ _ _ => trivial) (fun _ _ _ => trivial) rfl hl.1 (Nat.le_of_ble_eq_true rfl) rfl dX10_told_27 ⟨Nat.le_of_ble_eq_true rfl, Nat.le_of_ble_eq_true rfl⟩ (fun u_7 H locs hwu_7 hP hD hS => ?_)
  try dsimp only at hwu_7
  have hP : zP g [[mdl q a (uI x 9 S.2.2)], [((a 0), .inl (g.2 1, 88, .inr (.inl (aL S.1))))], [((a 1), .inl (g.2 1, 88, .inr (.inl (aL S.2.1))))]] H := hP
  have hD : zD A [[mdl q a (uI x 9 S.2.2)], [((a 0), .inl (g.2 1, 88, .inr (.inl (aL S.1))))], [((a 1), .inl (g.2 1, 88, .inr (.inl (aL S.2.1))))]] := hD
  refine z_toI (inI j 0 1) rfl ?_
  have hf_8 := inI_s j 0 1
  refine z_if_ne (tgt := 37) hx hb (by omega) dX10_told_30 (by decide) (fun cq9 => ?_) (fun cq9 => False.elim (by omega))
  refine lv_iload_n hx hb dX10_told_37 rfl (lv_at hl 2 rfl) ?_
  refine z_iconst hx hb dX10_told_38 rfl ?_
  refine z_icmp_ge (tgt := 53) hx hb (by decide) (by decide) dX10_told_39 (by decide) (fun cq10 => ?_) (fun cq10 => False.elim (by omega))
  refine lv_aload_n hx hb dX10_told_53 rfl (lv_at hl 0 rfl) ?_
  refine z_iconst hx hb dX10_told_54 rfl ?_
  refine z_put hx hb hts hin10_ tyX10 tyX10_ok nmX10 hown hK hP hD hS 0 rfl rfl 22 (by decide) (hts _ (List.mem_of_getElem? (i := 4) rfl)) rfl (nar_z (by decide)) (fit_z (by decide)) (Nat.le_of_ble_eq_true rfl) dX10_told_55 [[mdl q a (uI x 9 0)], [((a 0), .inl (g.2 1, 88, .inr (.inl (aL S.1))))], [((a 1), .inl (g.2 1, 88, .inr (.inl (aL S.2.1))))]] rfl (fun H locs hP hD hS => ?_)
  obtain ⟨T_11, hT_11⟩ : ∃ T : RS, T = rZ0  S := ⟨_, rfl⟩
  have hP : zP g [[mdl q a (uI x 9 T_11.2.2)], [((a 0), .inl (g.2 1, 88, .inr (.inl (aL T_11.1))))], [((a 1), .inl (g.2 1, 88, .inr (.inl (aL T_11.2.1))))]] H := by rw [hT_11]; exact hP
  have hD : zD A [[mdl q a (uI x 9 T_11.2.2)], [((a 0), .inl (g.2 1, 88, .inr (.inl (aL T_11.1))))], [((a 1), .inl (g.2 1, 88, .inr (.inl (aL T_11.2.1))))]] := by rw [hT_11]; exact hD
  have hZT_11 : T_11.2.2 = 0 ∨ T_11.2.2 = 1 := by rw [hT_11]; exact rZ0_01 hz
  have hNT_11_0 : T_11.2.2 = 0 → rk T_11 0 := by rw [hT_11]; exact rZ0_r (hk 0 (by decide)) 
  have hNT_11_1 : T_11.2.2 = 0 → rk T_11 1 := by rw [hT_11]; exact rZ0_r (hk 1 (by decide)) 
  refine lv_aload_n hx hb dX10_told_58 rfl (lv_at hl 0 rfl) ?_
  refine z_bipush hx hb 78 dX10_told_59 rfl ?_
  refine z_iconst hx hb dX10_told_61 rfl ?_
  refine lv_iload_n hx hb dX10_told_62 rfl (lv_at hl 1 rfl) ?_
  refine z_imul hx hb 0 rfl dX10_told_63 ?_
  refine z_cVv (As := [vI 78, vI 0]) (rest := []) ⟨hx, hb, hml, hown, hts⟩ hK hP hD hS hA [0, 1, 2] [] rfl rfl rfl (c_X10_norm l g q a (uI x 9 T_11.2.2) T_11 78 0 (by omega) (by omega) hZT_11 (by omega) hNT_11_0 hNT_11_1) (cwV 2 hts gX10_told_X10_norm rfl rfl rfl (by decide +kernel) ⟨Nat.le_of_ble_eq_true rfl, Nat.le_of_ble_eq_true rfl⟩) 10 0 rfl rfl rfl (fun _ _ _ _ _ _ => trivial) (fun _ _ _ => trivial) rfl hl.1 (Nat.le_of_ble_eq_true rfl) rfl dX10_told_64 ⟨Nat.le_of_ble_eq_true rfl, Nat.le_of_ble_eq_true rfl⟩ (fun u_12 H locs hwu_12 hP hD hS => ?_)
  try dsimp only at hwu_12
  have hP : zP g [[mdl q a (uI x 9 (rNm 78 0 T_11).2.2)], [((a 0), .inl (g.2 1, 88, .inr (.inl (aL (rNm 78 0 T_11).1))))], [((a 1), .inl (g.2 1, 88, .inr (.inl (aL (rNm 78 0 T_11).2.1))))]] H := hP
  have hD : zD A [[mdl q a (uI x 9 (rNm 78 0 T_11).2.2)], [((a 0), .inl (g.2 1, 88, .inr (.inl (aL (rNm 78 0 T_11).1))))], [((a 1), .inl (g.2 1, 88, .inr (.inl (aL (rNm 78 0 T_11).2.1))))]] := hD
  obtain ⟨T_13, hT_13⟩ : ∃ T : RS, T = rNm 78 0 T_11 := ⟨_, rfl⟩
  have hP : zP g [[mdl q a (uI x 9 T_13.2.2)], [((a 0), .inl (g.2 1, 88, .inr (.inl (aL T_13.1))))], [((a 1), .inl (g.2 1, 88, .inr (.inl (aL T_13.2.1))))]] H := by rw [hT_13]; exact hP
  have hD : zD A [[mdl q a (uI x 9 T_13.2.2)], [((a 0), .inl (g.2 1, 88, .inr (.inl (aL T_13.1))))], [((a 1), .inl (g.2 1, 88, .inr (.inl (aL T_13.2.1))))]] := by rw [hT_13]; exact hD
  have hZT_13 : T_13.2.2 = 0 ∨ T_13.2.2 = 1 := by rw [hT_13]; exact rNm_01 hZT_11
  refine lv_aload_n hx hb dX10_told_67 rfl (lv_at hl 0 rfl) ?_
  refine z_get hx hb hts hin10_ hown hK hP 0 rfl rfl 22 (by decide) (hts _ (List.mem_of_getElem? (i := 4) rfl)) rfl dX10_told_68 ?_
  refine z_toI T_13.2.2 rfl ?_
  refine z_if_eq (tgt := 80) hx hb (by omega) dX10_told_71 (by decide) (fun cq14 => ?_) (fun cq14 => ?_)
  · refine lv_aload_n hx hb dX10_told_80 rfl (lv_at hl 0 rfl) ?_
    refine z_bipush hx hb 78 dX10_told_81 rfl ?_
    refine lv_iload_n hx hb dX10_told_83 rfl (lv_at hl 3 rfl) ?_
    refine z_cVl (As := [vI 78, vI j]) (rest := []) ⟨hx, hb, hml, hown, hts⟩ hK hP hD hS hA [0, 1, 2] [] rfl rfl rfl (c_X10_partOf l g q a (uI x 9 T_13.2.2) T_13 78 j (by decide) (by omega)) (cwV 2 hts gX10_told_X10_partOf rfl rfl rfl (by decide +kernel) ⟨Nat.le_of_ble_eq_true rfl, Nat.le_of_ble_eq_true rfl⟩) 10 0 rfl rfl rfl (fun _ _ _ _ _ _ => trivial) (fun _ _ _ => trivial) rfl hl.1 (Nat.le_of_ble_eq_true rfl) rfl dX10_told_84 ⟨Nat.le_of_ble_eq_true rfl, Nat.le_of_ble_eq_true rfl⟩ (fun u_15 H locs hwu_15 hP hD hS => ?_)
    try dsimp only at hwu_15
    have hP : zP g [[mdl q a (uI x 9 T_13.2.2)], [((a 0), .inl (g.2 1, 88, .inr (.inl (aL T_13.1))))], [((a 1), .inl (g.2 1, 88, .inr (.inl (aL T_13.2.1))))]] H := hP
    have hD : zD A [[mdl q a (uI x 9 T_13.2.2)], [((a 0), .inl (g.2 1, 88, .inr (.inl (aL T_13.1))))], [((a 1), .inl (g.2 1, 88, .inr (.inl (aL T_13.2.1))))]] := hD
    refine z_toL (if j = 0 then T_13.1 78 else T_13.2.1 78) rfl ?_
    have hE : T_13 = (rNm 78 0 (rZ0 S)) := by rw [hT_13, hT_11]
    exact z_retl () [0, 1, 2] hx hb hr hlocks hK hP hD hS (by rw [← hE]; first | exact (if_pos (by omega)).symm | exact (if_neg (by omega)).symm) trivial rfl rfl (by rw [← hE]; rfl) (Nat.le_of_ble_eq_true rfl) (Nat.le_of_ble_eq_true rfl) dX10_told_87
  · refine z_ldc2 hx hb (-2000000004) hown (hts _ (List.mem_of_getElem? (i := 5) rfl)) rfl dX10_told_74 ?_
    refine lv_goto (tgt := 87) hx hb dX10_told_77 (by decide) ?_
    have hE : T_13 = (rNm 78 0 (rZ0 S)) := by rw [hT_13, hT_11]
    exact z_retl () [0, 1, 2] hx hb hr hlocks hK hP hD hS (by rw [← hE]; first | exact (if_pos (by omega)).symm | exact (if_neg (by omega)).symm) trivial rfl rfl (by rw [← hE]; rfl) (Nat.le_of_ble_eq_true rfl) (Nat.le_of_ble_eq_true rfl) dX10_told_87

set_option maxHeartbeats 4000000 in
set_option maxRecDepth 100000 in
theorem c_X10_told1 (l : Launch) (g : zG) (q : Nat) (a : Nat → Nat) (x : Nat → Int) (S : RS) (w : Nat) (j : Int) (hw : w < 2) (hj : 0 ≤ j ∧ j ≤ 1) : zMet l g yX10_told wsX10_told 2 0 0 [.ref q, vI 1, vI ((w : Nat) : Int), vI j] zX0 [[mdl q a x], [((a 0), .inl (g.2 1, 88, .inr (.inl (aL S.1))))], [((a 1), .inl (g.2 1, 88, .inr (.inl (aL S.2.1))))]] (ql g (fun (_ : Unit) => (if j = 0 then S.1 (2 + w) else S.2.1 (2 + w))) (fun (_ : Unit) => True) (fun (_ : Unit) => [[mdl q a x], [((a 0), .inl (g.2 1, 88, .inr (.inl (aL S.1))))], [((a 1), .inl (g.2 1, 88, .inr (.inl (aL S.2.1))))]])) := by
  refine z_ent (cc := cX10_told) (maxL := 4) (ret := (some .long)) (by decide) rfl (Nat.le_of_ble_eq_true rfl) ?_
  intro p e s m below meth c A ls hx hb hr hml hown hts hlocks hin0 hA hK hP hD hS hXX hl
  have hown : s.vm.findClass RX10 = some m.cls := hown
  have hl : lv_has ls 4 [(0, .ref q), (1, vI 1), (2, vI ((w : Nat) : Int)), (3, vI j)] := hl
  refine lv_iload_n hx hb dX10_told_0 rfl (lv_at hl 1 rfl) ?_
  refine z_cSi (As := [vI 1]) (rest := []) ⟨hx, hb, hml, hown, hts⟩ hK hP hD hS hA [] [0, 1, 2] rfl rfl rfl (c_X10_isPhase l g 1 (by first | decide | omega)) (va_cwS 1 hts gX10_told_X10_isPhase rfl rfl rfl (by decide +kernel) ⟨Nat.le_of_ble_eq_true rfl, Nat.le_of_ble_eq_true rfl⟩) (fun _ _ _ _ _ _ => trivial) (fun _ _ _ => trivial) rfl hl.1 (Nat.le_of_ble_eq_true rfl) rfl dX10_told_1 ⟨Nat.le_of_ble_eq_true rfl, Nat.le_of_ble_eq_true rfl⟩ (fun u_1 H locs hwu_1 hP hD hS => ?_)
  try dsimp only at hwu_1
  have hP : zP g [[mdl q a x], [((a 0), .inl (g.2 1, 88, .inr (.inl (aL S.1))))], [((a 1), .inl (g.2 1, 88, .inr (.inl (aL S.2.1))))]] H := hP
  have hD : zD A [[mdl q a x], [((a 0), .inl (g.2 1, 88, .inr (.inl (aL S.1))))], [((a 1), .inl (g.2 1, 88, .inr (.inl (aL S.2.1))))]] := hD
  refine z_toI (inI 1 0 2) rfl ?_
  have hf_2 := inI_s 1 0 2
  refine z_if_ne (tgt := 11) hx hb (by omega) dX10_told_4 (by decide) (fun cq3 => ?_) (fun cq3 => False.elim (by omega))
  refine lv_iload_n hx hb dX10_told_11 rfl (lv_at hl 2 rfl) ?_
  refine z_i2l hx hb (by omega) dX10_told_12 ?_
  refine z_lconst hx hb 0 dX10_told_13 rfl ?_
  refine z_ldc2 hx hb 2 hown (hts _ (List.mem_of_getElem? (i := 2) rfl)) rfl dX10_told_14 ?_
  refine z_cSi (As := [vL ((w : Nat) : Int), vL 0, vL 2]) (rest := []) ⟨hx, hb, hml, hown, hts⟩ hK hP hD hS hA [] [0, 1, 2] rfl rfl rfl (c_X10_in l g ((w : Nat) : Int) 0 2 (by first | decide | omega) (by first | decide | omega) (by first | decide | omega)) (va_cwS 3 hts gX10_told_X10_in rfl rfl rfl (by decide +kernel) ⟨Nat.le_of_ble_eq_true rfl, Nat.le_of_ble_eq_true rfl⟩) (fun _ _ _ _ _ _ => trivial) (fun _ _ _ => trivial) rfl hl.1 (Nat.le_of_ble_eq_true rfl) rfl dX10_told_17 ⟨Nat.le_of_ble_eq_true rfl, Nat.le_of_ble_eq_true rfl⟩ (fun u_4 H locs hwu_4 hP hD hS => ?_)
  try dsimp only at hwu_4
  have hP : zP g [[mdl q a x], [((a 0), .inl (g.2 1, 88, .inr (.inl (aL S.1))))], [((a 1), .inl (g.2 1, 88, .inr (.inl (aL S.2.1))))]] H := hP
  have hD : zD A [[mdl q a x], [((a 0), .inl (g.2 1, 88, .inr (.inl (aL S.1))))], [((a 1), .inl (g.2 1, 88, .inr (.inl (aL S.2.1))))]] := hD
  refine z_toI (inI ((w : Nat) : Int) 0 2) rfl ?_
  have hf_5 := inI_s ((w : Nat) : Int) 0 2
  refine z_if_eq (tgt := 33) hx hb (by omega) dX10_told_20 (by decide) (fun cq6 => False.elim (by omega)) (fun cq6 => ?_)
  refine lv_iload_n hx hb dX10_told_23 rfl (lv_at hl 3 rfl) ?_
  refine z_i2l hx hb (by omega) dX10_told_24 ?_
  refine z_lconst hx hb 0 dX10_told_25 rfl ?_
  refine z_lconst hx hb 1 dX10_told_26 rfl ?_
  refine z_cSi (As := [vL j, vL 0, vL 1]) (rest := []) ⟨hx, hb, hml, hown, hts⟩ hK hP hD hS hA [] [0, 1, 2] rfl rfl rfl (c_X10_in l g j 0 1 (by first | decide | omega) (by first | decide | omega) (by first | decide | omega)) (va_cwS 3 hts gX10_told_X10_in rfl rfl rfl (by decide +kernel) ⟨Nat.le_of_ble_eq_true rfl, Nat.le_of_ble_eq_true rfl⟩) (fun _ _ _ _ _ _ => trivial) (fun _ _ _ => trivial) rfl hl.1 (Nat.le_of_ble_eq_true rfl) rfl dX10_told_27 ⟨Nat.le_of_ble_eq_true rfl, Nat.le_of_ble_eq_true rfl⟩ (fun u_7 H locs hwu_7 hP hD hS => ?_)
  try dsimp only at hwu_7
  have hP : zP g [[mdl q a x], [((a 0), .inl (g.2 1, 88, .inr (.inl (aL S.1))))], [((a 1), .inl (g.2 1, 88, .inr (.inl (aL S.2.1))))]] H := hP
  have hD : zD A [[mdl q a x], [((a 0), .inl (g.2 1, 88, .inr (.inl (aL S.1))))], [((a 1), .inl (g.2 1, 88, .inr (.inl (aL S.2.1))))]] := hD
  refine z_toI (inI j 0 1) rfl ?_
  have hf_8 := inI_s j 0 1
  refine z_if_ne (tgt := 37) hx hb (by omega) dX10_told_30 (by decide) (fun cq9 => ?_) (fun cq9 => False.elim (by omega))
  refine lv_iload_n hx hb dX10_told_37 rfl (lv_at hl 2 rfl) ?_
  refine z_iconst hx hb dX10_told_38 rfl ?_
  refine z_icmp_ge (tgt := 53) hx hb (by omega) (by decide) dX10_told_39 (by decide) (fun cq10 => False.elim (by omega)) (fun cq10 => ?_)
  refine lv_aload_n hx hb dX10_told_42 rfl (lv_at hl 0 rfl) ?_
  refine z_iconst hx hb dX10_told_43 rfl ?_
  refine lv_iload_n hx hb dX10_told_44 rfl (lv_at hl 1 rfl) ?_
  refine z_imul hx hb 2 rfl dX10_told_45 ?_
  refine lv_iload_n hx hb dX10_told_46 rfl (lv_at hl 2 rfl) ?_
  refine z_iadd hx hb (((2 + w) : Nat) : Int) (by omega) dX10_told_47 ?_
  refine lv_iload_n hx hb dX10_told_48 rfl (lv_at hl 3 rfl) ?_
  refine z_cVl (As := [vI (((2 + w) : Nat) : Int), vI j]) (rest := []) ⟨hx, hb, hml, hown, hts⟩ hK hP hD hS hA [0, 1, 2] [] rfl rfl rfl (c_X10_partOf l g q a x S (2 + w) j (by omega) (by omega)) (cwV 2 hts gX10_told_X10_partOf rfl rfl rfl (by decide +kernel) ⟨Nat.le_of_ble_eq_true rfl, Nat.le_of_ble_eq_true rfl⟩) 10 0 rfl rfl rfl (fun _ _ _ _ _ _ => trivial) (fun _ _ _ => trivial) rfl hl.1 (Nat.le_of_ble_eq_true rfl) rfl dX10_told_49 ⟨Nat.le_of_ble_eq_true rfl, Nat.le_of_ble_eq_true rfl⟩ (fun u_11 H locs hwu_11 hP hD hS => ?_)
  try dsimp only at hwu_11
  have hP : zP g [[mdl q a x], [((a 0), .inl (g.2 1, 88, .inr (.inl (aL S.1))))], [((a 1), .inl (g.2 1, 88, .inr (.inl (aL S.2.1))))]] H := hP
  have hD : zD A [[mdl q a x], [((a 0), .inl (g.2 1, 88, .inr (.inl (aL S.1))))], [((a 1), .inl (g.2 1, 88, .inr (.inl (aL S.2.1))))]] := hD
  refine z_toL (if j = 0 then S.1 (2 + w) else S.2.1 (2 + w)) rfl ?_
  exact z_retl () [0, 1, 2] hx hb hr hlocks hK hP hD hS (rfl) trivial rfl rfl (rfl) (Nat.le_of_ble_eq_true rfl) (Nat.le_of_ble_eq_true rfl) dX10_told_52

set_option maxHeartbeats 4000000 in
set_option maxRecDepth 100000 in
theorem c_X10_told1_n (l : Launch) (g : zG) (q : Nat) (a : Nat → Nat) (x : Nat → Int) (S : RS) (j : Int) (hz : S.2.2 = 0 ∨ S.2.2 = 1) (hk : ∀ k, k < 6 → rk S k) (hj : 0 ≤ j ∧ j ≤ 1) : zMet l g yX10_told wsX10_told 5 0 0 [.ref q, vI 1, vI 2, vI j] zX0 [[mdl q a (uI x 9 S.2.2)], [((a 0), .inl (g.2 1, 88, .inr (.inl (aL S.1))))], [((a 1), .inl (g.2 1, 88, .inr (.inl (aL S.2.1))))]] (ql g (fun (_ : Unit) => (if (rNm 78 2 (rZ0 S)).2.2 = 0 then (if j = 0 then (rNm 78 2 (rZ0 S)).1 78 else (rNm 78 2 (rZ0 S)).2.1 78) else -2000000004)) (fun (_ : Unit) => True) (fun (_ : Unit) => [[mdl q a (uI x 9 (rNm 78 2 (rZ0 S)).2.2)], [((a 0), .inl (g.2 1, 88, .inr (.inl (aL (rNm 78 2 (rZ0 S)).1))))], [((a 1), .inl (g.2 1, 88, .inr (.inl (aL (rNm 78 2 (rZ0 S)).2.1))))]])) := by
  refine z_ent (cc := cX10_told) (maxL := 4) (ret := (some .long)) (by decide) rfl (Nat.le_of_ble_eq_true rfl) ?_
  intro p e s m below meth c A ls hx hb hr hml hown hts hlocks hin0 hA hK hP hD hS hXX hl
  have hown : s.vm.findClass RX10 = some m.cls := hown
  have hin10_ : ∀ w ∈ wsX100, w ∈ wsX10_told := zw_in [45, 46, 47, 48, 49, 50, 51, 52, 53, 54, 55, 56, 57, 58, 59, 60, 61, 62, 63, 64, 65, 66, 67, 68, 69, 70] rfl
  have hl : lv_has ls 4 [(0, .ref q), (1, vI 1), (2, vI 2), (3, vI j)] := hl
  refine lv_iload_n hx hb dX10_told_0 rfl (lv_at hl 1 rfl) ?_
  refine z_cSi (As := [vI 1]) (rest := []) ⟨hx, hb, hml, hown, hts⟩ hK hP hD hS hA [] [0, 1, 2] rfl rfl rfl (c_X10_isPhase l g 1 (by first | decide | omega)) (va_cwS 1 hts gX10_told_X10_isPhase rfl rfl rfl (by decide +kernel) ⟨Nat.le_of_ble_eq_true rfl, Nat.le_of_ble_eq_true rfl⟩) (fun _ _ _ _ _ _ => trivial) (fun _ _ _ => trivial) rfl hl.1 (Nat.le_of_ble_eq_true rfl) rfl dX10_told_1 ⟨Nat.le_of_ble_eq_true rfl, Nat.le_of_ble_eq_true rfl⟩ (fun u_1 H locs hwu_1 hP hD hS => ?_)
  try dsimp only at hwu_1
  have hP : zP g [[mdl q a (uI x 9 S.2.2)], [((a 0), .inl (g.2 1, 88, .inr (.inl (aL S.1))))], [((a 1), .inl (g.2 1, 88, .inr (.inl (aL S.2.1))))]] H := hP
  have hD : zD A [[mdl q a (uI x 9 S.2.2)], [((a 0), .inl (g.2 1, 88, .inr (.inl (aL S.1))))], [((a 1), .inl (g.2 1, 88, .inr (.inl (aL S.2.1))))]] := hD
  refine z_toI (inI 1 0 2) rfl ?_
  have hf_2 := inI_s 1 0 2
  refine z_if_ne (tgt := 11) hx hb (by omega) dX10_told_4 (by decide) (fun cq3 => ?_) (fun cq3 => False.elim (by omega))
  refine lv_iload_n hx hb dX10_told_11 rfl (lv_at hl 2 rfl) ?_
  refine z_i2l hx hb (by decide) dX10_told_12 ?_
  refine z_lconst hx hb 0 dX10_told_13 rfl ?_
  refine z_ldc2 hx hb 2 hown (hts _ (List.mem_of_getElem? (i := 2) rfl)) rfl dX10_told_14 ?_
  refine z_cSi (As := [vL 2, vL 0, vL 2]) (rest := []) ⟨hx, hb, hml, hown, hts⟩ hK hP hD hS hA [] [0, 1, 2] rfl rfl rfl (c_X10_in l g 2 0 2 (by first | decide | omega) (by first | decide | omega) (by first | decide | omega)) (va_cwS 3 hts gX10_told_X10_in rfl rfl rfl (by decide +kernel) ⟨Nat.le_of_ble_eq_true rfl, Nat.le_of_ble_eq_true rfl⟩) (fun _ _ _ _ _ _ => trivial) (fun _ _ _ => trivial) rfl hl.1 (Nat.le_of_ble_eq_true rfl) rfl dX10_told_17 ⟨Nat.le_of_ble_eq_true rfl, Nat.le_of_ble_eq_true rfl⟩ (fun u_4 H locs hwu_4 hP hD hS => ?_)
  try dsimp only at hwu_4
  have hP : zP g [[mdl q a (uI x 9 S.2.2)], [((a 0), .inl (g.2 1, 88, .inr (.inl (aL S.1))))], [((a 1), .inl (g.2 1, 88, .inr (.inl (aL S.2.1))))]] H := hP
  have hD : zD A [[mdl q a (uI x 9 S.2.2)], [((a 0), .inl (g.2 1, 88, .inr (.inl (aL S.1))))], [((a 1), .inl (g.2 1, 88, .inr (.inl (aL S.2.1))))]] := hD
  refine z_toI (inI 2 0 2) rfl ?_
  have hf_5 := inI_s 2 0 2
  refine z_if_eq (tgt := 33) hx hb (by omega) dX10_told_20 (by decide) (fun cq6 => False.elim (by omega)) (fun cq6 => ?_)
  refine lv_iload_n hx hb dX10_told_23 rfl (lv_at hl 3 rfl) ?_
  refine z_i2l hx hb (by omega) dX10_told_24 ?_
  refine z_lconst hx hb 0 dX10_told_25 rfl ?_
  refine z_lconst hx hb 1 dX10_told_26 rfl ?_
  refine z_cSi (As := [vL j, vL 0, vL 1]) (rest := []) ⟨hx, hb, hml, hown, hts⟩ hK hP hD hS hA [] [0, 1, 2] rfl rfl rfl (c_X10_in l g j 0 1 (by first | decide | omega) (by first | decide | omega) (by first | decide | omega)) (va_cwS 3 hts gX10_told_X10_in rfl rfl rfl (by decide +kernel) ⟨Nat.le_of_ble_eq_true rfl, Nat.le_of_ble_eq_true rfl⟩) (fun _ _ _ _ _ _ => trivial) (fun _ _ _ => trivial) rfl hl.1 (Nat.le_of_ble_eq_true rfl) rfl dX10_told_27 ⟨Nat.le_of_ble_eq_true rfl, Nat.le_of_ble_eq_true rfl⟩ (fun u_7 H locs hwu_7 hP hD hS => ?_)
  try dsimp only at hwu_7
  have hP : zP g [[mdl q a (uI x 9 S.2.2)], [((a 0), .inl (g.2 1, 88, .inr (.inl (aL S.1))))], [((a 1), .inl (g.2 1, 88, .inr (.inl (aL S.2.1))))]] H := hP
  have hD : zD A [[mdl q a (uI x 9 S.2.2)], [((a 0), .inl (g.2 1, 88, .inr (.inl (aL S.1))))], [((a 1), .inl (g.2 1, 88, .inr (.inl (aL S.2.1))))]] := hD
  refine z_toI (inI j 0 1) rfl ?_
  have hf_8 := inI_s j 0 1
  refine z_if_ne (tgt := 37) hx hb (by omega) dX10_told_30 (by decide) (fun cq9 => ?_) (fun cq9 => False.elim (by omega))
  refine lv_iload_n hx hb dX10_told_37 rfl (lv_at hl 2 rfl) ?_
  refine z_iconst hx hb dX10_told_38 rfl ?_
  refine z_icmp_ge (tgt := 53) hx hb (by decide) (by decide) dX10_told_39 (by decide) (fun cq10 => ?_) (fun cq10 => False.elim (by omega))
  refine lv_aload_n hx hb dX10_told_53 rfl (lv_at hl 0 rfl) ?_
  refine z_iconst hx hb dX10_told_54 rfl ?_
  refine z_put hx hb hts hin10_ tyX10 tyX10_ok nmX10 hown hK hP hD hS 0 rfl rfl 22 (by decide) (hts _ (List.mem_of_getElem? (i := 4) rfl)) rfl (nar_z (by decide)) (fit_z (by decide)) (Nat.le_of_ble_eq_true rfl) dX10_told_55 [[mdl q a (uI x 9 0)], [((a 0), .inl (g.2 1, 88, .inr (.inl (aL S.1))))], [((a 1), .inl (g.2 1, 88, .inr (.inl (aL S.2.1))))]] rfl (fun H locs hP hD hS => ?_)
  obtain ⟨T_11, hT_11⟩ : ∃ T : RS, T = rZ0  S := ⟨_, rfl⟩
  have hP : zP g [[mdl q a (uI x 9 T_11.2.2)], [((a 0), .inl (g.2 1, 88, .inr (.inl (aL T_11.1))))], [((a 1), .inl (g.2 1, 88, .inr (.inl (aL T_11.2.1))))]] H := by rw [hT_11]; exact hP
  have hD : zD A [[mdl q a (uI x 9 T_11.2.2)], [((a 0), .inl (g.2 1, 88, .inr (.inl (aL T_11.1))))], [((a 1), .inl (g.2 1, 88, .inr (.inl (aL T_11.2.1))))]] := by rw [hT_11]; exact hD
  have hZT_11 : T_11.2.2 = 0 ∨ T_11.2.2 = 1 := by rw [hT_11]; exact rZ0_01 hz
  have hNT_11_0 : T_11.2.2 = 0 → rk T_11 2 := by rw [hT_11]; exact rZ0_r (hk 2 (by decide)) 
  have hNT_11_1 : T_11.2.2 = 0 → rk T_11 3 := by rw [hT_11]; exact rZ0_r (hk 3 (by decide)) 
  refine lv_aload_n hx hb dX10_told_58 rfl (lv_at hl 0 rfl) ?_
  refine z_bipush hx hb 78 dX10_told_59 rfl ?_
  refine z_iconst hx hb dX10_told_61 rfl ?_
  refine lv_iload_n hx hb dX10_told_62 rfl (lv_at hl 1 rfl) ?_
  refine z_imul hx hb 2 rfl dX10_told_63 ?_
  refine z_cVv (As := [vI 78, vI 2]) (rest := []) ⟨hx, hb, hml, hown, hts⟩ hK hP hD hS hA [0, 1, 2] [] rfl rfl rfl (c_X10_norm l g q a (uI x 9 T_11.2.2) T_11 78 2 (by omega) (by omega) hZT_11 (by omega) hNT_11_0 hNT_11_1) (cwV 2 hts gX10_told_X10_norm rfl rfl rfl (by decide +kernel) ⟨Nat.le_of_ble_eq_true rfl, Nat.le_of_ble_eq_true rfl⟩) 10 0 rfl rfl rfl (fun _ _ _ _ _ _ => trivial) (fun _ _ _ => trivial) rfl hl.1 (Nat.le_of_ble_eq_true rfl) rfl dX10_told_64 ⟨Nat.le_of_ble_eq_true rfl, Nat.le_of_ble_eq_true rfl⟩ (fun u_12 H locs hwu_12 hP hD hS => ?_)
  try dsimp only at hwu_12
  have hP : zP g [[mdl q a (uI x 9 (rNm 78 2 T_11).2.2)], [((a 0), .inl (g.2 1, 88, .inr (.inl (aL (rNm 78 2 T_11).1))))], [((a 1), .inl (g.2 1, 88, .inr (.inl (aL (rNm 78 2 T_11).2.1))))]] H := hP
  have hD : zD A [[mdl q a (uI x 9 (rNm 78 2 T_11).2.2)], [((a 0), .inl (g.2 1, 88, .inr (.inl (aL (rNm 78 2 T_11).1))))], [((a 1), .inl (g.2 1, 88, .inr (.inl (aL (rNm 78 2 T_11).2.1))))]] := hD
  obtain ⟨T_13, hT_13⟩ : ∃ T : RS, T = rNm 78 2 T_11 := ⟨_, rfl⟩
  have hP : zP g [[mdl q a (uI x 9 T_13.2.2)], [((a 0), .inl (g.2 1, 88, .inr (.inl (aL T_13.1))))], [((a 1), .inl (g.2 1, 88, .inr (.inl (aL T_13.2.1))))]] H := by rw [hT_13]; exact hP
  have hD : zD A [[mdl q a (uI x 9 T_13.2.2)], [((a 0), .inl (g.2 1, 88, .inr (.inl (aL T_13.1))))], [((a 1), .inl (g.2 1, 88, .inr (.inl (aL T_13.2.1))))]] := by rw [hT_13]; exact hD
  have hZT_13 : T_13.2.2 = 0 ∨ T_13.2.2 = 1 := by rw [hT_13]; exact rNm_01 hZT_11
  refine lv_aload_n hx hb dX10_told_67 rfl (lv_at hl 0 rfl) ?_
  refine z_get hx hb hts hin10_ hown hK hP 0 rfl rfl 22 (by decide) (hts _ (List.mem_of_getElem? (i := 4) rfl)) rfl dX10_told_68 ?_
  refine z_toI T_13.2.2 rfl ?_
  refine z_if_eq (tgt := 80) hx hb (by omega) dX10_told_71 (by decide) (fun cq14 => ?_) (fun cq14 => ?_)
  · refine lv_aload_n hx hb dX10_told_80 rfl (lv_at hl 0 rfl) ?_
    refine z_bipush hx hb 78 dX10_told_81 rfl ?_
    refine lv_iload_n hx hb dX10_told_83 rfl (lv_at hl 3 rfl) ?_
    refine z_cVl (As := [vI 78, vI j]) (rest := []) ⟨hx, hb, hml, hown, hts⟩ hK hP hD hS hA [0, 1, 2] [] rfl rfl rfl (c_X10_partOf l g q a (uI x 9 T_13.2.2) T_13 78 j (by decide) (by omega)) (cwV 2 hts gX10_told_X10_partOf rfl rfl rfl (by decide +kernel) ⟨Nat.le_of_ble_eq_true rfl, Nat.le_of_ble_eq_true rfl⟩) 10 0 rfl rfl rfl (fun _ _ _ _ _ _ => trivial) (fun _ _ _ => trivial) rfl hl.1 (Nat.le_of_ble_eq_true rfl) rfl dX10_told_84 ⟨Nat.le_of_ble_eq_true rfl, Nat.le_of_ble_eq_true rfl⟩ (fun u_15 H locs hwu_15 hP hD hS => ?_)
    try dsimp only at hwu_15
    have hP : zP g [[mdl q a (uI x 9 T_13.2.2)], [((a 0), .inl (g.2 1, 88, .inr (.inl (aL T_13.1))))], [((a 1), .inl (g.2 1, 88, .inr (.inl (aL T_13.2.1))))]] H := hP
    have hD : zD A [[mdl q a (uI x 9 T_13.2.2)], [((a 0), .inl (g.2 1, 88, .inr (.inl (aL T_13.1))))], [((a 1), .inl (g.2 1, 88, .inr (.inl (aL T_13.2.1))))]] := hD
    refine z_toL (if j = 0 then T_13.1 78 else T_13.2.1 78) rfl ?_
    have hE : T_13 = (rNm 78 2 (rZ0 S)) := by rw [hT_13, hT_11]
    exact z_retl () [0, 1, 2] hx hb hr hlocks hK hP hD hS (by rw [← hE]; first | exact (if_pos (by omega)).symm | exact (if_neg (by omega)).symm) trivial rfl rfl (by rw [← hE]; rfl) (Nat.le_of_ble_eq_true rfl) (Nat.le_of_ble_eq_true rfl) dX10_told_87
  · refine z_ldc2 hx hb (-2000000004) hown (hts _ (List.mem_of_getElem? (i := 5) rfl)) rfl dX10_told_74 ?_
    refine lv_goto (tgt := 87) hx hb dX10_told_77 (by decide) ?_
    have hE : T_13 = (rNm 78 2 (rZ0 S)) := by rw [hT_13, hT_11]
    exact z_retl () [0, 1, 2] hx hb hr hlocks hK hP hD hS (by rw [← hE]; first | exact (if_pos (by omega)).symm | exact (if_neg (by omega)).symm) trivial rfl rfl (by rw [← hE]; rfl) (Nat.le_of_ble_eq_true rfl) (Nat.le_of_ble_eq_true rfl) dX10_told_87

set_option maxHeartbeats 4000000 in
set_option maxRecDepth 100000 in
theorem c_X10_told2 (l : Launch) (g : zG) (q : Nat) (a : Nat → Nat) (x : Nat → Int) (S : RS) (w : Nat) (j : Int) (hw : w < 2) (hj : 0 ≤ j ∧ j ≤ 1) : zMet l g yX10_told wsX10_told 2 0 0 [.ref q, vI 2, vI ((w : Nat) : Int), vI j] zX0 [[mdl q a x], [((a 0), .inl (g.2 1, 88, .inr (.inl (aL S.1))))], [((a 1), .inl (g.2 1, 88, .inr (.inl (aL S.2.1))))]] (ql g (fun (_ : Unit) => (if j = 0 then S.1 (4 + w) else S.2.1 (4 + w))) (fun (_ : Unit) => True) (fun (_ : Unit) => [[mdl q a x], [((a 0), .inl (g.2 1, 88, .inr (.inl (aL S.1))))], [((a 1), .inl (g.2 1, 88, .inr (.inl (aL S.2.1))))]])) := by
  refine z_ent (cc := cX10_told) (maxL := 4) (ret := (some .long)) (by decide) rfl (Nat.le_of_ble_eq_true rfl) ?_
  intro p e s m below meth c A ls hx hb hr hml hown hts hlocks hin0 hA hK hP hD hS hXX hl
  have hown : s.vm.findClass RX10 = some m.cls := hown
  have hl : lv_has ls 4 [(0, .ref q), (1, vI 2), (2, vI ((w : Nat) : Int)), (3, vI j)] := hl
  refine lv_iload_n hx hb dX10_told_0 rfl (lv_at hl 1 rfl) ?_
  refine z_cSi (As := [vI 2]) (rest := []) ⟨hx, hb, hml, hown, hts⟩ hK hP hD hS hA [] [0, 1, 2] rfl rfl rfl (c_X10_isPhase l g 2 (by first | decide | omega)) (va_cwS 1 hts gX10_told_X10_isPhase rfl rfl rfl (by decide +kernel) ⟨Nat.le_of_ble_eq_true rfl, Nat.le_of_ble_eq_true rfl⟩) (fun _ _ _ _ _ _ => trivial) (fun _ _ _ => trivial) rfl hl.1 (Nat.le_of_ble_eq_true rfl) rfl dX10_told_1 ⟨Nat.le_of_ble_eq_true rfl, Nat.le_of_ble_eq_true rfl⟩ (fun u_1 H locs hwu_1 hP hD hS => ?_)
  try dsimp only at hwu_1
  have hP : zP g [[mdl q a x], [((a 0), .inl (g.2 1, 88, .inr (.inl (aL S.1))))], [((a 1), .inl (g.2 1, 88, .inr (.inl (aL S.2.1))))]] H := hP
  have hD : zD A [[mdl q a x], [((a 0), .inl (g.2 1, 88, .inr (.inl (aL S.1))))], [((a 1), .inl (g.2 1, 88, .inr (.inl (aL S.2.1))))]] := hD
  refine z_toI (inI 2 0 2) rfl ?_
  have hf_2 := inI_s 2 0 2
  refine z_if_ne (tgt := 11) hx hb (by omega) dX10_told_4 (by decide) (fun cq3 => ?_) (fun cq3 => False.elim (by omega))
  refine lv_iload_n hx hb dX10_told_11 rfl (lv_at hl 2 rfl) ?_
  refine z_i2l hx hb (by omega) dX10_told_12 ?_
  refine z_lconst hx hb 0 dX10_told_13 rfl ?_
  refine z_ldc2 hx hb 2 hown (hts _ (List.mem_of_getElem? (i := 2) rfl)) rfl dX10_told_14 ?_
  refine z_cSi (As := [vL ((w : Nat) : Int), vL 0, vL 2]) (rest := []) ⟨hx, hb, hml, hown, hts⟩ hK hP hD hS hA [] [0, 1, 2] rfl rfl rfl (c_X10_in l g ((w : Nat) : Int) 0 2 (by first | decide | omega) (by first | decide | omega) (by first | decide | omega)) (va_cwS 3 hts gX10_told_X10_in rfl rfl rfl (by decide +kernel) ⟨Nat.le_of_ble_eq_true rfl, Nat.le_of_ble_eq_true rfl⟩) (fun _ _ _ _ _ _ => trivial) (fun _ _ _ => trivial) rfl hl.1 (Nat.le_of_ble_eq_true rfl) rfl dX10_told_17 ⟨Nat.le_of_ble_eq_true rfl, Nat.le_of_ble_eq_true rfl⟩ (fun u_4 H locs hwu_4 hP hD hS => ?_)
  try dsimp only at hwu_4
  have hP : zP g [[mdl q a x], [((a 0), .inl (g.2 1, 88, .inr (.inl (aL S.1))))], [((a 1), .inl (g.2 1, 88, .inr (.inl (aL S.2.1))))]] H := hP
  have hD : zD A [[mdl q a x], [((a 0), .inl (g.2 1, 88, .inr (.inl (aL S.1))))], [((a 1), .inl (g.2 1, 88, .inr (.inl (aL S.2.1))))]] := hD
  refine z_toI (inI ((w : Nat) : Int) 0 2) rfl ?_
  have hf_5 := inI_s ((w : Nat) : Int) 0 2
  refine z_if_eq (tgt := 33) hx hb (by omega) dX10_told_20 (by decide) (fun cq6 => False.elim (by omega)) (fun cq6 => ?_)
  refine lv_iload_n hx hb dX10_told_23 rfl (lv_at hl 3 rfl) ?_
  refine z_i2l hx hb (by omega) dX10_told_24 ?_
  refine z_lconst hx hb 0 dX10_told_25 rfl ?_
  refine z_lconst hx hb 1 dX10_told_26 rfl ?_
  refine z_cSi (As := [vL j, vL 0, vL 1]) (rest := []) ⟨hx, hb, hml, hown, hts⟩ hK hP hD hS hA [] [0, 1, 2] rfl rfl rfl (c_X10_in l g j 0 1 (by first | decide | omega) (by first | decide | omega) (by first | decide | omega)) (va_cwS 3 hts gX10_told_X10_in rfl rfl rfl (by decide +kernel) ⟨Nat.le_of_ble_eq_true rfl, Nat.le_of_ble_eq_true rfl⟩) (fun _ _ _ _ _ _ => trivial) (fun _ _ _ => trivial) rfl hl.1 (Nat.le_of_ble_eq_true rfl) rfl dX10_told_27 ⟨Nat.le_of_ble_eq_true rfl, Nat.le_of_ble_eq_true rfl⟩ (fun u_7 H locs hwu_7 hP hD hS => ?_)
  try dsimp only at hwu_7
  have hP : zP g [[mdl q a x], [((a 0), .inl (g.2 1, 88, .inr (.inl (aL S.1))))], [((a 1), .inl (g.2 1, 88, .inr (.inl (aL S.2.1))))]] H := hP
  have hD : zD A [[mdl q a x], [((a 0), .inl (g.2 1, 88, .inr (.inl (aL S.1))))], [((a 1), .inl (g.2 1, 88, .inr (.inl (aL S.2.1))))]] := hD
  refine z_toI (inI j 0 1) rfl ?_
  have hf_8 := inI_s j 0 1
  refine z_if_ne (tgt := 37) hx hb (by omega) dX10_told_30 (by decide) (fun cq9 => ?_) (fun cq9 => False.elim (by omega))
  refine lv_iload_n hx hb dX10_told_37 rfl (lv_at hl 2 rfl) ?_
  refine z_iconst hx hb dX10_told_38 rfl ?_
  refine z_icmp_ge (tgt := 53) hx hb (by omega) (by decide) dX10_told_39 (by decide) (fun cq10 => False.elim (by omega)) (fun cq10 => ?_)
  refine lv_aload_n hx hb dX10_told_42 rfl (lv_at hl 0 rfl) ?_
  refine z_iconst hx hb dX10_told_43 rfl ?_
  refine lv_iload_n hx hb dX10_told_44 rfl (lv_at hl 1 rfl) ?_
  refine z_imul hx hb 4 rfl dX10_told_45 ?_
  refine lv_iload_n hx hb dX10_told_46 rfl (lv_at hl 2 rfl) ?_
  refine z_iadd hx hb (((4 + w) : Nat) : Int) (by omega) dX10_told_47 ?_
  refine lv_iload_n hx hb dX10_told_48 rfl (lv_at hl 3 rfl) ?_
  refine z_cVl (As := [vI (((4 + w) : Nat) : Int), vI j]) (rest := []) ⟨hx, hb, hml, hown, hts⟩ hK hP hD hS hA [0, 1, 2] [] rfl rfl rfl (c_X10_partOf l g q a x S (4 + w) j (by omega) (by omega)) (cwV 2 hts gX10_told_X10_partOf rfl rfl rfl (by decide +kernel) ⟨Nat.le_of_ble_eq_true rfl, Nat.le_of_ble_eq_true rfl⟩) 10 0 rfl rfl rfl (fun _ _ _ _ _ _ => trivial) (fun _ _ _ => trivial) rfl hl.1 (Nat.le_of_ble_eq_true rfl) rfl dX10_told_49 ⟨Nat.le_of_ble_eq_true rfl, Nat.le_of_ble_eq_true rfl⟩ (fun u_11 H locs hwu_11 hP hD hS => ?_)
  try dsimp only at hwu_11
  have hP : zP g [[mdl q a x], [((a 0), .inl (g.2 1, 88, .inr (.inl (aL S.1))))], [((a 1), .inl (g.2 1, 88, .inr (.inl (aL S.2.1))))]] H := hP
  have hD : zD A [[mdl q a x], [((a 0), .inl (g.2 1, 88, .inr (.inl (aL S.1))))], [((a 1), .inl (g.2 1, 88, .inr (.inl (aL S.2.1))))]] := hD
  refine z_toL (if j = 0 then S.1 (4 + w) else S.2.1 (4 + w)) rfl ?_
  exact z_retl () [0, 1, 2] hx hb hr hlocks hK hP hD hS (rfl) trivial rfl rfl (rfl) (Nat.le_of_ble_eq_true rfl) (Nat.le_of_ble_eq_true rfl) dX10_told_52

set_option maxHeartbeats 4000000 in
set_option maxRecDepth 100000 in
theorem c_X10_told2_n (l : Launch) (g : zG) (q : Nat) (a : Nat → Nat) (x : Nat → Int) (S : RS) (j : Int) (hz : S.2.2 = 0 ∨ S.2.2 = 1) (hk : ∀ k, k < 6 → rk S k) (hj : 0 ≤ j ∧ j ≤ 1) : zMet l g yX10_told wsX10_told 5 0 0 [.ref q, vI 2, vI 2, vI j] zX0 [[mdl q a (uI x 9 S.2.2)], [((a 0), .inl (g.2 1, 88, .inr (.inl (aL S.1))))], [((a 1), .inl (g.2 1, 88, .inr (.inl (aL S.2.1))))]] (ql g (fun (_ : Unit) => (if (rNm 78 4 (rZ0 S)).2.2 = 0 then (if j = 0 then (rNm 78 4 (rZ0 S)).1 78 else (rNm 78 4 (rZ0 S)).2.1 78) else -2000000004)) (fun (_ : Unit) => True) (fun (_ : Unit) => [[mdl q a (uI x 9 (rNm 78 4 (rZ0 S)).2.2)], [((a 0), .inl (g.2 1, 88, .inr (.inl (aL (rNm 78 4 (rZ0 S)).1))))], [((a 1), .inl (g.2 1, 88, .inr (.inl (aL (rNm 78 4 (rZ0 S)).2.1))))]])) := by
  refine z_ent (cc := cX10_told) (maxL := 4) (ret := (some .long)) (by decide) rfl (Nat.le_of_ble_eq_true rfl) ?_
  intro p e s m below meth c A ls hx hb hr hml hown hts hlocks hin0 hA hK hP hD hS hXX hl
  have hown : s.vm.findClass RX10 = some m.cls := hown
  have hin10_ : ∀ w ∈ wsX100, w ∈ wsX10_told := zw_in [45, 46, 47, 48, 49, 50, 51, 52, 53, 54, 55, 56, 57, 58, 59, 60, 61, 62, 63, 64, 65, 66, 67, 68, 69, 70] rfl
  have hl : lv_has ls 4 [(0, .ref q), (1, vI 2), (2, vI 2), (3, vI j)] := hl
  refine lv_iload_n hx hb dX10_told_0 rfl (lv_at hl 1 rfl) ?_
  refine z_cSi (As := [vI 2]) (rest := []) ⟨hx, hb, hml, hown, hts⟩ hK hP hD hS hA [] [0, 1, 2] rfl rfl rfl (c_X10_isPhase l g 2 (by first | decide | omega)) (va_cwS 1 hts gX10_told_X10_isPhase rfl rfl rfl (by decide +kernel) ⟨Nat.le_of_ble_eq_true rfl, Nat.le_of_ble_eq_true rfl⟩) (fun _ _ _ _ _ _ => trivial) (fun _ _ _ => trivial) rfl hl.1 (Nat.le_of_ble_eq_true rfl) rfl dX10_told_1 ⟨Nat.le_of_ble_eq_true rfl, Nat.le_of_ble_eq_true rfl⟩ (fun u_1 H locs hwu_1 hP hD hS => ?_)
  try dsimp only at hwu_1
  have hP : zP g [[mdl q a (uI x 9 S.2.2)], [((a 0), .inl (g.2 1, 88, .inr (.inl (aL S.1))))], [((a 1), .inl (g.2 1, 88, .inr (.inl (aL S.2.1))))]] H := hP
  have hD : zD A [[mdl q a (uI x 9 S.2.2)], [((a 0), .inl (g.2 1, 88, .inr (.inl (aL S.1))))], [((a 1), .inl (g.2 1, 88, .inr (.inl (aL S.2.1))))]] := hD
  refine z_toI (inI 2 0 2) rfl ?_
  have hf_2 := inI_s 2 0 2
  refine z_if_ne (tgt := 11) hx hb (by omega) dX10_told_4 (by decide) (fun cq3 => ?_) (fun cq3 => False.elim (by omega))
  refine lv_iload_n hx hb dX10_told_11 rfl (lv_at hl 2 rfl) ?_
  refine z_i2l hx hb (by decide) dX10_told_12 ?_
  refine z_lconst hx hb 0 dX10_told_13 rfl ?_
  refine z_ldc2 hx hb 2 hown (hts _ (List.mem_of_getElem? (i := 2) rfl)) rfl dX10_told_14 ?_
  refine z_cSi (As := [vL 2, vL 0, vL 2]) (rest := []) ⟨hx, hb, hml, hown, hts⟩ hK hP hD hS hA [] [0, 1, 2] rfl rfl rfl (c_X10_in l g 2 0 2 (by first | decide | omega) (by first | decide | omega) (by first | decide | omega)) (va_cwS 3 hts gX10_told_X10_in rfl rfl rfl (by decide +kernel) ⟨Nat.le_of_ble_eq_true rfl, Nat.le_of_ble_eq_true rfl⟩) (fun _ _ _ _ _ _ => trivial) (fun _ _ _ => trivial) rfl hl.1 (Nat.le_of_ble_eq_true rfl) rfl dX10_told_17 ⟨Nat.le_of_ble_eq_true rfl, Nat.le_of_ble_eq_true rfl⟩ (fun u_4 H locs hwu_4 hP hD hS => ?_)
  try dsimp only at hwu_4
  have hP : zP g [[mdl q a (uI x 9 S.2.2)], [((a 0), .inl (g.2 1, 88, .inr (.inl (aL S.1))))], [((a 1), .inl (g.2 1, 88, .inr (.inl (aL S.2.1))))]] H := hP
  have hD : zD A [[mdl q a (uI x 9 S.2.2)], [((a 0), .inl (g.2 1, 88, .inr (.inl (aL S.1))))], [((a 1), .inl (g.2 1, 88, .inr (.inl (aL S.2.1))))]] := hD
  refine z_toI (inI 2 0 2) rfl ?_
  have hf_5 := inI_s 2 0 2
  refine z_if_eq (tgt := 33) hx hb (by omega) dX10_told_20 (by decide) (fun cq6 => False.elim (by omega)) (fun cq6 => ?_)
  refine lv_iload_n hx hb dX10_told_23 rfl (lv_at hl 3 rfl) ?_
  refine z_i2l hx hb (by omega) dX10_told_24 ?_
  refine z_lconst hx hb 0 dX10_told_25 rfl ?_
  refine z_lconst hx hb 1 dX10_told_26 rfl ?_
  refine z_cSi (As := [vL j, vL 0, vL 1]) (rest := []) ⟨hx, hb, hml, hown, hts⟩ hK hP hD hS hA [] [0, 1, 2] rfl rfl rfl (c_X10_in l g j 0 1 (by first | decide | omega) (by first | decide | omega) (by first | decide | omega)) (va_cwS 3 hts gX10_told_X10_in rfl rfl rfl (by decide +kernel) ⟨Nat.le_of_ble_eq_true rfl, Nat.le_of_ble_eq_true rfl⟩) (fun _ _ _ _ _ _ => trivial) (fun _ _ _ => trivial) rfl hl.1 (Nat.le_of_ble_eq_true rfl) rfl dX10_told_27 ⟨Nat.le_of_ble_eq_true rfl, Nat.le_of_ble_eq_true rfl⟩ (fun u_7 H locs hwu_7 hP hD hS => ?_)
  try dsimp only at hwu_7
  have hP : zP g [[mdl q a (uI x 9 S.2.2)], [((a 0), .inl (g.2 1, 88, .inr (.inl (aL S.1))))], [((a 1), .inl (g.2 1, 88, .inr (.inl (aL S.2.1))))]] H := hP
  have hD : zD A [[mdl q a (uI x 9 S.2.2)], [((a 0), .inl (g.2 1, 88, .inr (.inl (aL S.1))))], [((a 1), .inl (g.2 1, 88, .inr (.inl (aL S.2.1))))]] := hD
  refine z_toI (inI j 0 1) rfl ?_
  have hf_8 := inI_s j 0 1
  refine z_if_ne (tgt := 37) hx hb (by omega) dX10_told_30 (by decide) (fun cq9 => ?_) (fun cq9 => False.elim (by omega))
  refine lv_iload_n hx hb dX10_told_37 rfl (lv_at hl 2 rfl) ?_
  refine z_iconst hx hb dX10_told_38 rfl ?_
  refine z_icmp_ge (tgt := 53) hx hb (by decide) (by decide) dX10_told_39 (by decide) (fun cq10 => ?_) (fun cq10 => False.elim (by omega))
  refine lv_aload_n hx hb dX10_told_53 rfl (lv_at hl 0 rfl) ?_
  refine z_iconst hx hb dX10_told_54 rfl ?_
  refine z_put hx hb hts hin10_ tyX10 tyX10_ok nmX10 hown hK hP hD hS 0 rfl rfl 22 (by decide) (hts _ (List.mem_of_getElem? (i := 4) rfl)) rfl (nar_z (by decide)) (fit_z (by decide)) (Nat.le_of_ble_eq_true rfl) dX10_told_55 [[mdl q a (uI x 9 0)], [((a 0), .inl (g.2 1, 88, .inr (.inl (aL S.1))))], [((a 1), .inl (g.2 1, 88, .inr (.inl (aL S.2.1))))]] rfl (fun H locs hP hD hS => ?_)
  obtain ⟨T_11, hT_11⟩ : ∃ T : RS, T = rZ0  S := ⟨_, rfl⟩
  have hP : zP g [[mdl q a (uI x 9 T_11.2.2)], [((a 0), .inl (g.2 1, 88, .inr (.inl (aL T_11.1))))], [((a 1), .inl (g.2 1, 88, .inr (.inl (aL T_11.2.1))))]] H := by rw [hT_11]; exact hP
  have hD : zD A [[mdl q a (uI x 9 T_11.2.2)], [((a 0), .inl (g.2 1, 88, .inr (.inl (aL T_11.1))))], [((a 1), .inl (g.2 1, 88, .inr (.inl (aL T_11.2.1))))]] := by rw [hT_11]; exact hD
  have hZT_11 : T_11.2.2 = 0 ∨ T_11.2.2 = 1 := by rw [hT_11]; exact rZ0_01 hz
  have hNT_11_0 : T_11.2.2 = 0 → rk T_11 4 := by rw [hT_11]; exact rZ0_r (hk 4 (by decide)) 
  have hNT_11_1 : T_11.2.2 = 0 → rk T_11 5 := by rw [hT_11]; exact rZ0_r (hk 5 (by decide)) 
  refine lv_aload_n hx hb dX10_told_58 rfl (lv_at hl 0 rfl) ?_
  refine z_bipush hx hb 78 dX10_told_59 rfl ?_
  refine z_iconst hx hb dX10_told_61 rfl ?_
  refine lv_iload_n hx hb dX10_told_62 rfl (lv_at hl 1 rfl) ?_
  refine z_imul hx hb 4 rfl dX10_told_63 ?_
  refine z_cVv (As := [vI 78, vI 4]) (rest := []) ⟨hx, hb, hml, hown, hts⟩ hK hP hD hS hA [0, 1, 2] [] rfl rfl rfl (c_X10_norm l g q a (uI x 9 T_11.2.2) T_11 78 4 (by omega) (by omega) hZT_11 (by omega) hNT_11_0 hNT_11_1) (cwV 2 hts gX10_told_X10_norm rfl rfl rfl (by decide +kernel) ⟨Nat.le_of_ble_eq_true rfl, Nat.le_of_ble_eq_true rfl⟩) 10 0 rfl rfl rfl (fun _ _ _ _ _ _ => trivial) (fun _ _ _ => trivial) rfl hl.1 (Nat.le_of_ble_eq_true rfl) rfl dX10_told_64 ⟨Nat.le_of_ble_eq_true rfl, Nat.le_of_ble_eq_true rfl⟩ (fun u_12 H locs hwu_12 hP hD hS => ?_)
  try dsimp only at hwu_12
  have hP : zP g [[mdl q a (uI x 9 (rNm 78 4 T_11).2.2)], [((a 0), .inl (g.2 1, 88, .inr (.inl (aL (rNm 78 4 T_11).1))))], [((a 1), .inl (g.2 1, 88, .inr (.inl (aL (rNm 78 4 T_11).2.1))))]] H := hP
  have hD : zD A [[mdl q a (uI x 9 (rNm 78 4 T_11).2.2)], [((a 0), .inl (g.2 1, 88, .inr (.inl (aL (rNm 78 4 T_11).1))))], [((a 1), .inl (g.2 1, 88, .inr (.inl (aL (rNm 78 4 T_11).2.1))))]] := hD
  obtain ⟨T_13, hT_13⟩ : ∃ T : RS, T = rNm 78 4 T_11 := ⟨_, rfl⟩
  have hP : zP g [[mdl q a (uI x 9 T_13.2.2)], [((a 0), .inl (g.2 1, 88, .inr (.inl (aL T_13.1))))], [((a 1), .inl (g.2 1, 88, .inr (.inl (aL T_13.2.1))))]] H := by rw [hT_13]; exact hP
  have hD : zD A [[mdl q a (uI x 9 T_13.2.2)], [((a 0), .inl (g.2 1, 88, .inr (.inl (aL T_13.1))))], [((a 1), .inl (g.2 1, 88, .inr (.inl (aL T_13.2.1))))]] := by rw [hT_13]; exact hD
  have hZT_13 : T_13.2.2 = 0 ∨ T_13.2.2 = 1 := by rw [hT_13]; exact rNm_01 hZT_11
  refine lv_aload_n hx hb dX10_told_67 rfl (lv_at hl 0 rfl) ?_
  refine z_get hx hb hts hin10_ hown hK hP 0 rfl rfl 22 (by decide) (hts _ (List.mem_of_getElem? (i := 4) rfl)) rfl dX10_told_68 ?_
  refine z_toI T_13.2.2 rfl ?_
  refine z_if_eq (tgt := 80) hx hb (by omega) dX10_told_71 (by decide) (fun cq14 => ?_) (fun cq14 => ?_)
  · refine lv_aload_n hx hb dX10_told_80 rfl (lv_at hl 0 rfl) ?_
    refine z_bipush hx hb 78 dX10_told_81 rfl ?_
    refine lv_iload_n hx hb dX10_told_83 rfl (lv_at hl 3 rfl) ?_
    refine z_cVl (As := [vI 78, vI j]) (rest := []) ⟨hx, hb, hml, hown, hts⟩ hK hP hD hS hA [0, 1, 2] [] rfl rfl rfl (c_X10_partOf l g q a (uI x 9 T_13.2.2) T_13 78 j (by decide) (by omega)) (cwV 2 hts gX10_told_X10_partOf rfl rfl rfl (by decide +kernel) ⟨Nat.le_of_ble_eq_true rfl, Nat.le_of_ble_eq_true rfl⟩) 10 0 rfl rfl rfl (fun _ _ _ _ _ _ => trivial) (fun _ _ _ => trivial) rfl hl.1 (Nat.le_of_ble_eq_true rfl) rfl dX10_told_84 ⟨Nat.le_of_ble_eq_true rfl, Nat.le_of_ble_eq_true rfl⟩ (fun u_15 H locs hwu_15 hP hD hS => ?_)
    try dsimp only at hwu_15
    have hP : zP g [[mdl q a (uI x 9 T_13.2.2)], [((a 0), .inl (g.2 1, 88, .inr (.inl (aL T_13.1))))], [((a 1), .inl (g.2 1, 88, .inr (.inl (aL T_13.2.1))))]] H := hP
    have hD : zD A [[mdl q a (uI x 9 T_13.2.2)], [((a 0), .inl (g.2 1, 88, .inr (.inl (aL T_13.1))))], [((a 1), .inl (g.2 1, 88, .inr (.inl (aL T_13.2.1))))]] := hD
    refine z_toL (if j = 0 then T_13.1 78 else T_13.2.1 78) rfl ?_
    have hE : T_13 = (rNm 78 4 (rZ0 S)) := by rw [hT_13, hT_11]
    exact z_retl () [0, 1, 2] hx hb hr hlocks hK hP hD hS (by rw [← hE]; first | exact (if_pos (by omega)).symm | exact (if_neg (by omega)).symm) trivial rfl rfl (by rw [← hE]; rfl) (Nat.le_of_ble_eq_true rfl) (Nat.le_of_ble_eq_true rfl) dX10_told_87
  · refine z_ldc2 hx hb (-2000000004) hown (hts _ (List.mem_of_getElem? (i := 5) rfl)) rfl dX10_told_74 ?_
    refine lv_goto (tgt := 87) hx hb dX10_told_77 (by decide) ?_
    have hE : T_13 = (rNm 78 4 (rZ0 S)) := by rw [hT_13, hT_11]
    exact z_retl () [0, 1, 2] hx hb hr hlocks hK hP hD hS (by rw [← hE]; first | exact (if_pos (by omega)).symm | exact (if_neg (by omega)).symm) trivial rfl rfl (by rw [← hE]; rfl) (Nat.le_of_ble_eq_true rfl) (Nat.le_of_ble_eq_true rfl) dX10_told_87
