theorem c_X10_kp (l : Launch) (g : zG) (q : Nat) (a : Nat → Nat) (x : Nat → Int) (S : RS) (u : Nat) (hu : x 2 = (u : Int)) (hu8 : u ≤ 8) : zMet l g yX10_keepPast wsX10_keepPast 1 0 0 [.ref q] zX0 [[mdl q a x], [((a 0), .inl (g.2 1, 88, .inr (.inl (aL S.1))))], [((a 1), .inl (g.2 1, 88, .inr (.inl (aL S.2.1))))]] (qv g (fun (_ : Unit) => True) (fun (_ : Unit) => [[mdl q a (uI x 2 (((min (u + 1) 8) : Nat) : Int))], [((a 0), .inl (g.2 1, 88, .inr (.inl (aL (kpS u S).1))))], [((a 1), .inl (g.2 1, 88, .inr (.inl (aL (kpS u S).2.1))))]])) := by
  by_cases h : u < 8
  · have e := c_X10_keepPast l g q a x S u hu h
    rw [show kpS u S = rC6 0 (6 + (6 * u)) S from if_pos h, show min (u + 1) 8 = u + 1 by omega]
    exact e
  · obtain rfl : u = 8 := by omega
    exact c_X10_keepPast8 l g q a x S hu

set_option maxHeartbeats 4000000 in
set_option maxRecDepth 100000 in
theorem c_X10_undo_not (l : Launch) (g : zG) (q : Nat) (a : Nat → Nat) (x : Nat → Int) (hu : x 2 = 0) : zMet l g yX10_undo wsX10_undo 0 0 0 [.ref q] zX0 [[mdl q a x]] (qi g (fun (_ : Unit) => (-2000000003)) (fun (_ : Unit) => True) (fun (_ : Unit) => [[mdl q a x]])) := by
  refine z_ent (cc := cX10_undo) (maxL := 1) (ret := (some .int)) (by decide) rfl (Nat.le_of_ble_eq_true rfl) ?_
  intro p e s m below meth c A ls hx hb hr hml hown hts hlocks hin0 hA hK hP hD hS hXX hl
  have hown : s.vm.findClass RX10 = some m.cls := hown
  have hin10_ : ∀ w ∈ wsX100, w ∈ wsX10_undo := zw_in [10, 11, 12, 13, 14, 15, 16, 17, 18, 19, 20, 21, 22, 23, 24, 25, 26, 27, 28, 29, 30, 31, 32, 33, 34, 35] rfl
  have hl : lv_has ls 1 [(0, .ref q)] := hl
  refine lv_aload_n hx hb dX10_undo_0 rfl (lv_at hl 0 rfl) ?_
  refine z_get hx hb hts hin10_ hown hK hP 0 rfl rfl 7 (by decide) (hts _ (List.mem_of_getElem? (i := 1) rfl)) rfl dX10_undo_1 ?_
  refine z_if_ne (tgt := 10) hx hb (by omega) dX10_undo_4 (by decide) (fun cq1 => False.elim (by omega)) (fun cq1 => ?_)
  refine z_ldc hx hb (-2000000003) hown (hts _ (List.mem_of_getElem? (i := 2) rfl)) rfl dX10_undo_7 ?_
  exact z_reti () [0] hx hb hr rfl hlocks hK hP hD hS (rfl) trivial rfl rfl (rfl) (Nat.le_of_ble_eq_true rfl) (Nat.le_of_ble_eq_true rfl) dX10_undo_9

set_option maxHeartbeats 4000000 in
set_option maxRecDepth 100000 in
theorem c_X10_undo (l : Launch) (g : zG) (q : Nat) (a : Nat → Nat) (x : Nat → Int) (S : RS) (u : Nat) (hu : x 2 = (u : Int)) (hu8 : u ≤ 8) (hu1 : 1 ≤ u) : zMet l g yX10_undo wsX10_undo 1 0 0 [.ref q] zX0 [[mdl q a x], [((a 0), .inl (g.2 1, 88, .inr (.inl (aL S.1))))], [((a 1), .inl (g.2 1, 88, .inr (.inl (aL S.2.1))))]] (qi g (fun (_ : Unit) => (((u - 1) : Nat) : Int)) (fun (_ : Unit) => True) (fun (_ : Unit) => [[mdl q a (uI x 2 (((u - 1) : Nat) : Int))], [((a 0), .inl (g.2 1, 88, .inr (.inl (aL (rC6 (6 + (6 * (u - 1))) 0 S).1))))], [((a 1), .inl (g.2 1, 88, .inr (.inl (aL (rC6 (6 + (6 * (u - 1))) 0 S).2.1))))]])) := by
  refine z_ent (cc := cX10_undo) (maxL := 1) (ret := (some .int)) (by decide) rfl (Nat.le_of_ble_eq_true rfl) ?_
  intro p e s m below meth c A ls hx hb hr hml hown hts hlocks hin0 hA hK hP hD hS hXX hl
  have hown : s.vm.findClass RX10 = some m.cls := hown
  have hin10_ : ∀ w ∈ wsX100, w ∈ wsX10_undo := zw_in [10, 11, 12, 13, 14, 15, 16, 17, 18, 19, 20, 21, 22, 23, 24, 25, 26, 27, 28, 29, 30, 31, 32, 33, 34, 35] rfl
  have hl : lv_has ls 1 [(0, .ref q)] := hl
  refine lv_aload_n hx hb dX10_undo_0 rfl (lv_at hl 0 rfl) ?_
  refine z_get hx hb hts hin10_ hown hK hP 0 rfl rfl 7 (by decide) (hts _ (List.mem_of_getElem? (i := 1) rfl)) rfl dX10_undo_1 ?_
  refine z_if_ne (tgt := 10) hx hb (by omega) dX10_undo_4 (by decide) (fun cq1 => ?_) (fun cq1 => False.elim (by omega))
  refine lv_aload_n hx hb dX10_undo_10 rfl (lv_at hl 0 rfl) ?_
  refine lv_dup hx hb dX10_undo_11 rfl ?_
  refine z_get hx hb hts hin10_ hown hK hP 0 rfl rfl 7 (by decide) (hts _ (List.mem_of_getElem? (i := 1) rfl)) rfl dX10_undo_12 ?_
  refine z_iconst hx hb dX10_undo_15 rfl ?_
  refine z_isub hx hb ((x 2) - 1) rfl dX10_undo_16 ?_
  refine z_toI (((u - 1) : Nat) : Int) (by omega) ?_
  refine z_put hx hb hts hin10_ tyX10 tyX10_ok nmX10 hown hK hP hD hS 0 rfl rfl 7 (by decide) (hts _ (List.mem_of_getElem? (i := 1) rfl)) rfl rfl rfl (Nat.le_of_ble_eq_true rfl) dX10_undo_17 [[mdl q a (uI x 2 (((u - 1) : Nat) : Int))], [((a 0), .inl (g.2 1, 88, .inr (.inl (aL S.1))))], [((a 1), .inl (g.2 1, 88, .inr (.inl (aL S.2.1))))]] rfl (fun H locs hP hD hS => ?_)
  refine lv_aload_n hx hb dX10_undo_20 rfl (lv_at hl 0 rfl) ?_
  refine z_bipush hx hb 6 dX10_undo_21 rfl ?_
  refine z_bipush hx hb 6 dX10_undo_23 rfl ?_
  refine lv_aload_n hx hb dX10_undo_25 rfl (lv_at hl 0 rfl) ?_
  refine z_get hx hb hts hin10_ hown hK hP 0 rfl rfl 7 (by decide) (hts _ (List.mem_of_getElem? (i := 1) rfl)) rfl dX10_undo_26 ?_
  refine z_toI (((u - 1) : Nat) : Int) rfl ?_
  refine z_imul hx hb (((6 * (u - 1)) : Nat) : Int) (by omega) dX10_undo_29 ?_
  refine z_iadd hx hb (((6 + (6 * (u - 1))) : Nat) : Int) (by omega) dX10_undo_30 ?_
  refine z_iconst hx hb dX10_undo_31 rfl ?_
  refine z_cVv (As := [vI (((6 + (6 * (u - 1))) : Nat) : Int), vI 0]) (rest := []) ⟨hx, hb, hml, hown, hts⟩ hK hP hD hS hA [0, 1, 2] [] rfl rfl rfl (c_X10_copyPhases l g q a (uI x 2 (((u - 1) : Nat) : Int)) S (6 + (6 * (u - 1))) 0 (by omega) (by omega)) (cwV 2 hts gX10_undo_X10_copyPhases rfl rfl rfl (by decide +kernel) ⟨Nat.le_of_ble_eq_true rfl, Nat.le_of_ble_eq_true rfl⟩) 10 0 rfl rfl rfl (fun _ _ _ _ _ _ => trivial) (fun _ _ _ => trivial) rfl hl.1 (Nat.le_of_ble_eq_true rfl) rfl dX10_undo_32 ⟨Nat.le_of_ble_eq_true rfl, Nat.le_of_ble_eq_true rfl⟩ (fun u_2 H locs hwu_2 hP hD hS => ?_)
  try dsimp only at hwu_2
  have hP : zP g [[mdl q a (uI x 2 (((u - 1) : Nat) : Int))], [((a 0), .inl (g.2 1, 88, .inr (.inl (aL (rC6 (6 + (6 * (u - 1))) 0 S).1))))], [((a 1), .inl (g.2 1, 88, .inr (.inl (aL (rC6 (6 + (6 * (u - 1))) 0 S).2.1))))]] H := hP
  have hD : zD A [[mdl q a (uI x 2 (((u - 1) : Nat) : Int))], [((a 0), .inl (g.2 1, 88, .inr (.inl (aL (rC6 (6 + (6 * (u - 1))) 0 S).1))))], [((a 1), .inl (g.2 1, 88, .inr (.inl (aL (rC6 (6 + (6 * (u - 1))) 0 S).2.1))))]] := hD
  refine lv_aload_n hx hb dX10_undo_35 rfl (lv_at hl 0 rfl) ?_
  refine z_get hx hb hts hin10_ hown hK hP 0 rfl rfl 7 (by decide) (hts _ (List.mem_of_getElem? (i := 1) rfl)) rfl dX10_undo_36 ?_
  refine z_toI (((u - 1) : Nat) : Int) rfl ?_
  exact z_reti () [0, 1, 2] hx hb hr rfl hlocks hK hP hD hS (rfl) trivial rfl rfl (rfl) (Nat.le_of_ble_eq_true rfl) (Nat.le_of_ble_eq_true rfl) dX10_undo_39

set_option maxHeartbeats 4000000 in
set_option maxRecDepth 100000 in
theorem c_X10_keep_out (l : Launch) (g : zG) (q : Nat) (a : Nat → Nat) (x : Nat → Int) (kk : Int) (hk : -2147483648 ≤ kk ∧ kk < 2147483648) (ho : ¬ (0 ≤ kk ∧ kk ≤ 1)) : zMet l g yX10_keep wsX10_keep 1 0 0 [.ref q, vI kk] zX0 [[mdl q a x]] (qi g (fun (_ : Unit) => (-2000000002)) (fun (_ : Unit) => True) (fun (_ : Unit) => [[mdl q a x]])) := by
  refine z_ent (cc := cX10_keep) (maxL := 2) (ret := (some .int)) (by decide) rfl (Nat.le_of_ble_eq_true rfl) ?_
  intro p e s m below meth c A ls hx hb hr hml hown hts hlocks hin0 hA hK hP hD hS hXX hl
  have hown : s.vm.findClass RX10 = some m.cls := hown
  have hl : lv_has ls 2 [(0, .ref q), (1, vI kk)] := hl
  refine lv_iload_n hx hb dX10_keep_0 rfl (lv_at hl 1 rfl) ?_
  refine z_i2l hx hb (by omega) dX10_keep_1 ?_
  refine z_lconst hx hb 0 dX10_keep_2 rfl ?_
  refine z_lconst hx hb 1 dX10_keep_3 rfl ?_
  refine z_cSi (As := [vL kk, vL 0, vL 1]) (rest := []) ⟨hx, hb, hml, hown, hts⟩ hK hP hD hS hA [] [0] rfl rfl rfl (c_X10_in l g kk 0 1 (by first | decide | omega) (by first | decide | omega) (by first | decide | omega)) (va_cwS 3 hts gX10_keep_X10_in rfl rfl rfl (by decide +kernel) ⟨Nat.le_of_ble_eq_true rfl, Nat.le_of_ble_eq_true rfl⟩) (fun _ _ _ _ _ _ => trivial) (fun _ _ _ => trivial) rfl hl.1 (Nat.le_of_ble_eq_true rfl) rfl dX10_keep_4 ⟨Nat.le_of_ble_eq_true rfl, Nat.le_of_ble_eq_true rfl⟩ (fun u_1 H locs hwu_1 hP hD hS => ?_)
  try dsimp only at hwu_1
  have hP : zP g [[mdl q a x]] H := hP
  have hD : zD A [[mdl q a x]] := hD
  refine z_toI (inI kk 0 1) rfl ?_
  have hf_2 := inI_s kk 0 1
  refine z_if_ne (tgt := 13) hx hb (by omega) dX10_keep_7 (by decide) (fun cq3 => False.elim (by omega)) (fun cq3 => ?_)
  refine z_ldc hx hb (-2000000002) hown (hts _ (List.mem_of_getElem? (i := 1) rfl)) rfl dX10_keep_10 ?_
  exact z_reti () [0] hx hb hr rfl hlocks hK hP hD hS (rfl) trivial rfl rfl (rfl) (Nat.le_of_ble_eq_true rfl) (Nat.le_of_ble_eq_true rfl) dX10_keep_12

set_option maxHeartbeats 4000000 in
set_option maxRecDepth 100000 in
theorem c_X10_back_out (l : Launch) (g : zG) (q : Nat) (a : Nat → Nat) (x : Nat → Int) (kk : Int) (hk : -2147483648 ≤ kk ∧ kk < 2147483648) (ho : ¬ (0 ≤ kk ∧ kk ≤ 1)) : zMet l g yX10_back wsX10_back 1 0 0 [.ref q, vI kk] zX0 [[mdl q a x]] (qi g (fun (_ : Unit) => (-2000000002)) (fun (_ : Unit) => True) (fun (_ : Unit) => [[mdl q a x]])) := by
  refine z_ent (cc := cX10_back) (maxL := 2) (ret := (some .int)) (by decide) rfl (Nat.le_of_ble_eq_true rfl) ?_
  intro p e s m below meth c A ls hx hb hr hml hown hts hlocks hin0 hA hK hP hD hS hXX hl
  have hown : s.vm.findClass RX10 = some m.cls := hown
  have hl : lv_has ls 2 [(0, .ref q), (1, vI kk)] := hl
  refine lv_iload_n hx hb dX10_back_0 rfl (lv_at hl 1 rfl) ?_
  refine z_i2l hx hb (by omega) dX10_back_1 ?_
  refine z_lconst hx hb 0 dX10_back_2 rfl ?_
  refine z_lconst hx hb 1 dX10_back_3 rfl ?_
  refine z_cSi (As := [vL kk, vL 0, vL 1]) (rest := []) ⟨hx, hb, hml, hown, hts⟩ hK hP hD hS hA [] [0] rfl rfl rfl (c_X10_in l g kk 0 1 (by first | decide | omega) (by first | decide | omega) (by first | decide | omega)) (va_cwS 3 hts gX10_back_X10_in rfl rfl rfl (by decide +kernel) ⟨Nat.le_of_ble_eq_true rfl, Nat.le_of_ble_eq_true rfl⟩) (fun _ _ _ _ _ _ => trivial) (fun _ _ _ => trivial) rfl hl.1 (Nat.le_of_ble_eq_true rfl) rfl dX10_back_4 ⟨Nat.le_of_ble_eq_true rfl, Nat.le_of_ble_eq_true rfl⟩ (fun u_1 H locs hwu_1 hP hD hS => ?_)
  try dsimp only at hwu_1
  have hP : zP g [[mdl q a x]] H := hP
  have hD : zD A [[mdl q a x]] := hD
  refine z_toI (inI kk 0 1) rfl ?_
  have hf_2 := inI_s kk 0 1
  refine z_if_ne (tgt := 13) hx hb (by omega) dX10_back_7 (by decide) (fun cq3 => False.elim (by omega)) (fun cq3 => ?_)
  refine z_ldc hx hb (-2000000002) hown (hts _ (List.mem_of_getElem? (i := 1) rfl)) rfl dX10_back_10 ?_
  exact z_reti () [0] hx hb hr rfl hlocks hK hP hD hS (rfl) trivial rfl rfl (rfl) (Nat.le_of_ble_eq_true rfl) (Nat.le_of_ble_eq_true rfl) dX10_back_12

set_option maxHeartbeats 4000000 in
set_option maxRecDepth 100000 in
theorem c_X10_keep0 (l : Launch) (g : zG) (q : Nat) (a : Nat → Nat) (x : Nat → Int) (S : RS) (fk : Nat → Int)  : zMet l g yX10_keep wsX10_keep 1 0 0 [.ref q, vI 0] zX0 [[mdl q a x], [((a 0), .inl (g.2 1, 88, .inr (.inl (aL S.1))))], [((a 1), .inl (g.2 1, 88, .inr (.inl (aL S.2.1))))], [((a 5), .inl (g.2 2, 2, .inl (aI fk)))]] (qi g (fun (_ : Unit) => 1) (fun (_ : Unit) => True) (fun (_ : Unit) => [[mdl q a x], [((a 0), .inl (g.2 1, 88, .inr (.inl (aL (rC6 0 54 S).1))))], [((a 1), .inl (g.2 1, 88, .inr (.inl (aL (rC6 0 54 S).2.1))))], [((a 5), .inl (g.2 2, 2, .inl (aI (uI fk 0 1))))]])) := by
  refine z_ent (cc := cX10_keep) (maxL := 2) (ret := (some .int)) (by decide) rfl (Nat.le_of_ble_eq_true rfl) ?_
  intro p e s m below meth c A ls hx hb hr hml hown hts hlocks hin0 hA hK hP hD hS hXX hl
  have hown : s.vm.findClass RX10 = some m.cls := hown
  have hin10_ : ∀ w ∈ wsX100, w ∈ wsX10_keep := zw_in [13, 14, 15, 16, 17, 18, 19, 20, 21, 22, 23, 24, 25, 26, 27, 28, 29, 30, 31, 32, 33, 34, 35, 36, 37, 38] rfl
  have hl : lv_has ls 2 [(0, .ref q), (1, vI 0)] := hl
  refine lv_iload_n hx hb dX10_keep_0 rfl (lv_at hl 1 rfl) ?_
  refine z_i2l hx hb (by decide) dX10_keep_1 ?_
  refine z_lconst hx hb 0 dX10_keep_2 rfl ?_
  refine z_lconst hx hb 1 dX10_keep_3 rfl ?_
  refine z_cSi (As := [vL 0, vL 0, vL 1]) (rest := []) ⟨hx, hb, hml, hown, hts⟩ hK hP hD hS hA [] [0, 1, 2, 3] rfl rfl rfl (c_X10_in l g 0 0 1 (by first | decide | omega) (by first | decide | omega) (by first | decide | omega)) (va_cwS 3 hts gX10_keep_X10_in rfl rfl rfl (by decide +kernel) ⟨Nat.le_of_ble_eq_true rfl, Nat.le_of_ble_eq_true rfl⟩) (fun _ _ _ _ _ _ => trivial) (fun _ _ _ => trivial) rfl hl.1 (Nat.le_of_ble_eq_true rfl) rfl dX10_keep_4 ⟨Nat.le_of_ble_eq_true rfl, Nat.le_of_ble_eq_true rfl⟩ (fun u_1 H locs hwu_1 hP hD hS => ?_)
  try dsimp only at hwu_1
  have hP : zP g [[mdl q a x], [((a 0), .inl (g.2 1, 88, .inr (.inl (aL S.1))))], [((a 1), .inl (g.2 1, 88, .inr (.inl (aL S.2.1))))], [((a 5), .inl (g.2 2, 2, .inl (aI fk)))]] H := hP
  have hD : zD A [[mdl q a x], [((a 0), .inl (g.2 1, 88, .inr (.inl (aL S.1))))], [((a 1), .inl (g.2 1, 88, .inr (.inl (aL S.2.1))))], [((a 5), .inl (g.2 2, 2, .inl (aI fk)))]] := hD
  refine z_toI (inI 0 0 1) rfl ?_
  have hf_2 := inI_s 0 0 1
  refine z_if_ne (tgt := 13) hx hb (by omega) dX10_keep_7 (by decide) (fun cq3 => ?_) (fun cq3 => False.elim (by omega))
  refine lv_aload_n hx hb dX10_keep_13 rfl (lv_at hl 0 rfl) ?_
  refine z_iconst hx hb dX10_keep_14 rfl ?_
  refine z_bipush hx hb 54 dX10_keep_15 rfl ?_
  refine z_bipush hx hb 6 dX10_keep_17 rfl ?_
  refine lv_iload_n hx hb dX10_keep_19 rfl (lv_at hl 1 rfl) ?_
  refine z_imul hx hb 0 rfl dX10_keep_20 ?_
  refine z_iadd hx hb 54 rfl dX10_keep_21 ?_
  refine z_cVv (As := [vI 0, vI 54]) (rest := []) ⟨hx, hb, hml, hown, hts⟩ hK hP hD hS hA [0, 1, 2] [3] rfl rfl rfl (c_X10_copyPhases l g q a x S 0 54 (by decide) (by decide)) (cwV 2 hts gX10_keep_X10_copyPhases rfl rfl rfl (by decide +kernel) ⟨Nat.le_of_ble_eq_true rfl, Nat.le_of_ble_eq_true rfl⟩) 10 0 rfl rfl rfl (fun _ _ _ _ _ _ => trivial) (fun _ _ _ => trivial) rfl hl.1 (Nat.le_of_ble_eq_true rfl) rfl dX10_keep_22 ⟨Nat.le_of_ble_eq_true rfl, Nat.le_of_ble_eq_true rfl⟩ (fun u_4 H locs hwu_4 hP hD hS => ?_)
  try dsimp only at hwu_4
  have hP : zP g [[((a 5), .inl (g.2 2, 2, .inl (aI fk)))], [mdl q a x], [((a 0), .inl (g.2 1, 88, .inr (.inl (aL (rC6 0 54 S).1))))], [((a 1), .inl (g.2 1, 88, .inr (.inl (aL (rC6 0 54 S).2.1))))]] H := hP
  have hD : zD A [[((a 5), .inl (g.2 2, 2, .inl (aI fk)))], [mdl q a x], [((a 0), .inl (g.2 1, 88, .inr (.inl (aL (rC6 0 54 S).1))))], [((a 1), .inl (g.2 1, 88, .inr (.inl (aL (rC6 0 54 S).2.1))))]] := hD
  refine lv_aload_n hx hb dX10_keep_25 rfl (lv_at hl 0 rfl) ?_
  refine z_get hx hb hts hin10_ hown hK hP 1 rfl rfl 8 (by decide) (hts _ (List.mem_of_getElem? (i := 2) rfl)) rfl dX10_keep_26 ?_
  refine lv_iload_n hx hb dX10_keep_29 rfl (lv_at hl 1 rfl) ?_
  refine z_iconst hx hb dX10_keep_30 rfl ?_
  refine z_zast hx hb hK hP 0 hD hS rfl 0 rfl (by decide) (by decide) (by decide) dX10_keep_31 [[((a 5), .inl (g.2 2, 2, .inl (aI (uI fk 0 1))))], [mdl q a x], [((a 0), .inl (g.2 1, 88, .inr (.inl (aL (rC6 0 54 S).1))))], [((a 1), .inl (g.2 1, 88, .inr (.inl (aL (rC6 0 54 S).2.1))))]] rfl (fun H locs hP hD hS => ?_)
  refine z_iconst hx hb dX10_keep_32 rfl ?_
  exact z_reti () [1, 2, 3, 0] hx hb hr rfl hlocks hK hP hD hS (rfl) trivial rfl rfl (rfl) (Nat.le_of_ble_eq_true rfl) (Nat.le_of_ble_eq_true rfl) dX10_keep_33

set_option maxHeartbeats 4000000 in
set_option maxRecDepth 100000 in
theorem c_X10_back0_not (l : Launch) (g : zG) (q : Nat) (a : Nat → Nat) (x : Nat → Int) (fk : Nat → Int) (hk : fk 0 = 0) : zMet l g yX10_back wsX10_back 1 0 0 [.ref q, vI 0] zX0 [[mdl q a x], [((a 5), .inl (g.2 2, 2, .inl (aI fk)))]] (qi g (fun (_ : Unit) => (-2000000003)) (fun (_ : Unit) => True) (fun (_ : Unit) => [[mdl q a x], [((a 5), .inl (g.2 2, 2, .inl (aI fk)))]])) := by
  refine z_ent (cc := cX10_back) (maxL := 2) (ret := (some .int)) (by decide) rfl (Nat.le_of_ble_eq_true rfl) ?_
  intro p e s m below meth c A ls hx hb hr hml hown hts hlocks hin0 hA hK hP hD hS hXX hl
  have hown : s.vm.findClass RX10 = some m.cls := hown
  have hin10_ : ∀ w ∈ wsX100, w ∈ wsX10_back := zw_in [15, 16, 17, 18, 19, 20, 21, 22, 23, 24, 25, 26, 27, 28, 29, 30, 31, 32, 33, 34, 35, 36, 37, 38, 39, 40] rfl
  have hl : lv_has ls 2 [(0, .ref q), (1, vI 0)] := hl
  refine lv_iload_n hx hb dX10_back_0 rfl (lv_at hl 1 rfl) ?_
  refine z_i2l hx hb (by decide) dX10_back_1 ?_
  refine z_lconst hx hb 0 dX10_back_2 rfl ?_
  refine z_lconst hx hb 1 dX10_back_3 rfl ?_
  refine z_cSi (As := [vL 0, vL 0, vL 1]) (rest := []) ⟨hx, hb, hml, hown, hts⟩ hK hP hD hS hA [] [0, 1] rfl rfl rfl (c_X10_in l g 0 0 1 (by first | decide | omega) (by first | decide | omega) (by first | decide | omega)) (va_cwS 3 hts gX10_back_X10_in rfl rfl rfl (by decide +kernel) ⟨Nat.le_of_ble_eq_true rfl, Nat.le_of_ble_eq_true rfl⟩) (fun _ _ _ _ _ _ => trivial) (fun _ _ _ => trivial) rfl hl.1 (Nat.le_of_ble_eq_true rfl) rfl dX10_back_4 ⟨Nat.le_of_ble_eq_true rfl, Nat.le_of_ble_eq_true rfl⟩ (fun u_1 H locs hwu_1 hP hD hS => ?_)
  try dsimp only at hwu_1
  have hP : zP g [[mdl q a x], [((a 5), .inl (g.2 2, 2, .inl (aI fk)))]] H := hP
  have hD : zD A [[mdl q a x], [((a 5), .inl (g.2 2, 2, .inl (aI fk)))]] := hD
  refine z_toI (inI 0 0 1) rfl ?_
  have hf_2 := inI_s 0 0 1
  refine z_if_ne (tgt := 13) hx hb (by omega) dX10_back_7 (by decide) (fun cq3 => ?_) (fun cq3 => False.elim (by omega))
  refine lv_aload_n hx hb dX10_back_13 rfl (lv_at hl 0 rfl) ?_
  refine z_get hx hb hts hin10_ hown hK hP 0 rfl rfl 8 (by decide) (hts _ (List.mem_of_getElem? (i := 2) rfl)) rfl dX10_back_14 ?_
  refine lv_iload_n hx hb dX10_back_17 rfl (lv_at hl 1 rfl) ?_
  refine z_zald hx hb hK hP 1 rfl 0 rfl (by decide) (by decide) dX10_back_18 ?_
  refine z_if_ne (tgt := 25) hx hb (by omega) dX10_back_19 (by decide) (fun cq4 => False.elim (by omega)) (fun cq4 => ?_)
  refine z_ldc hx hb (-2000000003) hown (hts _ (List.mem_of_getElem? (i := 3) rfl)) rfl dX10_back_22 ?_
  exact z_reti () [0, 1] hx hb hr rfl hlocks hK hP hD hS (rfl) trivial rfl rfl (rfl) (Nat.le_of_ble_eq_true rfl) (Nat.le_of_ble_eq_true rfl) dX10_back_24

set_option maxHeartbeats 4000000 in
set_option maxRecDepth 100000 in
theorem c_X10_back0 (l : Launch) (g : zG) (q : Nat) (a : Nat → Nat) (x : Nat → Int) (S : RS) (fk : Nat → Int) (hk : fk 0 = 1) : zMet l g yX10_back wsX10_back 1 0 0 [.ref q, vI 0] zX0 [[mdl q a x], [((a 0), .inl (g.2 1, 88, .inr (.inl (aL S.1))))], [((a 1), .inl (g.2 1, 88, .inr (.inl (aL S.2.1))))], [((a 5), .inl (g.2 2, 2, .inl (aI fk)))]] (qi g (fun (_ : Unit) => 1) (fun (_ : Unit) => True) (fun (_ : Unit) => [[mdl q a (uI x 2 0)], [((a 0), .inl (g.2 1, 88, .inr (.inl (aL (rC6 54 0 S).1))))], [((a 1), .inl (g.2 1, 88, .inr (.inl (aL (rC6 54 0 S).2.1))))], [((a 5), .inl (g.2 2, 2, .inl (aI fk)))]])) := by
  refine z_ent (cc := cX10_back) (maxL := 2) (ret := (some .int)) (by decide) rfl (Nat.le_of_ble_eq_true rfl) ?_
  intro p e s m below meth c A ls hx hb hr hml hown hts hlocks hin0 hA hK hP hD hS hXX hl
  have hown : s.vm.findClass RX10 = some m.cls := hown
  have hin10_ : ∀ w ∈ wsX100, w ∈ wsX10_back := zw_in [15, 16, 17, 18, 19, 20, 21, 22, 23, 24, 25, 26, 27, 28, 29, 30, 31, 32, 33, 34, 35, 36, 37, 38, 39, 40] rfl
  have hl : lv_has ls 2 [(0, .ref q), (1, vI 0)] := hl
  refine lv_iload_n hx hb dX10_back_0 rfl (lv_at hl 1 rfl) ?_
  refine z_i2l hx hb (by decide) dX10_back_1 ?_
  refine z_lconst hx hb 0 dX10_back_2 rfl ?_
  refine z_lconst hx hb 1 dX10_back_3 rfl ?_
  refine z_cSi (As := [vL 0, vL 0, vL 1]) (rest := []) ⟨hx, hb, hml, hown, hts⟩ hK hP hD hS hA [] [0, 1, 2, 3] rfl rfl rfl (c_X10_in l g 0 0 1 (by first | decide | omega) (by first | decide | omega) (by first | decide | omega)) (va_cwS 3 hts gX10_back_X10_in rfl rfl rfl (by decide +kernel) ⟨Nat.le_of_ble_eq_true rfl, Nat.le_of_ble_eq_true rfl⟩) (fun _ _ _ _ _ _ => trivial) (fun _ _ _ => trivial) rfl hl.1 (Nat.le_of_ble_eq_true rfl) rfl dX10_back_4 ⟨Nat.le_of_ble_eq_true rfl, Nat.le_of_ble_eq_true rfl⟩ (fun u_1 H locs hwu_1 hP hD hS => ?_)
  try dsimp only at hwu_1
  have hP : zP g [[mdl q a x], [((a 0), .inl (g.2 1, 88, .inr (.inl (aL S.1))))], [((a 1), .inl (g.2 1, 88, .inr (.inl (aL S.2.1))))], [((a 5), .inl (g.2 2, 2, .inl (aI fk)))]] H := hP
  have hD : zD A [[mdl q a x], [((a 0), .inl (g.2 1, 88, .inr (.inl (aL S.1))))], [((a 1), .inl (g.2 1, 88, .inr (.inl (aL S.2.1))))], [((a 5), .inl (g.2 2, 2, .inl (aI fk)))]] := hD
  refine z_toI (inI 0 0 1) rfl ?_
  have hf_2 := inI_s 0 0 1
  refine z_if_ne (tgt := 13) hx hb (by omega) dX10_back_7 (by decide) (fun cq3 => ?_) (fun cq3 => False.elim (by omega))
  refine lv_aload_n hx hb dX10_back_13 rfl (lv_at hl 0 rfl) ?_
  refine z_get hx hb hts hin10_ hown hK hP 0 rfl rfl 8 (by decide) (hts _ (List.mem_of_getElem? (i := 2) rfl)) rfl dX10_back_14 ?_
  refine lv_iload_n hx hb dX10_back_17 rfl (lv_at hl 1 rfl) ?_
  refine z_zald hx hb hK hP 3 rfl 0 rfl (by decide) (by decide) dX10_back_18 ?_
  refine z_if_ne (tgt := 25) hx hb (by omega) dX10_back_19 (by decide) (fun cq4 => ?_) (fun cq4 => False.elim (by omega))
  refine lv_aload_n hx hb dX10_back_25 rfl (lv_at hl 0 rfl) ?_
  refine z_bipush hx hb 54 dX10_back_26 rfl ?_
  refine z_bipush hx hb 6 dX10_back_28 rfl ?_
  refine lv_iload_n hx hb dX10_back_30 rfl (lv_at hl 1 rfl) ?_
  refine z_imul hx hb 0 rfl dX10_back_31 ?_
  refine z_iadd hx hb 54 rfl dX10_back_32 ?_
  refine z_iconst hx hb dX10_back_33 rfl ?_
  refine z_cVv (As := [vI 54, vI 0]) (rest := []) ⟨hx, hb, hml, hown, hts⟩ hK hP hD hS hA [0, 1, 2] [3] rfl rfl rfl (c_X10_copyPhases l g q a x S 54 0 (by decide) (by decide)) (cwV 2 hts gX10_back_X10_copyPhases rfl rfl rfl (by decide +kernel) ⟨Nat.le_of_ble_eq_true rfl, Nat.le_of_ble_eq_true rfl⟩) 10 0 rfl rfl rfl (fun _ _ _ _ _ _ => trivial) (fun _ _ _ => trivial) rfl hl.1 (Nat.le_of_ble_eq_true rfl) rfl dX10_back_34 ⟨Nat.le_of_ble_eq_true rfl, Nat.le_of_ble_eq_true rfl⟩ (fun u_5 H locs hwu_5 hP hD hS => ?_)
  try dsimp only at hwu_5
  have hP : zP g [[((a 5), .inl (g.2 2, 2, .inl (aI fk)))], [mdl q a x], [((a 0), .inl (g.2 1, 88, .inr (.inl (aL (rC6 54 0 S).1))))], [((a 1), .inl (g.2 1, 88, .inr (.inl (aL (rC6 54 0 S).2.1))))]] H := hP
  have hD : zD A [[((a 5), .inl (g.2 2, 2, .inl (aI fk)))], [mdl q a x], [((a 0), .inl (g.2 1, 88, .inr (.inl (aL (rC6 54 0 S).1))))], [((a 1), .inl (g.2 1, 88, .inr (.inl (aL (rC6 54 0 S).2.1))))]] := hD
  refine lv_aload_n hx hb dX10_back_37 rfl (lv_at hl 0 rfl) ?_
  refine z_iconst hx hb dX10_back_38 rfl ?_
  refine z_put hx hb hts hin10_ tyX10 tyX10_ok nmX10 hown hK hP hD hS 1 rfl rfl 7 (by decide) (hts _ (List.mem_of_getElem? (i := 4) rfl)) rfl rfl rfl (Nat.le_of_ble_eq_true rfl) dX10_back_39 [[((a 5), .inl (g.2 2, 2, .inl (aI fk)))], [mdl q a (uI x 2 0)], [((a 0), .inl (g.2 1, 88, .inr (.inl (aL (rC6 54 0 S).1))))], [((a 1), .inl (g.2 1, 88, .inr (.inl (aL (rC6 54 0 S).2.1))))]] rfl (fun H locs hP hD hS => ?_)
  refine z_iconst hx hb dX10_back_42 rfl ?_
  exact z_reti () [1, 2, 3, 0] hx hb hr rfl hlocks hK hP hD hS (rfl) trivial rfl rfl (rfl) (Nat.le_of_ble_eq_true rfl) (Nat.le_of_ble_eq_true rfl) dX10_back_43

set_option maxHeartbeats 4000000 in
set_option maxRecDepth 100000 in
theorem c_X10_keep1 (l : Launch) (g : zG) (q : Nat) (a : Nat → Nat) (x : Nat → Int) (S : RS) (fk : Nat → Int)  : zMet l g yX10_keep wsX10_keep 1 0 0 [.ref q, vI 1] zX0 [[mdl q a x], [((a 0), .inl (g.2 1, 88, .inr (.inl (aL S.1))))], [((a 1), .inl (g.2 1, 88, .inr (.inl (aL S.2.1))))], [((a 5), .inl (g.2 2, 2, .inl (aI fk)))]] (qi g (fun (_ : Unit) => 1) (fun (_ : Unit) => True) (fun (_ : Unit) => [[mdl q a x], [((a 0), .inl (g.2 1, 88, .inr (.inl (aL (rC6 0 60 S).1))))], [((a 1), .inl (g.2 1, 88, .inr (.inl (aL (rC6 0 60 S).2.1))))], [((a 5), .inl (g.2 2, 2, .inl (aI (uI fk 1 1))))]])) := by
  refine z_ent (cc := cX10_keep) (maxL := 2) (ret := (some .int)) (by decide) rfl (Nat.le_of_ble_eq_true rfl) ?_
  intro p e s m below meth c A ls hx hb hr hml hown hts hlocks hin0 hA hK hP hD hS hXX hl
  have hown : s.vm.findClass RX10 = some m.cls := hown
  have hin10_ : ∀ w ∈ wsX100, w ∈ wsX10_keep := zw_in [13, 14, 15, 16, 17, 18, 19, 20, 21, 22, 23, 24, 25, 26, 27, 28, 29, 30, 31, 32, 33, 34, 35, 36, 37, 38] rfl
  have hl : lv_has ls 2 [(0, .ref q), (1, vI 1)] := hl
  refine lv_iload_n hx hb dX10_keep_0 rfl (lv_at hl 1 rfl) ?_
  refine z_i2l hx hb (by decide) dX10_keep_1 ?_
  refine z_lconst hx hb 0 dX10_keep_2 rfl ?_
  refine z_lconst hx hb 1 dX10_keep_3 rfl ?_
  refine z_cSi (As := [vL 1, vL 0, vL 1]) (rest := []) ⟨hx, hb, hml, hown, hts⟩ hK hP hD hS hA [] [0, 1, 2, 3] rfl rfl rfl (c_X10_in l g 1 0 1 (by first | decide | omega) (by first | decide | omega) (by first | decide | omega)) (va_cwS 3 hts gX10_keep_X10_in rfl rfl rfl (by decide +kernel) ⟨Nat.le_of_ble_eq_true rfl, Nat.le_of_ble_eq_true rfl⟩) (fun _ _ _ _ _ _ => trivial) (fun _ _ _ => trivial) rfl hl.1 (Nat.le_of_ble_eq_true rfl) rfl dX10_keep_4 ⟨Nat.le_of_ble_eq_true rfl, Nat.le_of_ble_eq_true rfl⟩ (fun u_1 H locs hwu_1 hP hD hS => ?_)
  try dsimp only at hwu_1
  have hP : zP g [[mdl q a x], [((a 0), .inl (g.2 1, 88, .inr (.inl (aL S.1))))], [((a 1), .inl (g.2 1, 88, .inr (.inl (aL S.2.1))))], [((a 5), .inl (g.2 2, 2, .inl (aI fk)))]] H := hP
  have hD : zD A [[mdl q a x], [((a 0), .inl (g.2 1, 88, .inr (.inl (aL S.1))))], [((a 1), .inl (g.2 1, 88, .inr (.inl (aL S.2.1))))], [((a 5), .inl (g.2 2, 2, .inl (aI fk)))]] := hD
  refine z_toI (inI 1 0 1) rfl ?_
  have hf_2 := inI_s 1 0 1
  refine z_if_ne (tgt := 13) hx hb (by omega) dX10_keep_7 (by decide) (fun cq3 => ?_) (fun cq3 => False.elim (by omega))
  refine lv_aload_n hx hb dX10_keep_13 rfl (lv_at hl 0 rfl) ?_
  refine z_iconst hx hb dX10_keep_14 rfl ?_
  refine z_bipush hx hb 54 dX10_keep_15 rfl ?_
  refine z_bipush hx hb 6 dX10_keep_17 rfl ?_
  refine lv_iload_n hx hb dX10_keep_19 rfl (lv_at hl 1 rfl) ?_
  refine z_imul hx hb 6 rfl dX10_keep_20 ?_
  refine z_iadd hx hb 60 rfl dX10_keep_21 ?_
  refine z_cVv (As := [vI 0, vI 60]) (rest := []) ⟨hx, hb, hml, hown, hts⟩ hK hP hD hS hA [0, 1, 2] [3] rfl rfl rfl (c_X10_copyPhases l g q a x S 0 60 (by decide) (by decide)) (cwV 2 hts gX10_keep_X10_copyPhases rfl rfl rfl (by decide +kernel) ⟨Nat.le_of_ble_eq_true rfl, Nat.le_of_ble_eq_true rfl⟩) 10 0 rfl rfl rfl (fun _ _ _ _ _ _ => trivial) (fun _ _ _ => trivial) rfl hl.1 (Nat.le_of_ble_eq_true rfl) rfl dX10_keep_22 ⟨Nat.le_of_ble_eq_true rfl, Nat.le_of_ble_eq_true rfl⟩ (fun u_4 H locs hwu_4 hP hD hS => ?_)
  try dsimp only at hwu_4
  have hP : zP g [[((a 5), .inl (g.2 2, 2, .inl (aI fk)))], [mdl q a x], [((a 0), .inl (g.2 1, 88, .inr (.inl (aL (rC6 0 60 S).1))))], [((a 1), .inl (g.2 1, 88, .inr (.inl (aL (rC6 0 60 S).2.1))))]] H := hP
  have hD : zD A [[((a 5), .inl (g.2 2, 2, .inl (aI fk)))], [mdl q a x], [((a 0), .inl (g.2 1, 88, .inr (.inl (aL (rC6 0 60 S).1))))], [((a 1), .inl (g.2 1, 88, .inr (.inl (aL (rC6 0 60 S).2.1))))]] := hD
  refine lv_aload_n hx hb dX10_keep_25 rfl (lv_at hl 0 rfl) ?_
  refine z_get hx hb hts hin10_ hown hK hP 1 rfl rfl 8 (by decide) (hts _ (List.mem_of_getElem? (i := 2) rfl)) rfl dX10_keep_26 ?_
  refine lv_iload_n hx hb dX10_keep_29 rfl (lv_at hl 1 rfl) ?_
  refine z_iconst hx hb dX10_keep_30 rfl ?_
  refine z_zast hx hb hK hP 0 hD hS rfl 1 rfl (by decide) (by decide) (by decide) dX10_keep_31 [[((a 5), .inl (g.2 2, 2, .inl (aI (uI fk 1 1))))], [mdl q a x], [((a 0), .inl (g.2 1, 88, .inr (.inl (aL (rC6 0 60 S).1))))], [((a 1), .inl (g.2 1, 88, .inr (.inl (aL (rC6 0 60 S).2.1))))]] rfl (fun H locs hP hD hS => ?_)
  refine z_iconst hx hb dX10_keep_32 rfl ?_
  exact z_reti () [1, 2, 3, 0] hx hb hr rfl hlocks hK hP hD hS (rfl) trivial rfl rfl (rfl) (Nat.le_of_ble_eq_true rfl) (Nat.le_of_ble_eq_true rfl) dX10_keep_33

set_option maxHeartbeats 4000000 in
set_option maxRecDepth 100000 in
theorem c_X10_back1_not (l : Launch) (g : zG) (q : Nat) (a : Nat → Nat) (x : Nat → Int) (fk : Nat → Int) (hk : fk 1 = 0) : zMet l g yX10_back wsX10_back 1 0 0 [.ref q, vI 1] zX0 [[mdl q a x], [((a 5), .inl (g.2 2, 2, .inl (aI fk)))]] (qi g (fun (_ : Unit) => (-2000000003)) (fun (_ : Unit) => True) (fun (_ : Unit) => [[mdl q a x], [((a 5), .inl (g.2 2, 2, .inl (aI fk)))]])) := by
  refine z_ent (cc := cX10_back) (maxL := 2) (ret := (some .int)) (by decide) rfl (Nat.le_of_ble_eq_true rfl) ?_
  intro p e s m below meth c A ls hx hb hr hml hown hts hlocks hin0 hA hK hP hD hS hXX hl
  have hown : s.vm.findClass RX10 = some m.cls := hown
  have hin10_ : ∀ w ∈ wsX100, w ∈ wsX10_back := zw_in [15, 16, 17, 18, 19, 20, 21, 22, 23, 24, 25, 26, 27, 28, 29, 30, 31, 32, 33, 34, 35, 36, 37, 38, 39, 40] rfl
  have hl : lv_has ls 2 [(0, .ref q), (1, vI 1)] := hl
  refine lv_iload_n hx hb dX10_back_0 rfl (lv_at hl 1 rfl) ?_
  refine z_i2l hx hb (by decide) dX10_back_1 ?_
  refine z_lconst hx hb 0 dX10_back_2 rfl ?_
  refine z_lconst hx hb 1 dX10_back_3 rfl ?_
  refine z_cSi (As := [vL 1, vL 0, vL 1]) (rest := []) ⟨hx, hb, hml, hown, hts⟩ hK hP hD hS hA [] [0, 1] rfl rfl rfl (c_X10_in l g 1 0 1 (by first | decide | omega) (by first | decide | omega) (by first | decide | omega)) (va_cwS 3 hts gX10_back_X10_in rfl rfl rfl (by decide +kernel) ⟨Nat.le_of_ble_eq_true rfl, Nat.le_of_ble_eq_true rfl⟩) (fun _ _ _ _ _ _ => trivial) (fun _ _ _ => trivial) rfl hl.1 (Nat.le_of_ble_eq_true rfl) rfl dX10_back_4 ⟨Nat.le_of_ble_eq_true rfl, Nat.le_of_ble_eq_true rfl⟩ (fun u_1 H locs hwu_1 hP hD hS => ?_)
  try dsimp only at hwu_1
  have hP : zP g [[mdl q a x], [((a 5), .inl (g.2 2, 2, .inl (aI fk)))]] H := hP
  have hD : zD A [[mdl q a x], [((a 5), .inl (g.2 2, 2, .inl (aI fk)))]] := hD
  refine z_toI (inI 1 0 1) rfl ?_
  have hf_2 := inI_s 1 0 1
  refine z_if_ne (tgt := 13) hx hb (by omega) dX10_back_7 (by decide) (fun cq3 => ?_) (fun cq3 => False.elim (by omega))
  refine lv_aload_n hx hb dX10_back_13 rfl (lv_at hl 0 rfl) ?_
  refine z_get hx hb hts hin10_ hown hK hP 0 rfl rfl 8 (by decide) (hts _ (List.mem_of_getElem? (i := 2) rfl)) rfl dX10_back_14 ?_
  refine lv_iload_n hx hb dX10_back_17 rfl (lv_at hl 1 rfl) ?_
  refine z_zald hx hb hK hP 1 rfl 1 rfl (by decide) (by decide) dX10_back_18 ?_
  refine z_if_ne (tgt := 25) hx hb (by omega) dX10_back_19 (by decide) (fun cq4 => False.elim (by omega)) (fun cq4 => ?_)
  refine z_ldc hx hb (-2000000003) hown (hts _ (List.mem_of_getElem? (i := 3) rfl)) rfl dX10_back_22 ?_
  exact z_reti () [0, 1] hx hb hr rfl hlocks hK hP hD hS (rfl) trivial rfl rfl (rfl) (Nat.le_of_ble_eq_true rfl) (Nat.le_of_ble_eq_true rfl) dX10_back_24

set_option maxHeartbeats 4000000 in
set_option maxRecDepth 100000 in
theorem c_X10_back1 (l : Launch) (g : zG) (q : Nat) (a : Nat → Nat) (x : Nat → Int) (S : RS) (fk : Nat → Int) (hk : fk 1 = 1) : zMet l g yX10_back wsX10_back 1 0 0 [.ref q, vI 1] zX0 [[mdl q a x], [((a 0), .inl (g.2 1, 88, .inr (.inl (aL S.1))))], [((a 1), .inl (g.2 1, 88, .inr (.inl (aL S.2.1))))], [((a 5), .inl (g.2 2, 2, .inl (aI fk)))]] (qi g (fun (_ : Unit) => 1) (fun (_ : Unit) => True) (fun (_ : Unit) => [[mdl q a (uI x 2 0)], [((a 0), .inl (g.2 1, 88, .inr (.inl (aL (rC6 60 0 S).1))))], [((a 1), .inl (g.2 1, 88, .inr (.inl (aL (rC6 60 0 S).2.1))))], [((a 5), .inl (g.2 2, 2, .inl (aI fk)))]])) := by
  refine z_ent (cc := cX10_back) (maxL := 2) (ret := (some .int)) (by decide) rfl (Nat.le_of_ble_eq_true rfl) ?_
  intro p e s m below meth c A ls hx hb hr hml hown hts hlocks hin0 hA hK hP hD hS hXX hl
  have hown : s.vm.findClass RX10 = some m.cls := hown
  have hin10_ : ∀ w ∈ wsX100, w ∈ wsX10_back := zw_in [15, 16, 17, 18, 19, 20, 21, 22, 23, 24, 25, 26, 27, 28, 29, 30, 31, 32, 33, 34, 35, 36, 37, 38, 39, 40] rfl
  have hl : lv_has ls 2 [(0, .ref q), (1, vI 1)] := hl
  refine lv_iload_n hx hb dX10_back_0 rfl (lv_at hl 1 rfl) ?_
  refine z_i2l hx hb (by decide) dX10_back_1 ?_
  refine z_lconst hx hb 0 dX10_back_2 rfl ?_
  refine z_lconst hx hb 1 dX10_back_3 rfl ?_
  refine z_cSi (As := [vL 1, vL 0, vL 1]) (rest := []) ⟨hx, hb, hml, hown, hts⟩ hK hP hD hS hA [] [0, 1, 2, 3] rfl rfl rfl (c_X10_in l g 1 0 1 (by first | decide | omega) (by first | decide | omega) (by first | decide | omega)) (va_cwS 3 hts gX10_back_X10_in rfl rfl rfl (by decide +kernel) ⟨Nat.le_of_ble_eq_true rfl, Nat.le_of_ble_eq_true rfl⟩) (fun _ _ _ _ _ _ => trivial) (fun _ _ _ => trivial) rfl hl.1 (Nat.le_of_ble_eq_true rfl) rfl dX10_back_4 ⟨Nat.le_of_ble_eq_true rfl, Nat.le_of_ble_eq_true rfl⟩ (fun u_1 H locs hwu_1 hP hD hS => ?_)
  try dsimp only at hwu_1
  have hP : zP g [[mdl q a x], [((a 0), .inl (g.2 1, 88, .inr (.inl (aL S.1))))], [((a 1), .inl (g.2 1, 88, .inr (.inl (aL S.2.1))))], [((a 5), .inl (g.2 2, 2, .inl (aI fk)))]] H := hP
  have hD : zD A [[mdl q a x], [((a 0), .inl (g.2 1, 88, .inr (.inl (aL S.1))))], [((a 1), .inl (g.2 1, 88, .inr (.inl (aL S.2.1))))], [((a 5), .inl (g.2 2, 2, .inl (aI fk)))]] := hD
  refine z_toI (inI 1 0 1) rfl ?_
  have hf_2 := inI_s 1 0 1
  refine z_if_ne (tgt := 13) hx hb (by omega) dX10_back_7 (by decide) (fun cq3 => ?_) (fun cq3 => False.elim (by omega))
  refine lv_aload_n hx hb dX10_back_13 rfl (lv_at hl 0 rfl) ?_
  refine z_get hx hb hts hin10_ hown hK hP 0 rfl rfl 8 (by decide) (hts _ (List.mem_of_getElem? (i := 2) rfl)) rfl dX10_back_14 ?_
  refine lv_iload_n hx hb dX10_back_17 rfl (lv_at hl 1 rfl) ?_
  refine z_zald hx hb hK hP 3 rfl 1 rfl (by decide) (by decide) dX10_back_18 ?_
  refine z_if_ne (tgt := 25) hx hb (by omega) dX10_back_19 (by decide) (fun cq4 => ?_) (fun cq4 => False.elim (by omega))
  refine lv_aload_n hx hb dX10_back_25 rfl (lv_at hl 0 rfl) ?_
  refine z_bipush hx hb 54 dX10_back_26 rfl ?_
  refine z_bipush hx hb 6 dX10_back_28 rfl ?_
  refine lv_iload_n hx hb dX10_back_30 rfl (lv_at hl 1 rfl) ?_
  refine z_imul hx hb 6 rfl dX10_back_31 ?_
  refine z_iadd hx hb 60 rfl dX10_back_32 ?_
  refine z_iconst hx hb dX10_back_33 rfl ?_
  refine z_cVv (As := [vI 60, vI 0]) (rest := []) ⟨hx, hb, hml, hown, hts⟩ hK hP hD hS hA [0, 1, 2] [3] rfl rfl rfl (c_X10_copyPhases l g q a x S 60 0 (by decide) (by decide)) (cwV 2 hts gX10_back_X10_copyPhases rfl rfl rfl (by decide +kernel) ⟨Nat.le_of_ble_eq_true rfl, Nat.le_of_ble_eq_true rfl⟩) 10 0 rfl rfl rfl (fun _ _ _ _ _ _ => trivial) (fun _ _ _ => trivial) rfl hl.1 (Nat.le_of_ble_eq_true rfl) rfl dX10_back_34 ⟨Nat.le_of_ble_eq_true rfl, Nat.le_of_ble_eq_true rfl⟩ (fun u_5 H locs hwu_5 hP hD hS => ?_)
  try dsimp only at hwu_5
  have hP : zP g [[((a 5), .inl (g.2 2, 2, .inl (aI fk)))], [mdl q a x], [((a 0), .inl (g.2 1, 88, .inr (.inl (aL (rC6 60 0 S).1))))], [((a 1), .inl (g.2 1, 88, .inr (.inl (aL (rC6 60 0 S).2.1))))]] H := hP
  have hD : zD A [[((a 5), .inl (g.2 2, 2, .inl (aI fk)))], [mdl q a x], [((a 0), .inl (g.2 1, 88, .inr (.inl (aL (rC6 60 0 S).1))))], [((a 1), .inl (g.2 1, 88, .inr (.inl (aL (rC6 60 0 S).2.1))))]] := hD
  refine lv_aload_n hx hb dX10_back_37 rfl (lv_at hl 0 rfl) ?_
  refine z_iconst hx hb dX10_back_38 rfl ?_
  refine z_put hx hb hts hin10_ tyX10 tyX10_ok nmX10 hown hK hP hD hS 1 rfl rfl 7 (by decide) (hts _ (List.mem_of_getElem? (i := 4) rfl)) rfl rfl rfl (Nat.le_of_ble_eq_true rfl) dX10_back_39 [[((a 5), .inl (g.2 2, 2, .inl (aI fk)))], [mdl q a (uI x 2 0)], [((a 0), .inl (g.2 1, 88, .inr (.inl (aL (rC6 60 0 S).1))))], [((a 1), .inl (g.2 1, 88, .inr (.inl (aL (rC6 60 0 S).2.1))))]] rfl (fun H locs hP hD hS => ?_)
  refine z_iconst hx hb dX10_back_42 rfl ?_
  exact z_reti () [1, 2, 3, 0] hx hb hr rfl hlocks hK hP hD hS (rfl) trivial rfl rfl (rfl) (Nat.le_of_ble_eq_true rfl) (Nat.le_of_ble_eq_true rfl) dX10_back_43
