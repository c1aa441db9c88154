set_option maxHeartbeats 4000000 in
set_option maxRecDepth 100000 in
theorem c_X10_write_out (l : Launch) (g : zG) (q : Nat) (a : Nat → Nat) (x : Nat → Int) (f : Nat → Int) (n : Nat) (l0 : Int) (hr0 : -2147483648 ≤ l0 ∧ l0 < 2147483648) (hx3 : x 3 = (n : Int)) (ha : ¬ (0 ≤ l0 ∧ l0 ≤ 255)) : zMet l g yX10_write wsX10_write 1 0 0 [.ref q, vI l0] zX0 [[mdl q a x], [((a 6), .inl (g.2 0, 200, .inl (aI f)))]] (qi g (fun (_ : Unit) => (-2000000002)) (fun (_ : Unit) => True) (fun (_ : Unit) => [[mdl q a x], [((a 6), .inl (g.2 0, 200, .inl (aI f)))]])) := by
  refine z_ent (cc := cX10_write) (maxL := 2) (ret := (some .int)) (by decide) rfl (Nat.le_of_ble_eq_true rfl) ?_
  intro p e s m below meth c A ls hx hb hr hml hown hts hlocks hin0 hA hK hP hD hS hXX hl
  have hown : s.vm.findClass RX10 = some m.cls := hown
  have hl : lv_has ls 2 [(0, .ref q), (1, vI l0)] := hl
  refine lv_iload_n hx hb dX10_write_0 rfl (lv_at hl 1 rfl) ?_
  refine z_i2l hx hb (by omega) dX10_write_1 ?_
  refine z_lconst hx hb 0 dX10_write_2 rfl ?_
  refine z_ldc2 hx hb 255 hown (hts _ (List.mem_of_getElem? (i := 1) rfl)) rfl dX10_write_3 ?_
  refine z_cSi (As := [vL l0, vL 0, vL 255]) (rest := []) ⟨hx, hb, hml, hown, hts⟩ hK hP hD hS hA [] [0, 1] rfl rfl rfl (c_X10_in l g l0 0 255 (by first | decide | omega) (by first | decide | omega) (by first | decide | omega)) (va_cwS 3 hts gX10_write_X10_in rfl rfl rfl (by decide +kernel) ⟨Nat.le_of_ble_eq_true rfl, Nat.le_of_ble_eq_true rfl⟩) (fun _ _ _ _ _ _ => trivial) (fun _ _ _ => trivial) rfl hl.1 (Nat.le_of_ble_eq_true rfl) rfl dX10_write_6 ⟨Nat.le_of_ble_eq_true rfl, Nat.le_of_ble_eq_true rfl⟩ (fun u_1 H locs hwu_1 hP hD hS => ?_)
  try dsimp only at hwu_1
  have hP : zP g [[mdl q a x], [((a 6), .inl (g.2 0, 200, .inl (aI f)))]] H := hP
  have hD : zD A [[mdl q a x], [((a 6), .inl (g.2 0, 200, .inl (aI f)))]] := hD
  refine z_toI (inI l0 0 255) rfl ?_
  have hf_2 := inI_s l0 0 255
  refine z_if_ne (tgt := 15) hx hb (by omega) dX10_write_9 (by decide) (fun cq3 => False.elim (by omega)) (fun cq3 => ?_)
  refine z_ldc hx hb (-2000000002) hown (hts _ (List.mem_of_getElem? (i := 2) rfl)) rfl dX10_write_12 ?_
  exact z_reti () [0, 1] hx hb hr rfl hlocks hK hP hD hS (rfl) trivial rfl rfl (rfl) (Nat.le_of_ble_eq_true rfl) (Nat.le_of_ble_eq_true rfl) dX10_write_14

set_option maxHeartbeats 4000000 in
set_option maxRecDepth 100000 in
theorem c_X10_write_full (l : Launch) (g : zG) (q : Nat) (a : Nat → Nat) (x : Nat → Int) (f : Nat → Int) (n : Nat) (l0 : Int) (hr0 : -2147483648 ≤ l0 ∧ l0 < 2147483648) (hx3 : x 3 = (n : Int)) (ha : 0 ≤ l0 ∧ l0 ≤ 255) (hn : n = 200) : zMet l g yX10_write wsX10_write 1 0 0 [.ref q, vI l0] zX0 [[mdl q a x], [((a 6), .inl (g.2 0, 200, .inl (aI f)))]] (qi g (fun (_ : Unit) => (-2000000003)) (fun (_ : Unit) => True) (fun (_ : Unit) => [[mdl q a x], [((a 6), .inl (g.2 0, 200, .inl (aI f)))]])) := by
  refine z_ent (cc := cX10_write) (maxL := 2) (ret := (some .int)) (by decide) rfl (Nat.le_of_ble_eq_true rfl) ?_
  intro p e s m below meth c A ls hx hb hr hml hown hts hlocks hin0 hA hK hP hD hS hXX hl
  have hown : s.vm.findClass RX10 = some m.cls := hown
  have hin10_ : ∀ w ∈ wsX100, w ∈ wsX10_write := zw_in [10, 11, 12, 13, 14, 15, 16, 17, 18, 19, 20, 21, 22, 23, 24, 25, 26, 27, 28, 29, 30, 31, 32, 33, 34, 35] rfl
  have hl : lv_has ls 2 [(0, .ref q), (1, vI l0)] := hl
  refine lv_iload_n hx hb dX10_write_0 rfl (lv_at hl 1 rfl) ?_
  refine z_i2l hx hb (by omega) dX10_write_1 ?_
  refine z_lconst hx hb 0 dX10_write_2 rfl ?_
  refine z_ldc2 hx hb 255 hown (hts _ (List.mem_of_getElem? (i := 1) rfl)) rfl dX10_write_3 ?_
  refine z_cSi (As := [vL l0, vL 0, vL 255]) (rest := []) ⟨hx, hb, hml, hown, hts⟩ hK hP hD hS hA [] [0, 1] rfl rfl rfl (c_X10_in l g l0 0 255 (by first | decide | omega) (by first | decide | omega) (by first | decide | omega)) (va_cwS 3 hts gX10_write_X10_in rfl rfl rfl (by decide +kernel) ⟨Nat.le_of_ble_eq_true rfl, Nat.le_of_ble_eq_true rfl⟩) (fun _ _ _ _ _ _ => trivial) (fun _ _ _ => trivial) rfl hl.1 (Nat.le_of_ble_eq_true rfl) rfl dX10_write_6 ⟨Nat.le_of_ble_eq_true rfl, Nat.le_of_ble_eq_true rfl⟩ (fun u_1 H locs hwu_1 hP hD hS => ?_)
  try dsimp only at hwu_1
  have hP : zP g [[mdl q a x], [((a 6), .inl (g.2 0, 200, .inl (aI f)))]] H := hP
  have hD : zD A [[mdl q a x], [((a 6), .inl (g.2 0, 200, .inl (aI f)))]] := hD
  refine z_toI (inI l0 0 255) rfl ?_
  have hf_2 := inI_s l0 0 255
  refine z_if_ne (tgt := 15) hx hb (by omega) dX10_write_9 (by decide) (fun cq3 => ?_) (fun cq3 => False.elim (by omega))
  refine lv_aload_n hx hb dX10_write_15 rfl (lv_at hl 0 rfl) ?_
  refine z_get hx hb hts hin10_ hown hK hP 0 rfl rfl 10 (by decide) (hts _ (List.mem_of_getElem? (i := 3) rfl)) rfl dX10_write_16 ?_
  refine z_sipush hx hb 200 dX10_write_19 rfl ?_
  refine z_icmp_ne (tgt := 28) hx hb (by omega) (by decide) dX10_write_22 (by decide) (fun cq4 => False.elim (by omega)) (fun cq4 => ?_)
  refine z_ldc hx hb (-2000000003) hown (hts _ (List.mem_of_getElem? (i := 4) rfl)) rfl dX10_write_25 ?_
  exact z_reti () [0, 1] hx hb hr rfl hlocks hK hP hD hS (rfl) trivial rfl rfl (rfl) (Nat.le_of_ble_eq_true rfl) (Nat.le_of_ble_eq_true rfl) dX10_write_27

set_option maxHeartbeats 4000000 in
set_option maxRecDepth 100000 in
theorem c_X10_write_ok (l : Launch) (g : zG) (q : Nat) (a : Nat → Nat) (x : Nat → Int) (f : Nat → Int) (n : Nat) (l0 : Int) (hr0 : -2147483648 ≤ l0 ∧ l0 < 2147483648) (hx3 : x 3 = (n : Int)) (ha : 0 ≤ l0 ∧ l0 ≤ 255) (hn : n < 200) : zMet l g yX10_write wsX10_write 1 0 0 [.ref q, vI l0] zX0 [[mdl q a x], [((a 6), .inl (g.2 0, 200, .inl (aI f)))]] (qi g (fun (_ : Unit) => (((n + 1) : Nat) : Int)) (fun (_ : Unit) => True) (fun (_ : Unit) => [[mdl q a (uI x 3 (((n + 1) : Nat) : Int))], [((a 6), .inl (g.2 0, 200, .inl (aI (uI f n l0))))]])) := by
  refine z_ent (cc := cX10_write) (maxL := 2) (ret := (some .int)) (by decide) rfl (Nat.le_of_ble_eq_true rfl) ?_
  intro p e s m below meth c A ls hx hb hr hml hown hts hlocks hin0 hA hK hP hD hS hXX hl
  have hown : s.vm.findClass RX10 = some m.cls := hown
  have hin10_ : ∀ w ∈ wsX100, w ∈ wsX10_write := zw_in [10, 11, 12, 13, 14, 15, 16, 17, 18, 19, 20, 21, 22, 23, 24, 25, 26, 27, 28, 29, 30, 31, 32, 33, 34, 35] rfl
  have hl : lv_has ls 2 [(0, .ref q), (1, vI l0)] := hl
  refine lv_iload_n hx hb dX10_write_0 rfl (lv_at hl 1 rfl) ?_
  refine z_i2l hx hb (by omega) dX10_write_1 ?_
  refine z_lconst hx hb 0 dX10_write_2 rfl ?_
  refine z_ldc2 hx hb 255 hown (hts _ (List.mem_of_getElem? (i := 1) rfl)) rfl dX10_write_3 ?_
  refine z_cSi (As := [vL l0, vL 0, vL 255]) (rest := []) ⟨hx, hb, hml, hown, hts⟩ hK hP hD hS hA [] [0, 1] rfl rfl rfl (c_X10_in l g l0 0 255 (by first | decide | omega) (by first | decide | omega) (by first | decide | omega)) (va_cwS 3 hts gX10_write_X10_in rfl rfl rfl (by decide +kernel) ⟨Nat.le_of_ble_eq_true rfl, Nat.le_of_ble_eq_true rfl⟩) (fun _ _ _ _ _ _ => trivial) (fun _ _ _ => trivial) rfl hl.1 (Nat.le_of_ble_eq_true rfl) rfl dX10_write_6 ⟨Nat.le_of_ble_eq_true rfl, Nat.le_of_ble_eq_true rfl⟩ (fun u_1 H locs hwu_1 hP hD hS => ?_)
  try dsimp only at hwu_1
  have hP : zP g [[mdl q a x], [((a 6), .inl (g.2 0, 200, .inl (aI f)))]] H := hP
  have hD : zD A [[mdl q a x], [((a 6), .inl (g.2 0, 200, .inl (aI f)))]] := hD
  refine z_toI (inI l0 0 255) rfl ?_
  have hf_2 := inI_s l0 0 255
  refine z_if_ne (tgt := 15) hx hb (by omega) dX10_write_9 (by decide) (fun cq3 => ?_) (fun cq3 => False.elim (by omega))
  refine lv_aload_n hx hb dX10_write_15 rfl (lv_at hl 0 rfl) ?_
  refine z_get hx hb hts hin10_ hown hK hP 0 rfl rfl 10 (by decide) (hts _ (List.mem_of_getElem? (i := 3) rfl)) rfl dX10_write_16 ?_
  refine z_sipush hx hb 200 dX10_write_19 rfl ?_
  refine z_icmp_ne (tgt := 28) hx hb (by omega) (by decide) dX10_write_22 (by decide) (fun cq4 => ?_) (fun cq4 => False.elim (by omega))
  refine lv_aload_n hx hb dX10_write_28 rfl (lv_at hl 0 rfl) ?_
  refine z_get hx hb hts hin10_ hown hK hP 0 rfl rfl 9 (by decide) (hts _ (List.mem_of_getElem? (i := 5) rfl)) rfl dX10_write_29 ?_
  refine lv_aload_n hx hb dX10_write_32 rfl (lv_at hl 0 rfl) ?_
  refine z_get hx hb hts hin10_ hown hK hP 0 rfl rfl 10 (by decide) (hts _ (List.mem_of_getElem? (i := 3) rfl)) rfl dX10_write_33 ?_
  refine z_toI ((n : Nat) : Int) hx3 ?_
  refine lv_iload_n hx hb dX10_write_36 rfl (lv_at hl 1 rfl) ?_
  refine z_iast hx hb hK hP 1 hD hS rfl n (by omega) (by omega) (by decide) dX10_write_37 [[mdl q a x], [((a 6), .inl (g.2 0, 200, .inl (aI (uI f n l0))))]] rfl (fun H locs hP hD hS => ?_)
  refine lv_aload_n hx hb dX10_write_38 rfl (lv_at hl 0 rfl) ?_
  refine lv_dup hx hb dX10_write_39 rfl ?_
  refine z_get hx hb hts hin10_ hown hK hP 0 rfl rfl 10 (by decide) (hts _ (List.mem_of_getElem? (i := 3) rfl)) rfl dX10_write_40 ?_
  refine z_iconst hx hb dX10_write_43 rfl ?_
  refine z_iadd hx hb ((x 3) + 1) rfl dX10_write_44 ?_
  refine z_toI (((n + 1) : Nat) : Int) (by omega) ?_
  refine z_put hx hb hts hin10_ tyX10 tyX10_ok nmX10 hown hK hP hD hS 0 rfl rfl 10 (by decide) (hts _ (List.mem_of_getElem? (i := 3) rfl)) rfl rfl rfl (Nat.le_of_ble_eq_true rfl) dX10_write_45 [[mdl q a (uI x 3 (((n + 1) : Nat) : Int))], [((a 6), .inl (g.2 0, 200, .inl (aI (uI f n l0))))]] rfl (fun H locs hP hD hS => ?_)
  refine lv_aload_n hx hb dX10_write_48 rfl (lv_at hl 0 rfl) ?_
  refine z_get hx hb hts hin10_ hown hK hP 0 rfl rfl 10 (by decide) (hts _ (List.mem_of_getElem? (i := 3) rfl)) rfl dX10_write_49 ?_
  refine z_toI (((n + 1) : Nat) : Int) rfl ?_
  exact z_reti () [0, 1] hx hb hr rfl hlocks hK hP hD hS (rfl) trivial rfl rfl (rfl) (Nat.le_of_ble_eq_true rfl) (Nat.le_of_ble_eq_true rfl) dX10_write_52

set_option maxHeartbeats 4000000 in
set_option maxRecDepth 100000 in
theorem c_X10_erase (l : Launch) (g : zG) (q : Nat) (a : Nat → Nat) (x : Nat → Int)  : zMet l g yX10_erase wsX10_erase 0 0 0 [.ref q] zX0 [[mdl q a x]] (qi g (fun (_ : Unit) => (x 3)) (fun (_ : Unit) => True) (fun (_ : Unit) => [[mdl q a (uI x 3 0)]])) := by
  refine z_ent (cc := cX10_erase) (maxL := 2) (ret := (some .int)) (by decide) rfl (Nat.le_of_ble_eq_true rfl) ?_
  intro p e s m below meth c A ls hx hb hr hml hown hts hlocks hin0 hA hK hP hD hS hXX hl
  have hown : s.vm.findClass RX10 = some m.cls := hown
  have hin10_ : ∀ w ∈ wsX100, w ∈ wsX10_erase := zw_in [2, 3, 4, 5, 6, 7, 8, 9, 10, 11, 12, 13, 14, 15, 16, 17, 18, 19, 20, 21, 22, 23, 24, 25, 26, 27] rfl
  have hl : lv_has ls 2 [(0, .ref q)] := hl
  refine lv_aload_n hx hb dX10_erase_0 rfl (lv_at hl 0 rfl) ?_
  refine z_get hx hb hts hin10_ hown hK hP 0 rfl rfl 10 (by decide) (hts _ (List.mem_of_getElem? (i := 1) rfl)) rfl dX10_erase_1 ?_
  refine lv_istore_n (lv' := [(1, vI (x 3)), (0, .ref q)]) hx hb dX10_erase_4 rfl hl (by decide) rfl (fun ls hl => ?_)
  refine lv_aload_n hx hb dX10_erase_5 rfl (lv_at hl 1 rfl) ?_
  refine z_iconst hx hb dX10_erase_6 rfl ?_
  refine z_put hx hb hts hin10_ tyX10 tyX10_ok nmX10 hown hK hP hD hS 0 rfl rfl 10 (by decide) (hts _ (List.mem_of_getElem? (i := 1) rfl)) rfl rfl rfl (Nat.le_of_ble_eq_true rfl) dX10_erase_7 [[mdl q a (uI x 3 0)]] rfl (fun H locs hP hD hS => ?_)
  refine lv_iload_n hx hb dX10_erase_10 rfl (lv_at hl 0 rfl) ?_
  exact z_reti () [0] hx hb hr rfl hlocks hK hP hD hS (rfl) trivial rfl rfl (rfl) (Nat.le_of_ble_eq_true rfl) (Nat.le_of_ble_eq_true rfl) dX10_erase_11

set_option maxHeartbeats 4000000 in
set_option maxRecDepth 100000 in
theorem c_X10_isBus (l : Launch) (g : zG) (q : Nat) (a : Nat → Nat) (x : Nat → Int) (i : Int) (hi : -2147483648 ≤ i ∧ i < 2147483648) (hx1 : 1 ≤ x 1 ∧ x 1 ≤ 6) : zMet l g yX10_isBus wsX10_isBus 1 0 0 [.ref q, vI i] zX0 [[mdl q a x]] (qi g (fun (_ : Unit) => (inI i 0 (x 1 - 1))) (fun (_ : Unit) => True) (fun (_ : Unit) => [[mdl q a x]])) := by
  refine z_ent (cc := cX10_isBus) (maxL := 2) (ret := (some .boolean)) (by decide) rfl (Nat.le_of_ble_eq_true rfl) ?_
  intro p e s m below meth c A ls hx hb hr hml hown hts hlocks hin0 hA hK hP hD hS hXX hl
  have hown : s.vm.findClass RX10 = some m.cls := hown
  have hin10_ : ∀ w ∈ wsX100, w ∈ wsX10_isBus := zw_in [6, 7, 8, 9, 10, 11, 12, 13, 14, 15, 16, 17, 18, 19, 20, 21, 22, 23, 24, 25, 26, 27, 28, 29, 30, 31] rfl
  have hl : lv_has ls 2 [(0, .ref q), (1, vI i)] := hl
  refine lv_iload_n hx hb dX10_isBus_0 rfl (lv_at hl 1 rfl) ?_
  refine z_i2l hx hb (by omega) dX10_isBus_1 ?_
  refine z_lconst hx hb 0 dX10_isBus_2 rfl ?_
  refine lv_aload_n hx hb dX10_isBus_3 rfl (lv_at hl 0 rfl) ?_
  refine z_get hx hb hts hin10_ hown hK hP 0 rfl rfl 3 (by decide) (hts _ (List.mem_of_getElem? (i := 1) rfl)) rfl dX10_isBus_4 ?_
  refine z_iconst hx hb dX10_isBus_7 rfl ?_
  refine z_isub hx hb ((x 1) - 1) rfl dX10_isBus_8 ?_
  refine z_i2l hx hb (by omega) dX10_isBus_9 ?_
  refine z_cSi (As := [vL i, vL 0, vL ((x 1) - 1)]) (rest := []) ⟨hx, hb, hml, hown, hts⟩ hK hP hD hS hA [] [0] rfl rfl rfl (c_X10_in l g i 0 ((x 1) - 1) (by first | decide | omega) (by first | decide | omega) (by first | decide | omega)) (va_cwS 3 hts gX10_isBus_X10_in rfl rfl rfl (by decide +kernel) ⟨Nat.le_of_ble_eq_true rfl, Nat.le_of_ble_eq_true rfl⟩) (fun _ _ _ _ _ _ => trivial) (fun _ _ _ => trivial) rfl hl.1 (Nat.le_of_ble_eq_true rfl) rfl dX10_isBus_10 ⟨Nat.le_of_ble_eq_true rfl, Nat.le_of_ble_eq_true rfl⟩ (fun u_1 H locs hwu_1 hP hD hS => ?_)
  try dsimp only at hwu_1
  have hP : zP g [[mdl q a x]] H := hP
  have hD : zD A [[mdl q a x]] := hD
  refine z_toI (inI i 0 ((x 1) - 1)) rfl ?_
  have hf_2 := inI_s i 0 ((x 1) - 1)
  exact z_reti () [0] hx hb hr (nar_z (inI_s _ _ _).1) hlocks hK hP hD hS (rfl) trivial rfl rfl (rfl) (Nat.le_of_ble_eq_true rfl) (Nat.le_of_ble_eq_true rfl) dX10_isBus_13

set_option maxHeartbeats 4000000 in
set_option maxRecDepth 100000 in
theorem c_X10_isSort (l : Launch) (g : zG) (s_ : Int) (f : Int) (hs : -2147483648 ≤ s_ ∧ s_ < 2147483648) (hf : -2147483648 ≤ f ∧ f < 2147483648) : zMet l g yX10_isSort wsX10_isSort 1 0 0 [vI s_, vI f] zX0 [] (qi g (fun (_ : Unit) => (one ((0 ≤ s_ ∧ s_ ≤ 3) ∧ (0 ≤ f ∧ f ≤ 9)))) (fun (_ : Unit) => True) (fun (_ : Unit) => [])) := by
  have h9 := one_s ((0 ≤ s_ ∧ s_ ≤ 3) ∧ (0 ≤ f ∧ f ≤ 9))
  refine z_ent (cc := cX10_isSort) (maxL := 2) (ret := (some .boolean)) (by decide) rfl (Nat.le_of_ble_eq_true rfl) ?_
  intro p e s m below meth c A ls hx hb hr hml hown hts hlocks hin0 hA hK hP hD hS hXX hl
  have hown : s.vm.findClass RX10 = some m.cls := hown
  have hl : lv_has ls 2 [(0, vI s_), (1, vI f)] := hl
  refine lv_iload_n hx hb dX10_isSort_0 rfl (lv_at hl 0 rfl) ?_
  refine z_i2l hx hb (by omega) dX10_isSort_1 ?_
  refine z_lconst hx hb 0 dX10_isSort_2 rfl ?_
  refine z_ldc2 hx hb 3 hown (hts _ (List.mem_of_getElem? (i := 1) rfl)) rfl dX10_isSort_3 ?_
  refine z_cSi (As := [vL s_, vL 0, vL 3]) (rest := []) ⟨hx, hb, hml, hown, hts⟩ hK hP hD hS hA [] [] rfl rfl rfl (c_X10_in l g s_ 0 3 (by first | decide | omega) (by first | decide | omega) (by first | decide | omega)) (va_cwS 3 hts gX10_isSort_X10_in rfl rfl rfl (by decide +kernel) ⟨Nat.le_of_ble_eq_true rfl, Nat.le_of_ble_eq_true rfl⟩) (fun _ _ _ _ _ _ => trivial) (fun _ _ _ => trivial) rfl hl.1 (Nat.le_of_ble_eq_true rfl) rfl dX10_isSort_6 ⟨Nat.le_of_ble_eq_true rfl, Nat.le_of_ble_eq_true rfl⟩ (fun u_1 H locs hwu_1 hP hD hS => ?_)
  try dsimp only at hwu_1
  have hP : zP g [] H := hP
  have hD : zD A [] := hD
  refine z_toI (inI s_ 0 3) rfl ?_
  have hf_2 := inI_s s_ 0 3
  refine z_if_eq (tgt := 28) hx hb (by omega) dX10_isSort_9 (by decide) (fun cq3 => ?_) (fun cq3 => ?_)
  · refine z_iconst hx hb dX10_isSort_28 rfl ?_
    exact z_reti () [] hx hb hr (nar_z (by first | decide | omega)) hlocks hK hP hD hS (by omega) trivial rfl rfl (rfl) (Nat.le_of_ble_eq_true rfl) (Nat.le_of_ble_eq_true rfl) dX10_isSort_29
  · refine lv_iload_n hx hb dX10_isSort_12 rfl (lv_at hl 1 rfl) ?_
    refine z_i2l hx hb (by omega) dX10_isSort_13 ?_
    refine z_lconst hx hb 0 dX10_isSort_14 rfl ?_
    refine z_ldc2 hx hb 9 hown (hts _ (List.mem_of_getElem? (i := 2) rfl)) rfl dX10_isSort_15 ?_
    refine z_cSi (As := [vL f, vL 0, vL 9]) (rest := []) ⟨hx, hb, hml, hown, hts⟩ hK hP hD hS hA [] [] rfl rfl rfl (c_X10_in l g f 0 9 (by first | decide | omega) (by first | decide | omega) (by first | decide | omega)) (va_cwS 3 hts gX10_isSort_X10_in rfl rfl rfl (by decide +kernel) ⟨Nat.le_of_ble_eq_true rfl, Nat.le_of_ble_eq_true rfl⟩) (fun _ _ _ _ _ _ => trivial) (fun _ _ _ => trivial) rfl hl.1 (Nat.le_of_ble_eq_true rfl) rfl dX10_isSort_18 ⟨Nat.le_of_ble_eq_true rfl, Nat.le_of_ble_eq_true rfl⟩ (fun u_4 H locs hwu_4 hP hD hS => ?_)
    try dsimp only at hwu_4
    have hP : zP g [] H := hP
    have hD : zD A [] := hD
    refine z_toI (inI f 0 9) rfl ?_
    have hf_5 := inI_s f 0 9
    refine z_if_eq (tgt := 28) hx hb (by omega) dX10_isSort_21 (by decide) (fun cq6 => ?_) (fun cq6 => ?_)
    · refine z_iconst hx hb dX10_isSort_28 rfl ?_
      exact z_reti () [] hx hb hr (nar_z (by first | decide | omega)) hlocks hK hP hD hS (by omega) trivial rfl rfl (rfl) (Nat.le_of_ble_eq_true rfl) (Nat.le_of_ble_eq_true rfl) dX10_isSort_29
    · refine z_iconst hx hb dX10_isSort_24 rfl ?_
      refine lv_goto (tgt := 29) hx hb dX10_isSort_25 (by decide) ?_
      exact z_reti () [] hx hb hr (nar_z (by first | decide | omega)) hlocks hK hP hD hS (by omega) trivial rfl rfl (rfl) (Nat.le_of_ble_eq_true rfl) (Nat.le_of_ble_eq_true rfl) dX10_isSort_29

set_option maxHeartbeats 4000000 in
set_option maxRecDepth 100000 in
theorem c_X10_store_unk (l : Launch) (g : zG) (q : Nat) (a : Nat → Nat) (x : Nat → Int) (t : Int) (ht : -2147483648 ≤ t ∧ t < 2147483648) (hu : ¬ (0 ≤ t ∧ t ≤ 2)) : zMet l g yX10_store wsX10_store 2 0 0 [.ref q, vI t] zX0 [[mdl q a x]] (qi g (fun (_ : Unit) => (-2000000001)) (fun (_ : Unit) => True) (fun (_ : Unit) => [[mdl q a x]])) := by
  refine z_ent (cc := cX10_store) (maxL := 2) (ret := (some .int)) (by decide) rfl (Nat.le_of_ble_eq_true rfl) ?_
  intro p e s m below meth c A ls hx hb hr hml hown hts hlocks hin0 hA hK hP hD hS hXX hl
  have hown : s.vm.findClass RX10 = some m.cls := hown
  have hl : lv_has ls 2 [(0, .ref q), (1, vI t)] := hl
  refine lv_iload_n hx hb dX10_store_0 rfl (lv_at hl 1 rfl) ?_
  refine z_cSi (As := [vI t]) (rest := []) ⟨hx, hb, hml, hown, hts⟩ hK hP hD hS hA [] [0] rfl rfl rfl (c_X10_isStore l g t (by first | assumption | omega | decide)) (va_cwS 1 hts gX10_store_X10_isStore rfl rfl rfl (by decide +kernel) ⟨Nat.le_of_ble_eq_true rfl, Nat.le_of_ble_eq_true rfl⟩) (fun _ _ _ _ _ _ => trivial) (fun _ _ _ => trivial) rfl hl.1 (Nat.le_of_ble_eq_true rfl) rfl dX10_store_1 ⟨Nat.le_of_ble_eq_true rfl, Nat.le_of_ble_eq_true rfl⟩ (fun u_1 H locs hwu_1 hP hD hS => ?_)
  try dsimp only at hwu_1
  have hP : zP g [[mdl q a x]] H := hP
  have hD : zD A [[mdl q a x]] := hD
  refine z_toI (inI t 0 2) rfl ?_
  have hf_2 := inI_s t 0 2
  refine z_if_ne (tgt := 10) hx hb (by omega) dX10_store_4 (by decide) (fun cq3 => False.elim (by omega)) (fun cq3 => ?_)
  refine z_ldc hx hb (-2000000001) hown (hts _ (List.mem_of_getElem? (i := 1) rfl)) rfl dX10_store_7 ?_
  exact z_reti () [0] hx hb hr rfl hlocks hK hP hD hS (rfl) trivial rfl rfl (rfl) (Nat.le_of_ble_eq_true rfl) (Nat.le_of_ble_eq_true rfl) dX10_store_9

set_option maxHeartbeats 4000000 in
set_option maxRecDepth 100000 in
theorem c_X10_drop_unk (l : Launch) (g : zG) (q : Nat) (a : Nat → Nat) (x : Nat → Int) (t : Int) (ht : -2147483648 ≤ t ∧ t < 2147483648) (hu : ¬ (0 ≤ t ∧ t ≤ 2)) : zMet l g yX10_drop wsX10_drop 2 0 0 [.ref q, vI t] zX0 [[mdl q a x]] (qi g (fun (_ : Unit) => (-2000000001)) (fun (_ : Unit) => True) (fun (_ : Unit) => [[mdl q a x]])) := by
  refine z_ent (cc := cX10_drop) (maxL := 3) (ret := (some .int)) (by decide) rfl (Nat.le_of_ble_eq_true rfl) ?_
  intro p e s m below meth c A ls hx hb hr hml hown hts hlocks hin0 hA hK hP hD hS hXX hl
  have hown : s.vm.findClass RX10 = some m.cls := hown
  have hl : lv_has ls 3 [(0, .ref q), (1, vI t)] := hl
  refine lv_iload_n hx hb dX10_drop_0 rfl (lv_at hl 1 rfl) ?_
  refine z_cSi (As := [vI t]) (rest := []) ⟨hx, hb, hml, hown, hts⟩ hK hP hD hS hA [] [0] rfl rfl rfl (c_X10_isStore l g t (by first | assumption | omega | decide)) (va_cwS 1 hts gX10_drop_X10_isStore rfl rfl rfl (by decide +kernel) ⟨Nat.le_of_ble_eq_true rfl, Nat.le_of_ble_eq_true rfl⟩) (fun _ _ _ _ _ _ => trivial) (fun _ _ _ => trivial) rfl hl.1 (Nat.le_of_ble_eq_true rfl) rfl dX10_drop_1 ⟨Nat.le_of_ble_eq_true rfl, Nat.le_of_ble_eq_true rfl⟩ (fun u_1 H locs hwu_1 hP hD hS => ?_)
  try dsimp only at hwu_1
  have hP : zP g [[mdl q a x]] H := hP
  have hD : zD A [[mdl q a x]] := hD
  refine z_toI (inI t 0 2) rfl ?_
  have hf_2 := inI_s t 0 2
  refine z_if_ne (tgt := 10) hx hb (by omega) dX10_drop_4 (by decide) (fun cq3 => False.elim (by omega)) (fun cq3 => ?_)
  refine z_ldc hx hb (-2000000001) hown (hts _ (List.mem_of_getElem? (i := 1) rfl)) rfl dX10_drop_7 ?_
  exact z_reti () [0] hx hb hr rfl hlocks hK hP hD hS (rfl) trivial rfl rfl (rfl) (Nat.le_of_ble_eq_true rfl) (Nat.le_of_ble_eq_true rfl) dX10_drop_9

set_option maxHeartbeats 4000000 in
set_option maxRecDepth 100000 in
theorem c_X10_store0 (l : Launch) (g : zG) (q : Nat) (a : Nat → Nat) (x : Nat → Int) (z : Nat → Int)  : zMet l g yX10_store wsX10_store 2 0 0 [.ref q, vI 0] zX0 [[mdl q a x], [((a 7), .inl (g.2 0, 3, .inl (aI z)))]] (qi g (fun (_ : Unit) => 0) (fun (_ : Unit) => True) (fun (_ : Unit) => [[mdl q a x], [((a 7), .inl (g.2 0, 3, .inl (aI (uI z 0 0))))]])) := by
  refine z_ent (cc := cX10_store) (maxL := 2) (ret := (some .int)) (by decide) rfl (Nat.le_of_ble_eq_true rfl) ?_
  intro p e s m below meth c A ls hx hb hr hml hown hts hlocks hin0 hA hK hP hD hS hXX hl
  have hown : s.vm.findClass RX10 = some m.cls := hown
  have hin10_ : ∀ w ∈ wsX100, w ∈ wsX10_store := zw_in [11, 12, 13, 14, 15, 16, 17, 18, 19, 20, 21, 22, 23, 24, 25, 26, 27, 28, 29, 30, 31, 32, 33, 34, 35, 36] rfl
  have hl : lv_has ls 2 [(0, .ref q), (1, vI 0)] := hl
  refine lv_iload_n hx hb dX10_store_0 rfl (lv_at hl 1 rfl) ?_
  refine z_cSi (As := [vI 0]) (rest := []) ⟨hx, hb, hml, hown, hts⟩ hK hP hD hS hA [] [0, 1] rfl rfl rfl (c_X10_isStore l g 0 (by first | decide | omega)) (va_cwS 1 hts gX10_store_X10_isStore rfl rfl rfl (by decide +kernel) ⟨Nat.le_of_ble_eq_true rfl, Nat.le_of_ble_eq_true rfl⟩) (fun _ _ _ _ _ _ => trivial) (fun _ _ _ => trivial) rfl hl.1 (Nat.le_of_ble_eq_true rfl) rfl dX10_store_1 ⟨Nat.le_of_ble_eq_true rfl, Nat.le_of_ble_eq_true rfl⟩ (fun u_1 H locs hwu_1 hP hD hS => ?_)
  try dsimp only at hwu_1
  have hP : zP g [[mdl q a x], [((a 7), .inl (g.2 0, 3, .inl (aI z)))]] H := hP
  have hD : zD A [[mdl q a x], [((a 7), .inl (g.2 0, 3, .inl (aI z)))]] := hD
  refine z_toI (inI 0 0 2) rfl ?_
  have hf_2 := inI_s 0 0 2
  refine z_if_ne (tgt := 10) hx hb (by omega) dX10_store_4 (by decide) (fun cq3 => ?_) (fun cq3 => False.elim (by omega))
  refine lv_aload_n hx hb dX10_store_10 rfl (lv_at hl 0 rfl) ?_
  refine z_get hx hb hts hin10_ hown hK hP 0 rfl rfl 11 (by decide) (hts _ (List.mem_of_getElem? (i := 2) rfl)) rfl dX10_store_11 ?_
  refine lv_iload_n hx hb dX10_store_14 rfl (lv_at hl 1 rfl) ?_
  refine z_iconst hx hb dX10_store_15 rfl ?_
  refine z_iast hx hb hK hP 1 hD hS rfl 0 rfl (by decide) (by decide) dX10_store_16 [[mdl q a x], [((a 7), .inl (g.2 0, 3, .inl (aI (uI z 0 0))))]] rfl (fun H locs hP hD hS => ?_)
  refine z_iconst hx hb dX10_store_17 rfl ?_
  exact z_reti () [0, 1] hx hb hr rfl hlocks hK hP hD hS (rfl) trivial rfl rfl (rfl) (Nat.le_of_ble_eq_true rfl) (Nat.le_of_ble_eq_true rfl) dX10_store_18

set_option maxHeartbeats 4000000 in
set_option maxRecDepth 100000 in
theorem c_X10_drop0 (l : Launch) (g : zG) (q : Nat) (a : Nat → Nat) (x : Nat → Int) (z : Nat → Int) (hzb : ∀ i, -1 ≤ z i ∧ z i ≤ 8) : zMet l g yX10_drop wsX10_drop 2 0 0 [.ref q, vI 0] zX0 [[mdl q a x], [((a 7), .inl (g.2 0, 3, .inl (aI z)))]] (qi g (fun (_ : Unit) => (if z 0 < 0 then -2000000011 else z 0)) (fun (_ : Unit) => True) (fun (_ : Unit) => [[mdl q a x], [((a 7), .inl (g.2 0, 3, .inl (aI (uI z 0 (-1)))))]])) := by
  have hz9 := hzb 0
  refine z_ent (cc := cX10_drop) (maxL := 3) (ret := (some .int)) (by decide) rfl (Nat.le_of_ble_eq_true rfl) ?_
  intro p e s m below meth c A ls hx hb hr hml hown hts hlocks hin0 hA hK hP hD hS hXX hl
  have hown : s.vm.findClass RX10 = some m.cls := hown
  have hin10_ : ∀ w ∈ wsX100, w ∈ wsX10_drop := zw_in [12, 13, 14, 15, 16, 17, 18, 19, 20, 21, 22, 23, 24, 25, 26, 27, 28, 29, 30, 31, 32, 33, 34, 35, 36, 37] rfl
  have hl : lv_has ls 3 [(0, .ref q), (1, vI 0)] := hl
  refine lv_iload_n hx hb dX10_drop_0 rfl (lv_at hl 1 rfl) ?_
  refine z_cSi (As := [vI 0]) (rest := []) ⟨hx, hb, hml, hown, hts⟩ hK hP hD hS hA [] [0, 1] rfl rfl rfl (c_X10_isStore l g 0 (by first | decide | omega)) (va_cwS 1 hts gX10_drop_X10_isStore rfl rfl rfl (by decide +kernel) ⟨Nat.le_of_ble_eq_true rfl, Nat.le_of_ble_eq_true rfl⟩) (fun _ _ _ _ _ _ => trivial) (fun _ _ _ => trivial) rfl hl.1 (Nat.le_of_ble_eq_true rfl) rfl dX10_drop_1 ⟨Nat.le_of_ble_eq_true rfl, Nat.le_of_ble_eq_true rfl⟩ (fun u_1 H locs hwu_1 hP hD hS => ?_)
  try dsimp only at hwu_1
  have hP : zP g [[mdl q a x], [((a 7), .inl (g.2 0, 3, .inl (aI z)))]] H := hP
  have hD : zD A [[mdl q a x], [((a 7), .inl (g.2 0, 3, .inl (aI z)))]] := hD
  refine z_toI (inI 0 0 2) rfl ?_
  have hf_2 := inI_s 0 0 2
  refine z_if_ne (tgt := 10) hx hb (by omega) dX10_drop_4 (by decide) (fun cq3 => ?_) (fun cq3 => False.elim (by omega))
  refine lv_aload_n hx hb dX10_drop_10 rfl (lv_at hl 0 rfl) ?_
  refine z_get hx hb hts hin10_ hown hK hP 0 rfl rfl 11 (by decide) (hts _ (List.mem_of_getElem? (i := 2) rfl)) rfl dX10_drop_11 ?_
  refine lv_iload_n hx hb dX10_drop_14 rfl (lv_at hl 1 rfl) ?_
  refine z_iald hx hb hK hP 1 rfl 0 rfl (by decide) (by decide) dX10_drop_15 ?_
  refine lv_istore_n (lv' := [(2, vI (z 0)), (0, .ref q), (1, vI 0)]) hx hb dX10_drop_16 rfl hl (by decide) rfl (fun ls hl => ?_)
  refine lv_aload_n hx hb dX10_drop_17 rfl (lv_at hl 1 rfl) ?_
  refine z_get hx hb hts hin10_ hown hK hP 0 rfl rfl 11 (by decide) (hts _ (List.mem_of_getElem? (i := 2) rfl)) rfl dX10_drop_18 ?_
  refine lv_iload_n hx hb dX10_drop_21 rfl (lv_at hl 2 rfl) ?_
  refine z_iconst hx hb dX10_drop_22 rfl ?_
  refine z_iast hx hb hK hP 1 hD hS rfl 0 rfl (by decide) (by decide) dX10_drop_23 [[mdl q a x], [((a 7), .inl (g.2 0, 3, .inl (aI (uI z 0 (-1)))))]] rfl (fun H locs hP hD hS => ?_)
  have j35 : W p l e (zRm 2 0 0) s m ([.ref q, vI 0] : List Value).toArray below meth c H locs (0) (0) (MQ below ((qi g (fun (_ : Unit) => (if z 0 < 0 then -2000000011 else z 0)) (fun (_ : Unit) => True) (fun (_ : Unit) => [[mdl q a x], [((a 7), .inl (g.2 0, 3, .inl (aI (uI z 0 (-1)))))]])) A) ([.ref q, vI 0] : List Value).toArray s 0 0 A) (F0 m 35 ls [vI (if z 0 < 0 then -2000000011 else z 0)]) := by
    exact z_reti () [0, 1] hx hb hr rfl hlocks hK hP hD hS (rfl) trivial rfl rfl (rfl) (Nat.le_of_ble_eq_true rfl) (Nat.le_of_ble_eq_true rfl) dX10_drop_35
  refine lv_iload_n hx hb dX10_drop_24 rfl (lv_at hl 0 rfl) ?_
  refine z_if_ge (tgt := 34) hx hb (by omega) dX10_drop_25 (by decide) (fun cq4 => ?_) (fun cq4 => ?_)
  · refine lv_iload_n hx hb dX10_drop_34 rfl (lv_at hl 0 rfl) ?_
    refine z_toI (if z 0 < 0 then -2000000011 else z 0) (by first | rw [if_pos (by omega)] | rw [if_neg (by omega)]) ?_
    exact j35
  · refine z_ldcw hx hb (-2000000011) hown (hts _ (List.mem_of_getElem? (i := 3) rfl)) rfl dX10_drop_28 ?_
    refine lv_goto (tgt := 35) hx hb dX10_drop_31 (by decide) ?_
    refine z_toI (if z 0 < 0 then -2000000011 else z 0) (by first | rw [if_pos (by omega)] | rw [if_neg (by omega)]) ?_
    exact j35

set_option maxHeartbeats 4000000 in
set_option maxRecDepth 100000 in
theorem c_X10_store1 (l : Launch) (g : zG) (q : Nat) (a : Nat → Nat) (x : Nat → Int) (z : Nat → Int)  : zMet l g yX10_store wsX10_store 2 0 0 [.ref q, vI 1] zX0 [[mdl q a x], [((a 7), .inl (g.2 0, 3, .inl (aI z)))]] (qi g (fun (_ : Unit) => 0) (fun (_ : Unit) => True) (fun (_ : Unit) => [[mdl q a x], [((a 7), .inl (g.2 0, 3, .inl (aI (uI z 1 0))))]])) := by
  refine z_ent (cc := cX10_store) (maxL := 2) (ret := (some .int)) (by decide) rfl (Nat.le_of_ble_eq_true rfl) ?_
  intro p e s m below meth c A ls hx hb hr hml hown hts hlocks hin0 hA hK hP hD hS hXX hl
  have hown : s.vm.findClass RX10 = some m.cls := hown
  have hin10_ : ∀ w ∈ wsX100, w ∈ wsX10_store := zw_in [11, 12, 13, 14, 15, 16, 17, 18, 19, 20, 21, 22, 23, 24, 25, 26, 27, 28, 29, 30, 31, 32, 33, 34, 35, 36] rfl
  have hl : lv_has ls 2 [(0, .ref q), (1, vI 1)] := hl
  refine lv_iload_n hx hb dX10_store_0 rfl (lv_at hl 1 rfl) ?_
  refine z_cSi (As := [vI 1]) (rest := []) ⟨hx, hb, hml, hown, hts⟩ hK hP hD hS hA [] [0, 1] rfl rfl rfl (c_X10_isStore l g 1 (by first | decide | omega)) (va_cwS 1 hts gX10_store_X10_isStore rfl rfl rfl (by decide +kernel) ⟨Nat.le_of_ble_eq_true rfl, Nat.le_of_ble_eq_true rfl⟩) (fun _ _ _ _ _ _ => trivial) (fun _ _ _ => trivial) rfl hl.1 (Nat.le_of_ble_eq_true rfl) rfl dX10_store_1 ⟨Nat.le_of_ble_eq_true rfl, Nat.le_of_ble_eq_true rfl⟩ (fun u_1 H locs hwu_1 hP hD hS => ?_)
  try dsimp only at hwu_1
  have hP : zP g [[mdl q a x], [((a 7), .inl (g.2 0, 3, .inl (aI z)))]] H := hP
  have hD : zD A [[mdl q a x], [((a 7), .inl (g.2 0, 3, .inl (aI z)))]] := hD
  refine z_toI (inI 1 0 2) rfl ?_
  have hf_2 := inI_s 1 0 2
  refine z_if_ne (tgt := 10) hx hb (by omega) dX10_store_4 (by decide) (fun cq3 => ?_) (fun cq3 => False.elim (by omega))
  refine lv_aload_n hx hb dX10_store_10 rfl (lv_at hl 0 rfl) ?_
  refine z_get hx hb hts hin10_ hown hK hP 0 rfl rfl 11 (by decide) (hts _ (List.mem_of_getElem? (i := 2) rfl)) rfl dX10_store_11 ?_
  refine lv_iload_n hx hb dX10_store_14 rfl (lv_at hl 1 rfl) ?_
  refine z_iconst hx hb dX10_store_15 rfl ?_
  refine z_iast hx hb hK hP 1 hD hS rfl 1 rfl (by decide) (by decide) dX10_store_16 [[mdl q a x], [((a 7), .inl (g.2 0, 3, .inl (aI (uI z 1 0))))]] rfl (fun H locs hP hD hS => ?_)
  refine z_iconst hx hb dX10_store_17 rfl ?_
  exact z_reti () [0, 1] hx hb hr rfl hlocks hK hP hD hS (rfl) trivial rfl rfl (rfl) (Nat.le_of_ble_eq_true rfl) (Nat.le_of_ble_eq_true rfl) dX10_store_18

set_option maxHeartbeats 4000000 in
set_option maxRecDepth 100000 in
theorem c_X10_drop1 (l : Launch) (g : zG) (q : Nat) (a : Nat → Nat) (x : Nat → Int) (z : Nat → Int) (hzb : ∀ i, -1 ≤ z i ∧ z i ≤ 8) : zMet l g yX10_drop wsX10_drop 2 0 0 [.ref q, vI 1] zX0 [[mdl q a x], [((a 7), .inl (g.2 0, 3, .inl (aI z)))]] (qi g (fun (_ : Unit) => (if z 1 < 0 then -2000000011 else z 1)) (fun (_ : Unit) => True) (fun (_ : Unit) => [[mdl q a x], [((a 7), .inl (g.2 0, 3, .inl (aI (uI z 1 (-1)))))]])) := by
  have hz9 := hzb 1
  refine z_ent (cc := cX10_drop) (maxL := 3) (ret := (some .int)) (by decide) rfl (Nat.le_of_ble_eq_true rfl) ?_
  intro p e s m below meth c A ls hx hb hr hml hown hts hlocks hin0 hA hK hP hD hS hXX hl
  have hown : s.vm.findClass RX10 = some m.cls := hown
  have hin10_ : ∀ w ∈ wsX100, w ∈ wsX10_drop := zw_in [12, 13, 14, 15, 16, 17, 18, 19, 20, 21, 22, 23, 24, 25, 26, 27, 28, 29, 30, 31, 32, 33, 34, 35, 36, 37] rfl
  have hl : lv_has ls 3 [(0, .ref q), (1, vI 1)] := hl
  refine lv_iload_n hx hb dX10_drop_0 rfl (lv_at hl 1 rfl) ?_
  refine z_cSi (As := [vI 1]) (rest := []) ⟨hx, hb, hml, hown, hts⟩ hK hP hD hS hA [] [0, 1] rfl rfl rfl (c_X10_isStore l g 1 (by first | decide | omega)) (va_cwS 1 hts gX10_drop_X10_isStore rfl rfl rfl (by decide +kernel) ⟨Nat.le_of_ble_eq_true rfl, Nat.le_of_ble_eq_true rfl⟩) (fun _ _ _ _ _ _ => trivial) (fun _ _ _ => trivial) rfl hl.1 (Nat.le_of_ble_eq_true rfl) rfl dX10_drop_1 ⟨Nat.le_of_ble_eq_true rfl, Nat.le_of_ble_eq_true rfl⟩ (fun u_1 H locs hwu_1 hP hD hS => ?_)
  try dsimp only at hwu_1
  have hP : zP g [[mdl q a x], [((a 7), .inl (g.2 0, 3, .inl (aI z)))]] H := hP
  have hD : zD A [[mdl q a x], [((a 7), .inl (g.2 0, 3, .inl (aI z)))]] := hD
  refine z_toI (inI 1 0 2) rfl ?_
  have hf_2 := inI_s 1 0 2
  refine z_if_ne (tgt := 10) hx hb (by omega) dX10_drop_4 (by decide) (fun cq3 => ?_) (fun cq3 => False.elim (by omega))
  refine lv_aload_n hx hb dX10_drop_10 rfl (lv_at hl 0 rfl) ?_
  refine z_get hx hb hts hin10_ hown hK hP 0 rfl rfl 11 (by decide) (hts _ (List.mem_of_getElem? (i := 2) rfl)) rfl dX10_drop_11 ?_
  refine lv_iload_n hx hb dX10_drop_14 rfl (lv_at hl 1 rfl) ?_
  refine z_iald hx hb hK hP 1 rfl 1 rfl (by decide) (by decide) dX10_drop_15 ?_
  refine lv_istore_n (lv' := [(2, vI (z 1)), (0, .ref q), (1, vI 1)]) hx hb dX10_drop_16 rfl hl (by decide) rfl (fun ls hl => ?_)
  refine lv_aload_n hx hb dX10_drop_17 rfl (lv_at hl 1 rfl) ?_
  refine z_get hx hb hts hin10_ hown hK hP 0 rfl rfl 11 (by decide) (hts _ (List.mem_of_getElem? (i := 2) rfl)) rfl dX10_drop_18 ?_
  refine lv_iload_n hx hb dX10_drop_21 rfl (lv_at hl 2 rfl) ?_
  refine z_iconst hx hb dX10_drop_22 rfl ?_
  refine z_iast hx hb hK hP 1 hD hS rfl 1 rfl (by decide) (by decide) dX10_drop_23 [[mdl q a x], [((a 7), .inl (g.2 0, 3, .inl (aI (uI z 1 (-1)))))]] rfl (fun H locs hP hD hS => ?_)
  have j35 : W p l e (zRm 2 0 0) s m ([.ref q, vI 1] : List Value).toArray below meth c H locs (0) (0) (MQ below ((qi g (fun (_ : Unit) => (if z 1 < 0 then -2000000011 else z 1)) (fun (_ : Unit) => True) (fun (_ : Unit) => [[mdl q a x], [((a 7), .inl (g.2 0, 3, .inl (aI (uI z 1 (-1)))))]])) A) ([.ref q, vI 1] : List Value).toArray s 0 0 A) (F0 m 35 ls [vI (if z 1 < 0 then -2000000011 else z 1)]) := by
    exact z_reti () [0, 1] hx hb hr rfl hlocks hK hP hD hS (rfl) trivial rfl rfl (rfl) (Nat.le_of_ble_eq_true rfl) (Nat.le_of_ble_eq_true rfl) dX10_drop_35
  refine lv_iload_n hx hb dX10_drop_24 rfl (lv_at hl 0 rfl) ?_
  refine z_if_ge (tgt := 34) hx hb (by omega) dX10_drop_25 (by decide) (fun cq4 => ?_) (fun cq4 => ?_)
  · refine lv_iload_n hx hb dX10_drop_34 rfl (lv_at hl 0 rfl) ?_
    refine z_toI (if z 1 < 0 then -2000000011 else z 1) (by first | rw [if_pos (by omega)] | rw [if_neg (by omega)]) ?_
    exact j35
  · refine z_ldcw hx hb (-2000000011) hown (hts _ (List.mem_of_getElem? (i := 3) rfl)) rfl dX10_drop_28 ?_
    refine lv_goto (tgt := 35) hx hb dX10_drop_31 (by decide) ?_
    refine z_toI (if z 1 < 0 then -2000000011 else z 1) (by first | rw [if_pos (by omega)] | rw [if_neg (by omega)]) ?_
    exact j35

set_option maxHeartbeats 4000000 in
set_option maxRecDepth 100000 in
theorem c_X10_store2 (l : Launch) (g : zG) (q : Nat) (a : Nat → Nat) (x : Nat → Int) (z : Nat → Int)  : zMet l g yX10_store wsX10_store 2 0 0 [.ref q, vI 2] zX0 [[mdl q a x], [((a 7), .inl (g.2 0, 3, .inl (aI z)))]] (qi g (fun (_ : Unit) => 0) (fun (_ : Unit) => True) (fun (_ : Unit) => [[mdl q a x], [((a 7), .inl (g.2 0, 3, .inl (aI (uI z 2 0))))]])) := by
  refine z_ent (cc := cX10_store) (maxL := 2) (ret := (some .int)) (by decide) rfl (Nat.le_of_ble_eq_true rfl) ?_
  intro p e s m below meth c A ls hx hb hr hml hown hts hlocks hin0 hA hK hP hD hS hXX hl
  have hown : s.vm.findClass RX10 = some m.cls := hown
  have hin10_ : ∀ w ∈ wsX100, w ∈ wsX10_store := zw_in [11, 12, 13, 14, 15, 16, 17, 18, 19, 20, 21, 22, 23, 24, 25, 26, 27, 28, 29, 30, 31, 32, 33, 34, 35, 36] rfl
  have hl : lv_has ls 2 [(0, .ref q), (1, vI 2)] := hl
  refine lv_iload_n hx hb dX10_store_0 rfl (lv_at hl 1 rfl) ?_
  refine z_cSi (As := [vI 2]) (rest := []) ⟨hx, hb, hml, hown, hts⟩ hK hP hD hS hA [] [0, 1] rfl rfl rfl (c_X10_isStore l g 2 (by first | decide | omega)) (va_cwS 1 hts gX10_store_X10_isStore rfl rfl rfl (by decide +kernel) ⟨Nat.le_of_ble_eq_true rfl, Nat.le_of_ble_eq_true rfl⟩) (fun _ _ _ _ _ _ => trivial) (fun _ _ _ => trivial) rfl hl.1 (Nat.le_of_ble_eq_true rfl) rfl dX10_store_1 ⟨Nat.le_of_ble_eq_true rfl, Nat.le_of_ble_eq_true rfl⟩ (fun u_1 H locs hwu_1 hP hD hS => ?_)
  try dsimp only at hwu_1
  have hP : zP g [[mdl q a x], [((a 7), .inl (g.2 0, 3, .inl (aI z)))]] H := hP
  have hD : zD A [[mdl q a x], [((a 7), .inl (g.2 0, 3, .inl (aI z)))]] := hD
  refine z_toI (inI 2 0 2) rfl ?_
  have hf_2 := inI_s 2 0 2
  refine z_if_ne (tgt := 10) hx hb (by omega) dX10_store_4 (by decide) (fun cq3 => ?_) (fun cq3 => False.elim (by omega))
  refine lv_aload_n hx hb dX10_store_10 rfl (lv_at hl 0 rfl) ?_
  refine z_get hx hb hts hin10_ hown hK hP 0 rfl rfl 11 (by decide) (hts _ (List.mem_of_getElem? (i := 2) rfl)) rfl dX10_store_11 ?_
  refine lv_iload_n hx hb dX10_store_14 rfl (lv_at hl 1 rfl) ?_
  refine z_iconst hx hb dX10_store_15 rfl ?_
  refine z_iast hx hb hK hP 1 hD hS rfl 2 rfl (by decide) (by decide) dX10_store_16 [[mdl q a x], [((a 7), .inl (g.2 0, 3, .inl (aI (uI z 2 0))))]] rfl (fun H locs hP hD hS => ?_)
  refine z_iconst hx hb dX10_store_17 rfl ?_
  exact z_reti () [0, 1] hx hb hr rfl hlocks hK hP hD hS (rfl) trivial rfl rfl (rfl) (Nat.le_of_ble_eq_true rfl) (Nat.le_of_ble_eq_true rfl) dX10_store_18

set_option maxHeartbeats 4000000 in
set_option maxRecDepth 100000 in
theorem c_X10_drop2 (l : Launch) (g : zG) (q : Nat) (a : Nat → Nat) (x : Nat → Int) (z : Nat → Int) (hzb : ∀ i, -1 ≤ z i ∧ z i ≤ 8) : zMet l g yX10_drop wsX10_drop 2 0 0 [.ref q, vI 2] zX0 [[mdl q a x], [((a 7), .inl (g.2 0, 3, .inl (aI z)))]] (qi g (fun (_ : Unit) => (if z 2 < 0 then -2000000011 else z 2)) (fun (_ : Unit) => True) (fun (_ : Unit) => [[mdl q a x], [((a 7), .inl (g.2 0, 3, .inl (aI (uI z 2 (-1)))))]])) := by
  have hz9 := hzb 2
  refine z_ent (cc := cX10_drop) (maxL := 3) (ret := (some .int)) (by decide) rfl (Nat.le_of_ble_eq_true rfl) ?_
  intro p e s m below meth c A ls hx hb hr hml hown hts hlocks hin0 hA hK hP hD hS hXX hl
  have hown : s.vm.findClass RX10 = some m.cls := hown
  have hin10_ : ∀ w ∈ wsX100, w ∈ wsX10_drop := zw_in [12, 13, 14, 15, 16, 17, 18, 19, 20, 21, 22, 23, 24, 25, 26, 27, 28, 29, 30, 31, 32, 33, 34, 35, 36, 37] rfl
  have hl : lv_has ls 3 [(0, .ref q), (1, vI 2)] := hl
  refine lv_iload_n hx hb dX10_drop_0 rfl (lv_at hl 1 rfl) ?_
  refine z_cSi (As := [vI 2]) (rest := []) ⟨hx, hb, hml, hown, hts⟩ hK hP hD hS hA [] [0, 1] rfl rfl rfl (c_X10_isStore l g 2 (by first | decide | omega)) (va_cwS 1 hts gX10_drop_X10_isStore rfl rfl rfl (by decide +kernel) ⟨Nat.le_of_ble_eq_true rfl, Nat.le_of_ble_eq_true rfl⟩) (fun _ _ _ _ _ _ => trivial) (fun _ _ _ => trivial) rfl hl.1 (Nat.le_of_ble_eq_true rfl) rfl dX10_drop_1 ⟨Nat.le_of_ble_eq_true rfl, Nat.le_of_ble_eq_true rfl⟩ (fun u_1 H locs hwu_1 hP hD hS => ?_)
  try dsimp only at hwu_1
  have hP : zP g [[mdl q a x], [((a 7), .inl (g.2 0, 3, .inl (aI z)))]] H := hP
  have hD : zD A [[mdl q a x], [((a 7), .inl (g.2 0, 3, .inl (aI z)))]] := hD
  refine z_toI (inI 2 0 2) rfl ?_
  have hf_2 := inI_s 2 0 2
  refine z_if_ne (tgt := 10) hx hb (by omega) dX10_drop_4 (by decide) (fun cq3 => ?_) (fun cq3 => False.elim (by omega))
  refine lv_aload_n hx hb dX10_drop_10 rfl (lv_at hl 0 rfl) ?_
  refine z_get hx hb hts hin10_ hown hK hP 0 rfl rfl 11 (by decide) (hts _ (List.mem_of_getElem? (i := 2) rfl)) rfl dX10_drop_11 ?_
  refine lv_iload_n hx hb dX10_drop_14 rfl (lv_at hl 1 rfl) ?_
  refine z_iald hx hb hK hP 1 rfl 2 rfl (by decide) (by decide) dX10_drop_15 ?_
  refine lv_istore_n (lv' := [(2, vI (z 2)), (0, .ref q), (1, vI 2)]) hx hb dX10_drop_16 rfl hl (by decide) rfl (fun ls hl => ?_)
  refine lv_aload_n hx hb dX10_drop_17 rfl (lv_at hl 1 rfl) ?_
  refine z_get hx hb hts hin10_ hown hK hP 0 rfl rfl 11 (by decide) (hts _ (List.mem_of_getElem? (i := 2) rfl)) rfl dX10_drop_18 ?_
  refine lv_iload_n hx hb dX10_drop_21 rfl (lv_at hl 2 rfl) ?_
  refine z_iconst hx hb dX10_drop_22 rfl ?_
  refine z_iast hx hb hK hP 1 hD hS rfl 2 rfl (by decide) (by decide) dX10_drop_23 [[mdl q a x], [((a 7), .inl (g.2 0, 3, .inl (aI (uI z 2 (-1)))))]] rfl (fun H locs hP hD hS => ?_)
  have j35 : W p l e (zRm 2 0 0) s m ([.ref q, vI 2] : List Value).toArray below meth c H locs (0) (0) (MQ below ((qi g (fun (_ : Unit) => (if z 2 < 0 then -2000000011 else z 2)) (fun (_ : Unit) => True) (fun (_ : Unit) => [[mdl q a x], [((a 7), .inl (g.2 0, 3, .inl (aI (uI z 2 (-1)))))]])) A) ([.ref q, vI 2] : List Value).toArray s 0 0 A) (F0 m 35 ls [vI (if z 2 < 0 then -2000000011 else z 2)]) := by
    exact z_reti () [0, 1] hx hb hr rfl hlocks hK hP hD hS (rfl) trivial rfl rfl (rfl) (Nat.le_of_ble_eq_true rfl) (Nat.le_of_ble_eq_true rfl) dX10_drop_35
  refine lv_iload_n hx hb dX10_drop_24 rfl (lv_at hl 0 rfl) ?_
  refine z_if_ge (tgt := 34) hx hb (by omega) dX10_drop_25 (by decide) (fun cq4 => ?_) (fun cq4 => ?_)
  · refine lv_iload_n hx hb dX10_drop_34 rfl (lv_at hl 0 rfl) ?_
    refine z_toI (if z 2 < 0 then -2000000011 else z 2) (by first | rw [if_pos (by omega)] | rw [if_neg (by omega)]) ?_
    exact j35
  · refine z_ldcw hx hb (-2000000011) hown (hts _ (List.mem_of_getElem? (i := 3) rfl)) rfl dX10_drop_28 ?_
    refine lv_goto (tgt := 35) hx hb dX10_drop_31 (by decide) ?_
    refine z_toI (if z 2 < 0 then -2000000011 else z 2) (by first | rw [if_pos (by omega)] | rw [if_neg (by omega)]) ?_
    exact j35

set_option maxHeartbeats 4000000 in
set_option maxRecDepth 100000 in
theorem c_X10_allThings (l : Launch) (g : zG) (q : Nat) (a : Nat → Nat) (x : Nat → Int) (z : Nat → Int) (hzb : ∀ i, -1 ≤ z i ∧ z i ≤ 8) : zMet l g yX10_allThings wsX10_allThings 0 0 0 [.ref q] zX0 [[mdl q a x], [((a 7), .inl (g.2 0, 3, .inl (aI z)))]] (qi g (fun (_ : Unit) => (pz (z 0) + pz (z 1) + pz (z 2))) (fun (_ : Unit) => True) (fun (_ : Unit) => [[mdl q a x], [((a 7), .inl (g.2 0, 3, .inl (aI z)))]])) := by
  have hz0 := hzb 0
  have hz1 := hzb 1
  have hz2 := hzb 2
  refine z_ent (cc := cX10_allThings) (maxL := 3) (ret := (some .int)) (by decide) rfl (Nat.le_of_ble_eq_true rfl) ?_
  intro p e s m below meth c A ls hx hb hr hml hown hts hlocks hin0 hA hK hP hD hS hXX hl
  have hown : s.vm.findClass RX10 = some m.cls := hown
  have hin10_ : ∀ w ∈ wsX100, w ∈ wsX10_allThings := zw_in [2, 3, 4, 5, 6, 7, 8, 9, 10, 11, 12, 13, 14, 15, 16, 17, 18, 19, 20, 21, 22, 23, 24, 25, 26, 27] rfl
  have hl : lv_has ls 3 [(0, .ref q)] := hl
  refine z_iconst hx hb dX10_allThings_0 rfl ?_
  refine lv_istore_n (lv' := [(1, vI 0), (0, .ref q)]) hx hb dX10_allThings_1 rfl hl (by decide) rfl (fun ls hl => ?_)
  refine z_iconst hx hb dX10_allThings_2 rfl ?_
  refine lv_istore_n (lv' := [(2, vI 0), (1, vI 0), (0, .ref q)]) hx hb dX10_allThings_3 rfl hl (by decide) rfl (fun ls hl => ?_)
  refine lv_iload_n hx hb dX10_allThings_4 rfl (lv_at hl 0 rfl) ?_
  refine z_iconst hx hb dX10_allThings_5 rfl ?_
  refine z_icmp_ge (tgt := 37) hx hb (by decide) (by decide) dX10_allThings_6 (by decide) (fun cq1 => False.elim (by omega)) (fun cq1 => ?_)
  refine lv_iload_n hx hb dX10_allThings_9 rfl (lv_at hl 1 rfl) ?_
  have j29 : W p l e (zRm 0 0 0) s m ([.ref q] : List Value).toArray below meth c s.heap [] (0) (0) (MQ below ((qi g (fun (_ : Unit) => (pz (z 0) + pz (z 1) + pz (z 2))) (fun (_ : Unit) => True) (fun (_ : Unit) => [[mdl q a x], [((a 7), .inl (g.2 0, 3, .inl (aI z)))]])) A) ([.ref q] : List Value).toArray s 0 0 A) (F0 m 29 ls [vI (pz (z 0)), vI 0]) := by
    refine z_iadd hx hb (0 + (pz (z 0))) rfl dX10_allThings_29 ?_
    refine z_nmI (fun x_2 hx_2 => ?_)
    refine lv_istore_n (lv' := [(1, vI x_2), (2, vI 0), (0, .ref q)]) hx hb dX10_allThings_30 rfl hl (by decide) rfl (fun ls hl => ?_)
    refine z_iinc hx hb 1 (lv' := [(2, vI 1), (1, vI x_2), (0, .ref q)]) dX10_allThings_31 hl (k := 1) rfl (rfl) (by decide) rfl (fun ls hl => ?_)
    refine lv_goto (tgt := 4) hx hb dX10_allThings_34 (by decide) ?_
    refine lv_iload_n hx hb dX10_allThings_4 rfl (lv_at hl 0 rfl) ?_
    refine z_iconst hx hb dX10_allThings_5 rfl ?_
    refine z_icmp_ge (tgt := 37) hx hb (by decide) (by decide) dX10_allThings_6 (by decide) (fun cq3 => False.elim (by omega)) (fun cq3 => ?_)
    refine lv_iload_n hx hb dX10_allThings_9 rfl (lv_at hl 1 rfl) ?_
    have j29 : W p l e (zRm 0 0 0) s m ([.ref q] : List Value).toArray below meth c s.heap [] (0) (0) (MQ below ((qi g (fun (_ : Unit) => (pz (z 0) + pz (z 1) + pz (z 2))) (fun (_ : Unit) => True) (fun (_ : Unit) => [[mdl q a x], [((a 7), .inl (g.2 0, 3, .inl (aI z)))]])) A) ([.ref q] : List Value).toArray s 0 0 A) (F0 m 29 ls [vI (pz (z 1)), vI x_2]) := by
      refine z_iadd hx hb (x_2 + (pz (z 1))) rfl dX10_allThings_29 ?_
      refine z_nmI (fun x_4 hx_4 => ?_)
      refine lv_istore_n (lv' := [(1, vI x_4), (2, vI 1), (0, .ref q)]) hx hb dX10_allThings_30 rfl hl (by decide) rfl (fun ls hl => ?_)
      refine z_iinc hx hb 2 (lv' := [(2, vI 2), (1, vI x_4), (0, .ref q)]) dX10_allThings_31 hl (k := 1) rfl (rfl) (by decide) rfl (fun ls hl => ?_)
      refine lv_goto (tgt := 4) hx hb dX10_allThings_34 (by decide) ?_
      refine lv_iload_n hx hb dX10_allThings_4 rfl (lv_at hl 0 rfl) ?_
      refine z_iconst hx hb dX10_allThings_5 rfl ?_
      refine z_icmp_ge (tgt := 37) hx hb (by decide) (by decide) dX10_allThings_6 (by decide) (fun cq5 => False.elim (by omega)) (fun cq5 => ?_)
      refine lv_iload_n hx hb dX10_allThings_9 rfl (lv_at hl 1 rfl) ?_
      have j29 : W p l e (zRm 0 0 0) s m ([.ref q] : List Value).toArray below meth c s.heap [] (0) (0) (MQ below ((qi g (fun (_ : Unit) => (pz (z 0) + pz (z 1) + pz (z 2))) (fun (_ : Unit) => True) (fun (_ : Unit) => [[mdl q a x], [((a 7), .inl (g.2 0, 3, .inl (aI z)))]])) A) ([.ref q] : List Value).toArray s 0 0 A) (F0 m 29 ls [vI (pz (z 2)), vI x_4]) := by
        refine z_iadd hx hb (x_4 + (pz (z 2))) rfl dX10_allThings_29 ?_
        refine z_nmI (fun x_6 hx_6 => ?_)
        refine lv_istore_n (lv' := [(1, vI x_6), (2, vI 2), (0, .ref q)]) hx hb dX10_allThings_30 rfl hl (by decide) rfl (fun ls hl => ?_)
        refine z_iinc hx hb 3 (lv' := [(2, vI 3), (1, vI x_6), (0, .ref q)]) dX10_allThings_31 hl (k := 1) rfl (rfl) (by decide) rfl (fun ls hl => ?_)
        refine lv_goto (tgt := 4) hx hb dX10_allThings_34 (by decide) ?_
        refine lv_iload_n hx hb dX10_allThings_4 rfl (lv_at hl 0 rfl) ?_
        refine z_iconst hx hb dX10_allThings_5 rfl ?_
        refine z_icmp_ge (tgt := 37) hx hb (by decide) (by decide) dX10_allThings_6 (by decide) (fun cq7 => ?_) (fun cq7 => False.elim (by omega))
        refine lv_iload_n hx hb dX10_allThings_37 rfl (lv_at hl 1 rfl) ?_
        exact z_reti () [0, 1] hx hb hr rfl hlocks hK hP hD hS (by omega) trivial rfl rfl (rfl) (Nat.le_of_ble_eq_true rfl) (Nat.le_of_ble_eq_true rfl) dX10_allThings_38
      refine lv_aload_n hx hb dX10_allThings_10 rfl (lv_at hl 2 rfl) ?_
      refine z_get hx hb hts hin10_ hown hK hP 0 rfl rfl 11 (by decide) (hts _ (List.mem_of_getElem? (i := 1) rfl)) rfl dX10_allThings_11 ?_
      refine lv_iload_n hx hb dX10_allThings_14 rfl (lv_at hl 0 rfl) ?_
      refine z_iald hx hb hK hP 1 rfl 2 rfl (by decide) (by decide) dX10_allThings_15 ?_
      refine z_if_ge (tgt := 23) hx hb (by omega) dX10_allThings_16 (by decide) (fun cq8 => ?_) (fun cq8 => ?_)
      · refine lv_aload_n hx hb dX10_allThings_23 rfl (lv_at hl 2 rfl) ?_
        refine z_get hx hb hts hin10_ hown hK hP 0 rfl rfl 11 (by decide) (hts _ (List.mem_of_getElem? (i := 1) rfl)) rfl dX10_allThings_24 ?_
        refine lv_iload_n hx hb dX10_allThings_27 rfl (lv_at hl 0 rfl) ?_
        refine z_iald hx hb hK hP 1 rfl 2 rfl (by decide) (by decide) dX10_allThings_28 ?_
        refine z_toI (pz (z 2)) (by unfold pz; first | rw [if_pos (by omega)] | rw [if_neg (by omega)]) ?_
        exact j29
      · refine z_iconst hx hb dX10_allThings_19 rfl ?_
        refine lv_goto (tgt := 29) hx hb dX10_allThings_20 (by decide) ?_
        refine z_toI (pz (z 2)) (by unfold pz; first | rw [if_pos (by omega)] | rw [if_neg (by omega)]) ?_
        exact j29
    refine lv_aload_n hx hb dX10_allThings_10 rfl (lv_at hl 2 rfl) ?_
    refine z_get hx hb hts hin10_ hown hK hP 0 rfl rfl 11 (by decide) (hts _ (List.mem_of_getElem? (i := 1) rfl)) rfl dX10_allThings_11 ?_
    refine lv_iload_n hx hb dX10_allThings_14 rfl (lv_at hl 0 rfl) ?_
    refine z_iald hx hb hK hP 1 rfl 1 rfl (by decide) (by decide) dX10_allThings_15 ?_
    refine z_if_ge (tgt := 23) hx hb (by omega) dX10_allThings_16 (by decide) (fun cq9 => ?_) (fun cq9 => ?_)
    · refine lv_aload_n hx hb dX10_allThings_23 rfl (lv_at hl 2 rfl) ?_
      refine z_get hx hb hts hin10_ hown hK hP 0 rfl rfl 11 (by decide) (hts _ (List.mem_of_getElem? (i := 1) rfl)) rfl dX10_allThings_24 ?_
      refine lv_iload_n hx hb dX10_allThings_27 rfl (lv_at hl 0 rfl) ?_
      refine z_iald hx hb hK hP 1 rfl 1 rfl (by decide) (by decide) dX10_allThings_28 ?_
      refine z_toI (pz (z 1)) (by unfold pz; first | rw [if_pos (by omega)] | rw [if_neg (by omega)]) ?_
      exact j29
    · refine z_iconst hx hb dX10_allThings_19 rfl ?_
      refine lv_goto (tgt := 29) hx hb dX10_allThings_20 (by decide) ?_
      refine z_toI (pz (z 1)) (by unfold pz; first | rw [if_pos (by omega)] | rw [if_neg (by omega)]) ?_
      exact j29
  refine lv_aload_n hx hb dX10_allThings_10 rfl (lv_at hl 2 rfl) ?_
  refine z_get hx hb hts hin10_ hown hK hP 0 rfl rfl 11 (by decide) (hts _ (List.mem_of_getElem? (i := 1) rfl)) rfl dX10_allThings_11 ?_
  refine lv_iload_n hx hb dX10_allThings_14 rfl (lv_at hl 0 rfl) ?_
  refine z_iald hx hb hK hP 1 rfl 0 rfl (by decide) (by decide) dX10_allThings_15 ?_
  refine z_if_ge (tgt := 23) hx hb (by omega) dX10_allThings_16 (by decide) (fun cq10 => ?_) (fun cq10 => ?_)
  · refine lv_aload_n hx hb dX10_allThings_23 rfl (lv_at hl 2 rfl) ?_
    refine z_get hx hb hts hin10_ hown hK hP 0 rfl rfl 11 (by decide) (hts _ (List.mem_of_getElem? (i := 1) rfl)) rfl dX10_allThings_24 ?_
    refine lv_iload_n hx hb dX10_allThings_27 rfl (lv_at hl 0 rfl) ?_
    refine z_iald hx hb hK hP 1 rfl 0 rfl (by decide) (by decide) dX10_allThings_28 ?_
    refine z_toI (pz (z 0)) (by unfold pz; first | rw [if_pos (by omega)] | rw [if_neg (by omega)]) ?_
    exact j29
  · refine z_iconst hx hb dX10_allThings_19 rfl ?_
    refine lv_goto (tgt := 29) hx hb dX10_allThings_20 (by decide) ?_
    refine z_toI (pz (z 0)) (by unfold pz; first | rw [if_pos (by omega)] | rw [if_neg (by omega)]) ?_
    exact j29

set_option maxHeartbeats 4000000 in
set_option maxRecDepth 100000 in
theorem c_X10_count (l : Launch) (g : zG) (q : Nat) (a : Nat → Nat) (x : Nat → Int) (z : Nat → Int) (w : Int) (hzb : ∀ i, -1 ≤ z i ∧ z i ≤ 8) (hw : -2147483648 ≤ w ∧ w < 2147483648) : zMet l g yX10_count wsX10_count 1 0 0 [.ref q, vI w] zX0 [[mdl q a x], [((a 7), .inl (g.2 0, 3, .inl (aI z)))]] (qi g (fun (_ : Unit) => (mCnt x z w)) (fun (_ : Unit) => True) (fun (_ : Unit) => [[mdl q a x], [((a 7), .inl (g.2 0, 3, .inl (aI z)))]])) := by
  refine z_ent (cc := cX10_count) (maxL := 2) (ret := (some .int)) (by decide) rfl (Nat.le_of_ble_eq_true rfl) ?_
  intro p e s m below meth c A ls hx hb hr hml hown hts hlocks hin0 hA hK hP hD hS hXX hl
  have hown : s.vm.findClass RX10 = some m.cls := hown
  have hin10_ : ∀ w ∈ wsX100, w ∈ wsX10_count := zw_in [12, 13, 14, 15, 16, 17, 18, 19, 20, 21, 22, 23, 24, 25, 26, 27, 28, 29, 30, 31, 32, 33, 34, 35, 36, 37] rfl
  have hl : lv_has ls 2 [(0, .ref q), (1, vI w)] := hl
  refine lv_iload_n hx hb dX10_count_0 rfl (lv_at hl 1 rfl) ?_
  rcases (show w = 0 ∨ w = 1 ∨ w = 2 ∨ w = 3 ∨ w = 4 ∨ (w < 0 ∨ 4 < w) by omega) with hc_1 | hc_1 | hc_1 | hc_1 | hc_1 | hc_1
  · refine z_swIn hx hb 0 36 hc_1 (by decide) dX10_count_1 (by decide) (by decide) rfl (by decide) ?_
    subst hc_1
    refine lv_aload_n hx hb dX10_count_36 rfl (lv_at hl 0 rfl) ?_
    refine z_get hx hb hts hin10_ hown hK hP 0 rfl rfl 3 (by decide) (hts _ (List.mem_of_getElem? (i := 1) rfl)) rfl dX10_count_37 ?_
    exact z_reti () [0, 1] hx hb hr rfl hlocks hK hP hD hS (rfl) trivial rfl rfl (rfl) (Nat.le_of_ble_eq_true rfl) (Nat.le_of_ble_eq_true rfl) dX10_count_40
  · refine z_swIn hx hb 1 41 hc_1 (by decide) dX10_count_1 (by decide) (by decide) rfl (by decide) ?_
    subst hc_1
    refine lv_aload_n hx hb dX10_count_41 rfl (lv_at hl 0 rfl) ?_
    refine z_get hx hb hts hin10_ hown hK hP 0 rfl rfl 2 (by decide) (hts _ (List.mem_of_getElem? (i := 2) rfl)) rfl dX10_count_42 ?_
    exact z_reti () [0, 1] hx hb hr rfl hlocks hK hP hD hS (rfl) trivial rfl rfl (rfl) (Nat.le_of_ble_eq_true rfl) (Nat.le_of_ble_eq_true rfl) dX10_count_45
  · refine z_swIn hx hb 2 46 hc_1 (by decide) dX10_count_1 (by decide) (by decide) rfl (by decide) ?_
    subst hc_1
    refine lv_aload_n hx hb dX10_count_46 rfl (lv_at hl 0 rfl) ?_
    refine z_cVi (As := []) (rest := []) ⟨hx, hb, hml, hown, hts⟩ hK hP hD hS hA [0, 1] [] rfl rfl rfl (c_X10_allThings l g q a x z hzb) (cwV 0 hts gX10_count_X10_allThings rfl rfl rfl (by decide +kernel) ⟨Nat.le_of_ble_eq_true rfl, Nat.le_of_ble_eq_true rfl⟩) 10 0 rfl rfl rfl (fun _ _ _ _ _ _ => trivial) (fun _ _ _ => trivial) rfl hl.1 (Nat.le_of_ble_eq_true rfl) rfl dX10_count_47 ⟨Nat.le_of_ble_eq_true rfl, Nat.le_of_ble_eq_true rfl⟩ (fun u_2 H locs hwu_2 hP hD hS => ?_)
    try dsimp only at hwu_2
    have hP : zP g [[mdl q a x], [((a 7), .inl (g.2 0, 3, .inl (aI z)))]] H := hP
    have hD : zD A [[mdl q a x], [((a 7), .inl (g.2 0, 3, .inl (aI z)))]] := hD
    refine z_toI (pz (z 0) + pz (z 1) + pz (z 2)) rfl ?_
    exact z_reti () [0, 1] hx hb hr rfl hlocks hK hP hD hS (rfl) trivial rfl rfl (rfl) (Nat.le_of_ble_eq_true rfl) (Nat.le_of_ble_eq_true rfl) dX10_count_50
  · refine z_swIn hx hb 3 51 hc_1 (by decide) dX10_count_1 (by decide) (by decide) rfl (by decide) ?_
    subst hc_1
    refine lv_aload_n hx hb dX10_count_51 rfl (lv_at hl 0 rfl) ?_
    refine z_get hx hb hts hin10_ hown hK hP 0 rfl rfl 7 (by decide) (hts _ (List.mem_of_getElem? (i := 3) rfl)) rfl dX10_count_52 ?_
    exact z_reti () [0, 1] hx hb hr rfl hlocks hK hP hD hS (rfl) trivial rfl rfl (rfl) (Nat.le_of_ble_eq_true rfl) (Nat.le_of_ble_eq_true rfl) dX10_count_55
  · refine z_swIn hx hb 4 56 hc_1 (by decide) dX10_count_1 (by decide) (by decide) rfl (by decide) ?_
    subst hc_1
    refine lv_aload_n hx hb dX10_count_56 rfl (lv_at hl 0 rfl) ?_
    refine z_get hx hb hts hin10_ hown hK hP 0 rfl rfl 10 (by decide) (hts _ (List.mem_of_getElem? (i := 4) rfl)) rfl dX10_count_57 ?_
    exact z_reti () [0, 1] hx hb hr rfl hlocks hK hP hD hS (rfl) trivial rfl rfl (rfl) (Nat.le_of_ble_eq_true rfl) (Nat.le_of_ble_eq_true rfl) dX10_count_60
  · refine z_swOut hx hb 61 (by omega) dX10_count_1 hc_1 (by decide) ?_
    refine z_ldc hx hb (-2000000002) hown (hts _ (List.mem_of_getElem? (i := 5) rfl)) rfl dX10_count_61 ?_
    exact z_reti () [0, 1] hx hb hr rfl hlocks hK hP hD hS (by unfold mCnt; rw [if_neg (by omega), if_neg (by omega), if_neg (by omega), if_neg (by omega), if_neg (by omega)]) trivial rfl rfl (rfl) (Nat.le_of_ble_eq_true rfl) (Nat.le_of_ble_eq_true rfl) dX10_count_63
