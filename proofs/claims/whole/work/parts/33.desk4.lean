set_option maxHeartbeats 4000000 in
set_option maxRecDepth 100000 in
theorem c_X9_store_unk (l : Launch) (g : zG) (q : Nat) (d : Nat → Nat) (a : Int) (hr0 : -2147483648 ≤ a ∧ a < 2147483648) (ha : ¬ (0 ≤ a ∧ a ≤ 2)) : zMet l g yX9_store wsX9_store 2 0 0 [.ref q, vI a] zX0 [[dsk q d]] (qi g (fun (_ : Unit) => (-2000000001)) (fun (_ : Unit) => True) (fun (_ : Unit) => [[dsk q d]])) := by
  refine z_ent (cc := cX9_store) (maxL := 2) (ret := (some .int)) (by decide) rfl (Nat.le_of_ble_eq_true rfl) ?_
  intro p e s m below meth c A ls hx hb hr hml hown hts hlocks hin0 hA hK hP hD hS hXX hl
  have hown : s.vm.findClass RX9 = some m.cls := hown
  have hl : lv_has ls 2 [(0, .ref q), (1, vI a)] := hl
  refine lv_iload_n hx hb dX9_store_0 rfl (lv_at hl 1 rfl) ?_
  refine z_cSi (As := [vI a]) (rest := []) ⟨hx, hb, hml, hown, hts⟩ hK hP hD hS hA [] [0] rfl rfl rfl (c_X9_isNoStore l g a (by first | assumption | omega | decide)) (va_cwS 1 hts gX9_store_X9_isNoStore rfl rfl rfl (by decide +kernel) ⟨Nat.le_of_ble_eq_true rfl, Nat.le_of_ble_eq_true rfl⟩) (fun _ _ _ _ _ _ => trivial) (fun _ _ _ => trivial) rfl hl.1 (Nat.le_of_ble_eq_true rfl) rfl dX9_store_1 ⟨Nat.le_of_ble_eq_true rfl, Nat.le_of_ble_eq_true rfl⟩ (fun u_1 H locs hwu_1 hP hD hS => ?_)
  try dsimp only at hwu_1
  have hP : zP g [[dsk q d]] H := hP
  have hD : zD A [[dsk q d]] := hD
  refine z_toI (oU a 0 2) rfl ?_
  have hf_2 := oU_s a 0 2
  refine z_if_eq (tgt := 10) hx hb (by omega) dX9_store_4 (by decide) (fun cq3 => False.elim (by omega)) (fun cq3 => ?_)
  refine z_ldc hx hb (-2000000001) hown (hts _ (List.mem_of_getElem? (i := 1) rfl)) rfl dX9_store_7 ?_
  exact z_reti () [0] hx hb hr rfl hlocks hK hP hD hS (rfl) trivial rfl rfl (rfl) (Nat.le_of_ble_eq_true rfl) (Nat.le_of_ble_eq_true rfl) dX9_store_9

set_option maxHeartbeats 4000000 in
set_option maxRecDepth 100000 in
theorem c_X9_store0 (l : Launch) (g : zG) (q : Nat) (d : Nat → Nat) (s0 : Nat) (s1 : Nat) (s2 : Nat) (xs0 : Nat → Nat) (tt0 : Int) (nn0 : Nat) (fa0 : Nat → Int) (fb0 : Nat → Int) (fp0 : Nat → Int) (hs0 : sok tt0 nn0 fp0) : zMet l g yX9_store wsX9_store 2 0 0 [.ref q, vI 0] zX0 [[dsk q d], [((d 11), .inl (g.2 4, 3, .inr (.inr (.inr (.inr (rA [s0, s1, s2]))))))], (storeW g s0 xs0 tt0 nn0 fa0 fb0 fp0)] (qi g (fun (_ : Unit) => 0) (fun (_ : Unit) => True) (fun (_ : Unit) => [[dsk q d], [((d 11), .inl (g.2 4, 3, .inr (.inr (.inr (.inr (rA [s0, s1, s2]))))))], (storeW g s0 xs0 1 0 fa0 fb0 fp0)])) := by
  refine z_ent (cc := cX9_store) (maxL := 2) (ret := (some .int)) (by decide) rfl (Nat.le_of_ble_eq_true rfl) ?_
  intro p e s m below meth c A ls hx hb hr hml hown hts hlocks hin0 hA hK hP hD hS hXX hl
  have hown : s.vm.findClass RX9 = some m.cls := hown
  have hin6_ : ∀ w ∈ wsX60, w ∈ wsX9_store := zw_in [24, 25, 26, 27, 28] rfl
  have hin9_ : ∀ w ∈ wsX90, w ∈ wsX9_store := zw_in [12, 13, 14, 15, 16, 17, 18, 19, 20, 21, 22, 23] rfl
  have hl : lv_has ls 2 [(0, .ref q), (1, vI 0)] := hl
  refine lv_iload_n hx hb dX9_store_0 rfl (lv_at hl 1 rfl) ?_
  refine z_cSi (As := [vI 0]) (rest := []) ⟨hx, hb, hml, hown, hts⟩ hK hP hD hS hA [] [0, 1, 2] rfl rfl rfl (c_X9_isNoStore l g 0 (by omega)) (va_cwS 1 hts gX9_store_X9_isNoStore rfl rfl rfl (by decide +kernel) ⟨Nat.le_of_ble_eq_true rfl, Nat.le_of_ble_eq_true rfl⟩) (fun _ _ _ _ _ _ => trivial) (fun _ _ _ => trivial) rfl hl.1 (Nat.le_of_ble_eq_true rfl) rfl dX9_store_1 ⟨Nat.le_of_ble_eq_true rfl, Nat.le_of_ble_eq_true rfl⟩ (fun u_1 H locs hwu_1 hP hD hS => ?_)
  try dsimp only at hwu_1
  have hP : zP g [[dsk q d], [((d 11), .inl (g.2 4, 3, .inr (.inr (.inr (.inr (rA [s0, s1, s2]))))))], (storeW g s0 xs0 tt0 nn0 fa0 fb0 fp0)] H := hP
  have hD : zD A [[dsk q d], [((d 11), .inl (g.2 4, 3, .inr (.inr (.inr (.inr (rA [s0, s1, s2]))))))], (storeW g s0 xs0 tt0 nn0 fa0 fb0 fp0)] := hD
  refine z_toI (oU 0 0 2) rfl ?_
  have hf_2 := oU_s 0 0 2
  refine z_if_eq (tgt := 10) hx hb (by omega) dX9_store_4 (by decide) (fun cq3 => ?_) (fun cq3 => False.elim (by omega))
  have hP : zP g [[dsk q d], [((d 11), .inl (g.2 4, 3, .inr (.inr (.inr (.inr (rA [s0, s1, s2]))))))], [(s0, .inr (6, [vI tt0, vI ((nn0 : Nat) : Int), .ref (xs0 0), .ref (xs0 1), .ref (xs0 2)]))], [((xs0 0), .inl (g.2 0, 8, .inl (aI fa0)))], [((xs0 1), .inl (g.2 0, 8, .inl (aI fb0)))], [((xs0 2), .inl (g.2 2, 8, .inl (aI fp0)))]] H := hP
  have hD : zD A [[dsk q d], [((d 11), .inl (g.2 4, 3, .inr (.inr (.inr (.inr (rA [s0, s1, s2]))))))], [(s0, .inr (6, [vI tt0, vI ((nn0 : Nat) : Int), .ref (xs0 0), .ref (xs0 1), .ref (xs0 2)]))], [((xs0 0), .inl (g.2 0, 8, .inl (aI fa0)))], [((xs0 1), .inl (g.2 0, 8, .inl (aI fb0)))], [((xs0 2), .inl (g.2 2, 8, .inl (aI fp0)))]] := hD
  refine lv_aload_n hx hb dX9_store_10 rfl (lv_at hl 0 rfl) ?_
  refine z_get hx hb hts hin9_ hown hK hP 0 rfl rfl 11 (by decide) (hts _ (List.mem_of_getElem? (i := 2) rfl)) rfl dX9_store_11 ?_
  refine lv_iload_n hx hb dX9_store_14 rfl (lv_at hl 1 rfl) ?_
  refine z_aald hx hb hK hP 1 4 rfl rfl 0 rfl (by decide) (by decide) s0 rfl dX9_store_15 ?_
  refine z_iconst hx hb dX9_store_16 rfl ?_
  refine z_put hx hb hts hin6_ tyX6 tyX6_ok nmX6 hown hK hP hD hS 2 rfl rfl 0 (by decide) (hts _ (List.mem_of_getElem? (i := 3) rfl)) rfl (nar_z (by decide)) (fit_z (by decide)) (Nat.le_of_ble_eq_true rfl) dX9_store_17 [[dsk q d], [((d 11), .inl (g.2 4, 3, .inr (.inr (.inr (.inr (rA [s0, s1, s2]))))))], [(s0, .inr (6, [vI 1, vI ((nn0 : Nat) : Int), .ref (xs0 0), .ref (xs0 1), .ref (xs0 2)]))], [((xs0 0), .inl (g.2 0, 8, .inl (aI fa0)))], [((xs0 1), .inl (g.2 0, 8, .inl (aI fb0)))], [((xs0 2), .inl (g.2 2, 8, .inl (aI fp0)))]] rfl (fun H locs hP hD hS => ?_)
  refine lv_aload_n hx hb dX9_store_20 rfl (lv_at hl 0 rfl) ?_
  refine z_get hx hb hts hin9_ hown hK hP 0 rfl rfl 11 (by decide) (hts _ (List.mem_of_getElem? (i := 2) rfl)) rfl dX9_store_21 ?_
  refine lv_iload_n hx hb dX9_store_24 rfl (lv_at hl 1 rfl) ?_
  refine z_aald hx hb hK hP 1 4 rfl rfl 0 rfl (by decide) (by decide) s0 rfl dX9_store_25 ?_
  refine z_iconst hx hb dX9_store_26 rfl ?_
  refine z_put hx hb hts hin6_ tyX6 tyX6_ok nmX6 hown hK hP hD hS 2 rfl rfl 1 (by decide) (hts _ (List.mem_of_getElem? (i := 4) rfl)) rfl rfl rfl (Nat.le_of_ble_eq_true rfl) dX9_store_27 [[dsk q d], [((d 11), .inl (g.2 4, 3, .inr (.inr (.inr (.inr (rA [s0, s1, s2]))))))], [(s0, .inr (6, [vI 1, vI 0, .ref (xs0 0), .ref (xs0 1), .ref (xs0 2)]))], [((xs0 0), .inl (g.2 0, 8, .inl (aI fa0)))], [((xs0 1), .inl (g.2 0, 8, .inl (aI fb0)))], [((xs0 2), .inl (g.2 2, 8, .inl (aI fp0)))]] rfl (fun H locs hP hD hS => ?_)
  refine z_iconst hx hb dX9_store_30 rfl ?_
  have hP : zP g [[dsk q d], [((d 11), .inl (g.2 4, 3, .inr (.inr (.inr (.inr (rA [s0, s1, s2]))))))], (storeW g s0 xs0 1 0 fa0 fb0 fp0)] H := hP
  have hD : zD A [[dsk q d], [((d 11), .inl (g.2 4, 3, .inr (.inr (.inr (.inr (rA [s0, s1, s2]))))))], (storeW g s0 xs0 1 0 fa0 fb0 fp0)] := hD
  exact z_reti () [0, 1, 2] hx hb hr rfl hlocks hK hP hD hS (rfl) trivial rfl rfl (rfl) (Nat.le_of_ble_eq_true rfl) (Nat.le_of_ble_eq_true rfl) dX9_store_31

set_option maxHeartbeats 4000000 in
set_option maxRecDepth 100000 in
theorem c_X9_store1 (l : Launch) (g : zG) (q : Nat) (d : Nat → Nat) (s0 : Nat) (s1 : Nat) (s2 : Nat) (xs1 : Nat → Nat) (tt1 : Int) (nn1 : Nat) (fa1 : Nat → Int) (fb1 : Nat → Int) (fp1 : Nat → Int) (hs1 : sok tt1 nn1 fp1) : zMet l g yX9_store wsX9_store 2 0 0 [.ref q, vI 1] zX0 [[dsk q d], [((d 11), .inl (g.2 4, 3, .inr (.inr (.inr (.inr (rA [s0, s1, s2]))))))], (storeW g s1 xs1 tt1 nn1 fa1 fb1 fp1)] (qi g (fun (_ : Unit) => 0) (fun (_ : Unit) => True) (fun (_ : Unit) => [[dsk q d], [((d 11), .inl (g.2 4, 3, .inr (.inr (.inr (.inr (rA [s0, s1, s2]))))))], (storeW g s1 xs1 1 0 fa1 fb1 fp1)])) := by
  refine z_ent (cc := cX9_store) (maxL := 2) (ret := (some .int)) (by decide) rfl (Nat.le_of_ble_eq_true rfl) ?_
  intro p e s m below meth c A ls hx hb hr hml hown hts hlocks hin0 hA hK hP hD hS hXX hl
  have hown : s.vm.findClass RX9 = some m.cls := hown
  have hin6_ : ∀ w ∈ wsX60, w ∈ wsX9_store := zw_in [24, 25, 26, 27, 28] rfl
  have hin9_ : ∀ w ∈ wsX90, w ∈ wsX9_store := zw_in [12, 13, 14, 15, 16, 17, 18, 19, 20, 21, 22, 23] rfl
  have hl : lv_has ls 2 [(0, .ref q), (1, vI 1)] := hl
  refine lv_iload_n hx hb dX9_store_0 rfl (lv_at hl 1 rfl) ?_
  refine z_cSi (As := [vI 1]) (rest := []) ⟨hx, hb, hml, hown, hts⟩ hK hP hD hS hA [] [0, 1, 2] rfl rfl rfl (c_X9_isNoStore l g 1 (by omega)) (va_cwS 1 hts gX9_store_X9_isNoStore rfl rfl rfl (by decide +kernel) ⟨Nat.le_of_ble_eq_true rfl, Nat.le_of_ble_eq_true rfl⟩) (fun _ _ _ _ _ _ => trivial) (fun _ _ _ => trivial) rfl hl.1 (Nat.le_of_ble_eq_true rfl) rfl dX9_store_1 ⟨Nat.le_of_ble_eq_true rfl, Nat.le_of_ble_eq_true rfl⟩ (fun u_1 H locs hwu_1 hP hD hS => ?_)
  try dsimp only at hwu_1
  have hP : zP g [[dsk q d], [((d 11), .inl (g.2 4, 3, .inr (.inr (.inr (.inr (rA [s0, s1, s2]))))))], (storeW g s1 xs1 tt1 nn1 fa1 fb1 fp1)] H := hP
  have hD : zD A [[dsk q d], [((d 11), .inl (g.2 4, 3, .inr (.inr (.inr (.inr (rA [s0, s1, s2]))))))], (storeW g s1 xs1 tt1 nn1 fa1 fb1 fp1)] := hD
  refine z_toI (oU 1 0 2) rfl ?_
  have hf_2 := oU_s 1 0 2
  refine z_if_eq (tgt := 10) hx hb (by omega) dX9_store_4 (by decide) (fun cq3 => ?_) (fun cq3 => False.elim (by omega))
  have hP : zP g [[dsk q d], [((d 11), .inl (g.2 4, 3, .inr (.inr (.inr (.inr (rA [s0, s1, s2]))))))], [(s1, .inr (6, [vI tt1, vI ((nn1 : Nat) : Int), .ref (xs1 0), .ref (xs1 1), .ref (xs1 2)]))], [((xs1 0), .inl (g.2 0, 8, .inl (aI fa1)))], [((xs1 1), .inl (g.2 0, 8, .inl (aI fb1)))], [((xs1 2), .inl (g.2 2, 8, .inl (aI fp1)))]] H := hP
  have hD : zD A [[dsk q d], [((d 11), .inl (g.2 4, 3, .inr (.inr (.inr (.inr (rA [s0, s1, s2]))))))], [(s1, .inr (6, [vI tt1, vI ((nn1 : Nat) : Int), .ref (xs1 0), .ref (xs1 1), .ref (xs1 2)]))], [((xs1 0), .inl (g.2 0, 8, .inl (aI fa1)))], [((xs1 1), .inl (g.2 0, 8, .inl (aI fb1)))], [((xs1 2), .inl (g.2 2, 8, .inl (aI fp1)))]] := hD
  refine lv_aload_n hx hb dX9_store_10 rfl (lv_at hl 0 rfl) ?_
  refine z_get hx hb hts hin9_ hown hK hP 0 rfl rfl 11 (by decide) (hts _ (List.mem_of_getElem? (i := 2) rfl)) rfl dX9_store_11 ?_
  refine lv_iload_n hx hb dX9_store_14 rfl (lv_at hl 1 rfl) ?_
  refine z_aald hx hb hK hP 1 4 rfl rfl 1 rfl (by decide) (by decide) s1 rfl dX9_store_15 ?_
  refine z_iconst hx hb dX9_store_16 rfl ?_
  refine z_put hx hb hts hin6_ tyX6 tyX6_ok nmX6 hown hK hP hD hS 2 rfl rfl 0 (by decide) (hts _ (List.mem_of_getElem? (i := 3) rfl)) rfl (nar_z (by decide)) (fit_z (by decide)) (Nat.le_of_ble_eq_true rfl) dX9_store_17 [[dsk q d], [((d 11), .inl (g.2 4, 3, .inr (.inr (.inr (.inr (rA [s0, s1, s2]))))))], [(s1, .inr (6, [vI 1, vI ((nn1 : Nat) : Int), .ref (xs1 0), .ref (xs1 1), .ref (xs1 2)]))], [((xs1 0), .inl (g.2 0, 8, .inl (aI fa1)))], [((xs1 1), .inl (g.2 0, 8, .inl (aI fb1)))], [((xs1 2), .inl (g.2 2, 8, .inl (aI fp1)))]] rfl (fun H locs hP hD hS => ?_)
  refine lv_aload_n hx hb dX9_store_20 rfl (lv_at hl 0 rfl) ?_
  refine z_get hx hb hts hin9_ hown hK hP 0 rfl rfl 11 (by decide) (hts _ (List.mem_of_getElem? (i := 2) rfl)) rfl dX9_store_21 ?_
  refine lv_iload_n hx hb dX9_store_24 rfl (lv_at hl 1 rfl) ?_
  refine z_aald hx hb hK hP 1 4 rfl rfl 1 rfl (by decide) (by decide) s1 rfl dX9_store_25 ?_
  refine z_iconst hx hb dX9_store_26 rfl ?_
  refine z_put hx hb hts hin6_ tyX6 tyX6_ok nmX6 hown hK hP hD hS 2 rfl rfl 1 (by decide) (hts _ (List.mem_of_getElem? (i := 4) rfl)) rfl rfl rfl (Nat.le_of_ble_eq_true rfl) dX9_store_27 [[dsk q d], [((d 11), .inl (g.2 4, 3, .inr (.inr (.inr (.inr (rA [s0, s1, s2]))))))], [(s1, .inr (6, [vI 1, vI 0, .ref (xs1 0), .ref (xs1 1), .ref (xs1 2)]))], [((xs1 0), .inl (g.2 0, 8, .inl (aI fa1)))], [((xs1 1), .inl (g.2 0, 8, .inl (aI fb1)))], [((xs1 2), .inl (g.2 2, 8, .inl (aI fp1)))]] rfl (fun H locs hP hD hS => ?_)
  refine z_iconst hx hb dX9_store_30 rfl ?_
  have hP : zP g [[dsk q d], [((d 11), .inl (g.2 4, 3, .inr (.inr (.inr (.inr (rA [s0, s1, s2]))))))], (storeW g s1 xs1 1 0 fa1 fb1 fp1)] H := hP
  have hD : zD A [[dsk q d], [((d 11), .inl (g.2 4, 3, .inr (.inr (.inr (.inr (rA [s0, s1, s2]))))))], (storeW g s1 xs1 1 0 fa1 fb1 fp1)] := hD
  exact z_reti () [0, 1, 2] hx hb hr rfl hlocks hK hP hD hS (rfl) trivial rfl rfl (rfl) (Nat.le_of_ble_eq_true rfl) (Nat.le_of_ble_eq_true rfl) dX9_store_31

set_option maxHeartbeats 4000000 in
set_option maxRecDepth 100000 in
theorem c_X9_store2 (l : Launch) (g : zG) (q : Nat) (d : Nat → Nat) (s0 : Nat) (s1 : Nat) (s2 : Nat) (xs2 : Nat → Nat) (tt2 : Int) (nn2 : Nat) (fa2 : Nat → Int) (fb2 : Nat → Int) (fp2 : Nat → Int) (hs2 : sok tt2 nn2 fp2) : zMet l g yX9_store wsX9_store 2 0 0 [.ref q, vI 2] zX0 [[dsk q d], [((d 11), .inl (g.2 4, 3, .inr (.inr (.inr (.inr (rA [s0, s1, s2]))))))], (storeW g s2 xs2 tt2 nn2 fa2 fb2 fp2)] (qi g (fun (_ : Unit) => 0) (fun (_ : Unit) => True) (fun (_ : Unit) => [[dsk q d], [((d 11), .inl (g.2 4, 3, .inr (.inr (.inr (.inr (rA [s0, s1, s2]))))))], (storeW g s2 xs2 1 0 fa2 fb2 fp2)])) := by
  refine z_ent (cc := cX9_store) (maxL := 2) (ret := (some .int)) (by decide) rfl (Nat.le_of_ble_eq_true rfl) ?_
  intro p e s m below meth c A ls hx hb hr hml hown hts hlocks hin0 hA hK hP hD hS hXX hl
  have hown : s.vm.findClass RX9 = some m.cls := hown
  have hin6_ : ∀ w ∈ wsX60, w ∈ wsX9_store := zw_in [24, 25, 26, 27, 28] rfl
  have hin9_ : ∀ w ∈ wsX90, w ∈ wsX9_store := zw_in [12, 13, 14, 15, 16, 17, 18, 19, 20, 21, 22, 23] rfl
  have hl : lv_has ls 2 [(0, .ref q), (1, vI 2)] := hl
  refine lv_iload_n hx hb dX9_store_0 rfl (lv_at hl 1 rfl) ?_
  refine z_cSi (As := [vI 2]) (rest := []) ⟨hx, hb, hml, hown, hts⟩ hK hP hD hS hA [] [0, 1, 2] rfl rfl rfl (c_X9_isNoStore l g 2 (by omega)) (va_cwS 1 hts gX9_store_X9_isNoStore rfl rfl rfl (by decide +kernel) ⟨Nat.le_of_ble_eq_true rfl, Nat.le_of_ble_eq_true rfl⟩) (fun _ _ _ _ _ _ => trivial) (fun _ _ _ => trivial) rfl hl.1 (Nat.le_of_ble_eq_true rfl) rfl dX9_store_1 ⟨Nat.le_of_ble_eq_true rfl, Nat.le_of_ble_eq_true rfl⟩ (fun u_1 H locs hwu_1 hP hD hS => ?_)
  try dsimp only at hwu_1
  have hP : zP g [[dsk q d], [((d 11), .inl (g.2 4, 3, .inr (.inr (.inr (.inr (rA [s0, s1, s2]))))))], (storeW g s2 xs2 tt2 nn2 fa2 fb2 fp2)] H := hP
  have hD : zD A [[dsk q d], [((d 11), .inl (g.2 4, 3, .inr (.inr (.inr (.inr (rA [s0, s1, s2]))))))], (storeW g s2 xs2 tt2 nn2 fa2 fb2 fp2)] := hD
  refine z_toI (oU 2 0 2) rfl ?_
  have hf_2 := oU_s 2 0 2
  refine z_if_eq (tgt := 10) hx hb (by omega) dX9_store_4 (by decide) (fun cq3 => ?_) (fun cq3 => False.elim (by omega))
  have hP : zP g [[dsk q d], [((d 11), .inl (g.2 4, 3, .inr (.inr (.inr (.inr (rA [s0, s1, s2]))))))], [(s2, .inr (6, [vI tt2, vI ((nn2 : Nat) : Int), .ref (xs2 0), .ref (xs2 1), .ref (xs2 2)]))], [((xs2 0), .inl (g.2 0, 8, .inl (aI fa2)))], [((xs2 1), .inl (g.2 0, 8, .inl (aI fb2)))], [((xs2 2), .inl (g.2 2, 8, .inl (aI fp2)))]] H := hP
  have hD : zD A [[dsk q d], [((d 11), .inl (g.2 4, 3, .inr (.inr (.inr (.inr (rA [s0, s1, s2]))))))], [(s2, .inr (6, [vI tt2, vI ((nn2 : Nat) : Int), .ref (xs2 0), .ref (xs2 1), .ref (xs2 2)]))], [((xs2 0), .inl (g.2 0, 8, .inl (aI fa2)))], [((xs2 1), .inl (g.2 0, 8, .inl (aI fb2)))], [((xs2 2), .inl (g.2 2, 8, .inl (aI fp2)))]] := hD
  refine lv_aload_n hx hb dX9_store_10 rfl (lv_at hl 0 rfl) ?_
  refine z_get hx hb hts hin9_ hown hK hP 0 rfl rfl 11 (by decide) (hts _ (List.mem_of_getElem? (i := 2) rfl)) rfl dX9_store_11 ?_
  refine lv_iload_n hx hb dX9_store_14 rfl (lv_at hl 1 rfl) ?_
  refine z_aald hx hb hK hP 1 4 rfl rfl 2 rfl (by decide) (by decide) s2 rfl dX9_store_15 ?_
  refine z_iconst hx hb dX9_store_16 rfl ?_
  refine z_put hx hb hts hin6_ tyX6 tyX6_ok nmX6 hown hK hP hD hS 2 rfl rfl 0 (by decide) (hts _ (List.mem_of_getElem? (i := 3) rfl)) rfl (nar_z (by decide)) (fit_z (by decide)) (Nat.le_of_ble_eq_true rfl) dX9_store_17 [[dsk q d], [((d 11), .inl (g.2 4, 3, .inr (.inr (.inr (.inr (rA [s0, s1, s2]))))))], [(s2, .inr (6, [vI 1, vI ((nn2 : Nat) : Int), .ref (xs2 0), .ref (xs2 1), .ref (xs2 2)]))], [((xs2 0), .inl (g.2 0, 8, .inl (aI fa2)))], [((xs2 1), .inl (g.2 0, 8, .inl (aI fb2)))], [((xs2 2), .inl (g.2 2, 8, .inl (aI fp2)))]] rfl (fun H locs hP hD hS => ?_)
  refine lv_aload_n hx hb dX9_store_20 rfl (lv_at hl 0 rfl) ?_
  refine z_get hx hb hts hin9_ hown hK hP 0 rfl rfl 11 (by decide) (hts _ (List.mem_of_getElem? (i := 2) rfl)) rfl dX9_store_21 ?_
  refine lv_iload_n hx hb dX9_store_24 rfl (lv_at hl 1 rfl) ?_
  refine z_aald hx hb hK hP 1 4 rfl rfl 2 rfl (by decide) (by decide) s2 rfl dX9_store_25 ?_
  refine z_iconst hx hb dX9_store_26 rfl ?_
  refine z_put hx hb hts hin6_ tyX6 tyX6_ok nmX6 hown hK hP hD hS 2 rfl rfl 1 (by decide) (hts _ (List.mem_of_getElem? (i := 4) rfl)) rfl rfl rfl (Nat.le_of_ble_eq_true rfl) dX9_store_27 [[dsk q d], [((d 11), .inl (g.2 4, 3, .inr (.inr (.inr (.inr (rA [s0, s1, s2]))))))], [(s2, .inr (6, [vI 1, vI 0, .ref (xs2 0), .ref (xs2 1), .ref (xs2 2)]))], [((xs2 0), .inl (g.2 0, 8, .inl (aI fa2)))], [((xs2 1), .inl (g.2 0, 8, .inl (aI fb2)))], [((xs2 2), .inl (g.2 2, 8, .inl (aI fp2)))]] rfl (fun H locs hP hD hS => ?_)
  refine z_iconst hx hb dX9_store_30 rfl ?_
  have hP : zP g [[dsk q d], [((d 11), .inl (g.2 4, 3, .inr (.inr (.inr (.inr (rA [s0, s1, s2]))))))], (storeW g s2 xs2 1 0 fa2 fb2 fp2)] H := hP
  have hD : zD A [[dsk q d], [((d 11), .inl (g.2 4, 3, .inr (.inr (.inr (.inr (rA [s0, s1, s2]))))))], (storeW g s2 xs2 1 0 fa2 fb2 fp2)] := hD
  exact z_reti () [0, 1, 2] hx hb hr rfl hlocks hK hP hD hS (rfl) trivial rfl rfl (rfl) (Nat.le_of_ble_eq_true rfl) (Nat.le_of_ble_eq_true rfl) dX9_store_31

set_option maxHeartbeats 4000000 in
set_option maxRecDepth 100000 in
theorem c_X9_put_unk (l : Launch) (g : zG) (q : Nat) (d : Nat → Nat) (i : Int) (w : Int) (a : Int) (b : Int) (hi : -2147483648 ≤ i ∧ i < 2147483648) (hw : -2147483648 ≤ w ∧ w < 2147483648) (ha : -2147483648 ≤ a ∧ a < 2147483648) (hb_ : -2147483648 ≤ b ∧ b < 2147483648) (hu : ¬ (0 ≤ i ∧ i ≤ 2)) : zMet l g yX9_put wsX9_put 2 0 0 [.ref q, vI i, vI w, vI a, vI b] zX0 [[dsk q d]] (qi g (fun (_ : Unit) => (-2000000001)) (fun (_ : Unit) => True) (fun (_ : Unit) => [[dsk q d]])) := by
  refine z_ent (cc := cX9_put) (maxL := 5) (ret := (some .int)) (by decide) rfl (Nat.le_of_ble_eq_true rfl) ?_
  intro p e s m below meth c A ls hx hb hr hml hown hts hlocks hin0 hA hK hP hD hS hXX hl
  have hown : s.vm.findClass RX9 = some m.cls := hown
  have hl : lv_has ls 5 [(0, .ref q), (1, vI i), (2, vI w), (3, vI a), (4, vI b)] := hl
  refine lv_iload_n hx hb dX9_put_0 rfl (lv_at hl 1 rfl) ?_
  refine z_cSi (As := [vI i]) (rest := []) ⟨hx, hb, hml, hown, hts⟩ hK hP hD hS hA [] [0] rfl rfl rfl (c_X9_isNoStore l g i (by first | assumption | omega | decide)) (va_cwS 1 hts gX9_put_X9_isNoStore rfl rfl rfl (by decide +kernel) ⟨Nat.le_of_ble_eq_true rfl, Nat.le_of_ble_eq_true rfl⟩) (fun _ _ _ _ _ _ => trivial) (fun _ _ _ => trivial) rfl hl.1 (Nat.le_of_ble_eq_true rfl) rfl dX9_put_1 ⟨Nat.le_of_ble_eq_true rfl, Nat.le_of_ble_eq_true rfl⟩ (fun u_1 H locs hwu_1 hP hD hS => ?_)
  try dsimp only at hwu_1
  have hP : zP g [[dsk q d]] H := hP
  have hD : zD A [[dsk q d]] := hD
  refine z_toI (oU i 0 2) rfl ?_
  have hf_2 := oU_s i 0 2
  refine z_if_eq (tgt := 10) hx hb (by omega) dX9_put_4 (by decide) (fun cq3 => False.elim (by omega)) (fun cq3 => ?_)
  refine z_ldc hx hb (-2000000001) hown (hts _ (List.mem_of_getElem? (i := 1) rfl)) rfl dX9_put_7 ?_
  exact z_reti () [0] hx hb hr rfl hlocks hK hP hD hS (rfl) trivial rfl rfl (rfl) (Nat.le_of_ble_eq_true rfl) (Nat.le_of_ble_eq_true rfl) dX9_put_9

set_option maxHeartbeats 4000000 in
set_option maxRecDepth 100000 in
theorem c_X9_put_out (l : Launch) (g : zG) (q : Nat) (d : Nat → Nat) (i : Int) (w : Int) (a : Int) (b : Int) (hi : -2147483648 ≤ i ∧ i < 2147483648) (hw : -2147483648 ≤ w ∧ w < 2147483648) (ha : -2147483648 ≤ a ∧ a < 2147483648) (hb_ : -2147483648 ≤ b ∧ b < 2147483648) (hu : 0 ≤ i ∧ i ≤ 2) (ho : ¬ ((0 ≤ w ∧ w ≤ 1) ∧ (-9999 ≤ a ∧ a ≤ 9999) ∧ (-9999 ≤ b ∧ b ≤ 9999))) : zMet l g yX9_put wsX9_put 2 0 0 [.ref q, vI i, vI w, vI a, vI b] zX0 [[dsk q d]] (qi g (fun (_ : Unit) => (-2000000002)) (fun (_ : Unit) => True) (fun (_ : Unit) => [[dsk q d]])) := by
  refine z_ent (cc := cX9_put) (maxL := 5) (ret := (some .int)) (by decide) rfl (Nat.le_of_ble_eq_true rfl) ?_
  intro p e s m below meth c A ls hx hb hr hml hown hts hlocks hin0 hA hK hP hD hS hXX hl
  have hown : s.vm.findClass RX9 = some m.cls := hown
  have hl : lv_has ls 5 [(0, .ref q), (1, vI i), (2, vI w), (3, vI a), (4, vI b)] := hl
  refine lv_iload_n hx hb dX9_put_0 rfl (lv_at hl 1 rfl) ?_
  refine z_cSi (As := [vI i]) (rest := []) ⟨hx, hb, hml, hown, hts⟩ hK hP hD hS hA [] [0] rfl rfl rfl (c_X9_isNoStore l g i (by first | assumption | omega | decide)) (va_cwS 1 hts gX9_put_X9_isNoStore rfl rfl rfl (by decide +kernel) ⟨Nat.le_of_ble_eq_true rfl, Nat.le_of_ble_eq_true rfl⟩) (fun _ _ _ _ _ _ => trivial) (fun _ _ _ => trivial) rfl hl.1 (Nat.le_of_ble_eq_true rfl) rfl dX9_put_1 ⟨Nat.le_of_ble_eq_true rfl, Nat.le_of_ble_eq_true rfl⟩ (fun u_1 H locs hwu_1 hP hD hS => ?_)
  try dsimp only at hwu_1
  have hP : zP g [[dsk q d]] H := hP
  have hD : zD A [[dsk q d]] := hD
  refine z_toI (oU i 0 2) rfl ?_
  have hf_2 := oU_s i 0 2
  refine z_if_eq (tgt := 10) hx hb (by omega) dX9_put_4 (by decide) (fun cq3 => ?_) (fun cq3 => False.elim (by omega))
  refine lv_iload_n hx hb dX9_put_10 rfl (lv_at hl 2 rfl) ?_
  refine z_iconst hx hb dX9_put_11 rfl ?_
  refine z_iconst hx hb dX9_put_12 rfl ?_
  refine z_cSi (As := [vI w, vI 0, vI 1]) (rest := []) ⟨hx, hb, hml, hown, hts⟩ hK hP hD hS hA [] [0] rfl rfl rfl (c_X9_isOutside l g w 0 1 (by first | assumption | omega | decide) (by first | assumption | omega | decide) (by first | assumption | omega | decide)) (va_cwS 3 hts gX9_put_X9_isOutside rfl rfl rfl (by decide +kernel) ⟨Nat.le_of_ble_eq_true rfl, Nat.le_of_ble_eq_true rfl⟩) (fun _ _ _ _ _ _ => trivial) (fun _ _ _ => trivial) rfl hl.1 (Nat.le_of_ble_eq_true rfl) rfl dX9_put_13 ⟨Nat.le_of_ble_eq_true rfl, Nat.le_of_ble_eq_true rfl⟩ (fun u_4 H locs hwu_4 hP hD hS => ?_)
  try dsimp only at hwu_4
  have hP : zP g [[dsk q d]] H := hP
  have hD : zD A [[dsk q d]] := hD
  refine z_toI (oU w 0 1) rfl ?_
  have hf_5 := oU_s w 0 1
  refine z_if_ne (tgt := 34) hx hb (by omega) dX9_put_16 (by decide) (fun cq6 => ?_) (fun cq6 => ?_)
  · refine z_ldc hx hb (-2000000002) hown (hts _ (List.mem_of_getElem? (i := 2) rfl)) rfl dX9_put_34 ?_
    exact z_reti () [0] hx hb hr rfl hlocks hK hP hD hS (rfl) trivial rfl rfl (rfl) (Nat.le_of_ble_eq_true rfl) (Nat.le_of_ble_eq_true rfl) dX9_put_36
  · refine lv_iload_n hx hb dX9_put_19 rfl (lv_at hl 3 rfl) ?_
    refine z_cSi (As := [vI a]) (rest := []) ⟨hx, hb, hml, hown, hts⟩ hK hP hD hS hA [] [0] rfl rfl rfl (c_X9_isNoWhole l g a (by first | assumption | omega | decide)) (va_cwS 1 hts gX9_put_X9_isNoWhole rfl rfl rfl (by decide +kernel) ⟨Nat.le_of_ble_eq_true rfl, Nat.le_of_ble_eq_true rfl⟩) (fun _ _ _ _ _ _ => trivial) (fun _ _ _ => trivial) rfl hl.1 (Nat.le_of_ble_eq_true rfl) rfl dX9_put_20 ⟨Nat.le_of_ble_eq_true rfl, Nat.le_of_ble_eq_true rfl⟩ (fun u_7 H locs hwu_7 hP hD hS => ?_)
    try dsimp only at hwu_7
    have hP : zP g [[dsk q d]] H := hP
    have hD : zD A [[dsk q d]] := hD
    refine z_toI (oU a (-9999) 9999) rfl ?_
    have hf_8 := oU_s a (-9999) 9999
    refine z_if_ne (tgt := 34) hx hb (by omega) dX9_put_23 (by decide) (fun cq9 => ?_) (fun cq9 => ?_)
    · refine z_ldc hx hb (-2000000002) hown (hts _ (List.mem_of_getElem? (i := 2) rfl)) rfl dX9_put_34 ?_
      exact z_reti () [0] hx hb hr rfl hlocks hK hP hD hS (rfl) trivial rfl rfl (rfl) (Nat.le_of_ble_eq_true rfl) (Nat.le_of_ble_eq_true rfl) dX9_put_36
    · refine lv_iload hx hb dX9_put_26 (lv_at hl 4 rfl) ?_
      refine z_cSi (As := [vI b]) (rest := []) ⟨hx, hb, hml, hown, hts⟩ hK hP hD hS hA [] [0] rfl rfl rfl (c_X9_isNoWhole l g b (by first | assumption | omega | decide)) (va_cwS 1 hts gX9_put_X9_isNoWhole rfl rfl rfl (by decide +kernel) ⟨Nat.le_of_ble_eq_true rfl, Nat.le_of_ble_eq_true rfl⟩) (fun _ _ _ _ _ _ => trivial) (fun _ _ _ => trivial) rfl hl.1 (Nat.le_of_ble_eq_true rfl) rfl dX9_put_28 ⟨Nat.le_of_ble_eq_true rfl, Nat.le_of_ble_eq_true rfl⟩ (fun u_10 H locs hwu_10 hP hD hS => ?_)
      try dsimp only at hwu_10
      have hP : zP g [[dsk q d]] H := hP
      have hD : zD A [[dsk q d]] := hD
      refine z_toI (oU b (-9999) 9999) rfl ?_
      have hf_11 := oU_s b (-9999) 9999
      refine z_if_eq (tgt := 37) hx hb (by omega) dX9_put_31 (by decide) (fun cq12 => False.elim (by omega)) (fun cq12 => ?_)
      refine z_ldc hx hb (-2000000002) hown (hts _ (List.mem_of_getElem? (i := 2) rfl)) rfl dX9_put_34 ?_
      exact z_reti () [0] hx hb hr rfl hlocks hK hP hD hS (rfl) trivial rfl rfl (rfl) (Nat.le_of_ble_eq_true rfl) (Nat.le_of_ble_eq_true rfl) dX9_put_36

set_option maxHeartbeats 4000000 in
set_option maxRecDepth 100000 in
theorem c_X9_put0_null (l : Launch) (g : zG) (q : Nat) (d : Nat → Nat) (s0 : Nat) (s1 : Nat) (s2 : Nat) (xs0 : Nat → Nat) (tt0 : Int) (nn0 : Nat) (fa0 : Nat → Int) (fb0 : Nat → Int) (fp0 : Nat → Int) (w : Int) (a : Int) (b : Int) (hs0 : sok tt0 nn0 fp0) (hw : -2147483648 ≤ w ∧ w < 2147483648) (ha : -2147483648 ≤ a ∧ a < 2147483648) (hb_ : -2147483648 ≤ b ∧ b < 2147483648) (ho : (0 ≤ w ∧ w ≤ 1) ∧ (-9999 ≤ a ∧ a ≤ 9999) ∧ (-9999 ≤ b ∧ b ≤ 9999)) (ht : tt0 = 0) : zMet l g yX9_put wsX9_put 2 0 0 [.ref q, vI 0, vI w, vI a, vI b] zX0 [[dsk q d], [((d 11), .inl (g.2 4, 3, .inr (.inr (.inr (.inr (rA [s0, s1, s2]))))))], (storeW g s0 xs0 tt0 nn0 fa0 fb0 fp0)] (qi g (fun (_ : Unit) => (-2000000011)) (fun (_ : Unit) => True) (fun (_ : Unit) => [[dsk q d], [((d 11), .inl (g.2 4, 3, .inr (.inr (.inr (.inr (rA [s0, s1, s2]))))))], (storeW g s0 xs0 tt0 nn0 fa0 fb0 fp0)])) := by
  refine z_ent (cc := cX9_put) (maxL := 5) (ret := (some .int)) (by decide) rfl (Nat.le_of_ble_eq_true rfl) ?_
  intro p e s m below meth c A ls hx hb hr hml hown hts hlocks hin0 hA hK hP hD hS hXX hl
  have hown : s.vm.findClass RX9 = some m.cls := hown
  have hin9_ : ∀ w ∈ wsX90, w ∈ wsX9_put := zw_in [26, 27, 28, 29, 30, 31, 32, 33, 34, 35, 36, 37] rfl
  have hl : lv_has ls 5 [(0, .ref q), (1, vI 0), (2, vI w), (3, vI a), (4, vI b)] := hl
  refine lv_iload_n hx hb dX9_put_0 rfl (lv_at hl 1 rfl) ?_
  refine z_cSi (As := [vI 0]) (rest := []) ⟨hx, hb, hml, hown, hts⟩ hK hP hD hS hA [] [0, 1, 2] rfl rfl rfl (c_X9_isNoStore l g 0 (by omega)) (va_cwS 1 hts gX9_put_X9_isNoStore rfl rfl rfl (by decide +kernel) ⟨Nat.le_of_ble_eq_true rfl, Nat.le_of_ble_eq_true rfl⟩) (fun _ _ _ _ _ _ => trivial) (fun _ _ _ => trivial) rfl hl.1 (Nat.le_of_ble_eq_true rfl) rfl dX9_put_1 ⟨Nat.le_of_ble_eq_true rfl, Nat.le_of_ble_eq_true rfl⟩ (fun u_1 H locs hwu_1 hP hD hS => ?_)
  try dsimp only at hwu_1
  have hP : zP g [[dsk q d], [((d 11), .inl (g.2 4, 3, .inr (.inr (.inr (.inr (rA [s0, s1, s2]))))))], (storeW g s0 xs0 tt0 nn0 fa0 fb0 fp0)] H := hP
  have hD : zD A [[dsk q d], [((d 11), .inl (g.2 4, 3, .inr (.inr (.inr (.inr (rA [s0, s1, s2]))))))], (storeW g s0 xs0 tt0 nn0 fa0 fb0 fp0)] := hD
  refine z_toI (oU 0 0 2) rfl ?_
  have hf_2 := oU_s 0 0 2
  refine z_if_eq (tgt := 10) hx hb (by omega) dX9_put_4 (by decide) (fun cq3 => ?_) (fun cq3 => False.elim (by omega))
  refine lv_iload_n hx hb dX9_put_10 rfl (lv_at hl 2 rfl) ?_
  refine z_iconst hx hb dX9_put_11 rfl ?_
  refine z_iconst hx hb dX9_put_12 rfl ?_
  refine z_cSi (As := [vI w, vI 0, vI 1]) (rest := []) ⟨hx, hb, hml, hown, hts⟩ hK hP hD hS hA [] [0, 1, 2] rfl rfl rfl (c_X9_isOutside l g w 0 1 (by first | assumption | omega | decide) (by first | assumption | omega | decide) (by first | assumption | omega | decide)) (va_cwS 3 hts gX9_put_X9_isOutside rfl rfl rfl (by decide +kernel) ⟨Nat.le_of_ble_eq_true rfl, Nat.le_of_ble_eq_true rfl⟩) (fun _ _ _ _ _ _ => trivial) (fun _ _ _ => trivial) rfl hl.1 (Nat.le_of_ble_eq_true rfl) rfl dX9_put_13 ⟨Nat.le_of_ble_eq_true rfl, Nat.le_of_ble_eq_true rfl⟩ (fun u_4 H locs hwu_4 hP hD hS => ?_)
  try dsimp only at hwu_4
  have hP : zP g [[dsk q d], [((d 11), .inl (g.2 4, 3, .inr (.inr (.inr (.inr (rA [s0, s1, s2]))))))], (storeW g s0 xs0 tt0 nn0 fa0 fb0 fp0)] H := hP
  have hD : zD A [[dsk q d], [((d 11), .inl (g.2 4, 3, .inr (.inr (.inr (.inr (rA [s0, s1, s2]))))))], (storeW g s0 xs0 tt0 nn0 fa0 fb0 fp0)] := hD
  refine z_toI (oU w 0 1) rfl ?_
  have hf_5 := oU_s w 0 1
  refine z_if_ne (tgt := 34) hx hb (by omega) dX9_put_16 (by decide) (fun cq6 => False.elim (by omega)) (fun cq6 => ?_)
  refine lv_iload_n hx hb dX9_put_19 rfl (lv_at hl 3 rfl) ?_
  refine z_cSi (As := [vI a]) (rest := []) ⟨hx, hb, hml, hown, hts⟩ hK hP hD hS hA [] [0, 1, 2] rfl rfl rfl (c_X9_isNoWhole l g a (by first | assumption | omega | decide)) (va_cwS 1 hts gX9_put_X9_isNoWhole rfl rfl rfl (by decide +kernel) ⟨Nat.le_of_ble_eq_true rfl, Nat.le_of_ble_eq_true rfl⟩) (fun _ _ _ _ _ _ => trivial) (fun _ _ _ => trivial) rfl hl.1 (Nat.le_of_ble_eq_true rfl) rfl dX9_put_20 ⟨Nat.le_of_ble_eq_true rfl, Nat.le_of_ble_eq_true rfl⟩ (fun u_7 H locs hwu_7 hP hD hS => ?_)
  try dsimp only at hwu_7
  have hP : zP g [[dsk q d], [((d 11), .inl (g.2 4, 3, .inr (.inr (.inr (.inr (rA [s0, s1, s2]))))))], (storeW g s0 xs0 tt0 nn0 fa0 fb0 fp0)] H := hP
  have hD : zD A [[dsk q d], [((d 11), .inl (g.2 4, 3, .inr (.inr (.inr (.inr (rA [s0, s1, s2]))))))], (storeW g s0 xs0 tt0 nn0 fa0 fb0 fp0)] := hD
  refine z_toI (oU a (-9999) 9999) rfl ?_
  have hf_8 := oU_s a (-9999) 9999
  refine z_if_ne (tgt := 34) hx hb (by omega) dX9_put_23 (by decide) (fun cq9 => False.elim (by omega)) (fun cq9 => ?_)
  refine lv_iload hx hb dX9_put_26 (lv_at hl 4 rfl) ?_
  refine z_cSi (As := [vI b]) (rest := []) ⟨hx, hb, hml, hown, hts⟩ hK hP hD hS hA [] [0, 1, 2] rfl rfl rfl (c_X9_isNoWhole l g b (by first | assumption | omega | decide)) (va_cwS 1 hts gX9_put_X9_isNoWhole rfl rfl rfl (by decide +kernel) ⟨Nat.le_of_ble_eq_true rfl, Nat.le_of_ble_eq_true rfl⟩) (fun _ _ _ _ _ _ => trivial) (fun _ _ _ => trivial) rfl hl.1 (Nat.le_of_ble_eq_true rfl) rfl dX9_put_28 ⟨Nat.le_of_ble_eq_true rfl, Nat.le_of_ble_eq_true rfl⟩ (fun u_10 H locs hwu_10 hP hD hS => ?_)
  try dsimp only at hwu_10
  have hP : zP g [[dsk q d], [((d 11), .inl (g.2 4, 3, .inr (.inr (.inr (.inr (rA [s0, s1, s2]))))))], (storeW g s0 xs0 tt0 nn0 fa0 fb0 fp0)] H := hP
  have hD : zD A [[dsk q d], [((d 11), .inl (g.2 4, 3, .inr (.inr (.inr (.inr (rA [s0, s1, s2]))))))], (storeW g s0 xs0 tt0 nn0 fa0 fb0 fp0)] := hD
  refine z_toI (oU b (-9999) 9999) rfl ?_
  have hf_11 := oU_s b (-9999) 9999
  refine z_if_eq (tgt := 37) hx hb (by omega) dX9_put_31 (by decide) (fun cq12 => ?_) (fun cq12 => False.elim (by omega))
  refine lv_aload_n hx hb dX9_put_37 rfl (lv_at hl 0 rfl) ?_
  refine z_get hx hb hts hin9_ hown hK hP 0 rfl rfl 11 (by decide) (hts _ (List.mem_of_getElem? (i := 3) rfl)) rfl dX9_put_38 ?_
  refine lv_iload_n hx hb dX9_put_41 rfl (lv_at hl 1 rfl) ?_
  refine z_aald hx hb hK hP 1 4 rfl rfl 0 rfl (by decide) (by decide) s0 rfl dX9_put_42 ?_
  have j53 : W p l e (zRm 2 0 0) s m ([.ref q, vI 0, vI w, vI a, vI b] : List Value).toArray below meth c H locs (0) (0) (MQ below ((qi g (fun (_ : Unit) => (-2000000011)) (fun (_ : Unit) => True) (fun (_ : Unit) => [[dsk q d], [((d 11), .inl (g.2 4, 3, .inr (.inr (.inr (.inr (rA [s0, s1, s2]))))))], (storeW g s0 xs0 tt0 nn0 fa0 fb0 fp0)])) A) ([.ref q, vI 0, vI w, vI a, vI b] : List Value).toArray s 0 0 A) (F0 m 53 ls [vI w, .ref s0]) := by
    refine lv_iload_n hx hb dX9_put_53 rfl (lv_at hl 3 rfl) ?_
    refine lv_iload hx hb dX9_put_54 (lv_at hl 4 rfl) ?_
    refine z_cVi (As := [vI w, vI a, vI b]) (rest := []) ⟨hx, hb, hml, hown, hts⟩ hK hP hD hS hA [2] [0, 1] rfl rfl rfl (c_X6_push_null l g s0 xs0 tt0 nn0 fa0 fb0 fp0 w a b hs0 (by omega) (by omega)) (cwV 3 hts gX9_put_X6_push rfl rfl rfl (by decide +kernel) ⟨Nat.le_of_ble_eq_true rfl, Nat.le_of_ble_eq_true rfl⟩) 6 0 rfl rfl rfl (fun _ _ _ _ _ _ => trivial) (fun _ _ _ => trivial) rfl hl.1 (Nat.le_of_ble_eq_true rfl) rfl dX9_put_56 ⟨Nat.le_of_ble_eq_true rfl, Nat.le_of_ble_eq_true rfl⟩ (fun u_13 H locs hwu_13 hP hD hS => ?_)
    try dsimp only at hwu_13
    have hP : zP g [[dsk q d], [((d 11), .inl (g.2 4, 3, .inr (.inr (.inr (.inr (rA [s0, s1, s2]))))))], (storeW g s0 xs0 tt0 nn0 fa0 fb0 fp0)] H := hP
    have hD : zD A [[dsk q d], [((d 11), .inl (g.2 4, 3, .inr (.inr (.inr (.inr (rA [s0, s1, s2]))))))], (storeW g s0 xs0 tt0 nn0 fa0 fb0 fp0)] := hD
    refine z_toI (-2000000011) rfl ?_
    exact z_reti () [0, 1, 2] hx hb hr rfl hlocks hK hP hD hS (rfl) trivial rfl rfl (rfl) (Nat.le_of_ble_eq_true rfl) (Nat.le_of_ble_eq_true rfl) dX9_put_59
  refine lv_iload_n hx hb dX9_put_43 rfl (lv_at hl 2 rfl) ?_
  refine z_iconst hx hb dX9_put_44 rfl ?_
  refine z_icmp_ne (tgt := 52) hx hb (by omega) (by decide) dX9_put_45 (by decide) (fun cq14 => ?_) (fun cq14 => ?_)
  · refine z_iconst hx hb dX9_put_52 rfl ?_
    refine z_toI w (by omega) ?_
    exact j53
  · refine z_iconst hx hb dX9_put_48 rfl ?_
    refine lv_goto (tgt := 53) hx hb dX9_put_49 (by decide) ?_
    refine z_toI w (by omega) ?_
    exact j53

set_option maxHeartbeats 4000000 in
set_option maxRecDepth 100000 in
theorem c_X9_put0_room (l : Launch) (g : zG) (q : Nat) (d : Nat → Nat) (s0 : Nat) (s1 : Nat) (s2 : Nat) (xs0 : Nat → Nat) (tt0 : Int) (nn0 : Nat) (fa0 : Nat → Int) (fb0 : Nat → Int) (fp0 : Nat → Int) (w : Int) (a : Int) (b : Int) (hs0 : sok tt0 nn0 fp0) (hw : -2147483648 ≤ w ∧ w < 2147483648) (ha : -2147483648 ≤ a ∧ a < 2147483648) (hb_ : -2147483648 ≤ b ∧ b < 2147483648) (ho : (0 ≤ w ∧ w ≤ 1) ∧ (-9999 ≤ a ∧ a ≤ 9999) ∧ (-9999 ≤ b ∧ b ≤ 9999)) (ht : tt0 = 1) (hn : nn0 = 8) : zMet l g yX9_put wsX9_put 2 0 0 [.ref q, vI 0, vI w, vI a, vI b] zX0 [[dsk q d], [((d 11), .inl (g.2 4, 3, .inr (.inr (.inr (.inr (rA [s0, s1, s2]))))))], (storeW g s0 xs0 tt0 nn0 fa0 fb0 fp0)] (qi g (fun (_ : Unit) => (-2000000014)) (fun (_ : Unit) => True) (fun (_ : Unit) => [[dsk q d], [((d 11), .inl (g.2 4, 3, .inr (.inr (.inr (.inr (rA [s0, s1, s2]))))))], (storeW g s0 xs0 tt0 nn0 fa0 fb0 fp0)])) := by
  refine z_ent (cc := cX9_put) (maxL := 5) (ret := (some .int)) (by decide) rfl (Nat.le_of_ble_eq_true rfl) ?_
  intro p e s m below meth c A ls hx hb hr hml hown hts hlocks hin0 hA hK hP hD hS hXX hl
  have hown : s.vm.findClass RX9 = some m.cls := hown
  have hin9_ : ∀ w ∈ wsX90, w ∈ wsX9_put := zw_in [26, 27, 28, 29, 30, 31, 32, 33, 34, 35, 36, 37] rfl
  have hl : lv_has ls 5 [(0, .ref q), (1, vI 0), (2, vI w), (3, vI a), (4, vI b)] := hl
  refine lv_iload_n hx hb dX9_put_0 rfl (lv_at hl 1 rfl) ?_
  refine z_cSi (As := [vI 0]) (rest := []) ⟨hx, hb, hml, hown, hts⟩ hK hP hD hS hA [] [0, 1, 2] rfl rfl rfl (c_X9_isNoStore l g 0 (by omega)) (va_cwS 1 hts gX9_put_X9_isNoStore rfl rfl rfl (by decide +kernel) ⟨Nat.le_of_ble_eq_true rfl, Nat.le_of_ble_eq_true rfl⟩) (fun _ _ _ _ _ _ => trivial) (fun _ _ _ => trivial) rfl hl.1 (Nat.le_of_ble_eq_true rfl) rfl dX9_put_1 ⟨Nat.le_of_ble_eq_true rfl, Nat.le_of_ble_eq_true rfl⟩ (fun u_1 H locs hwu_1 hP hD hS => ?_)
  try dsimp only at hwu_1
  have hP : zP g [[dsk q d], [((d 11), .inl (g.2 4, 3, .inr (.inr (.inr (.inr (rA [s0, s1, s2]))))))], (storeW g s0 xs0 tt0 nn0 fa0 fb0 fp0)] H := hP
  have hD : zD A [[dsk q d], [((d 11), .inl (g.2 4, 3, .inr (.inr (.inr (.inr (rA [s0, s1, s2]))))))], (storeW g s0 xs0 tt0 nn0 fa0 fb0 fp0)] := hD
  refine z_toI (oU 0 0 2) rfl ?_
  have hf_2 := oU_s 0 0 2
  refine z_if_eq (tgt := 10) hx hb (by omega) dX9_put_4 (by decide) (fun cq3 => ?_) (fun cq3 => False.elim (by omega))
  refine lv_iload_n hx hb dX9_put_10 rfl (lv_at hl 2 rfl) ?_
  refine z_iconst hx hb dX9_put_11 rfl ?_
  refine z_iconst hx hb dX9_put_12 rfl ?_
  refine z_cSi (As := [vI w, vI 0, vI 1]) (rest := []) ⟨hx, hb, hml, hown, hts⟩ hK hP hD hS hA [] [0, 1, 2] rfl rfl rfl (c_X9_isOutside l g w 0 1 (by first | assumption | omega | decide) (by first | assumption | omega | decide) (by first | assumption | omega | decide)) (va_cwS 3 hts gX9_put_X9_isOutside rfl rfl rfl (by decide +kernel) ⟨Nat.le_of_ble_eq_true rfl, Nat.le_of_ble_eq_true rfl⟩) (fun _ _ _ _ _ _ => trivial) (fun _ _ _ => trivial) rfl hl.1 (Nat.le_of_ble_eq_true rfl) rfl dX9_put_13 ⟨Nat.le_of_ble_eq_true rfl, Nat.le_of_ble_eq_true rfl⟩ (fun u_4 H locs hwu_4 hP hD hS => ?_)
  try dsimp only at hwu_4
  have hP : zP g [[dsk q d], [((d 11), .inl (g.2 4, 3, .inr (.inr (.inr (.inr (rA [s0, s1, s2]))))))], (storeW g s0 xs0 tt0 nn0 fa0 fb0 fp0)] H := hP
  have hD : zD A [[dsk q d], [((d 11), .inl (g.2 4, 3, .inr (.inr (.inr (.inr (rA [s0, s1, s2]))))))], (storeW g s0 xs0 tt0 nn0 fa0 fb0 fp0)] := hD
  refine z_toI (oU w 0 1) rfl ?_
  have hf_5 := oU_s w 0 1
  refine z_if_ne (tgt := 34) hx hb (by omega) dX9_put_16 (by decide) (fun cq6 => False.elim (by omega)) (fun cq6 => ?_)
  refine lv_iload_n hx hb dX9_put_19 rfl (lv_at hl 3 rfl) ?_
  refine z_cSi (As := [vI a]) (rest := []) ⟨hx, hb, hml, hown, hts⟩ hK hP hD hS hA [] [0, 1, 2] rfl rfl rfl (c_X9_isNoWhole l g a (by first | assumption | omega | decide)) (va_cwS 1 hts gX9_put_X9_isNoWhole rfl rfl rfl (by decide +kernel) ⟨Nat.le_of_ble_eq_true rfl, Nat.le_of_ble_eq_true rfl⟩) (fun _ _ _ _ _ _ => trivial) (fun _ _ _ => trivial) rfl hl.1 (Nat.le_of_ble_eq_true rfl) rfl dX9_put_20 ⟨Nat.le_of_ble_eq_true rfl, Nat.le_of_ble_eq_true rfl⟩ (fun u_7 H locs hwu_7 hP hD hS => ?_)
  try dsimp only at hwu_7
  have hP : zP g [[dsk q d], [((d 11), .inl (g.2 4, 3, .inr (.inr (.inr (.inr (rA [s0, s1, s2]))))))], (storeW g s0 xs0 tt0 nn0 fa0 fb0 fp0)] H := hP
  have hD : zD A [[dsk q d], [((d 11), .inl (g.2 4, 3, .inr (.inr (.inr (.inr (rA [s0, s1, s2]))))))], (storeW g s0 xs0 tt0 nn0 fa0 fb0 fp0)] := hD
  refine z_toI (oU a (-9999) 9999) rfl ?_
  have hf_8 := oU_s a (-9999) 9999
  refine z_if_ne (tgt := 34) hx hb (by omega) dX9_put_23 (by decide) (fun cq9 => False.elim (by omega)) (fun cq9 => ?_)
  refine lv_iload hx hb dX9_put_26 (lv_at hl 4 rfl) ?_
  refine z_cSi (As := [vI b]) (rest := []) ⟨hx, hb, hml, hown, hts⟩ hK hP hD hS hA [] [0, 1, 2] rfl rfl rfl (c_X9_isNoWhole l g b (by first | assumption | omega | decide)) (va_cwS 1 hts gX9_put_X9_isNoWhole rfl rfl rfl (by decide +kernel) ⟨Nat.le_of_ble_eq_true rfl, Nat.le_of_ble_eq_true rfl⟩) (fun _ _ _ _ _ _ => trivial) (fun _ _ _ => trivial) rfl hl.1 (Nat.le_of_ble_eq_true rfl) rfl dX9_put_28 ⟨Nat.le_of_ble_eq_true rfl, Nat.le_of_ble_eq_true rfl⟩ (fun u_10 H locs hwu_10 hP hD hS => ?_)
  try dsimp only at hwu_10
  have hP : zP g [[dsk q d], [((d 11), .inl (g.2 4, 3, .inr (.inr (.inr (.inr (rA [s0, s1, s2]))))))], (storeW g s0 xs0 tt0 nn0 fa0 fb0 fp0)] H := hP
  have hD : zD A [[dsk q d], [((d 11), .inl (g.2 4, 3, .inr (.inr (.inr (.inr (rA [s0, s1, s2]))))))], (storeW g s0 xs0 tt0 nn0 fa0 fb0 fp0)] := hD
  refine z_toI (oU b (-9999) 9999) rfl ?_
  have hf_11 := oU_s b (-9999) 9999
  refine z_if_eq (tgt := 37) hx hb (by omega) dX9_put_31 (by decide) (fun cq12 => ?_) (fun cq12 => False.elim (by omega))
  refine lv_aload_n hx hb dX9_put_37 rfl (lv_at hl 0 rfl) ?_
  refine z_get hx hb hts hin9_ hown hK hP 0 rfl rfl 11 (by decide) (hts _ (List.mem_of_getElem? (i := 3) rfl)) rfl dX9_put_38 ?_
  refine lv_iload_n hx hb dX9_put_41 rfl (lv_at hl 1 rfl) ?_
  refine z_aald hx hb hK hP 1 4 rfl rfl 0 rfl (by decide) (by decide) s0 rfl dX9_put_42 ?_
  have j53 : W p l e (zRm 2 0 0) s m ([.ref q, vI 0, vI w, vI a, vI b] : List Value).toArray below meth c H locs (0) (0) (MQ below ((qi g (fun (_ : Unit) => (-2000000014)) (fun (_ : Unit) => True) (fun (_ : Unit) => [[dsk q d], [((d 11), .inl (g.2 4, 3, .inr (.inr (.inr (.inr (rA [s0, s1, s2]))))))], (storeW g s0 xs0 tt0 nn0 fa0 fb0 fp0)])) A) ([.ref q, vI 0, vI w, vI a, vI b] : List Value).toArray s 0 0 A) (F0 m 53 ls [vI w, .ref s0]) := by
    refine lv_iload_n hx hb dX9_put_53 rfl (lv_at hl 3 rfl) ?_
    refine lv_iload hx hb dX9_put_54 (lv_at hl 4 rfl) ?_
    refine z_cVi (As := [vI w, vI a, vI b]) (rest := []) ⟨hx, hb, hml, hown, hts⟩ hK hP hD hS hA [2] [0, 1] rfl rfl rfl (c_X6_push_room l g s0 xs0 tt0 nn0 fa0 fb0 fp0 w a b hs0 (by omega) (by omega) (by omega)) (cwV 3 hts gX9_put_X6_push rfl rfl rfl (by decide +kernel) ⟨Nat.le_of_ble_eq_true rfl, Nat.le_of_ble_eq_true rfl⟩) 6 0 rfl rfl rfl (fun _ _ _ _ _ _ => trivial) (fun _ _ _ => trivial) rfl hl.1 (Nat.le_of_ble_eq_true rfl) rfl dX9_put_56 ⟨Nat.le_of_ble_eq_true rfl, Nat.le_of_ble_eq_true rfl⟩ (fun u_13 H locs hwu_13 hP hD hS => ?_)
    try dsimp only at hwu_13
    have hP : zP g [[dsk q d], [((d 11), .inl (g.2 4, 3, .inr (.inr (.inr (.inr (rA [s0, s1, s2]))))))], (storeW g s0 xs0 tt0 nn0 fa0 fb0 fp0)] H := hP
    have hD : zD A [[dsk q d], [((d 11), .inl (g.2 4, 3, .inr (.inr (.inr (.inr (rA [s0, s1, s2]))))))], (storeW g s0 xs0 tt0 nn0 fa0 fb0 fp0)] := hD
    refine z_toI (-2000000014) rfl ?_
    exact z_reti () [0, 1, 2] hx hb hr rfl hlocks hK hP hD hS (rfl) trivial rfl rfl (rfl) (Nat.le_of_ble_eq_true rfl) (Nat.le_of_ble_eq_true rfl) dX9_put_59
  refine lv_iload_n hx hb dX9_put_43 rfl (lv_at hl 2 rfl) ?_
  refine z_iconst hx hb dX9_put_44 rfl ?_
  refine z_icmp_ne (tgt := 52) hx hb (by omega) (by decide) dX9_put_45 (by decide) (fun cq14 => ?_) (fun cq14 => ?_)
  · refine z_iconst hx hb dX9_put_52 rfl ?_
    refine z_toI w (by omega) ?_
    exact j53
  · refine z_iconst hx hb dX9_put_48 rfl ?_
    refine lv_goto (tgt := 53) hx hb dX9_put_49 (by decide) ?_
    refine z_toI w (by omega) ?_
    exact j53

set_option maxHeartbeats 4000000 in
set_option maxRecDepth 100000 in
theorem c_X9_put0_ok (l : Launch) (g : zG) (q : Nat) (d : Nat → Nat) (s0 : Nat) (s1 : Nat) (s2 : Nat) (xs0 : Nat → Nat) (tt0 : Int) (nn0 : Nat) (fa0 : Nat → Int) (fb0 : Nat → Int) (fp0 : Nat → Int) (w : Int) (a : Int) (b : Int) (hs0 : sok tt0 nn0 fp0) (hw : -2147483648 ≤ w ∧ w < 2147483648) (ha : -2147483648 ≤ a ∧ a < 2147483648) (hb_ : -2147483648 ≤ b ∧ b < 2147483648) (ho : (0 ≤ w ∧ w ≤ 1) ∧ (-9999 ≤ a ∧ a ≤ 9999) ∧ (-9999 ≤ b ∧ b ≤ 9999)) (ht : tt0 = 1) (hn : nn0 < 8) : zMet l g yX9_put wsX9_put 2 0 0 [.ref q, vI 0, vI w, vI a, vI b] zX0 [[dsk q d], [((d 11), .inl (g.2 4, 3, .inr (.inr (.inr (.inr (rA [s0, s1, s2]))))))], (storeW g s0 xs0 tt0 nn0 fa0 fb0 fp0)] (qi g (fun (_ : Unit) => (((nn0 + 1) : Nat) : Int)) (fun (_ : Unit) => True) (fun (_ : Unit) => [[dsk q d], [((d 11), .inl (g.2 4, 3, .inr (.inr (.inr (.inr (rA [s0, s1, s2]))))))], (storeW g s0 xs0 tt0 (nn0 + 1) (uI fa0 nn0 a) (uI fb0 nn0 (if w = 0 then 0 else b)) (uI fp0 nn0 w))])) := by
  refine z_ent (cc := cX9_put) (maxL := 5) (ret := (some .int)) (by decide) rfl (Nat.le_of_ble_eq_true rfl) ?_
  intro p e s m below meth c A ls hx hb hr hml hown hts hlocks hin0 hA hK hP hD hS hXX hl
  have hown : s.vm.findClass RX9 = some m.cls := hown
  have hin9_ : ∀ w ∈ wsX90, w ∈ wsX9_put := zw_in [26, 27, 28, 29, 30, 31, 32, 33, 34, 35, 36, 37] rfl
  have hl : lv_has ls 5 [(0, .ref q), (1, vI 0), (2, vI w), (3, vI a), (4, vI b)] := hl
  refine lv_iload_n hx hb dX9_put_0 rfl (lv_at hl 1 rfl) ?_
  refine z_cSi (As := [vI 0]) (rest := []) ⟨hx, hb, hml, hown, hts⟩ hK hP hD hS hA [] [0, 1, 2] rfl rfl rfl (c_X9_isNoStore l g 0 (by omega)) (va_cwS 1 hts gX9_put_X9_isNoStore rfl rfl rfl (by decide +kernel) ⟨Nat.le_of_ble_eq_true rfl, Nat.le_of_ble_eq_true rfl⟩) (fun _ _ _ _ _ _ => trivial) (fun _ _ _ => trivial) rfl hl.1 (Nat.le_of_ble_eq_true rfl) rfl dX9_put_1 ⟨Nat.le_of_ble_eq_true rfl, Nat.le_of_ble_eq_true rfl⟩ (fun u_1 H locs hwu_1 hP hD hS => ?_)
  try dsimp only at hwu_1
  have hP : zP g [[dsk q d], [((d 11), .inl (g.2 4, 3, .inr (.inr (.inr (.inr (rA [s0, s1, s2]))))))], (storeW g s0 xs0 tt0 nn0 fa0 fb0 fp0)] H := hP
  have hD : zD A [[dsk q d], [((d 11), .inl (g.2 4, 3, .inr (.inr (.inr (.inr (rA [s0, s1, s2]))))))], (storeW g s0 xs0 tt0 nn0 fa0 fb0 fp0)] := hD
  refine z_toI (oU 0 0 2) rfl ?_
  have hf_2 := oU_s 0 0 2
  refine z_if_eq (tgt := 10) hx hb (by omega) dX9_put_4 (by decide) (fun cq3 => ?_) (fun cq3 => False.elim (by omega))
  refine lv_iload_n hx hb dX9_put_10 rfl (lv_at hl 2 rfl) ?_
  refine z_iconst hx hb dX9_put_11 rfl ?_
  refine z_iconst hx hb dX9_put_12 rfl ?_
  refine z_cSi (As := [vI w, vI 0, vI 1]) (rest := []) ⟨hx, hb, hml, hown, hts⟩ hK hP hD hS hA [] [0, 1, 2] rfl rfl rfl (c_X9_isOutside l g w 0 1 (by first | assumption | omega | decide) (by first | assumption | omega | decide) (by first | assumption | omega | decide)) (va_cwS 3 hts gX9_put_X9_isOutside rfl rfl rfl (by decide +kernel) ⟨Nat.le_of_ble_eq_true rfl, Nat.le_of_ble_eq_true rfl⟩) (fun _ _ _ _ _ _ => trivial) (fun _ _ _ => trivial) rfl hl.1 (Nat.le_of_ble_eq_true rfl) rfl dX9_put_13 ⟨Nat.le_of_ble_eq_true rfl, Nat.le_of_ble_eq_true rfl⟩ (fun u_4 H locs hwu_4 hP hD hS => ?_)
  try dsimp only at hwu_4
  have hP : zP g [[dsk q d], [((d 11), .inl (g.2 4, 3, .inr (.inr (.inr (.inr (rA [s0, s1, s2]))))))], (storeW g s0 xs0 tt0 nn0 fa0 fb0 fp0)] H := hP
  have hD : zD A [[dsk q d], [((d 11), .inl (g.2 4, 3, .inr (.inr (.inr (.inr (rA [s0, s1, s2]))))))], (storeW g s0 xs0 tt0 nn0 fa0 fb0 fp0)] := hD
  refine z_toI (oU w 0 1) rfl ?_
  have hf_5 := oU_s w 0 1
  refine z_if_ne (tgt := 34) hx hb (by omega) dX9_put_16 (by decide) (fun cq6 => False.elim (by omega)) (fun cq6 => ?_)
  refine lv_iload_n hx hb dX9_put_19 rfl (lv_at hl 3 rfl) ?_
  refine z_cSi (As := [vI a]) (rest := []) ⟨hx, hb, hml, hown, hts⟩ hK hP hD hS hA [] [0, 1, 2] rfl rfl rfl (c_X9_isNoWhole l g a (by first | assumption | omega | decide)) (va_cwS 1 hts gX9_put_X9_isNoWhole rfl rfl rfl (by decide +kernel) ⟨Nat.le_of_ble_eq_true rfl, Nat.le_of_ble_eq_true rfl⟩) (fun _ _ _ _ _ _ => trivial) (fun _ _ _ => trivial) rfl hl.1 (Nat.le_of_ble_eq_true rfl) rfl dX9_put_20 ⟨Nat.le_of_ble_eq_true rfl, Nat.le_of_ble_eq_true rfl⟩ (fun u_7 H locs hwu_7 hP hD hS => ?_)
  try dsimp only at hwu_7
  have hP : zP g [[dsk q d], [((d 11), .inl (g.2 4, 3, .inr (.inr (.inr (.inr (rA [s0, s1, s2]))))))], (storeW g s0 xs0 tt0 nn0 fa0 fb0 fp0)] H := hP
  have hD : zD A [[dsk q d], [((d 11), .inl (g.2 4, 3, .inr (.inr (.inr (.inr (rA [s0, s1, s2]))))))], (storeW g s0 xs0 tt0 nn0 fa0 fb0 fp0)] := hD
  refine z_toI (oU a (-9999) 9999) rfl ?_
  have hf_8 := oU_s a (-9999) 9999
  refine z_if_ne (tgt := 34) hx hb (by omega) dX9_put_23 (by decide) (fun cq9 => False.elim (by omega)) (fun cq9 => ?_)
  refine lv_iload hx hb dX9_put_26 (lv_at hl 4 rfl) ?_
  refine z_cSi (As := [vI b]) (rest := []) ⟨hx, hb, hml, hown, hts⟩ hK hP hD hS hA [] [0, 1, 2] rfl rfl rfl (c_X9_isNoWhole l g b (by first | assumption | omega | decide)) (va_cwS 1 hts gX9_put_X9_isNoWhole rfl rfl rfl (by decide +kernel) ⟨Nat.le_of_ble_eq_true rfl, Nat.le_of_ble_eq_true rfl⟩) (fun _ _ _ _ _ _ => trivial) (fun _ _ _ => trivial) rfl hl.1 (Nat.le_of_ble_eq_true rfl) rfl dX9_put_28 ⟨Nat.le_of_ble_eq_true rfl, Nat.le_of_ble_eq_true rfl⟩ (fun u_10 H locs hwu_10 hP hD hS => ?_)
  try dsimp only at hwu_10
  have hP : zP g [[dsk q d], [((d 11), .inl (g.2 4, 3, .inr (.inr (.inr (.inr (rA [s0, s1, s2]))))))], (storeW g s0 xs0 tt0 nn0 fa0 fb0 fp0)] H := hP
  have hD : zD A [[dsk q d], [((d 11), .inl (g.2 4, 3, .inr (.inr (.inr (.inr (rA [s0, s1, s2]))))))], (storeW g s0 xs0 tt0 nn0 fa0 fb0 fp0)] := hD
  refine z_toI (oU b (-9999) 9999) rfl ?_
  have hf_11 := oU_s b (-9999) 9999
  refine z_if_eq (tgt := 37) hx hb (by omega) dX9_put_31 (by decide) (fun cq12 => ?_) (fun cq12 => False.elim (by omega))
  refine lv_aload_n hx hb dX9_put_37 rfl (lv_at hl 0 rfl) ?_
  refine z_get hx hb hts hin9_ hown hK hP 0 rfl rfl 11 (by decide) (hts _ (List.mem_of_getElem? (i := 3) rfl)) rfl dX9_put_38 ?_
  refine lv_iload_n hx hb dX9_put_41 rfl (lv_at hl 1 rfl) ?_
  refine z_aald hx hb hK hP 1 4 rfl rfl 0 rfl (by decide) (by decide) s0 rfl dX9_put_42 ?_
  have j53 : W p l e (zRm 2 0 0) s m ([.ref q, vI 0, vI w, vI a, vI b] : List Value).toArray below meth c H locs (0) (0) (MQ below ((qi g (fun (_ : Unit) => (((nn0 + 1) : Nat) : Int)) (fun (_ : Unit) => True) (fun (_ : Unit) => [[dsk q d], [((d 11), .inl (g.2 4, 3, .inr (.inr (.inr (.inr (rA [s0, s1, s2]))))))], (storeW g s0 xs0 tt0 (nn0 + 1) (uI fa0 nn0 a) (uI fb0 nn0 (if w = 0 then 0 else b)) (uI fp0 nn0 w))])) A) ([.ref q, vI 0, vI w, vI a, vI b] : List Value).toArray s 0 0 A) (F0 m 53 ls [vI w, .ref s0]) := by
    refine lv_iload_n hx hb dX9_put_53 rfl (lv_at hl 3 rfl) ?_
    refine lv_iload hx hb dX9_put_54 (lv_at hl 4 rfl) ?_
    refine z_cVi (As := [vI w, vI a, vI b]) (rest := []) ⟨hx, hb, hml, hown, hts⟩ hK hP hD hS hA [2] [0, 1] rfl rfl rfl (c_X6_push_ok l g s0 xs0 tt0 nn0 fa0 fb0 fp0 w a b hs0 (by omega) (by omega) (by omega)) (cwV 3 hts gX9_put_X6_push rfl rfl rfl (by decide +kernel) ⟨Nat.le_of_ble_eq_true rfl, Nat.le_of_ble_eq_true rfl⟩) 6 0 rfl rfl rfl (fun _ _ _ _ _ _ => trivial) (fun _ _ _ => trivial) rfl hl.1 (Nat.le_of_ble_eq_true rfl) rfl dX9_put_56 ⟨Nat.le_of_ble_eq_true rfl, Nat.le_of_ble_eq_true rfl⟩ (fun u_13 H locs hwu_13 hP hD hS => ?_)
    try dsimp only at hwu_13
    have hP : zP g [[dsk q d], [((d 11), .inl (g.2 4, 3, .inr (.inr (.inr (.inr (rA [s0, s1, s2]))))))], (storeW g s0 xs0 tt0 (nn0 + 1) (uI fa0 nn0 a) (uI fb0 nn0 (if w = 0 then 0 else b)) (uI fp0 nn0 w))] H := hP
    have hD : zD A [[dsk q d], [((d 11), .inl (g.2 4, 3, .inr (.inr (.inr (.inr (rA [s0, s1, s2]))))))], (storeW g s0 xs0 tt0 (nn0 + 1) (uI fa0 nn0 a) (uI fb0 nn0 (if w = 0 then 0 else b)) (uI fp0 nn0 w))] := hD
    refine z_toI (((nn0 + 1) : Nat) : Int) rfl ?_
    exact z_reti () [0, 1, 2] hx hb hr rfl hlocks hK hP hD hS (rfl) trivial rfl rfl (rfl) (Nat.le_of_ble_eq_true rfl) (Nat.le_of_ble_eq_true rfl) dX9_put_59
  refine lv_iload_n hx hb dX9_put_43 rfl (lv_at hl 2 rfl) ?_
  refine z_iconst hx hb dX9_put_44 rfl ?_
  refine z_icmp_ne (tgt := 52) hx hb (by omega) (by decide) dX9_put_45 (by decide) (fun cq14 => ?_) (fun cq14 => ?_)
  · refine z_iconst hx hb dX9_put_52 rfl ?_
    refine z_toI w (by omega) ?_
    exact j53
  · refine z_iconst hx hb dX9_put_48 rfl ?_
    refine lv_goto (tgt := 53) hx hb dX9_put_49 (by decide) ?_
    refine z_toI w (by omega) ?_
    exact j53

set_option maxHeartbeats 4000000 in
set_option maxRecDepth 100000 in
theorem c_X9_put1_null (l : Launch) (g : zG) (q : Nat) (d : Nat → Nat) (s0 : Nat) (s1 : Nat) (s2 : Nat) (xs1 : Nat → Nat) (tt1 : Int) (nn1 : Nat) (fa1 : Nat → Int) (fb1 : Nat → Int) (fp1 : Nat → Int) (w : Int) (a : Int) (b : Int) (hs1 : sok tt1 nn1 fp1) (hw : -2147483648 ≤ w ∧ w < 2147483648) (ha : -2147483648 ≤ a ∧ a < 2147483648) (hb_ : -2147483648 ≤ b ∧ b < 2147483648) (ho : (0 ≤ w ∧ w ≤ 1) ∧ (-9999 ≤ a ∧ a ≤ 9999) ∧ (-9999 ≤ b ∧ b ≤ 9999)) (ht : tt1 = 0) : zMet l g yX9_put wsX9_put 2 0 0 [.ref q, vI 1, vI w, vI a, vI b] zX0 [[dsk q d], [((d 11), .inl (g.2 4, 3, .inr (.inr (.inr (.inr (rA [s0, s1, s2]))))))], (storeW g s1 xs1 tt1 nn1 fa1 fb1 fp1)] (qi g (fun (_ : Unit) => (-2000000011)) (fun (_ : Unit) => True) (fun (_ : Unit) => [[dsk q d], [((d 11), .inl (g.2 4, 3, .inr (.inr (.inr (.inr (rA [s0, s1, s2]))))))], (storeW g s1 xs1 tt1 nn1 fa1 fb1 fp1)])) := by
  refine z_ent (cc := cX9_put) (maxL := 5) (ret := (some .int)) (by decide) rfl (Nat.le_of_ble_eq_true rfl) ?_
  intro p e s m below meth c A ls hx hb hr hml hown hts hlocks hin0 hA hK hP hD hS hXX hl
  have hown : s.vm.findClass RX9 = some m.cls := hown
  have hin9_ : ∀ w ∈ wsX90, w ∈ wsX9_put := zw_in [26, 27, 28, 29, 30, 31, 32, 33, 34, 35, 36, 37] rfl
  have hl : lv_has ls 5 [(0, .ref q), (1, vI 1), (2, vI w), (3, vI a), (4, vI b)] := hl
  refine lv_iload_n hx hb dX9_put_0 rfl (lv_at hl 1 rfl) ?_
  refine z_cSi (As := [vI 1]) (rest := []) ⟨hx, hb, hml, hown, hts⟩ hK hP hD hS hA [] [0, 1, 2] rfl rfl rfl (c_X9_isNoStore l g 1 (by omega)) (va_cwS 1 hts gX9_put_X9_isNoStore rfl rfl rfl (by decide +kernel) ⟨Nat.le_of_ble_eq_true rfl, Nat.le_of_ble_eq_true rfl⟩) (fun _ _ _ _ _ _ => trivial) (fun _ _ _ => trivial) rfl hl.1 (Nat.le_of_ble_eq_true rfl) rfl dX9_put_1 ⟨Nat.le_of_ble_eq_true rfl, Nat.le_of_ble_eq_true rfl⟩ (fun u_1 H locs hwu_1 hP hD hS => ?_)
  try dsimp only at hwu_1
  have hP : zP g [[dsk q d], [((d 11), .inl (g.2 4, 3, .inr (.inr (.inr (.inr (rA [s0, s1, s2]))))))], (storeW g s1 xs1 tt1 nn1 fa1 fb1 fp1)] H := hP
  have hD : zD A [[dsk q d], [((d 11), .inl (g.2 4, 3, .inr (.inr (.inr (.inr (rA [s0, s1, s2]))))))], (storeW g s1 xs1 tt1 nn1 fa1 fb1 fp1)] := hD
  refine z_toI (oU 1 0 2) rfl ?_
  have hf_2 := oU_s 1 0 2
  refine z_if_eq (tgt := 10) hx hb (by omega) dX9_put_4 (by decide) (fun cq3 => ?_) (fun cq3 => False.elim (by omega))
  refine lv_iload_n hx hb dX9_put_10 rfl (lv_at hl 2 rfl) ?_
  refine z_iconst hx hb dX9_put_11 rfl ?_
  refine z_iconst hx hb dX9_put_12 rfl ?_
  refine z_cSi (As := [vI w, vI 0, vI 1]) (rest := []) ⟨hx, hb, hml, hown, hts⟩ hK hP hD hS hA [] [0, 1, 2] rfl rfl rfl (c_X9_isOutside l g w 0 1 (by first | assumption | omega | decide) (by first | assumption | omega | decide) (by first | assumption | omega | decide)) (va_cwS 3 hts gX9_put_X9_isOutside rfl rfl rfl (by decide +kernel) ⟨Nat.le_of_ble_eq_true rfl, Nat.le_of_ble_eq_true rfl⟩) (fun _ _ _ _ _ _ => trivial) (fun _ _ _ => trivial) rfl hl.1 (Nat.le_of_ble_eq_true rfl) rfl dX9_put_13 ⟨Nat.le_of_ble_eq_true rfl, Nat.le_of_ble_eq_true rfl⟩ (fun u_4 H locs hwu_4 hP hD hS => ?_)
  try dsimp only at hwu_4
  have hP : zP g [[dsk q d], [((d 11), .inl (g.2 4, 3, .inr (.inr (.inr (.inr (rA [s0, s1, s2]))))))], (storeW g s1 xs1 tt1 nn1 fa1 fb1 fp1)] H := hP
  have hD : zD A [[dsk q d], [((d 11), .inl (g.2 4, 3, .inr (.inr (.inr (.inr (rA [s0, s1, s2]))))))], (storeW g s1 xs1 tt1 nn1 fa1 fb1 fp1)] := hD
  refine z_toI (oU w 0 1) rfl ?_
  have hf_5 := oU_s w 0 1
  refine z_if_ne (tgt := 34) hx hb (by omega) dX9_put_16 (by decide) (fun cq6 => False.elim (by omega)) (fun cq6 => ?_)
  refine lv_iload_n hx hb dX9_put_19 rfl (lv_at hl 3 rfl) ?_
  refine z_cSi (As := [vI a]) (rest := []) ⟨hx, hb, hml, hown, hts⟩ hK hP hD hS hA [] [0, 1, 2] rfl rfl rfl (c_X9_isNoWhole l g a (by first | assumption | omega | decide)) (va_cwS 1 hts gX9_put_X9_isNoWhole rfl rfl rfl (by decide +kernel) ⟨Nat.le_of_ble_eq_true rfl, Nat.le_of_ble_eq_true rfl⟩) (fun _ _ _ _ _ _ => trivial) (fun _ _ _ => trivial) rfl hl.1 (Nat.le_of_ble_eq_true rfl) rfl dX9_put_20 ⟨Nat.le_of_ble_eq_true rfl, Nat.le_of_ble_eq_true rfl⟩ (fun u_7 H locs hwu_7 hP hD hS => ?_)
  try dsimp only at hwu_7
  have hP : zP g [[dsk q d], [((d 11), .inl (g.2 4, 3, .inr (.inr (.inr (.inr (rA [s0, s1, s2]))))))], (storeW g s1 xs1 tt1 nn1 fa1 fb1 fp1)] H := hP
  have hD : zD A [[dsk q d], [((d 11), .inl (g.2 4, 3, .inr (.inr (.inr (.inr (rA [s0, s1, s2]))))))], (storeW g s1 xs1 tt1 nn1 fa1 fb1 fp1)] := hD
  refine z_toI (oU a (-9999) 9999) rfl ?_
  have hf_8 := oU_s a (-9999) 9999
  refine z_if_ne (tgt := 34) hx hb (by omega) dX9_put_23 (by decide) (fun cq9 => False.elim (by omega)) (fun cq9 => ?_)
  refine lv_iload hx hb dX9_put_26 (lv_at hl 4 rfl) ?_
  refine z_cSi (As := [vI b]) (rest := []) ⟨hx, hb, hml, hown, hts⟩ hK hP hD hS hA [] [0, 1, 2] rfl rfl rfl (c_X9_isNoWhole l g b (by first | assumption | omega | decide)) (va_cwS 1 hts gX9_put_X9_isNoWhole rfl rfl rfl (by decide +kernel) ⟨Nat.le_of_ble_eq_true rfl, Nat.le_of_ble_eq_true rfl⟩) (fun _ _ _ _ _ _ => trivial) (fun _ _ _ => trivial) rfl hl.1 (Nat.le_of_ble_eq_true rfl) rfl dX9_put_28 ⟨Nat.le_of_ble_eq_true rfl, Nat.le_of_ble_eq_true rfl⟩ (fun u_10 H locs hwu_10 hP hD hS => ?_)
  try dsimp only at hwu_10
  have hP : zP g [[dsk q d], [((d 11), .inl (g.2 4, 3, .inr (.inr (.inr (.inr (rA [s0, s1, s2]))))))], (storeW g s1 xs1 tt1 nn1 fa1 fb1 fp1)] H := hP
  have hD : zD A [[dsk q d], [((d 11), .inl (g.2 4, 3, .inr (.inr (.inr (.inr (rA [s0, s1, s2]))))))], (storeW g s1 xs1 tt1 nn1 fa1 fb1 fp1)] := hD
  refine z_toI (oU b (-9999) 9999) rfl ?_
  have hf_11 := oU_s b (-9999) 9999
  refine z_if_eq (tgt := 37) hx hb (by omega) dX9_put_31 (by decide) (fun cq12 => ?_) (fun cq12 => False.elim (by omega))
  refine lv_aload_n hx hb dX9_put_37 rfl (lv_at hl 0 rfl) ?_
  refine z_get hx hb hts hin9_ hown hK hP 0 rfl rfl 11 (by decide) (hts _ (List.mem_of_getElem? (i := 3) rfl)) rfl dX9_put_38 ?_
  refine lv_iload_n hx hb dX9_put_41 rfl (lv_at hl 1 rfl) ?_
  refine z_aald hx hb hK hP 1 4 rfl rfl 1 rfl (by decide) (by decide) s1 rfl dX9_put_42 ?_
  have j53 : W p l e (zRm 2 0 0) s m ([.ref q, vI 1, vI w, vI a, vI b] : List Value).toArray below meth c H locs (0) (0) (MQ below ((qi g (fun (_ : Unit) => (-2000000011)) (fun (_ : Unit) => True) (fun (_ : Unit) => [[dsk q d], [((d 11), .inl (g.2 4, 3, .inr (.inr (.inr (.inr (rA [s0, s1, s2]))))))], (storeW g s1 xs1 tt1 nn1 fa1 fb1 fp1)])) A) ([.ref q, vI 1, vI w, vI a, vI b] : List Value).toArray s 0 0 A) (F0 m 53 ls [vI w, .ref s1]) := by
    refine lv_iload_n hx hb dX9_put_53 rfl (lv_at hl 3 rfl) ?_
    refine lv_iload hx hb dX9_put_54 (lv_at hl 4 rfl) ?_
    refine z_cVi (As := [vI w, vI a, vI b]) (rest := []) ⟨hx, hb, hml, hown, hts⟩ hK hP hD hS hA [2] [0, 1] rfl rfl rfl (c_X6_push_null l g s1 xs1 tt1 nn1 fa1 fb1 fp1 w a b hs1 (by omega) (by omega)) (cwV 3 hts gX9_put_X6_push rfl rfl rfl (by decide +kernel) ⟨Nat.le_of_ble_eq_true rfl, Nat.le_of_ble_eq_true rfl⟩) 6 0 rfl rfl rfl (fun _ _ _ _ _ _ => trivial) (fun _ _ _ => trivial) rfl hl.1 (Nat.le_of_ble_eq_true rfl) rfl dX9_put_56 ⟨Nat.le_of_ble_eq_true rfl, Nat.le_of_ble_eq_true rfl⟩ (fun u_13 H locs hwu_13 hP hD hS => ?_)
    try dsimp only at hwu_13
    have hP : zP g [[dsk q d], [((d 11), .inl (g.2 4, 3, .inr (.inr (.inr (.inr (rA [s0, s1, s2]))))))], (storeW g s1 xs1 tt1 nn1 fa1 fb1 fp1)] H := hP
    have hD : zD A [[dsk q d], [((d 11), .inl (g.2 4, 3, .inr (.inr (.inr (.inr (rA [s0, s1, s2]))))))], (storeW g s1 xs1 tt1 nn1 fa1 fb1 fp1)] := hD
    refine z_toI (-2000000011) rfl ?_
    exact z_reti () [0, 1, 2] hx hb hr rfl hlocks hK hP hD hS (rfl) trivial rfl rfl (rfl) (Nat.le_of_ble_eq_true rfl) (Nat.le_of_ble_eq_true rfl) dX9_put_59
  refine lv_iload_n hx hb dX9_put_43 rfl (lv_at hl 2 rfl) ?_
  refine z_iconst hx hb dX9_put_44 rfl ?_
  refine z_icmp_ne (tgt := 52) hx hb (by omega) (by decide) dX9_put_45 (by decide) (fun cq14 => ?_) (fun cq14 => ?_)
  · refine z_iconst hx hb dX9_put_52 rfl ?_
    refine z_toI w (by omega) ?_
    exact j53
  · refine z_iconst hx hb dX9_put_48 rfl ?_
    refine lv_goto (tgt := 53) hx hb dX9_put_49 (by decide) ?_
    refine z_toI w (by omega) ?_
    exact j53

set_option maxHeartbeats 4000000 in
set_option maxRecDepth 100000 in
theorem c_X9_put1_room (l : Launch) (g : zG) (q : Nat) (d : Nat → Nat) (s0 : Nat) (s1 : Nat) (s2 : Nat) (xs1 : Nat → Nat) (tt1 : Int) (nn1 : Nat) (fa1 : Nat → Int) (fb1 : Nat → Int) (fp1 : Nat → Int) (w : Int) (a : Int) (b : Int) (hs1 : sok tt1 nn1 fp1) (hw : -2147483648 ≤ w ∧ w < 2147483648) (ha : -2147483648 ≤ a ∧ a < 2147483648) (hb_ : -2147483648 ≤ b ∧ b < 2147483648) (ho : (0 ≤ w ∧ w ≤ 1) ∧ (-9999 ≤ a ∧ a ≤ 9999) ∧ (-9999 ≤ b ∧ b ≤ 9999)) (ht : tt1 = 1) (hn : nn1 = 8) : zMet l g yX9_put wsX9_put 2 0 0 [.ref q, vI 1, vI w, vI a, vI b] zX0 [[dsk q d], [((d 11), .inl (g.2 4, 3, .inr (.inr (.inr (.inr (rA [s0, s1, s2]))))))], (storeW g s1 xs1 tt1 nn1 fa1 fb1 fp1)] (qi g (fun (_ : Unit) => (-2000000014)) (fun (_ : Unit) => True) (fun (_ : Unit) => [[dsk q d], [((d 11), .inl (g.2 4, 3, .inr (.inr (.inr (.inr (rA [s0, s1, s2]))))))], (storeW g s1 xs1 tt1 nn1 fa1 fb1 fp1)])) := by
  refine z_ent (cc := cX9_put) (maxL := 5) (ret := (some .int)) (by decide) rfl (Nat.le_of_ble_eq_true rfl) ?_
  intro p e s m below meth c A ls hx hb hr hml hown hts hlocks hin0 hA hK hP hD hS hXX hl
  have hown : s.vm.findClass RX9 = some m.cls := hown
  have hin9_ : ∀ w ∈ wsX90, w ∈ wsX9_put := zw_in [26, 27, 28, 29, 30, 31, 32, 33, 34, 35, 36, 37] rfl
  have hl : lv_has ls 5 [(0, .ref q), (1, vI 1), (2, vI w), (3, vI a), (4, vI b)] := hl
  refine lv_iload_n hx hb dX9_put_0 rfl (lv_at hl 1 rfl) ?_
  refine z_cSi (As := [vI 1]) (rest := []) ⟨hx, hb, hml, hown, hts⟩ hK hP hD hS hA [] [0, 1, 2] rfl rfl rfl (c_X9_isNoStore l g 1 (by omega)) (va_cwS 1 hts gX9_put_X9_isNoStore rfl rfl rfl (by decide +kernel) ⟨Nat.le_of_ble_eq_true rfl, Nat.le_of_ble_eq_true rfl⟩) (fun _ _ _ _ _ _ => trivial) (fun _ _ _ => trivial) rfl hl.1 (Nat.le_of_ble_eq_true rfl) rfl dX9_put_1 ⟨Nat.le_of_ble_eq_true rfl, Nat.le_of_ble_eq_true rfl⟩ (fun u_1 H locs hwu_1 hP hD hS => ?_)
  try dsimp only at hwu_1
  have hP : zP g [[dsk q d], [((d 11), .inl (g.2 4, 3, .inr (.inr (.inr (.inr (rA [s0, s1, s2]))))))], (storeW g s1 xs1 tt1 nn1 fa1 fb1 fp1)] H := hP
  have hD : zD A [[dsk q d], [((d 11), .inl (g.2 4, 3, .inr (.inr (.inr (.inr (rA [s0, s1, s2]))))))], (storeW g s1 xs1 tt1 nn1 fa1 fb1 fp1)] := hD
  refine z_toI (oU 1 0 2) rfl ?_
  have hf_2 := oU_s 1 0 2
  refine z_if_eq (tgt := 10) hx hb (by omega) dX9_put_4 (by decide) (fun cq3 => ?_) (fun cq3 => False.elim (by omega))
  refine lv_iload_n hx hb dX9_put_10 rfl (lv_at hl 2 rfl) ?_
  refine z_iconst hx hb dX9_put_11 rfl ?_
  refine z_iconst hx hb dX9_put_12 rfl ?_
  refine z_cSi (As := [vI w, vI 0, vI 1]) (rest := []) ⟨hx, hb, hml, hown, hts⟩ hK hP hD hS hA [] [0, 1, 2] rfl rfl rfl (c_X9_isOutside l g w 0 1 (by first | assumption | omega | decide) (by first | assumption | omega | decide) (by first | assumption | omega | decide)) (va_cwS 3 hts gX9_put_X9_isOutside rfl rfl rfl (by decide +kernel) ⟨Nat.le_of_ble_eq_true rfl, Nat.le_of_ble_eq_true rfl⟩) (fun _ _ _ _ _ _ => trivial) (fun _ _ _ => trivial) rfl hl.1 (Nat.le_of_ble_eq_true rfl) rfl dX9_put_13 ⟨Nat.le_of_ble_eq_true rfl, Nat.le_of_ble_eq_true rfl⟩ (fun u_4 H locs hwu_4 hP hD hS => ?_)
  try dsimp only at hwu_4
  have hP : zP g [[dsk q d], [((d 11), .inl (g.2 4, 3, .inr (.inr (.inr (.inr (rA [s0, s1, s2]))))))], (storeW g s1 xs1 tt1 nn1 fa1 fb1 fp1)] H := hP
  have hD : zD A [[dsk q d], [((d 11), .inl (g.2 4, 3, .inr (.inr (.inr (.inr (rA [s0, s1, s2]))))))], (storeW g s1 xs1 tt1 nn1 fa1 fb1 fp1)] := hD
  refine z_toI (oU w 0 1) rfl ?_
  have hf_5 := oU_s w 0 1
  refine z_if_ne (tgt := 34) hx hb (by omega) dX9_put_16 (by decide) (fun cq6 => False.elim (by omega)) (fun cq6 => ?_)
  refine lv_iload_n hx hb dX9_put_19 rfl (lv_at hl 3 rfl) ?_
  refine z_cSi (As := [vI a]) (rest := []) ⟨hx, hb, hml, hown, hts⟩ hK hP hD hS hA [] [0, 1, 2] rfl rfl rfl (c_X9_isNoWhole l g a (by first | assumption | omega | decide)) (va_cwS 1 hts gX9_put_X9_isNoWhole rfl rfl rfl (by decide +kernel) ⟨Nat.le_of_ble_eq_true rfl, Nat.le_of_ble_eq_true rfl⟩) (fun _ _ _ _ _ _ => trivial) (fun _ _ _ => trivial) rfl hl.1 (Nat.le_of_ble_eq_true rfl) rfl dX9_put_20 ⟨Nat.le_of_ble_eq_true rfl, Nat.le_of_ble_eq_true rfl⟩ (fun u_7 H locs hwu_7 hP hD hS => ?_)
  try dsimp only at hwu_7
  have hP : zP g [[dsk q d], [((d 11), .inl (g.2 4, 3, .inr (.inr (.inr (.inr (rA [s0, s1, s2]))))))], (storeW g s1 xs1 tt1 nn1 fa1 fb1 fp1)] H := hP
  have hD : zD A [[dsk q d], [((d 11), .inl (g.2 4, 3, .inr (.inr (.inr (.inr (rA [s0, s1, s2]))))))], (storeW g s1 xs1 tt1 nn1 fa1 fb1 fp1)] := hD
  refine z_toI (oU a (-9999) 9999) rfl ?_
  have hf_8 := oU_s a (-9999) 9999
  refine z_if_ne (tgt := 34) hx hb (by omega) dX9_put_23 (by decide) (fun cq9 => False.elim (by omega)) (fun cq9 => ?_)
  refine lv_iload hx hb dX9_put_26 (lv_at hl 4 rfl) ?_
  refine z_cSi (As := [vI b]) (rest := []) ⟨hx, hb, hml, hown, hts⟩ hK hP hD hS hA [] [0, 1, 2] rfl rfl rfl (c_X9_isNoWhole l g b (by first | assumption | omega | decide)) (va_cwS 1 hts gX9_put_X9_isNoWhole rfl rfl rfl (by decide +kernel) ⟨Nat.le_of_ble_eq_true rfl, Nat.le_of_ble_eq_true rfl⟩) (fun _ _ _ _ _ _ => trivial) (fun _ _ _ => trivial) rfl hl.1 (Nat.le_of_ble_eq_true rfl) rfl dX9_put_28 ⟨Nat.le_of_ble_eq_true rfl, Nat.le_of_ble_eq_true rfl⟩ (fun u_10 H locs hwu_10 hP hD hS => ?_)
  try dsimp only at hwu_10
  have hP : zP g [[dsk q d], [((d 11), .inl (g.2 4, 3, .inr (.inr (.inr (.inr (rA [s0, s1, s2]))))))], (storeW g s1 xs1 tt1 nn1 fa1 fb1 fp1)] H := hP
  have hD : zD A [[dsk q d], [((d 11), .inl (g.2 4, 3, .inr (.inr (.inr (.inr (rA [s0, s1, s2]))))))], (storeW g s1 xs1 tt1 nn1 fa1 fb1 fp1)] := hD
  refine z_toI (oU b (-9999) 9999) rfl ?_
  have hf_11 := oU_s b (-9999) 9999
  refine z_if_eq (tgt := 37) hx hb (by omega) dX9_put_31 (by decide) (fun cq12 => ?_) (fun cq12 => False.elim (by omega))
  refine lv_aload_n hx hb dX9_put_37 rfl (lv_at hl 0 rfl) ?_
  refine z_get hx hb hts hin9_ hown hK hP 0 rfl rfl 11 (by decide) (hts _ (List.mem_of_getElem? (i := 3) rfl)) rfl dX9_put_38 ?_
  refine lv_iload_n hx hb dX9_put_41 rfl (lv_at hl 1 rfl) ?_
  refine z_aald hx hb hK hP 1 4 rfl rfl 1 rfl (by decide) (by decide) s1 rfl dX9_put_42 ?_
  have j53 : W p l e (zRm 2 0 0) s m ([.ref q, vI 1, vI w, vI a, vI b] : List Value).toArray below meth c H locs (0) (0) (MQ below ((qi g (fun (_ : Unit) => (-2000000014)) (fun (_ : Unit) => True) (fun (_ : Unit) => [[dsk q d], [((d 11), .inl (g.2 4, 3, .inr (.inr (.inr (.inr (rA [s0, s1, s2]))))))], (storeW g s1 xs1 tt1 nn1 fa1 fb1 fp1)])) A) ([.ref q, vI 1, vI w, vI a, vI b] : List Value).toArray s 0 0 A) (F0 m 53 ls [vI w, .ref s1]) := by
    refine lv_iload_n hx hb dX9_put_53 rfl (lv_at hl 3 rfl) ?_
    refine lv_iload hx hb dX9_put_54 (lv_at hl 4 rfl) ?_
    refine z_cVi (As := [vI w, vI a, vI b]) (rest := []) ⟨hx, hb, hml, hown, hts⟩ hK hP hD hS hA [2] [0, 1] rfl rfl rfl (c_X6_push_room l g s1 xs1 tt1 nn1 fa1 fb1 fp1 w a b hs1 (by omega) (by omega) (by omega)) (cwV 3 hts gX9_put_X6_push rfl rfl rfl (by decide +kernel) ⟨Nat.le_of_ble_eq_true rfl, Nat.le_of_ble_eq_true rfl⟩) 6 0 rfl rfl rfl (fun _ _ _ _ _ _ => trivial) (fun _ _ _ => trivial) rfl hl.1 (Nat.le_of_ble_eq_true rfl) rfl dX9_put_56 ⟨Nat.le_of_ble_eq_true rfl, Nat.le_of_ble_eq_true rfl⟩ (fun u_13 H locs hwu_13 hP hD hS => ?_)
    try dsimp only at hwu_13
    have hP : zP g [[dsk q d], [((d 11), .inl (g.2 4, 3, .inr (.inr (.inr (.inr (rA [s0, s1, s2]))))))], (storeW g s1 xs1 tt1 nn1 fa1 fb1 fp1)] H := hP
    have hD : zD A [[dsk q d], [((d 11), .inl (g.2 4, 3, .inr (.inr (.inr (.inr (rA [s0, s1, s2]))))))], (storeW g s1 xs1 tt1 nn1 fa1 fb1 fp1)] := hD
    refine z_toI (-2000000014) rfl ?_
    exact z_reti () [0, 1, 2] hx hb hr rfl hlocks hK hP hD hS (rfl) trivial rfl rfl (rfl) (Nat.le_of_ble_eq_true rfl) (Nat.le_of_ble_eq_true rfl) dX9_put_59
  refine lv_iload_n hx hb dX9_put_43 rfl (lv_at hl 2 rfl) ?_
  refine z_iconst hx hb dX9_put_44 rfl ?_
  refine z_icmp_ne (tgt := 52) hx hb (by omega) (by decide) dX9_put_45 (by decide) (fun cq14 => ?_) (fun cq14 => ?_)
  · refine z_iconst hx hb dX9_put_52 rfl ?_
    refine z_toI w (by omega) ?_
    exact j53
  · refine z_iconst hx hb dX9_put_48 rfl ?_
    refine lv_goto (tgt := 53) hx hb dX9_put_49 (by decide) ?_
    refine z_toI w (by omega) ?_
    exact j53

set_option maxHeartbeats 4000000 in
set_option maxRecDepth 100000 in
theorem c_X9_put1_ok (l : Launch) (g : zG) (q : Nat) (d : Nat → Nat) (s0 : Nat) (s1 : Nat) (s2 : Nat) (xs1 : Nat → Nat) (tt1 : Int) (nn1 : Nat) (fa1 : Nat → Int) (fb1 : Nat → Int) (fp1 : Nat → Int) (w : Int) (a : Int) (b : Int) (hs1 : sok tt1 nn1 fp1) (hw : -2147483648 ≤ w ∧ w < 2147483648) (ha : -2147483648 ≤ a ∧ a < 2147483648) (hb_ : -2147483648 ≤ b ∧ b < 2147483648) (ho : (0 ≤ w ∧ w ≤ 1) ∧ (-9999 ≤ a ∧ a ≤ 9999) ∧ (-9999 ≤ b ∧ b ≤ 9999)) (ht : tt1 = 1) (hn : nn1 < 8) : zMet l g yX9_put wsX9_put 2 0 0 [.ref q, vI 1, vI w, vI a, vI b] zX0 [[dsk q d], [((d 11), .inl (g.2 4, 3, .inr (.inr (.inr (.inr (rA [s0, s1, s2]))))))], (storeW g s1 xs1 tt1 nn1 fa1 fb1 fp1)] (qi g (fun (_ : Unit) => (((nn1 + 1) : Nat) : Int)) (fun (_ : Unit) => True) (fun (_ : Unit) => [[dsk q d], [((d 11), .inl (g.2 4, 3, .inr (.inr (.inr (.inr (rA [s0, s1, s2]))))))], (storeW g s1 xs1 tt1 (nn1 + 1) (uI fa1 nn1 a) (uI fb1 nn1 (if w = 0 then 0 else b)) (uI fp1 nn1 w))])) := by
  refine z_ent (cc := cX9_put) (maxL := 5) (ret := (some .int)) (by decide) rfl (Nat.le_of_ble_eq_true rfl) ?_
  intro p e s m below meth c A ls hx hb hr hml hown hts hlocks hin0 hA hK hP hD hS hXX hl
  have hown : s.vm.findClass RX9 = some m.cls := hown
  have hin9_ : ∀ w ∈ wsX90, w ∈ wsX9_put := zw_in [26, 27, 28, 29, 30, 31, 32, 33, 34, 35, 36, 37] rfl
  have hl : lv_has ls 5 [(0, .ref q), (1, vI 1), (2, vI w), (3, vI a), (4, vI b)] := hl
  refine lv_iload_n hx hb dX9_put_0 rfl (lv_at hl 1 rfl) ?_
  refine z_cSi (As := [vI 1]) (rest := []) ⟨hx, hb, hml, hown, hts⟩ hK hP hD hS hA [] [0, 1, 2] rfl rfl rfl (c_X9_isNoStore l g 1 (by omega)) (va_cwS 1 hts gX9_put_X9_isNoStore rfl rfl rfl (by decide +kernel) ⟨Nat.le_of_ble_eq_true rfl, Nat.le_of_ble_eq_true rfl⟩) (fun _ _ _ _ _ _ => trivial) (fun _ _ _ => trivial) rfl hl.1 (Nat.le_of_ble_eq_true rfl) rfl dX9_put_1 ⟨Nat.le_of_ble_eq_true rfl, Nat.le_of_ble_eq_true rfl⟩ (fun u_1 H locs hwu_1 hP hD hS => ?_)
  try dsimp only at hwu_1
  have hP : zP g [[dsk q d], [((d 11), .inl (g.2 4, 3, .inr (.inr (.inr (.inr (rA [s0, s1, s2]))))))], (storeW g s1 xs1 tt1 nn1 fa1 fb1 fp1)] H := hP
  have hD : zD A [[dsk q d], [((d 11), .inl (g.2 4, 3, .inr (.inr (.inr (.inr (rA [s0, s1, s2]))))))], (storeW g s1 xs1 tt1 nn1 fa1 fb1 fp1)] := hD
  refine z_toI (oU 1 0 2) rfl ?_
  have hf_2 := oU_s 1 0 2
  refine z_if_eq (tgt := 10) hx hb (by omega) dX9_put_4 (by decide) (fun cq3 => ?_) (fun cq3 => False.elim (by omega))
  refine lv_iload_n hx hb dX9_put_10 rfl (lv_at hl 2 rfl) ?_
  refine z_iconst hx hb dX9_put_11 rfl ?_
  refine z_iconst hx hb dX9_put_12 rfl ?_
  refine z_cSi (As := [vI w, vI 0, vI 1]) (rest := []) ⟨hx, hb, hml, hown, hts⟩ hK hP hD hS hA [] [0, 1, 2] rfl rfl rfl (c_X9_isOutside l g w 0 1 (by first | assumption | omega | decide) (by first | assumption | omega | decide) (by first | assumption | omega | decide)) (va_cwS 3 hts gX9_put_X9_isOutside rfl rfl rfl (by decide +kernel) ⟨Nat.le_of_ble_eq_true rfl, Nat.le_of_ble_eq_true rfl⟩) (fun _ _ _ _ _ _ => trivial) (fun _ _ _ => trivial) rfl hl.1 (Nat.le_of_ble_eq_true rfl) rfl dX9_put_13 ⟨Nat.le_of_ble_eq_true rfl, Nat.le_of_ble_eq_true rfl⟩ (fun u_4 H locs hwu_4 hP hD hS => ?_)
  try dsimp only at hwu_4
  have hP : zP g [[dsk q d], [((d 11), .inl (g.2 4, 3, .inr (.inr (.inr (.inr (rA [s0, s1, s2]))))))], (storeW g s1 xs1 tt1 nn1 fa1 fb1 fp1)] H := hP
  have hD : zD A [[dsk q d], [((d 11), .inl (g.2 4, 3, .inr (.inr (.inr (.inr (rA [s0, s1, s2]))))))], (storeW g s1 xs1 tt1 nn1 fa1 fb1 fp1)] := hD
  refine z_toI (oU w 0 1) rfl ?_
  have hf_5 := oU_s w 0 1
  refine z_if_ne (tgt := 34) hx hb (by omega) dX9_put_16 (by decide) (fun cq6 => False.elim (by omega)) (fun cq6 => ?_)
  refine lv_iload_n hx hb dX9_put_19 rfl (lv_at hl 3 rfl) ?_
  refine z_cSi (As := [vI a]) (rest := []) ⟨hx, hb, hml, hown, hts⟩ hK hP hD hS hA [] [0, 1, 2] rfl rfl rfl (c_X9_isNoWhole l g a (by first | assumption | omega | decide)) (va_cwS 1 hts gX9_put_X9_isNoWhole rfl rfl rfl (by decide +kernel) ⟨Nat.le_of_ble_eq_true rfl, Nat.le_of_ble_eq_true rfl⟩) (fun _ _ _ _ _ _ => trivial) (fun _ _ _ => trivial) rfl hl.1 (Nat.le_of_ble_eq_true rfl) rfl dX9_put_20 ⟨Nat.le_of_ble_eq_true rfl, Nat.le_of_ble_eq_true rfl⟩ (fun u_7 H locs hwu_7 hP hD hS => ?_)
  try dsimp only at hwu_7
  have hP : zP g [[dsk q d], [((d 11), .inl (g.2 4, 3, .inr (.inr (.inr (.inr (rA [s0, s1, s2]))))))], (storeW g s1 xs1 tt1 nn1 fa1 fb1 fp1)] H := hP
  have hD : zD A [[dsk q d], [((d 11), .inl (g.2 4, 3, .inr (.inr (.inr (.inr (rA [s0, s1, s2]))))))], (storeW g s1 xs1 tt1 nn1 fa1 fb1 fp1)] := hD
  refine z_toI (oU a (-9999) 9999) rfl ?_
  have hf_8 := oU_s a (-9999) 9999
  refine z_if_ne (tgt := 34) hx hb (by omega) dX9_put_23 (by decide) (fun cq9 => False.elim (by omega)) (fun cq9 => ?_)
  refine lv_iload hx hb dX9_put_26 (lv_at hl 4 rfl) ?_
  refine z_cSi (As := [vI b]) (rest := []) ⟨hx, hb, hml, hown, hts⟩ hK hP hD hS hA [] [0, 1, 2] rfl rfl rfl (c_X9_isNoWhole l g b (by first | assumption | omega | decide)) (va_cwS 1 hts gX9_put_X9_isNoWhole rfl rfl rfl (by decide +kernel) ⟨Nat.le_of_ble_eq_true rfl, Nat.le_of_ble_eq_true rfl⟩) (fun _ _ _ _ _ _ => trivial) (fun _ _ _ => trivial) rfl hl.1 (Nat.le_of_ble_eq_true rfl) rfl dX9_put_28 ⟨Nat.le_of_ble_eq_true rfl, Nat.le_of_ble_eq_true rfl⟩ (fun u_10 H locs hwu_10 hP hD hS => ?_)
  try dsimp only at hwu_10
  have hP : zP g [[dsk q d], [((d 11), .inl (g.2 4, 3, .inr (.inr (.inr (.inr (rA [s0, s1, s2]))))))], (storeW g s1 xs1 tt1 nn1 fa1 fb1 fp1)] H := hP
  have hD : zD A [[dsk q d], [((d 11), .inl (g.2 4, 3, .inr (.inr (.inr (.inr (rA [s0, s1, s2]))))))], (storeW g s1 xs1 tt1 nn1 fa1 fb1 fp1)] := hD
  refine z_toI (oU b (-9999) 9999) rfl ?_
  have hf_11 := oU_s b (-9999) 9999
  refine z_if_eq (tgt := 37) hx hb (by omega) dX9_put_31 (by decide) (fun cq12 => ?_) (fun cq12 => False.elim (by omega))
  refine lv_aload_n hx hb dX9_put_37 rfl (lv_at hl 0 rfl) ?_
  refine z_get hx hb hts hin9_ hown hK hP 0 rfl rfl 11 (by decide) (hts _ (List.mem_of_getElem? (i := 3) rfl)) rfl dX9_put_38 ?_
  refine lv_iload_n hx hb dX9_put_41 rfl (lv_at hl 1 rfl) ?_
  refine z_aald hx hb hK hP 1 4 rfl rfl 1 rfl (by decide) (by decide) s1 rfl dX9_put_42 ?_
  have j53 : W p l e (zRm 2 0 0) s m ([.ref q, vI 1, vI w, vI a, vI b] : List Value).toArray below meth c H locs (0) (0) (MQ below ((qi g (fun (_ : Unit) => (((nn1 + 1) : Nat) : Int)) (fun (_ : Unit) => True) (fun (_ : Unit) => [[dsk q d], [((d 11), .inl (g.2 4, 3, .inr (.inr (.inr (.inr (rA [s0, s1, s2]))))))], (storeW g s1 xs1 tt1 (nn1 + 1) (uI fa1 nn1 a) (uI fb1 nn1 (if w = 0 then 0 else b)) (uI fp1 nn1 w))])) A) ([.ref q, vI 1, vI w, vI a, vI b] : List Value).toArray s 0 0 A) (F0 m 53 ls [vI w, .ref s1]) := by
    refine lv_iload_n hx hb dX9_put_53 rfl (lv_at hl 3 rfl) ?_
    refine lv_iload hx hb dX9_put_54 (lv_at hl 4 rfl) ?_
    refine z_cVi (As := [vI w, vI a, vI b]) (rest := []) ⟨hx, hb, hml, hown, hts⟩ hK hP hD hS hA [2] [0, 1] rfl rfl rfl (c_X6_push_ok l g s1 xs1 tt1 nn1 fa1 fb1 fp1 w a b hs1 (by omega) (by omega) (by omega)) (cwV 3 hts gX9_put_X6_push rfl rfl rfl (by decide +kernel) ⟨Nat.le_of_ble_eq_true rfl, Nat.le_of_ble_eq_true rfl⟩) 6 0 rfl rfl rfl (fun _ _ _ _ _ _ => trivial) (fun _ _ _ => trivial) rfl hl.1 (Nat.le_of_ble_eq_true rfl) rfl dX9_put_56 ⟨Nat.le_of_ble_eq_true rfl, Nat.le_of_ble_eq_true rfl⟩ (fun u_13 H locs hwu_13 hP hD hS => ?_)
    try dsimp only at hwu_13
    have hP : zP g [[dsk q d], [((d 11), .inl (g.2 4, 3, .inr (.inr (.inr (.inr (rA [s0, s1, s2]))))))], (storeW g s1 xs1 tt1 (nn1 + 1) (uI fa1 nn1 a) (uI fb1 nn1 (if w = 0 then 0 else b)) (uI fp1 nn1 w))] H := hP
    have hD : zD A [[dsk q d], [((d 11), .inl (g.2 4, 3, .inr (.inr (.inr (.inr (rA [s0, s1, s2]))))))], (storeW g s1 xs1 tt1 (nn1 + 1) (uI fa1 nn1 a) (uI fb1 nn1 (if w = 0 then 0 else b)) (uI fp1 nn1 w))] := hD
    refine z_toI (((nn1 + 1) : Nat) : Int) rfl ?_
    exact z_reti () [0, 1, 2] hx hb hr rfl hlocks hK hP hD hS (rfl) trivial rfl rfl (rfl) (Nat.le_of_ble_eq_true rfl) (Nat.le_of_ble_eq_true rfl) dX9_put_59
  refine lv_iload_n hx hb dX9_put_43 rfl (lv_at hl 2 rfl) ?_
  refine z_iconst hx hb dX9_put_44 rfl ?_
  refine z_icmp_ne (tgt := 52) hx hb (by omega) (by decide) dX9_put_45 (by decide) (fun cq14 => ?_) (fun cq14 => ?_)
  · refine z_iconst hx hb dX9_put_52 rfl ?_
    refine z_toI w (by omega) ?_
    exact j53
  · refine z_iconst hx hb dX9_put_48 rfl ?_
    refine lv_goto (tgt := 53) hx hb dX9_put_49 (by decide) ?_
    refine z_toI w (by omega) ?_
    exact j53

set_option maxHeartbeats 4000000 in
set_option maxRecDepth 100000 in
theorem c_X9_put2_null (l : Launch) (g : zG) (q : Nat) (d : Nat → Nat) (s0 : Nat) (s1 : Nat) (s2 : Nat) (xs2 : Nat → Nat) (tt2 : Int) (nn2 : Nat) (fa2 : Nat → Int) (fb2 : Nat → Int) (fp2 : Nat → Int) (w : Int) (a : Int) (b : Int) (hs2 : sok tt2 nn2 fp2) (hw : -2147483648 ≤ w ∧ w < 2147483648) (ha : -2147483648 ≤ a ∧ a < 2147483648) (hb_ : -2147483648 ≤ b ∧ b < 2147483648) (ho : (0 ≤ w ∧ w ≤ 1) ∧ (-9999 ≤ a ∧ a ≤ 9999) ∧ (-9999 ≤ b ∧ b ≤ 9999)) (ht : tt2 = 0) : zMet l g yX9_put wsX9_put 2 0 0 [.ref q, vI 2, vI w, vI a, vI b] zX0 [[dsk q d], [((d 11), .inl (g.2 4, 3, .inr (.inr (.inr (.inr (rA [s0, s1, s2]))))))], (storeW g s2 xs2 tt2 nn2 fa2 fb2 fp2)] (qi g (fun (_ : Unit) => (-2000000011)) (fun (_ : Unit) => True) (fun (_ : Unit) => [[dsk q d], [((d 11), .inl (g.2 4, 3, .inr (.inr (.inr (.inr (rA [s0, s1, s2]))))))], (storeW g s2 xs2 tt2 nn2 fa2 fb2 fp2)])) := by
  refine z_ent (cc := cX9_put) (maxL := 5) (ret := (some .int)) (by decide) rfl (Nat.le_of_ble_eq_true rfl) ?_
  intro p e s m below meth c A ls hx hb hr hml hown hts hlocks hin0 hA hK hP hD hS hXX hl
  have hown : s.vm.findClass RX9 = some m.cls := hown
  have hin9_ : ∀ w ∈ wsX90, w ∈ wsX9_put := zw_in [26, 27, 28, 29, 30, 31, 32, 33, 34, 35, 36, 37] rfl
  have hl : lv_has ls 5 [(0, .ref q), (1, vI 2), (2, vI w), (3, vI a), (4, vI b)] := hl
  refine lv_iload_n hx hb dX9_put_0 rfl (lv_at hl 1 rfl) ?_
  refine z_cSi (As := [vI 2]) (rest := []) ⟨hx, hb, hml, hown, hts⟩ hK hP hD hS hA [] [0, 1, 2] rfl rfl rfl (c_X9_isNoStore l g 2 (by omega)) (va_cwS 1 hts gX9_put_X9_isNoStore rfl rfl rfl (by decide +kernel) ⟨Nat.le_of_ble_eq_true rfl, Nat.le_of_ble_eq_true rfl⟩) (fun _ _ _ _ _ _ => trivial) (fun _ _ _ => trivial) rfl hl.1 (Nat.le_of_ble_eq_true rfl) rfl dX9_put_1 ⟨Nat.le_of_ble_eq_true rfl, Nat.le_of_ble_eq_true rfl⟩ (fun u_1 H locs hwu_1 hP hD hS => ?_)
  try dsimp only at hwu_1
  have hP : zP g [[dsk q d], [((d 11), .inl (g.2 4, 3, .inr (.inr (.inr (.inr (rA [s0, s1, s2]))))))], (storeW g s2 xs2 tt2 nn2 fa2 fb2 fp2)] H := hP
  have hD : zD A [[dsk q d], [((d 11), .inl (g.2 4, 3, .inr (.inr (.inr (.inr (rA [s0, s1, s2]))))))], (storeW g s2 xs2 tt2 nn2 fa2 fb2 fp2)] := hD
  refine z_toI (oU 2 0 2) rfl ?_
  have hf_2 := oU_s 2 0 2
  refine z_if_eq (tgt := 10) hx hb (by omega) dX9_put_4 (by decide) (fun cq3 => ?_) (fun cq3 => False.elim (by omega))
  refine lv_iload_n hx hb dX9_put_10 rfl (lv_at hl 2 rfl) ?_
  refine z_iconst hx hb dX9_put_11 rfl ?_
  refine z_iconst hx hb dX9_put_12 rfl ?_
  refine z_cSi (As := [vI w, vI 0, vI 1]) (rest := []) ⟨hx, hb, hml, hown, hts⟩ hK hP hD hS hA [] [0, 1, 2] rfl rfl rfl (c_X9_isOutside l g w 0 1 (by first | assumption | omega | decide) (by first | assumption | omega | decide) (by first | assumption | omega | decide)) (va_cwS 3 hts gX9_put_X9_isOutside rfl rfl rfl (by decide +kernel) ⟨Nat.le_of_ble_eq_true rfl, Nat.le_of_ble_eq_true rfl⟩) (fun _ _ _ _ _ _ => trivial) (fun _ _ _ => trivial) rfl hl.1 (Nat.le_of_ble_eq_true rfl) rfl dX9_put_13 ⟨Nat.le_of_ble_eq_true rfl, Nat.le_of_ble_eq_true rfl⟩ (fun u_4 H locs hwu_4 hP hD hS => ?_)
  try dsimp only at hwu_4
  have hP : zP g [[dsk q d], [((d 11), .inl (g.2 4, 3, .inr (.inr (.inr (.inr (rA [s0, s1, s2]))))))], (storeW g s2 xs2 tt2 nn2 fa2 fb2 fp2)] H := hP
  have hD : zD A [[dsk q d], [((d 11), .inl (g.2 4, 3, .inr (.inr (.inr (.inr (rA [s0, s1, s2]))))))], (storeW g s2 xs2 tt2 nn2 fa2 fb2 fp2)] := hD
  refine z_toI (oU w 0 1) rfl ?_
  have hf_5 := oU_s w 0 1
  refine z_if_ne (tgt := 34) hx hb (by omega) dX9_put_16 (by decide) (fun cq6 => False.elim (by omega)) (fun cq6 => ?_)
  refine lv_iload_n hx hb dX9_put_19 rfl (lv_at hl 3 rfl) ?_
  refine z_cSi (As := [vI a]) (rest := []) ⟨hx, hb, hml, hown, hts⟩ hK hP hD hS hA [] [0, 1, 2] rfl rfl rfl (c_X9_isNoWhole l g a (by first | assumption | omega | decide)) (va_cwS 1 hts gX9_put_X9_isNoWhole rfl rfl rfl (by decide +kernel) ⟨Nat.le_of_ble_eq_true rfl, Nat.le_of_ble_eq_true rfl⟩) (fun _ _ _ _ _ _ => trivial) (fun _ _ _ => trivial) rfl hl.1 (Nat.le_of_ble_eq_true rfl) rfl dX9_put_20 ⟨Nat.le_of_ble_eq_true rfl, Nat.le_of_ble_eq_true rfl⟩ (fun u_7 H locs hwu_7 hP hD hS => ?_)
  try dsimp only at hwu_7
  have hP : zP g [[dsk q d], [((d 11), .inl (g.2 4, 3, .inr (.inr (.inr (.inr (rA [s0, s1, s2]))))))], (storeW g s2 xs2 tt2 nn2 fa2 fb2 fp2)] H := hP
  have hD : zD A [[dsk q d], [((d 11), .inl (g.2 4, 3, .inr (.inr (.inr (.inr (rA [s0, s1, s2]))))))], (storeW g s2 xs2 tt2 nn2 fa2 fb2 fp2)] := hD
  refine z_toI (oU a (-9999) 9999) rfl ?_
  have hf_8 := oU_s a (-9999) 9999
  refine z_if_ne (tgt := 34) hx hb (by omega) dX9_put_23 (by decide) (fun cq9 => False.elim (by omega)) (fun cq9 => ?_)
  refine lv_iload hx hb dX9_put_26 (lv_at hl 4 rfl) ?_
  refine z_cSi (As := [vI b]) (rest := []) ⟨hx, hb, hml, hown, hts⟩ hK hP hD hS hA [] [0, 1, 2] rfl rfl rfl (c_X9_isNoWhole l g b (by first | assumption | omega | decide)) (va_cwS 1 hts gX9_put_X9_isNoWhole rfl rfl rfl (by decide +kernel) ⟨Nat.le_of_ble_eq_true rfl, Nat.le_of_ble_eq_true rfl⟩) (fun _ _ _ _ _ _ => trivial) (fun _ _ _ => trivial) rfl hl.1 (Nat.le_of_ble_eq_true rfl) rfl dX9_put_28 ⟨Nat.le_of_ble_eq_true rfl, Nat.le_of_ble_eq_true rfl⟩ (fun u_10 H locs hwu_10 hP hD hS => ?_)
  try dsimp only at hwu_10
  have hP : zP g [[dsk q d], [((d 11), .inl (g.2 4, 3, .inr (.inr (.inr (.inr (rA [s0, s1, s2]))))))], (storeW g s2 xs2 tt2 nn2 fa2 fb2 fp2)] H := hP
  have hD : zD A [[dsk q d], [((d 11), .inl (g.2 4, 3, .inr (.inr (.inr (.inr (rA [s0, s1, s2]))))))], (storeW g s2 xs2 tt2 nn2 fa2 fb2 fp2)] := hD
  refine z_toI (oU b (-9999) 9999) rfl ?_
  have hf_11 := oU_s b (-9999) 9999
  refine z_if_eq (tgt := 37) hx hb (by omega) dX9_put_31 (by decide) (fun cq12 => ?_) (fun cq12 => False.elim (by omega))
  refine lv_aload_n hx hb dX9_put_37 rfl (lv_at hl 0 rfl) ?_
  refine z_get hx hb hts hin9_ hown hK hP 0 rfl rfl 11 (by decide) (hts _ (List.mem_of_getElem? (i := 3) rfl)) rfl dX9_put_38 ?_
  refine lv_iload_n hx hb dX9_put_41 rfl (lv_at hl 1 rfl) ?_
  refine z_aald hx hb hK hP 1 4 rfl rfl 2 rfl (by decide) (by decide) s2 rfl dX9_put_42 ?_
  have j53 : W p l e (zRm 2 0 0) s m ([.ref q, vI 2, vI w, vI a, vI b] : List Value).toArray below meth c H locs (0) (0) (MQ below ((qi g (fun (_ : Unit) => (-2000000011)) (fun (_ : Unit) => True) (fun (_ : Unit) => [[dsk q d], [((d 11), .inl (g.2 4, 3, .inr (.inr (.inr (.inr (rA [s0, s1, s2]))))))], (storeW g s2 xs2 tt2 nn2 fa2 fb2 fp2)])) A) ([.ref q, vI 2, vI w, vI a, vI b] : List Value).toArray s 0 0 A) (F0 m 53 ls [vI w, .ref s2]) := by
    refine lv_iload_n hx hb dX9_put_53 rfl (lv_at hl 3 rfl) ?_
    refine lv_iload hx hb dX9_put_54 (lv_at hl 4 rfl) ?_
    refine z_cVi (As := [vI w, vI a, vI b]) (rest := []) ⟨hx, hb, hml, hown, hts⟩ hK hP hD hS hA [2] [0, 1] rfl rfl rfl (c_X6_push_null l g s2 xs2 tt2 nn2 fa2 fb2 fp2 w a b hs2 (by omega) (by omega)) (cwV 3 hts gX9_put_X6_push rfl rfl rfl (by decide +kernel) ⟨Nat.le_of_ble_eq_true rfl, Nat.le_of_ble_eq_true rfl⟩) 6 0 rfl rfl rfl (fun _ _ _ _ _ _ => trivial) (fun _ _ _ => trivial) rfl hl.1 (Nat.le_of_ble_eq_true rfl) rfl dX9_put_56 ⟨Nat.le_of_ble_eq_true rfl, Nat.le_of_ble_eq_true rfl⟩ (fun u_13 H locs hwu_13 hP hD hS => ?_)
    try dsimp only at hwu_13
    have hP : zP g [[dsk q d], [((d 11), .inl (g.2 4, 3, .inr (.inr (.inr (.inr (rA [s0, s1, s2]))))))], (storeW g s2 xs2 tt2 nn2 fa2 fb2 fp2)] H := hP
    have hD : zD A [[dsk q d], [((d 11), .inl (g.2 4, 3, .inr (.inr (.inr (.inr (rA [s0, s1, s2]))))))], (storeW g s2 xs2 tt2 nn2 fa2 fb2 fp2)] := hD
    refine z_toI (-2000000011) rfl ?_
    exact z_reti () [0, 1, 2] hx hb hr rfl hlocks hK hP hD hS (rfl) trivial rfl rfl (rfl) (Nat.le_of_ble_eq_true rfl) (Nat.le_of_ble_eq_true rfl) dX9_put_59
  refine lv_iload_n hx hb dX9_put_43 rfl (lv_at hl 2 rfl) ?_
  refine z_iconst hx hb dX9_put_44 rfl ?_
  refine z_icmp_ne (tgt := 52) hx hb (by omega) (by decide) dX9_put_45 (by decide) (fun cq14 => ?_) (fun cq14 => ?_)
  · refine z_iconst hx hb dX9_put_52 rfl ?_
    refine z_toI w (by omega) ?_
    exact j53
  · refine z_iconst hx hb dX9_put_48 rfl ?_
    refine lv_goto (tgt := 53) hx hb dX9_put_49 (by decide) ?_
    refine z_toI w (by omega) ?_
    exact j53

set_option maxHeartbeats 4000000 in
set_option maxRecDepth 100000 in
theorem c_X9_put2_room (l : Launch) (g : zG) (q : Nat) (d : Nat → Nat) (s0 : Nat) (s1 : Nat) (s2 : Nat) (xs2 : Nat → Nat) (tt2 : Int) (nn2 : Nat) (fa2 : Nat → Int) (fb2 : Nat → Int) (fp2 : Nat → Int) (w : Int) (a : Int) (b : Int) (hs2 : sok tt2 nn2 fp2) (hw : -2147483648 ≤ w ∧ w < 2147483648) (ha : -2147483648 ≤ a ∧ a < 2147483648) (hb_ : -2147483648 ≤ b ∧ b < 2147483648) (ho : (0 ≤ w ∧ w ≤ 1) ∧ (-9999 ≤ a ∧ a ≤ 9999) ∧ (-9999 ≤ b ∧ b ≤ 9999)) (ht : tt2 = 1) (hn : nn2 = 8) : zMet l g yX9_put wsX9_put 2 0 0 [.ref q, vI 2, vI w, vI a, vI b] zX0 [[dsk q d], [((d 11), .inl (g.2 4, 3, .inr (.inr (.inr (.inr (rA [s0, s1, s2]))))))], (storeW g s2 xs2 tt2 nn2 fa2 fb2 fp2)] (qi g (fun (_ : Unit) => (-2000000014)) (fun (_ : Unit) => True) (fun (_ : Unit) => [[dsk q d], [((d 11), .inl (g.2 4, 3, .inr (.inr (.inr (.inr (rA [s0, s1, s2]))))))], (storeW g s2 xs2 tt2 nn2 fa2 fb2 fp2)])) := by
  refine z_ent (cc := cX9_put) (maxL := 5) (ret := (some .int)) (by decide) rfl (Nat.le_of_ble_eq_true rfl) ?_
  intro p e s m below meth c A ls hx hb hr hml hown hts hlocks hin0 hA hK hP hD hS hXX hl
  have hown : s.vm.findClass RX9 = some m.cls := hown
  have hin9_ : ∀ w ∈ wsX90, w ∈ wsX9_put := zw_in [26, 27, 28, 29, 30, 31, 32, 33, 34, 35, 36, 37] rfl
  have hl : lv_has ls 5 [(0, .ref q), (1, vI 2), (2, vI w), (3, vI a), (4, vI b)] := hl
  refine lv_iload_n hx hb dX9_put_0 rfl (lv_at hl 1 rfl) ?_
  refine z_cSi (As := [vI 2]) (rest := []) ⟨hx, hb, hml, hown, hts⟩ hK hP hD hS hA [] [0, 1, 2] rfl rfl rfl (c_X9_isNoStore l g 2 (by omega)) (va_cwS 1 hts gX9_put_X9_isNoStore rfl rfl rfl (by decide +kernel) ⟨Nat.le_of_ble_eq_true rfl, Nat.le_of_ble_eq_true rfl⟩) (fun _ _ _ _ _ _ => trivial) (fun _ _ _ => trivial) rfl hl.1 (Nat.le_of_ble_eq_true rfl) rfl dX9_put_1 ⟨Nat.le_of_ble_eq_true rfl, Nat.le_of_ble_eq_true rfl⟩ (fun u_1 H locs hwu_1 hP hD hS => ?_)
  try dsimp only at hwu_1
  have hP : zP g [[dsk q d], [((d 11), .inl (g.2 4, 3, .inr (.inr (.inr (.inr (rA [s0, s1, s2]))))))], (storeW g s2 xs2 tt2 nn2 fa2 fb2 fp2)] H := hP
  have hD : zD A [[dsk q d], [((d 11), .inl (g.2 4, 3, .inr (.inr (.inr (.inr (rA [s0, s1, s2]))))))], (storeW g s2 xs2 tt2 nn2 fa2 fb2 fp2)] := hD
  refine z_toI (oU 2 0 2) rfl ?_
  have hf_2 := oU_s 2 0 2
  refine z_if_eq (tgt := 10) hx hb (by omega) dX9_put_4 (by decide) (fun cq3 => ?_) (fun cq3 => False.elim (by omega))
  refine lv_iload_n hx hb dX9_put_10 rfl (lv_at hl 2 rfl) ?_
  refine z_iconst hx hb dX9_put_11 rfl ?_
  refine z_iconst hx hb dX9_put_12 rfl ?_
  refine z_cSi (As := [vI w, vI 0, vI 1]) (rest := []) ⟨hx, hb, hml, hown, hts⟩ hK hP hD hS hA [] [0, 1, 2] rfl rfl rfl (c_X9_isOutside l g w 0 1 (by first | assumption | omega | decide) (by first | assumption | omega | decide) (by first | assumption | omega | decide)) (va_cwS 3 hts gX9_put_X9_isOutside rfl rfl rfl (by decide +kernel) ⟨Nat.le_of_ble_eq_true rfl, Nat.le_of_ble_eq_true rfl⟩) (fun _ _ _ _ _ _ => trivial) (fun _ _ _ => trivial) rfl hl.1 (Nat.le_of_ble_eq_true rfl) rfl dX9_put_13 ⟨Nat.le_of_ble_eq_true rfl, Nat.le_of_ble_eq_true rfl⟩ (fun u_4 H locs hwu_4 hP hD hS => ?_)
  try dsimp only at hwu_4
  have hP : zP g [[dsk q d], [((d 11), .inl (g.2 4, 3, .inr (.inr (.inr (.inr (rA [s0, s1, s2]))))))], (storeW g s2 xs2 tt2 nn2 fa2 fb2 fp2)] H := hP
  have hD : zD A [[dsk q d], [((d 11), .inl (g.2 4, 3, .inr (.inr (.inr (.inr (rA [s0, s1, s2]))))))], (storeW g s2 xs2 tt2 nn2 fa2 fb2 fp2)] := hD
  refine z_toI (oU w 0 1) rfl ?_
  have hf_5 := oU_s w 0 1
  refine z_if_ne (tgt := 34) hx hb (by omega) dX9_put_16 (by decide) (fun cq6 => False.elim (by omega)) (fun cq6 => ?_)
  refine lv_iload_n hx hb dX9_put_19 rfl (lv_at hl 3 rfl) ?_
  refine z_cSi (As := [vI a]) (rest := []) ⟨hx, hb, hml, hown, hts⟩ hK hP hD hS hA [] [0, 1, 2] rfl rfl rfl (c_X9_isNoWhole l g a (by first | assumption | omega | decide)) (va_cwS 1 hts gX9_put_X9_isNoWhole rfl rfl rfl (by decide +kernel) ⟨Nat.le_of_ble_eq_true rfl, Nat.le_of_ble_eq_true rfl⟩) (fun _ _ _ _ _ _ => trivial) (fun _ _ _ => trivial) rfl hl.1 (Nat.le_of_ble_eq_true rfl) rfl dX9_put_20 ⟨Nat.le_of_ble_eq_true rfl, Nat.le_of_ble_eq_true rfl⟩ (fun u_7 H locs hwu_7 hP hD hS => ?_)
  try dsimp only at hwu_7
  have hP : zP g [[dsk q d], [((d 11), .inl (g.2 4, 3, .inr (.inr (.inr (.inr (rA [s0, s1, s2]))))))], (storeW g s2 xs2 tt2 nn2 fa2 fb2 fp2)] H := hP
  have hD : zD A [[dsk q d], [((d 11), .inl (g.2 4, 3, .inr (.inr (.inr (.inr (rA [s0, s1, s2]))))))], (storeW g s2 xs2 tt2 nn2 fa2 fb2 fp2)] := hD
  refine z_toI (oU a (-9999) 9999) rfl ?_
  have hf_8 := oU_s a (-9999) 9999
  refine z_if_ne (tgt := 34) hx hb (by omega) dX9_put_23 (by decide) (fun cq9 => False.elim (by omega)) (fun cq9 => ?_)
  refine lv_iload hx hb dX9_put_26 (lv_at hl 4 rfl) ?_
  refine z_cSi (As := [vI b]) (rest := []) ⟨hx, hb, hml, hown, hts⟩ hK hP hD hS hA [] [0, 1, 2] rfl rfl rfl (c_X9_isNoWhole l g b (by first | assumption | omega | decide)) (va_cwS 1 hts gX9_put_X9_isNoWhole rfl rfl rfl (by decide +kernel) ⟨Nat.le_of_ble_eq_true rfl, Nat.le_of_ble_eq_true rfl⟩) (fun _ _ _ _ _ _ => trivial) (fun _ _ _ => trivial) rfl hl.1 (Nat.le_of_ble_eq_true rfl) rfl dX9_put_28 ⟨Nat.le_of_ble_eq_true rfl, Nat.le_of_ble_eq_true rfl⟩ (fun u_10 H locs hwu_10 hP hD hS => ?_)
  try dsimp only at hwu_10
  have hP : zP g [[dsk q d], [((d 11), .inl (g.2 4, 3, .inr (.inr (.inr (.inr (rA [s0, s1, s2]))))))], (storeW g s2 xs2 tt2 nn2 fa2 fb2 fp2)] H := hP
  have hD : zD A [[dsk q d], [((d 11), .inl (g.2 4, 3, .inr (.inr (.inr (.inr (rA [s0, s1, s2]))))))], (storeW g s2 xs2 tt2 nn2 fa2 fb2 fp2)] := hD
  refine z_toI (oU b (-9999) 9999) rfl ?_
  have hf_11 := oU_s b (-9999) 9999
  refine z_if_eq (tgt := 37) hx hb (by omega) dX9_put_31 (by decide) (fun cq12 => ?_) (fun cq12 => False.elim (by omega))
  refine lv_aload_n hx hb dX9_put_37 rfl (lv_at hl 0 rfl) ?_
  refine z_get hx hb hts hin9_ hown hK hP 0 rfl rfl 11 (by decide) (hts _ (List.mem_of_getElem? (i := 3) rfl)) rfl dX9_put_38 ?_
  refine lv_iload_n hx hb dX9_put_41 rfl (lv_at hl 1 rfl) ?_
  refine z_aald hx hb hK hP 1 4 rfl rfl 2 rfl (by decide) (by decide) s2 rfl dX9_put_42 ?_
  have j53 : W p l e (zRm 2 0 0) s m ([.ref q, vI 2, vI w, vI a, vI b] : List Value).toArray below meth c H locs (0) (0) (MQ below ((qi g (fun (_ : Unit) => (-2000000014)) (fun (_ : Unit) => True) (fun (_ : Unit) => [[dsk q d], [((d 11), .inl (g.2 4, 3, .inr (.inr (.inr (.inr (rA [s0, s1, s2]))))))], (storeW g s2 xs2 tt2 nn2 fa2 fb2 fp2)])) A) ([.ref q, vI 2, vI w, vI a, vI b] : List Value).toArray s 0 0 A) (F0 m 53 ls [vI w, .ref s2]) := by
    refine lv_iload_n hx hb dX9_put_53 rfl (lv_at hl 3 rfl) ?_
    refine lv_iload hx hb dX9_put_54 (lv_at hl 4 rfl) ?_
    refine z_cVi (As := [vI w, vI a, vI b]) (rest := []) ⟨hx, hb, hml, hown, hts⟩ hK hP hD hS hA [2] [0, 1] rfl rfl rfl (c_X6_push_room l g s2 xs2 tt2 nn2 fa2 fb2 fp2 w a b hs2 (by omega) (by omega) (by omega)) (cwV 3 hts gX9_put_X6_push rfl rfl rfl (by decide +kernel) ⟨Nat.le_of_ble_eq_true rfl, Nat.le_of_ble_eq_true rfl⟩) 6 0 rfl rfl rfl (fun _ _ _ _ _ _ => trivial) (fun _ _ _ => trivial) rfl hl.1 (Nat.le_of_ble_eq_true rfl) rfl dX9_put_56 ⟨Nat.le_of_ble_eq_true rfl, Nat.le_of_ble_eq_true rfl⟩ (fun u_13 H locs hwu_13 hP hD hS => ?_)
    try dsimp only at hwu_13
    have hP : zP g [[dsk q d], [((d 11), .inl (g.2 4, 3, .inr (.inr (.inr (.inr (rA [s0, s1, s2]))))))], (storeW g s2 xs2 tt2 nn2 fa2 fb2 fp2)] H := hP
    have hD : zD A [[dsk q d], [((d 11), .inl (g.2 4, 3, .inr (.inr (.inr (.inr (rA [s0, s1, s2]))))))], (storeW g s2 xs2 tt2 nn2 fa2 fb2 fp2)] := hD
    refine z_toI (-2000000014) rfl ?_
    exact z_reti () [0, 1, 2] hx hb hr rfl hlocks hK hP hD hS (rfl) trivial rfl rfl (rfl) (Nat.le_of_ble_eq_true rfl) (Nat.le_of_ble_eq_true rfl) dX9_put_59
  refine lv_iload_n hx hb dX9_put_43 rfl (lv_at hl 2 rfl) ?_
  refine z_iconst hx hb dX9_put_44 rfl ?_
  refine z_icmp_ne (tgt := 52) hx hb (by omega) (by decide) dX9_put_45 (by decide) (fun cq14 => ?_) (fun cq14 => ?_)
  · refine z_iconst hx hb dX9_put_52 rfl ?_
    refine z_toI w (by omega) ?_
    exact j53
  · refine z_iconst hx hb dX9_put_48 rfl ?_
    refine lv_goto (tgt := 53) hx hb dX9_put_49 (by decide) ?_
    refine z_toI w (by omega) ?_
    exact j53

set_option maxHeartbeats 4000000 in
set_option maxRecDepth 100000 in
theorem c_X9_put2_ok (l : Launch) (g : zG) (q : Nat) (d : Nat → Nat) (s0 : Nat) (s1 : Nat) (s2 : Nat) (xs2 : Nat → Nat) (tt2 : Int) (nn2 : Nat) (fa2 : Nat → Int) (fb2 : Nat → Int) (fp2 : Nat → Int) (w : Int) (a : Int) (b : Int) (hs2 : sok tt2 nn2 fp2) (hw : -2147483648 ≤ w ∧ w < 2147483648) (ha : -2147483648 ≤ a ∧ a < 2147483648) (hb_ : -2147483648 ≤ b ∧ b < 2147483648) (ho : (0 ≤ w ∧ w ≤ 1) ∧ (-9999 ≤ a ∧ a ≤ 9999) ∧ (-9999 ≤ b ∧ b ≤ 9999)) (ht : tt2 = 1) (hn : nn2 < 8) : zMet l g yX9_put wsX9_put 2 0 0 [.ref q, vI 2, vI w, vI a, vI b] zX0 [[dsk q d], [((d 11), .inl (g.2 4, 3, .inr (.inr (.inr (.inr (rA [s0, s1, s2]))))))], (storeW g s2 xs2 tt2 nn2 fa2 fb2 fp2)] (qi g (fun (_ : Unit) => (((nn2 + 1) : Nat) : Int)) (fun (_ : Unit) => True) (fun (_ : Unit) => [[dsk q d], [((d 11), .inl (g.2 4, 3, .inr (.inr (.inr (.inr (rA [s0, s1, s2]))))))], (storeW g s2 xs2 tt2 (nn2 + 1) (uI fa2 nn2 a) (uI fb2 nn2 (if w = 0 then 0 else b)) (uI fp2 nn2 w))])) := by
  refine z_ent (cc := cX9_put) (maxL := 5) (ret := (some .int)) (by decide) rfl (Nat.le_of_ble_eq_true rfl) ?_
  intro p e s m below meth c A ls hx hb hr hml hown hts hlocks hin0 hA hK hP hD hS hXX hl
  have hown : s.vm.findClass RX9 = some m.cls := hown
  have hin9_ : ∀ w ∈ wsX90, w ∈ wsX9_put := zw_in [26, 27, 28, 29, 30, 31, 32, 33, 34, 35, 36, 37] rfl
  have hl : lv_has ls 5 [(0, .ref q), (1, vI 2), (2, vI w), (3, vI a), (4, vI b)] := hl
  refine lv_iload_n hx hb dX9_put_0 rfl (lv_at hl 1 rfl) ?_
  refine z_cSi (As := [vI 2]) (rest := []) ⟨hx, hb, hml, hown, hts⟩ hK hP hD hS hA [] [0, 1, 2] rfl rfl rfl (c_X9_isNoStore l g 2 (by omega)) (va_cwS 1 hts gX9_put_X9_isNoStore rfl rfl rfl (by decide +kernel) ⟨Nat.le_of_ble_eq_true rfl, Nat.le_of_ble_eq_true rfl⟩) (fun _ _ _ _ _ _ => trivial) (fun _ _ _ => trivial) rfl hl.1 (Nat.le_of_ble_eq_true rfl) rfl dX9_put_1 ⟨Nat.le_of_ble_eq_true rfl, Nat.le_of_ble_eq_true rfl⟩ (fun u_1 H locs hwu_1 hP hD hS => ?_)
  try dsimp only at hwu_1
  have hP : zP g [[dsk q d], [((d 11), .inl (g.2 4, 3, .inr (.inr (.inr (.inr (rA [s0, s1, s2]))))))], (storeW g s2 xs2 tt2 nn2 fa2 fb2 fp2)] H := hP
  have hD : zD A [[dsk q d], [((d 11), .inl (g.2 4, 3, .inr (.inr (.inr (.inr (rA [s0, s1, s2]))))))], (storeW g s2 xs2 tt2 nn2 fa2 fb2 fp2)] := hD
  refine z_toI (oU 2 0 2) rfl ?_
  have hf_2 := oU_s 2 0 2
  refine z_if_eq (tgt := 10) hx hb (by omega) dX9_put_4 (by decide) (fun cq3 => ?_) (fun cq3 => False.elim (by omega))
  refine lv_iload_n hx hb dX9_put_10 rfl (lv_at hl 2 rfl) ?_
  refine z_iconst hx hb dX9_put_11 rfl ?_
  refine z_iconst hx hb dX9_put_12 rfl ?_
  refine z_cSi (As := [vI w, vI 0, vI 1]) (rest := []) ⟨hx, hb, hml, hown, hts⟩ hK hP hD hS hA [] [0, 1, 2] rfl rfl rfl (c_X9_isOutside l g w 0 1 (by first | assumption | omega | decide) (by first | assumption | omega | decide) (by first | assumption | omega | decide)) (va_cwS 3 hts gX9_put_X9_isOutside rfl rfl rfl (by decide +kernel) ⟨Nat.le_of_ble_eq_true rfl, Nat.le_of_ble_eq_true rfl⟩) (fun _ _ _ _ _ _ => trivial) (fun _ _ _ => trivial) rfl hl.1 (Nat.le_of_ble_eq_true rfl) rfl dX9_put_13 ⟨Nat.le_of_ble_eq_true rfl, Nat.le_of_ble_eq_true rfl⟩ (fun u_4 H locs hwu_4 hP hD hS => ?_)
  try dsimp only at hwu_4
  have hP : zP g [[dsk q d], [((d 11), .inl (g.2 4, 3, .inr (.inr (.inr (.inr (rA [s0, s1, s2]))))))], (storeW g s2 xs2 tt2 nn2 fa2 fb2 fp2)] H := hP
  have hD : zD A [[dsk q d], [((d 11), .inl (g.2 4, 3, .inr (.inr (.inr (.inr (rA [s0, s1, s2]))))))], (storeW g s2 xs2 tt2 nn2 fa2 fb2 fp2)] := hD
  refine z_toI (oU w 0 1) rfl ?_
  have hf_5 := oU_s w 0 1
  refine z_if_ne (tgt := 34) hx hb (by omega) dX9_put_16 (by decide) (fun cq6 => False.elim (by omega)) (fun cq6 => ?_)
  refine lv_iload_n hx hb dX9_put_19 rfl (lv_at hl 3 rfl) ?_
  refine z_cSi (As := [vI a]) (rest := []) ⟨hx, hb, hml, hown, hts⟩ hK hP hD hS hA [] [0, 1, 2] rfl rfl rfl (c_X9_isNoWhole l g a (by first | assumption | omega | decide)) (va_cwS 1 hts gX9_put_X9_isNoWhole rfl rfl rfl (by decide +kernel) ⟨Nat.le_of_ble_eq_true rfl, Nat.le_of_ble_eq_true rfl⟩) (fun _ _ _ _ _ _ => trivial) (fun _ _ _ => trivial) rfl hl.1 (Nat.le_of_ble_eq_true rfl) rfl dX9_put_20 ⟨Nat.le_of_ble_eq_true rfl, Nat.le_of_ble_eq_true rfl⟩ (fun u_7 H locs hwu_7 hP hD hS => ?_)
  try dsimp only at hwu_7
  have hP : zP g [[dsk q d], [((d 11), .inl (g.2 4, 3, .inr (.inr (.inr (.inr (rA [s0, s1, s2]))))))], (storeW g s2 xs2 tt2 nn2 fa2 fb2 fp2)] H := hP
  have hD : zD A [[dsk q d], [((d 11), .inl (g.2 4, 3, .inr (.inr (.inr (.inr (rA [s0, s1, s2]))))))], (storeW g s2 xs2 tt2 nn2 fa2 fb2 fp2)] := hD
  refine z_toI (oU a (-9999) 9999) rfl ?_
  have hf_8 := oU_s a (-9999) 9999
  refine z_if_ne (tgt := 34) hx hb (by omega) dX9_put_23 (by decide) (fun cq9 => False.elim (by omega)) (fun cq9 => ?_)
  refine lv_iload hx hb dX9_put_26 (lv_at hl 4 rfl) ?_
  refine z_cSi (As := [vI b]) (rest := []) ⟨hx, hb, hml, hown, hts⟩ hK hP hD hS hA [] [0, 1, 2] rfl rfl rfl (c_X9_isNoWhole l g b (by first | assumption | omega | decide)) (va_cwS 1 hts gX9_put_X9_isNoWhole rfl rfl rfl (by decide +kernel) ⟨Nat.le_of_ble_eq_true rfl, Nat.le_of_ble_eq_true rfl⟩) (fun _ _ _ _ _ _ => trivial) (fun _ _ _ => trivial) rfl hl.1 (Nat.le_of_ble_eq_true rfl) rfl dX9_put_28 ⟨Nat.le_of_ble_eq_true rfl, Nat.le_of_ble_eq_true rfl⟩ (fun u_10 H locs hwu_10 hP hD hS => ?_)
  try dsimp only at hwu_10
  have hP : zP g [[dsk q d], [((d 11), .inl (g.2 4, 3, .inr (.inr (.inr (.inr (rA [s0, s1, s2]))))))], (storeW g s2 xs2 tt2 nn2 fa2 fb2 fp2)] H := hP
  have hD : zD A [[dsk q d], [((d 11), .inl (g.2 4, 3, .inr (.inr (.inr (.inr (rA [s0, s1, s2]))))))], (storeW g s2 xs2 tt2 nn2 fa2 fb2 fp2)] := hD
  refine z_toI (oU b (-9999) 9999) rfl ?_
  have hf_11 := oU_s b (-9999) 9999
  refine z_if_eq (tgt := 37) hx hb (by omega) dX9_put_31 (by decide) (fun cq12 => ?_) (fun cq12 => False.elim (by omega))
  refine lv_aload_n hx hb dX9_put_37 rfl (lv_at hl 0 rfl) ?_
  refine z_get hx hb hts hin9_ hown hK hP 0 rfl rfl 11 (by decide) (hts _ (List.mem_of_getElem? (i := 3) rfl)) rfl dX9_put_38 ?_
  refine lv_iload_n hx hb dX9_put_41 rfl (lv_at hl 1 rfl) ?_
  refine z_aald hx hb hK hP 1 4 rfl rfl 2 rfl (by decide) (by decide) s2 rfl dX9_put_42 ?_
  have j53 : W p l e (zRm 2 0 0) s m ([.ref q, vI 2, vI w, vI a, vI b] : List Value).toArray below meth c H locs (0) (0) (MQ below ((qi g (fun (_ : Unit) => (((nn2 + 1) : Nat) : Int)) (fun (_ : Unit) => True) (fun (_ : Unit) => [[dsk q d], [((d 11), .inl (g.2 4, 3, .inr (.inr (.inr (.inr (rA [s0, s1, s2]))))))], (storeW g s2 xs2 tt2 (nn2 + 1) (uI fa2 nn2 a) (uI fb2 nn2 (if w = 0 then 0 else b)) (uI fp2 nn2 w))])) A) ([.ref q, vI 2, vI w, vI a, vI b] : List Value).toArray s 0 0 A) (F0 m 53 ls [vI w, .ref s2]) := by
    refine lv_iload_n hx hb dX9_put_53 rfl (lv_at hl 3 rfl) ?_
    refine lv_iload hx hb dX9_put_54 (lv_at hl 4 rfl) ?_
    refine z_cVi (As := [vI w, vI a, vI b]) (rest := []) ⟨hx, hb, hml, hown, hts⟩ hK hP hD hS hA [2] [0, 1] rfl rfl rfl (c_X6_push_ok l g s2 xs2 tt2 nn2 fa2 fb2 fp2 w a b hs2 (by omega) (by omega) (by omega)) (cwV 3 hts gX9_put_X6_push rfl rfl rfl (by decide +kernel) ⟨Nat.le_of_ble_eq_true rfl, Nat.le_of_ble_eq_true rfl⟩) 6 0 rfl rfl rfl (fun _ _ _ _ _ _ => trivial) (fun _ _ _ => trivial) rfl hl.1 (Nat.le_of_ble_eq_true rfl) rfl dX9_put_56 ⟨Nat.le_of_ble_eq_true rfl, Nat.le_of_ble_eq_true rfl⟩ (fun u_13 H locs hwu_13 hP hD hS => ?_)
    try dsimp only at hwu_13
    have hP : zP g [[dsk q d], [((d 11), .inl (g.2 4, 3, .inr (.inr (.inr (.inr (rA [s0, s1, s2]))))))], (storeW g s2 xs2 tt2 (nn2 + 1) (uI fa2 nn2 a) (uI fb2 nn2 (if w = 0 then 0 else b)) (uI fp2 nn2 w))] H := hP
    have hD : zD A [[dsk q d], [((d 11), .inl (g.2 4, 3, .inr (.inr (.inr (.inr (rA [s0, s1, s2]))))))], (storeW g s2 xs2 tt2 (nn2 + 1) (uI fa2 nn2 a) (uI fb2 nn2 (if w = 0 then 0 else b)) (uI fp2 nn2 w))] := hD
    refine z_toI (((nn2 + 1) : Nat) : Int) rfl ?_
    exact z_reti () [0, 1, 2] hx hb hr rfl hlocks hK hP hD hS (rfl) trivial rfl rfl (rfl) (Nat.le_of_ble_eq_true rfl) (Nat.le_of_ble_eq_true rfl) dX9_put_59
  refine lv_iload_n hx hb dX9_put_43 rfl (lv_at hl 2 rfl) ?_
  refine z_iconst hx hb dX9_put_44 rfl ?_
  refine z_icmp_ne (tgt := 52) hx hb (by omega) (by decide) dX9_put_45 (by decide) (fun cq14 => ?_) (fun cq14 => ?_)
  · refine z_iconst hx hb dX9_put_52 rfl ?_
    refine z_toI w (by omega) ?_
    exact j53
  · refine z_iconst hx hb dX9_put_48 rfl ?_
    refine lv_goto (tgt := 53) hx hb dX9_put_49 (by decide) ?_
    refine z_toI w (by omega) ?_
    exact j53

set_option maxHeartbeats 4000000 in
set_option maxRecDepth 100000 in
theorem c_X9_take_unk (l : Launch) (g : zG) (q : Nat) (d : Nat → Nat) (i : Int) (w : Int) (hi : -2147483648 ≤ i ∧ i < 2147483648) (hw : -2147483648 ≤ w ∧ w < 2147483648) (hu : ¬ (0 ≤ i ∧ i ≤ 2)) : zMet l g yX9_take wsX9_take 2 0 0 [.ref q, vI i, vI w] zX0 [[dsk q d]] (qi g (fun (_ : Unit) => (-2000000001)) (fun (_ : Unit) => True) (fun (_ : Unit) => [[dsk q d]])) := by
  refine z_ent (cc := cX9_take) (maxL := 3) (ret := (some .int)) (by decide) rfl (Nat.le_of_ble_eq_true rfl) ?_
  intro p e s m below meth c A ls hx hb hr hml hown hts hlocks hin0 hA hK hP hD hS hXX hl
  have hown : s.vm.findClass RX9 = some m.cls := hown
  have hl : lv_has ls 3 [(0, .ref q), (1, vI i), (2, vI w)] := hl
  refine lv_iload_n hx hb dX9_take_0 rfl (lv_at hl 1 rfl) ?_
  refine z_cSi (As := [vI i]) (rest := []) ⟨hx, hb, hml, hown, hts⟩ hK hP hD hS hA [] [0] rfl rfl rfl (c_X9_isNoStore l g i (by first | assumption | omega | decide)) (va_cwS 1 hts gX9_take_X9_isNoStore rfl rfl rfl (by decide +kernel) ⟨Nat.le_of_ble_eq_true rfl, Nat.le_of_ble_eq_true rfl⟩) (fun _ _ _ _ _ _ => trivial) (fun _ _ _ => trivial) rfl hl.1 (Nat.le_of_ble_eq_true rfl) rfl dX9_take_1 ⟨Nat.le_of_ble_eq_true rfl, Nat.le_of_ble_eq_true rfl⟩ (fun u_1 H locs hwu_1 hP hD hS => ?_)
  try dsimp only at hwu_1
  have hP : zP g [[dsk q d]] H := hP
  have hD : zD A [[dsk q d]] := hD
  refine z_toI (oU i 0 2) rfl ?_
  have hf_2 := oU_s i 0 2
  refine z_if_eq (tgt := 10) hx hb (by omega) dX9_take_4 (by decide) (fun cq3 => False.elim (by omega)) (fun cq3 => ?_)
  refine z_ldc hx hb (-2000000001) hown (hts _ (List.mem_of_getElem? (i := 1) rfl)) rfl dX9_take_7 ?_
  exact z_reti () [0] hx hb hr rfl hlocks hK hP hD hS (rfl) trivial rfl rfl (rfl) (Nat.le_of_ble_eq_true rfl) (Nat.le_of_ble_eq_true rfl) dX9_take_9

set_option maxHeartbeats 4000000 in
set_option maxRecDepth 100000 in
theorem c_X9_take_out (l : Launch) (g : zG) (q : Nat) (d : Nat → Nat) (i : Int) (w : Int) (hi : -2147483648 ≤ i ∧ i < 2147483648) (hw : -2147483648 ≤ w ∧ w < 2147483648) (hu : 0 ≤ i ∧ i ≤ 2) (ho : ¬ (0 ≤ w ∧ w ≤ 1)) : zMet l g yX9_take wsX9_take 2 0 0 [.ref q, vI i, vI w] zX0 [[dsk q d]] (qi g (fun (_ : Unit) => (-2000000002)) (fun (_ : Unit) => True) (fun (_ : Unit) => [[dsk q d]])) := by
  refine z_ent (cc := cX9_take) (maxL := 3) (ret := (some .int)) (by decide) rfl (Nat.le_of_ble_eq_true rfl) ?_
  intro p e s m below meth c A ls hx hb hr hml hown hts hlocks hin0 hA hK hP hD hS hXX hl
  have hown : s.vm.findClass RX9 = some m.cls := hown
  have hl : lv_has ls 3 [(0, .ref q), (1, vI i), (2, vI w)] := hl
  refine lv_iload_n hx hb dX9_take_0 rfl (lv_at hl 1 rfl) ?_
  refine z_cSi (As := [vI i]) (rest := []) ⟨hx, hb, hml, hown, hts⟩ hK hP hD hS hA [] [0] rfl rfl rfl (c_X9_isNoStore l g i (by first | assumption | omega | decide)) (va_cwS 1 hts gX9_take_X9_isNoStore rfl rfl rfl (by decide +kernel) ⟨Nat.le_of_ble_eq_true rfl, Nat.le_of_ble_eq_true rfl⟩) (fun _ _ _ _ _ _ => trivial) (fun _ _ _ => trivial) rfl hl.1 (Nat.le_of_ble_eq_true rfl) rfl dX9_take_1 ⟨Nat.le_of_ble_eq_true rfl, Nat.le_of_ble_eq_true rfl⟩ (fun u_1 H locs hwu_1 hP hD hS => ?_)
  try dsimp only at hwu_1
  have hP : zP g [[dsk q d]] H := hP
  have hD : zD A [[dsk q d]] := hD
  refine z_toI (oU i 0 2) rfl ?_
  have hf_2 := oU_s i 0 2
  refine z_if_eq (tgt := 10) hx hb (by omega) dX9_take_4 (by decide) (fun cq3 => ?_) (fun cq3 => False.elim (by omega))
  refine lv_iload_n hx hb dX9_take_10 rfl (lv_at hl 2 rfl) ?_
  refine z_iconst hx hb dX9_take_11 rfl ?_
  refine z_iconst hx hb dX9_take_12 rfl ?_
  refine z_cSi (As := [vI w, vI 0, vI 1]) (rest := []) ⟨hx, hb, hml, hown, hts⟩ hK hP hD hS hA [] [0] rfl rfl rfl (c_X9_isOutside l g w 0 1 (by first | assumption | omega | decide) (by first | assumption | omega | decide) (by first | assumption | omega | decide)) (va_cwS 3 hts gX9_take_X9_isOutside rfl rfl rfl (by decide +kernel) ⟨Nat.le_of_ble_eq_true rfl, Nat.le_of_ble_eq_true rfl⟩) (fun _ _ _ _ _ _ => trivial) (fun _ _ _ => trivial) rfl hl.1 (Nat.le_of_ble_eq_true rfl) rfl dX9_take_13 ⟨Nat.le_of_ble_eq_true rfl, Nat.le_of_ble_eq_true rfl⟩ (fun u_4 H locs hwu_4 hP hD hS => ?_)
  try dsimp only at hwu_4
  have hP : zP g [[dsk q d]] H := hP
  have hD : zD A [[dsk q d]] := hD
  refine z_toI (oU w 0 1) rfl ?_
  have hf_5 := oU_s w 0 1
  refine z_if_eq (tgt := 24) hx hb (by omega) dX9_take_16 (by decide) (fun cq6 => False.elim (by omega)) (fun cq6 => ?_)
  refine z_ldc hx hb (-2000000002) hown (hts _ (List.mem_of_getElem? (i := 2) rfl)) rfl dX9_take_19 ?_
  refine lv_goto (tgt := 43) hx hb dX9_take_21 (by decide) ?_
  exact z_reti () [0] hx hb hr rfl hlocks hK hP hD hS (rfl) trivial rfl rfl (rfl) (Nat.le_of_ble_eq_true rfl) (Nat.le_of_ble_eq_true rfl) dX9_take_43

set_option maxHeartbeats 4000000 in
set_option maxRecDepth 100000 in
theorem c_X9_sum_unk (l : Launch) (g : zG) (q : Nat) (d : Nat → Nat) (i : Int) (w : Int) (hi : -2147483648 ≤ i ∧ i < 2147483648) (hw : -2147483648 ≤ w ∧ w < 2147483648) (hu : ¬ (0 ≤ i ∧ i ≤ 2)) : zMet l g yX9_sum wsX9_sum 2 0 0 [.ref q, vI i, vI w] zX0 [[dsk q d]] (qi g (fun (_ : Unit) => (-2000000001)) (fun (_ : Unit) => True) (fun (_ : Unit) => [[dsk q d]])) := by
  refine z_ent (cc := cX9_sum) (maxL := 3) (ret := (some .int)) (by decide) rfl (Nat.le_of_ble_eq_true rfl) ?_
  intro p e s m below meth c A ls hx hb hr hml hown hts hlocks hin0 hA hK hP hD hS hXX hl
  have hown : s.vm.findClass RX9 = some m.cls := hown
  have hl : lv_has ls 3 [(0, .ref q), (1, vI i), (2, vI w)] := hl
  refine lv_iload_n hx hb dX9_sum_0 rfl (lv_at hl 1 rfl) ?_
  refine z_cSi (As := [vI i]) (rest := []) ⟨hx, hb, hml, hown, hts⟩ hK hP hD hS hA [] [0] rfl rfl rfl (c_X9_isNoStore l g i (by first | assumption | omega | decide)) (va_cwS 1 hts gX9_sum_X9_isNoStore rfl rfl rfl (by decide +kernel) ⟨Nat.le_of_ble_eq_true rfl, Nat.le_of_ble_eq_true rfl⟩) (fun _ _ _ _ _ _ => trivial) (fun _ _ _ => trivial) rfl hl.1 (Nat.le_of_ble_eq_true rfl) rfl dX9_sum_1 ⟨Nat.le_of_ble_eq_true rfl, Nat.le_of_ble_eq_true rfl⟩ (fun u_1 H locs hwu_1 hP hD hS => ?_)
  try dsimp only at hwu_1
  have hP : zP g [[dsk q d]] H := hP
  have hD : zD A [[dsk q d]] := hD
  refine z_toI (oU i 0 2) rfl ?_
  have hf_2 := oU_s i 0 2
  refine z_if_eq (tgt := 10) hx hb (by omega) dX9_sum_4 (by decide) (fun cq3 => False.elim (by omega)) (fun cq3 => ?_)
  refine z_ldc hx hb (-2000000001) hown (hts _ (List.mem_of_getElem? (i := 1) rfl)) rfl dX9_sum_7 ?_
  exact z_reti () [0] hx hb hr rfl hlocks hK hP hD hS (rfl) trivial rfl rfl (rfl) (Nat.le_of_ble_eq_true rfl) (Nat.le_of_ble_eq_true rfl) dX9_sum_9

set_option maxHeartbeats 4000000 in
set_option maxRecDepth 100000 in
theorem c_X9_sum_out (l : Launch) (g : zG) (q : Nat) (d : Nat → Nat) (i : Int) (w : Int) (hi : -2147483648 ≤ i ∧ i < 2147483648) (hw : -2147483648 ≤ w ∧ w < 2147483648) (hu : 0 ≤ i ∧ i ≤ 2) (ho : ¬ (0 ≤ w ∧ w ≤ 2)) : zMet l g yX9_sum wsX9_sum 2 0 0 [.ref q, vI i, vI w] zX0 [[dsk q d]] (qi g (fun (_ : Unit) => (-2000000002)) (fun (_ : Unit) => True) (fun (_ : Unit) => [[dsk q d]])) := by
  refine z_ent (cc := cX9_sum) (maxL := 3) (ret := (some .int)) (by decide) rfl (Nat.le_of_ble_eq_true rfl) ?_
  intro p e s m below meth c A ls hx hb hr hml hown hts hlocks hin0 hA hK hP hD hS hXX hl
  have hown : s.vm.findClass RX9 = some m.cls := hown
  have hl : lv_has ls 3 [(0, .ref q), (1, vI i), (2, vI w)] := hl
  refine lv_iload_n hx hb dX9_sum_0 rfl (lv_at hl 1 rfl) ?_
  refine z_cSi (As := [vI i]) (rest := []) ⟨hx, hb, hml, hown, hts⟩ hK hP hD hS hA [] [0] rfl rfl rfl (c_X9_isNoStore l g i (by first | assumption | omega | decide)) (va_cwS 1 hts gX9_sum_X9_isNoStore rfl rfl rfl (by decide +kernel) ⟨Nat.le_of_ble_eq_true rfl, Nat.le_of_ble_eq_true rfl⟩) (fun _ _ _ _ _ _ => trivial) (fun _ _ _ => trivial) rfl hl.1 (Nat.le_of_ble_eq_true rfl) rfl dX9_sum_1 ⟨Nat.le_of_ble_eq_true rfl, Nat.le_of_ble_eq_true rfl⟩ (fun u_1 H locs hwu_1 hP hD hS => ?_)
  try dsimp only at hwu_1
  have hP : zP g [[dsk q d]] H := hP
  have hD : zD A [[dsk q d]] := hD
  refine z_toI (oU i 0 2) rfl ?_
  have hf_2 := oU_s i 0 2
  refine z_if_eq (tgt := 10) hx hb (by omega) dX9_sum_4 (by decide) (fun cq3 => ?_) (fun cq3 => False.elim (by omega))
  refine lv_iload_n hx hb dX9_sum_10 rfl (lv_at hl 2 rfl) ?_
  refine z_iconst hx hb dX9_sum_11 rfl ?_
  refine z_iconst hx hb dX9_sum_12 rfl ?_
  refine z_cSi (As := [vI w, vI 0, vI 2]) (rest := []) ⟨hx, hb, hml, hown, hts⟩ hK hP hD hS hA [] [0] rfl rfl rfl (c_X9_isOutside l g w 0 2 (by first | assumption | omega | decide) (by first | assumption | omega | decide) (by first | assumption | omega | decide)) (va_cwS 3 hts gX9_sum_X9_isOutside rfl rfl rfl (by decide +kernel) ⟨Nat.le_of_ble_eq_true rfl, Nat.le_of_ble_eq_true rfl⟩) (fun _ _ _ _ _ _ => trivial) (fun _ _ _ => trivial) rfl hl.1 (Nat.le_of_ble_eq_true rfl) rfl dX9_sum_13 ⟨Nat.le_of_ble_eq_true rfl, Nat.le_of_ble_eq_true rfl⟩ (fun u_4 H locs hwu_4 hP hD hS => ?_)
  try dsimp only at hwu_4
  have hP : zP g [[dsk q d]] H := hP
  have hD : zD A [[dsk q d]] := hD
  refine z_toI (oU w 0 2) rfl ?_
  have hf_5 := oU_s w 0 2
  refine z_if_eq (tgt := 24) hx hb (by omega) dX9_sum_16 (by decide) (fun cq6 => False.elim (by omega)) (fun cq6 => ?_)
  refine z_ldc hx hb (-2000000002) hown (hts _ (List.mem_of_getElem? (i := 2) rfl)) rfl dX9_sum_19 ?_
  refine lv_goto (tgt := 34) hx hb dX9_sum_21 (by decide) ?_
  exact z_reti () [0] hx hb hr rfl hlocks hK hP hD hS (rfl) trivial rfl rfl (rfl) (Nat.le_of_ble_eq_true rfl) (Nat.le_of_ble_eq_true rfl) dX9_sum_34

set_option maxHeartbeats 4000000 in
set_option maxRecDepth 100000 in
theorem c_X9_take0_null (l : Launch) (g : zG) (q : Nat) (d : Nat → Nat) (s0 : Nat) (s1 : Nat) (s2 : Nat) (xs0 : Nat → Nat) (tt0 : Int) (nn0 : Nat) (fa0 : Nat → Int) (fb0 : Nat → Int) (fp0 : Nat → Int) (w : Int) (hs0 : sok tt0 nn0 fp0) (hw : -2147483648 ≤ w ∧ w < 2147483648) (ho : 0 ≤ w ∧ w ≤ 1) (ht : tt0 = 0) : zMet l g yX9_take wsX9_take 2 0 0 [.ref q, vI 0, vI w] zX0 [[dsk q d], [((d 11), .inl (g.2 4, 3, .inr (.inr (.inr (.inr (rA [s0, s1, s2]))))))], (storeW g s0 xs0 tt0 nn0 fa0 fb0 fp0)] (qi g (fun (_ : Unit) => (-2000000011)) (fun (_ : Unit) => True) (fun (_ : Unit) => [[dsk q d], [((d 11), .inl (g.2 4, 3, .inr (.inr (.inr (.inr (rA [s0, s1, s2]))))))], (storeW g s0 xs0 tt0 nn0 fa0 fb0 fp0)])) := by
  refine z_ent (cc := cX9_take) (maxL := 3) (ret := (some .int)) (by decide) rfl (Nat.le_of_ble_eq_true rfl) ?_
  intro p e s m below meth c A ls hx hb hr hml hown hts hlocks hin0 hA hK hP hD hS hXX hl
  have hown : s.vm.findClass RX9 = some m.cls := hown
  have hin9_ : ∀ w ∈ wsX90, w ∈ wsX9_take := zw_in [24, 25, 26, 27, 28, 29, 30, 31, 32, 33, 34, 35] rfl
  have hl : lv_has ls 3 [(0, .ref q), (1, vI 0), (2, vI w)] := hl
  refine lv_iload_n hx hb dX9_take_0 rfl (lv_at hl 1 rfl) ?_
  refine z_cSi (As := [vI 0]) (rest := []) ⟨hx, hb, hml, hown, hts⟩ hK hP hD hS hA [] [0, 1, 2] rfl rfl rfl (c_X9_isNoStore l g 0 (by omega)) (va_cwS 1 hts gX9_take_X9_isNoStore rfl rfl rfl (by decide +kernel) ⟨Nat.le_of_ble_eq_true rfl, Nat.le_of_ble_eq_true rfl⟩) (fun _ _ _ _ _ _ => trivial) (fun _ _ _ => trivial) rfl hl.1 (Nat.le_of_ble_eq_true rfl) rfl dX9_take_1 ⟨Nat.le_of_ble_eq_true rfl, Nat.le_of_ble_eq_true rfl⟩ (fun u_1 H locs hwu_1 hP hD hS => ?_)
  try dsimp only at hwu_1
  have hP : zP g [[dsk q d], [((d 11), .inl (g.2 4, 3, .inr (.inr (.inr (.inr (rA [s0, s1, s2]))))))], (storeW g s0 xs0 tt0 nn0 fa0 fb0 fp0)] H := hP
  have hD : zD A [[dsk q d], [((d 11), .inl (g.2 4, 3, .inr (.inr (.inr (.inr (rA [s0, s1, s2]))))))], (storeW g s0 xs0 tt0 nn0 fa0 fb0 fp0)] := hD
  refine z_toI (oU 0 0 2) rfl ?_
  have hf_2 := oU_s 0 0 2
  refine z_if_eq (tgt := 10) hx hb (by omega) dX9_take_4 (by decide) (fun cq3 => ?_) (fun cq3 => False.elim (by omega))
  refine lv_iload_n hx hb dX9_take_10 rfl (lv_at hl 2 rfl) ?_
  refine z_iconst hx hb dX9_take_11 rfl ?_
  refine z_iconst hx hb dX9_take_12 rfl ?_
  refine z_cSi (As := [vI w, vI 0, vI 1]) (rest := []) ⟨hx, hb, hml, hown, hts⟩ hK hP hD hS hA [] [0, 1, 2] rfl rfl rfl (c_X9_isOutside l g w 0 1 (by first | assumption | omega | decide) (by first | assumption | omega | decide) (by first | assumption | omega | decide)) (va_cwS 3 hts gX9_take_X9_isOutside rfl rfl rfl (by decide +kernel) ⟨Nat.le_of_ble_eq_true rfl, Nat.le_of_ble_eq_true rfl⟩) (fun _ _ _ _ _ _ => trivial) (fun _ _ _ => trivial) rfl hl.1 (Nat.le_of_ble_eq_true rfl) rfl dX9_take_13 ⟨Nat.le_of_ble_eq_true rfl, Nat.le_of_ble_eq_true rfl⟩ (fun u_4 H locs hwu_4 hP hD hS => ?_)
  try dsimp only at hwu_4
  have hP : zP g [[dsk q d], [((d 11), .inl (g.2 4, 3, .inr (.inr (.inr (.inr (rA [s0, s1, s2]))))))], (storeW g s0 xs0 tt0 nn0 fa0 fb0 fp0)] H := hP
  have hD : zD A [[dsk q d], [((d 11), .inl (g.2 4, 3, .inr (.inr (.inr (.inr (rA [s0, s1, s2]))))))], (storeW g s0 xs0 tt0 nn0 fa0 fb0 fp0)] := hD
  refine z_toI (oU w 0 1) rfl ?_
  have hf_5 := oU_s w 0 1
  refine z_if_eq (tgt := 24) hx hb (by omega) dX9_take_16 (by decide) (fun cq6 => ?_) (fun cq6 => False.elim (by omega))
  refine lv_aload_n hx hb dX9_take_24 rfl (lv_at hl 0 rfl) ?_
  refine z_get hx hb hts hin9_ hown hK hP 0 rfl rfl 11 (by decide) (hts _ (List.mem_of_getElem? (i := 3) rfl)) rfl dX9_take_25 ?_
  refine lv_iload_n hx hb dX9_take_28 rfl (lv_at hl 1 rfl) ?_
  refine z_aald hx hb hK hP 1 4 rfl rfl 0 rfl (by decide) (by decide) s0 rfl dX9_take_29 ?_
  have j40 : W p l e (zRm 2 0 0) s m ([.ref q, vI 0, vI w] : List Value).toArray below meth c H locs (0) (0) (MQ below ((qi g (fun (_ : Unit) => (-2000000011)) (fun (_ : Unit) => True) (fun (_ : Unit) => [[dsk q d], [((d 11), .inl (g.2 4, 3, .inr (.inr (.inr (.inr (rA [s0, s1, s2]))))))], (storeW g s0 xs0 tt0 nn0 fa0 fb0 fp0)])) A) ([.ref q, vI 0, vI w] : List Value).toArray s 0 0 A) (F0 m 40 ls [vI w, .ref s0]) := by
    refine z_cVi (As := [vI w]) (rest := []) ⟨hx, hb, hml, hown, hts⟩ hK hP hD hS hA [2] [0, 1] rfl rfl rfl (c_X6_pop_null l g s0 xs0 tt0 nn0 fa0 fb0 fp0 w hs0 (by omega) (by omega)) (cwV 1 hts gX9_take_X6_pop rfl rfl rfl (by decide +kernel) ⟨Nat.le_of_ble_eq_true rfl, Nat.le_of_ble_eq_true rfl⟩) 6 0 rfl rfl rfl (fun _ _ _ _ _ _ => trivial) (fun _ _ _ => trivial) rfl hl.1 (Nat.le_of_ble_eq_true rfl) rfl dX9_take_40 ⟨Nat.le_of_ble_eq_true rfl, Nat.le_of_ble_eq_true rfl⟩ (fun u_7 H locs hwu_7 hP hD hS => ?_)
    try dsimp only at hwu_7
    have hP : zP g [[dsk q d], [((d 11), .inl (g.2 4, 3, .inr (.inr (.inr (.inr (rA [s0, s1, s2]))))))], (storeW g s0 xs0 tt0 nn0 fa0 fb0 fp0)] H := hP
    have hD : zD A [[dsk q d], [((d 11), .inl (g.2 4, 3, .inr (.inr (.inr (.inr (rA [s0, s1, s2]))))))], (storeW g s0 xs0 tt0 nn0 fa0 fb0 fp0)] := hD
    refine z_toI (-2000000011) rfl ?_
    exact z_reti () [0, 1, 2] hx hb hr rfl hlocks hK hP hD hS (rfl) trivial rfl rfl (rfl) (Nat.le_of_ble_eq_true rfl) (Nat.le_of_ble_eq_true rfl) dX9_take_43
  refine lv_iload_n hx hb dX9_take_30 rfl (lv_at hl 2 rfl) ?_
  refine z_iconst hx hb dX9_take_31 rfl ?_
  refine z_icmp_ne (tgt := 39) hx hb (by omega) (by decide) dX9_take_32 (by decide) (fun cq8 => ?_) (fun cq8 => ?_)
  · refine z_iconst hx hb dX9_take_39 rfl ?_
    refine z_toI w (by omega) ?_
    exact j40
  · refine z_iconst hx hb dX9_take_35 rfl ?_
    refine lv_goto (tgt := 40) hx hb dX9_take_36 (by decide) ?_
    refine z_toI w (by omega) ?_
    exact j40

set_option maxHeartbeats 4000000 in
set_option maxRecDepth 100000 in
theorem c_X9_take0_empty (l : Launch) (g : zG) (q : Nat) (d : Nat → Nat) (s0 : Nat) (s1 : Nat) (s2 : Nat) (xs0 : Nat → Nat) (tt0 : Int) (nn0 : Nat) (fa0 : Nat → Int) (fb0 : Nat → Int) (fp0 : Nat → Int) (w : Int) (hs0 : sok tt0 nn0 fp0) (hw : -2147483648 ≤ w ∧ w < 2147483648) (ho : 0 ≤ w ∧ w ≤ 1) (ht : tt0 = 1) (hn : nn0 = 0) : zMet l g yX9_take wsX9_take 2 0 0 [.ref q, vI 0, vI w] zX0 [[dsk q d], [((d 11), .inl (g.2 4, 3, .inr (.inr (.inr (.inr (rA [s0, s1, s2]))))))], (storeW g s0 xs0 tt0 nn0 fa0 fb0 fp0)] (qi g (fun (_ : Unit) => (-2000000012)) (fun (_ : Unit) => True) (fun (_ : Unit) => [[dsk q d], [((d 11), .inl (g.2 4, 3, .inr (.inr (.inr (.inr (rA [s0, s1, s2]))))))], (storeW g s0 xs0 tt0 nn0 fa0 fb0 fp0)])) := by
  refine z_ent (cc := cX9_take) (maxL := 3) (ret := (some .int)) (by decide) rfl (Nat.le_of_ble_eq_true rfl) ?_
  intro p e s m below meth c A ls hx hb hr hml hown hts hlocks hin0 hA hK hP hD hS hXX hl
  have hown : s.vm.findClass RX9 = some m.cls := hown
  have hin9_ : ∀ w ∈ wsX90, w ∈ wsX9_take := zw_in [24, 25, 26, 27, 28, 29, 30, 31, 32, 33, 34, 35] rfl
  have hl : lv_has ls 3 [(0, .ref q), (1, vI 0), (2, vI w)] := hl
  refine lv_iload_n hx hb dX9_take_0 rfl (lv_at hl 1 rfl) ?_
  refine z_cSi (As := [vI 0]) (rest := []) ⟨hx, hb, hml, hown, hts⟩ hK hP hD hS hA [] [0, 1, 2] rfl rfl rfl (c_X9_isNoStore l g 0 (by omega)) (va_cwS 1 hts gX9_take_X9_isNoStore rfl rfl rfl (by decide +kernel) ⟨Nat.le_of_ble_eq_true rfl, Nat.le_of_ble_eq_true rfl⟩) (fun _ _ _ _ _ _ => trivial) (fun _ _ _ => trivial) rfl hl.1 (Nat.le_of_ble_eq_true rfl) rfl dX9_take_1 ⟨Nat.le_of_ble_eq_true rfl, Nat.le_of_ble_eq_true rfl⟩ (fun u_1 H locs hwu_1 hP hD hS => ?_)
  try dsimp only at hwu_1
  have hP : zP g [[dsk q d], [((d 11), .inl (g.2 4, 3, .inr (.inr (.inr (.inr (rA [s0, s1, s2]))))))], (storeW g s0 xs0 tt0 nn0 fa0 fb0 fp0)] H := hP
  have hD : zD A [[dsk q d], [((d 11), .inl (g.2 4, 3, .inr (.inr (.inr (.inr (rA [s0, s1, s2]))))))], (storeW g s0 xs0 tt0 nn0 fa0 fb0 fp0)] := hD
  refine z_toI (oU 0 0 2) rfl ?_
  have hf_2 := oU_s 0 0 2
  refine z_if_eq (tgt := 10) hx hb (by omega) dX9_take_4 (by decide) (fun cq3 => ?_) (fun cq3 => False.elim (by omega))
  refine lv_iload_n hx hb dX9_take_10 rfl (lv_at hl 2 rfl) ?_
  refine z_iconst hx hb dX9_take_11 rfl ?_
  refine z_iconst hx hb dX9_take_12 rfl ?_
  refine z_cSi (As := [vI w, vI 0, vI 1]) (rest := []) ⟨hx, hb, hml, hown, hts⟩ hK hP hD hS hA [] [0, 1, 2] rfl rfl rfl (c_X9_isOutside l g w 0 1 (by first | assumption | omega | decide) (by first | assumption | omega | decide) (by first | assumption | omega | decide)) (va_cwS 3 hts gX9_take_X9_isOutside rfl rfl rfl (by decide +kernel) ⟨Nat.le_of_ble_eq_true rfl, Nat.le_of_ble_eq_true rfl⟩) (fun _ _ _ _ _ _ => trivial) (fun _ _ _ => trivial) rfl hl.1 (Nat.le_of_ble_eq_true rfl) rfl dX9_take_13 ⟨Nat.le_of_ble_eq_true rfl, Nat.le_of_ble_eq_true rfl⟩ (fun u_4 H locs hwu_4 hP hD hS => ?_)
  try dsimp only at hwu_4
  have hP : zP g [[dsk q d], [((d 11), .inl (g.2 4, 3, .inr (.inr (.inr (.inr (rA [s0, s1, s2]))))))], (storeW g s0 xs0 tt0 nn0 fa0 fb0 fp0)] H := hP
  have hD : zD A [[dsk q d], [((d 11), .inl (g.2 4, 3, .inr (.inr (.inr (.inr (rA [s0, s1, s2]))))))], (storeW g s0 xs0 tt0 nn0 fa0 fb0 fp0)] := hD
  refine z_toI (oU w 0 1) rfl ?_
  have hf_5 := oU_s w 0 1
  refine z_if_eq (tgt := 24) hx hb (by omega) dX9_take_16 (by decide) (fun cq6 => ?_) (fun cq6 => False.elim (by omega))
  refine lv_aload_n hx hb dX9_take_24 rfl (lv_at hl 0 rfl) ?_
  refine z_get hx hb hts hin9_ hown hK hP 0 rfl rfl 11 (by decide) (hts _ (List.mem_of_getElem? (i := 3) rfl)) rfl dX9_take_25 ?_
  refine lv_iload_n hx hb dX9_take_28 rfl (lv_at hl 1 rfl) ?_
  refine z_aald hx hb hK hP 1 4 rfl rfl 0 rfl (by decide) (by decide) s0 rfl dX9_take_29 ?_
  have j40 : W p l e (zRm 2 0 0) s m ([.ref q, vI 0, vI w] : List Value).toArray below meth c H locs (0) (0) (MQ below ((qi g (fun (_ : Unit) => (-2000000012)) (fun (_ : Unit) => True) (fun (_ : Unit) => [[dsk q d], [((d 11), .inl (g.2 4, 3, .inr (.inr (.inr (.inr (rA [s0, s1, s2]))))))], (storeW g s0 xs0 tt0 nn0 fa0 fb0 fp0)])) A) ([.ref q, vI 0, vI w] : List Value).toArray s 0 0 A) (F0 m 40 ls [vI w, .ref s0]) := by
    refine z_cVi (As := [vI w]) (rest := []) ⟨hx, hb, hml, hown, hts⟩ hK hP hD hS hA [2] [0, 1] rfl rfl rfl (c_X6_pop_empty l g s0 xs0 tt0 nn0 fa0 fb0 fp0 w hs0 (by omega) (by omega) (by omega)) (cwV 1 hts gX9_take_X6_pop rfl rfl rfl (by decide +kernel) ⟨Nat.le_of_ble_eq_true rfl, Nat.le_of_ble_eq_true rfl⟩) 6 0 rfl rfl rfl (fun _ _ _ _ _ _ => trivial) (fun _ _ _ => trivial) rfl hl.1 (Nat.le_of_ble_eq_true rfl) rfl dX9_take_40 ⟨Nat.le_of_ble_eq_true rfl, Nat.le_of_ble_eq_true rfl⟩ (fun u_7 H locs hwu_7 hP hD hS => ?_)
    try dsimp only at hwu_7
    have hP : zP g [[dsk q d], [((d 11), .inl (g.2 4, 3, .inr (.inr (.inr (.inr (rA [s0, s1, s2]))))))], (storeW g s0 xs0 tt0 nn0 fa0 fb0 fp0)] H := hP
    have hD : zD A [[dsk q d], [((d 11), .inl (g.2 4, 3, .inr (.inr (.inr (.inr (rA [s0, s1, s2]))))))], (storeW g s0 xs0 tt0 nn0 fa0 fb0 fp0)] := hD
    refine z_toI (-2000000012) rfl ?_
    exact z_reti () [0, 1, 2] hx hb hr rfl hlocks hK hP hD hS (rfl) trivial rfl rfl (rfl) (Nat.le_of_ble_eq_true rfl) (Nat.le_of_ble_eq_true rfl) dX9_take_43
  refine lv_iload_n hx hb dX9_take_30 rfl (lv_at hl 2 rfl) ?_
  refine z_iconst hx hb dX9_take_31 rfl ?_
  refine z_icmp_ne (tgt := 39) hx hb (by omega) (by decide) dX9_take_32 (by decide) (fun cq8 => ?_) (fun cq8 => ?_)
  · refine z_iconst hx hb dX9_take_39 rfl ?_
    refine z_toI w (by omega) ?_
    exact j40
  · refine z_iconst hx hb dX9_take_35 rfl ?_
    refine lv_goto (tgt := 40) hx hb dX9_take_36 (by decide) ?_
    refine z_toI w (by omega) ?_
    exact j40

set_option maxHeartbeats 4000000 in
set_option maxRecDepth 100000 in
theorem c_X9_take0_cast (l : Launch) (g : zG) (q : Nat) (d : Nat → Nat) (s0 : Nat) (s1 : Nat) (s2 : Nat) (xs0 : Nat → Nat) (tt0 : Int) (nn0 : Nat) (fa0 : Nat → Int) (fb0 : Nat → Int) (fp0 : Nat → Int) (w : Int) (hs0 : sok tt0 nn0 fp0) (hw : -2147483648 ≤ w ∧ w < 2147483648) (ho : 0 ≤ w ∧ w ≤ 1) (ht : tt0 = 1) (hn : 1 ≤ nn0) (hc : fp0 (nn0 - 1) ≠ w) : zMet l g yX9_take wsX9_take 2 0 0 [.ref q, vI 0, vI w] zX0 [[dsk q d], [((d 11), .inl (g.2 4, 3, .inr (.inr (.inr (.inr (rA [s0, s1, s2]))))))], (storeW g s0 xs0 tt0 nn0 fa0 fb0 fp0)] (qi g (fun (_ : Unit) => (-2000000013)) (fun (_ : Unit) => True) (fun (_ : Unit) => [[dsk q d], [((d 11), .inl (g.2 4, 3, .inr (.inr (.inr (.inr (rA [s0, s1, s2]))))))], (storeW g s0 xs0 tt0 nn0 fa0 fb0 fp0)])) := by
  refine z_ent (cc := cX9_take) (maxL := 3) (ret := (some .int)) (by decide) rfl (Nat.le_of_ble_eq_true rfl) ?_
  intro p e s m below meth c A ls hx hb hr hml hown hts hlocks hin0 hA hK hP hD hS hXX hl
  have hown : s.vm.findClass RX9 = some m.cls := hown
  have hin9_ : ∀ w ∈ wsX90, w ∈ wsX9_take := zw_in [24, 25, 26, 27, 28, 29, 30, 31, 32, 33, 34, 35] rfl
  have hl : lv_has ls 3 [(0, .ref q), (1, vI 0), (2, vI w)] := hl
  refine lv_iload_n hx hb dX9_take_0 rfl (lv_at hl 1 rfl) ?_
  refine z_cSi (As := [vI 0]) (rest := []) ⟨hx, hb, hml, hown, hts⟩ hK hP hD hS hA [] [0, 1, 2] rfl rfl rfl (c_X9_isNoStore l g 0 (by omega)) (va_cwS 1 hts gX9_take_X9_isNoStore rfl rfl rfl (by decide +kernel) ⟨Nat.le_of_ble_eq_true rfl, Nat.le_of_ble_eq_true rfl⟩) (fun _ _ _ _ _ _ => trivial) (fun _ _ _ => trivial) rfl hl.1 (Nat.le_of_ble_eq_true rfl) rfl dX9_take_1 ⟨Nat.le_of_ble_eq_true rfl, Nat.le_of_ble_eq_true rfl⟩ (fun u_1 H locs hwu_1 hP hD hS => ?_)
  try dsimp only at hwu_1
  have hP : zP g [[dsk q d], [((d 11), .inl (g.2 4, 3, .inr (.inr (.inr (.inr (rA [s0, s1, s2]))))))], (storeW g s0 xs0 tt0 nn0 fa0 fb0 fp0)] H := hP
  have hD : zD A [[dsk q d], [((d 11), .inl (g.2 4, 3, .inr (.inr (.inr (.inr (rA [s0, s1, s2]))))))], (storeW g s0 xs0 tt0 nn0 fa0 fb0 fp0)] := hD
  refine z_toI (oU 0 0 2) rfl ?_
  have hf_2 := oU_s 0 0 2
  refine z_if_eq (tgt := 10) hx hb (by omega) dX9_take_4 (by decide) (fun cq3 => ?_) (fun cq3 => False.elim (by omega))
  refine lv_iload_n hx hb dX9_take_10 rfl (lv_at hl 2 rfl) ?_
  refine z_iconst hx hb dX9_take_11 rfl ?_
  refine z_iconst hx hb dX9_take_12 rfl ?_
  refine z_cSi (As := [vI w, vI 0, vI 1]) (rest := []) ⟨hx, hb, hml, hown, hts⟩ hK hP hD hS hA [] [0, 1, 2] rfl rfl rfl (c_X9_isOutside l g w 0 1 (by first | assumption | omega | decide) (by first | assumption | omega | decide) (by first | assumption | omega | decide)) (va_cwS 3 hts gX9_take_X9_isOutside rfl rfl rfl (by decide +kernel) ⟨Nat.le_of_ble_eq_true rfl, Nat.le_of_ble_eq_true rfl⟩) (fun _ _ _ _ _ _ => trivial) (fun _ _ _ => trivial) rfl hl.1 (Nat.le_of_ble_eq_true rfl) rfl dX9_take_13 ⟨Nat.le_of_ble_eq_true rfl, Nat.le_of_ble_eq_true rfl⟩ (fun u_4 H locs hwu_4 hP hD hS => ?_)
  try dsimp only at hwu_4
  have hP : zP g [[dsk q d], [((d 11), .inl (g.2 4, 3, .inr (.inr (.inr (.inr (rA [s0, s1, s2]))))))], (storeW g s0 xs0 tt0 nn0 fa0 fb0 fp0)] H := hP
  have hD : zD A [[dsk q d], [((d 11), .inl (g.2 4, 3, .inr (.inr (.inr (.inr (rA [s0, s1, s2]))))))], (storeW g s0 xs0 tt0 nn0 fa0 fb0 fp0)] := hD
  refine z_toI (oU w 0 1) rfl ?_
  have hf_5 := oU_s w 0 1
  refine z_if_eq (tgt := 24) hx hb (by omega) dX9_take_16 (by decide) (fun cq6 => ?_) (fun cq6 => False.elim (by omega))
  refine lv_aload_n hx hb dX9_take_24 rfl (lv_at hl 0 rfl) ?_
  refine z_get hx hb hts hin9_ hown hK hP 0 rfl rfl 11 (by decide) (hts _ (List.mem_of_getElem? (i := 3) rfl)) rfl dX9_take_25 ?_
  refine lv_iload_n hx hb dX9_take_28 rfl (lv_at hl 1 rfl) ?_
  refine z_aald hx hb hK hP 1 4 rfl rfl 0 rfl (by decide) (by decide) s0 rfl dX9_take_29 ?_
  have j40 : W p l e (zRm 2 0 0) s m ([.ref q, vI 0, vI w] : List Value).toArray below meth c H locs (0) (0) (MQ below ((qi g (fun (_ : Unit) => (-2000000013)) (fun (_ : Unit) => True) (fun (_ : Unit) => [[dsk q d], [((d 11), .inl (g.2 4, 3, .inr (.inr (.inr (.inr (rA [s0, s1, s2]))))))], (storeW g s0 xs0 tt0 nn0 fa0 fb0 fp0)])) A) ([.ref q, vI 0, vI w] : List Value).toArray s 0 0 A) (F0 m 40 ls [vI w, .ref s0]) := by
    refine z_cVi (As := [vI w]) (rest := []) ⟨hx, hb, hml, hown, hts⟩ hK hP hD hS hA [2] [0, 1] rfl rfl rfl (c_X6_pop_cast l g s0 xs0 tt0 nn0 fa0 fb0 fp0 w hs0 (by omega) (by omega) (by omega) hc) (cwV 1 hts gX9_take_X6_pop rfl rfl rfl (by decide +kernel) ⟨Nat.le_of_ble_eq_true rfl, Nat.le_of_ble_eq_true rfl⟩) 6 0 rfl rfl rfl (fun _ _ _ _ _ _ => trivial) (fun _ _ _ => trivial) rfl hl.1 (Nat.le_of_ble_eq_true rfl) rfl dX9_take_40 ⟨Nat.le_of_ble_eq_true rfl, Nat.le_of_ble_eq_true rfl⟩ (fun u_7 H locs hwu_7 hP hD hS => ?_)
    try dsimp only at hwu_7
    have hP : zP g [[dsk q d], [((d 11), .inl (g.2 4, 3, .inr (.inr (.inr (.inr (rA [s0, s1, s2]))))))], (storeW g s0 xs0 tt0 nn0 fa0 fb0 fp0)] H := hP
    have hD : zD A [[dsk q d], [((d 11), .inl (g.2 4, 3, .inr (.inr (.inr (.inr (rA [s0, s1, s2]))))))], (storeW g s0 xs0 tt0 nn0 fa0 fb0 fp0)] := hD
    refine z_toI (-2000000013) rfl ?_
    exact z_reti () [0, 1, 2] hx hb hr rfl hlocks hK hP hD hS (rfl) trivial rfl rfl (rfl) (Nat.le_of_ble_eq_true rfl) (Nat.le_of_ble_eq_true rfl) dX9_take_43
  refine lv_iload_n hx hb dX9_take_30 rfl (lv_at hl 2 rfl) ?_
  refine z_iconst hx hb dX9_take_31 rfl ?_
  refine z_icmp_ne (tgt := 39) hx hb (by omega) (by decide) dX9_take_32 (by decide) (fun cq8 => ?_) (fun cq8 => ?_)
  · refine z_iconst hx hb dX9_take_39 rfl ?_
    refine z_toI w (by omega) ?_
    exact j40
  · refine z_iconst hx hb dX9_take_35 rfl ?_
    refine lv_goto (tgt := 40) hx hb dX9_take_36 (by decide) ?_
    refine z_toI w (by omega) ?_
    exact j40

set_option maxHeartbeats 4000000 in
set_option maxRecDepth 100000 in
theorem c_X9_take0_ok (l : Launch) (g : zG) (q : Nat) (d : Nat → Nat) (s0 : Nat) (s1 : Nat) (s2 : Nat) (xs0 : Nat → Nat) (tt0 : Int) (nn0 : Nat) (fa0 : Nat → Int) (fb0 : Nat → Int) (fp0 : Nat → Int) (w : Int) (hs0 : sok tt0 nn0 fp0) (hw : -2147483648 ≤ w ∧ w < 2147483648) (ho : 0 ≤ w ∧ w ≤ 1) (ht : tt0 = 1) (hn : 1 ≤ nn0) (hc : fp0 (nn0 - 1) = w) : zMet l g yX9_take wsX9_take 2 0 0 [.ref q, vI 0, vI w] zX0 [[dsk q d], [((d 11), .inl (g.2 4, 3, .inr (.inr (.inr (.inr (rA [s0, s1, s2]))))))], (storeW g s0 xs0 tt0 nn0 fa0 fb0 fp0)] (qi g (fun (_ : Unit) => (if w = 0 then fa0 (nn0 - 1) else fa0 (nn0 - 1) * fa0 (nn0 - 1) - fa0 (nn0 - 1) * fb0 (nn0 - 1) + fb0 (nn0 - 1) * fb0 (nn0 - 1))) (fun (_ : Unit) => True) (fun (_ : Unit) => [[dsk q d], [((d 11), .inl (g.2 4, 3, .inr (.inr (.inr (.inr (rA [s0, s1, s2]))))))], (storeW g s0 xs0 tt0 (nn0 - 1) fa0 fb0 fp0)])) := by
  refine z_ent (cc := cX9_take) (maxL := 3) (ret := (some .int)) (by decide) rfl (Nat.le_of_ble_eq_true rfl) ?_
  intro p e s m below meth c A ls hx hb hr hml hown hts hlocks hin0 hA hK hP hD hS hXX hl
  have hown : s.vm.findClass RX9 = some m.cls := hown
  have hin9_ : ∀ w ∈ wsX90, w ∈ wsX9_take := zw_in [24, 25, 26, 27, 28, 29, 30, 31, 32, 33, 34, 35] rfl
  have hl : lv_has ls 3 [(0, .ref q), (1, vI 0), (2, vI w)] := hl
  refine lv_iload_n hx hb dX9_take_0 rfl (lv_at hl 1 rfl) ?_
  refine z_cSi (As := [vI 0]) (rest := []) ⟨hx, hb, hml, hown, hts⟩ hK hP hD hS hA [] [0, 1, 2] rfl rfl rfl (c_X9_isNoStore l g 0 (by omega)) (va_cwS 1 hts gX9_take_X9_isNoStore rfl rfl rfl (by decide +kernel) ⟨Nat.le_of_ble_eq_true rfl, Nat.le_of_ble_eq_true rfl⟩) (fun _ _ _ _ _ _ => trivial) (fun _ _ _ => trivial) rfl hl.1 (Nat.le_of_ble_eq_true rfl) rfl dX9_take_1 ⟨Nat.le_of_ble_eq_true rfl, Nat.le_of_ble_eq_true rfl⟩ (fun u_1 H locs hwu_1 hP hD hS => ?_)
  try dsimp only at hwu_1
  have hP : zP g [[dsk q d], [((d 11), .inl (g.2 4, 3, .inr (.inr (.inr (.inr (rA [s0, s1, s2]))))))], (storeW g s0 xs0 tt0 nn0 fa0 fb0 fp0)] H := hP
  have hD : zD A [[dsk q d], [((d 11), .inl (g.2 4, 3, .inr (.inr (.inr (.inr (rA [s0, s1, s2]))))))], (storeW g s0 xs0 tt0 nn0 fa0 fb0 fp0)] := hD
  refine z_toI (oU 0 0 2) rfl ?_
  have hf_2 := oU_s 0 0 2
  refine z_if_eq (tgt := 10) hx hb (by omega) dX9_take_4 (by decide) (fun cq3 => ?_) (fun cq3 => False.elim (by omega))
  refine lv_iload_n hx hb dX9_take_10 rfl (lv_at hl 2 rfl) ?_
  refine z_iconst hx hb dX9_take_11 rfl ?_
  refine z_iconst hx hb dX9_take_12 rfl ?_
  refine z_cSi (As := [vI w, vI 0, vI 1]) (rest := []) ⟨hx, hb, hml, hown, hts⟩ hK hP hD hS hA [] [0, 1, 2] rfl rfl rfl (c_X9_isOutside l g w 0 1 (by first | assumption | omega | decide) (by first | assumption | omega | decide) (by first | assumption | omega | decide)) (va_cwS 3 hts gX9_take_X9_isOutside rfl rfl rfl (by decide +kernel) ⟨Nat.le_of_ble_eq_true rfl, Nat.le_of_ble_eq_true rfl⟩) (fun _ _ _ _ _ _ => trivial) (fun _ _ _ => trivial) rfl hl.1 (Nat.le_of_ble_eq_true rfl) rfl dX9_take_13 ⟨Nat.le_of_ble_eq_true rfl, Nat.le_of_ble_eq_true rfl⟩ (fun u_4 H locs hwu_4 hP hD hS => ?_)
  try dsimp only at hwu_4
  have hP : zP g [[dsk q d], [((d 11), .inl (g.2 4, 3, .inr (.inr (.inr (.inr (rA [s0, s1, s2]))))))], (storeW g s0 xs0 tt0 nn0 fa0 fb0 fp0)] H := hP
  have hD : zD A [[dsk q d], [((d 11), .inl (g.2 4, 3, .inr (.inr (.inr (.inr (rA [s0, s1, s2]))))))], (storeW g s0 xs0 tt0 nn0 fa0 fb0 fp0)] := hD
  refine z_toI (oU w 0 1) rfl ?_
  have hf_5 := oU_s w 0 1
  refine z_if_eq (tgt := 24) hx hb (by omega) dX9_take_16 (by decide) (fun cq6 => ?_) (fun cq6 => False.elim (by omega))
  refine lv_aload_n hx hb dX9_take_24 rfl (lv_at hl 0 rfl) ?_
  refine z_get hx hb hts hin9_ hown hK hP 0 rfl rfl 11 (by decide) (hts _ (List.mem_of_getElem? (i := 3) rfl)) rfl dX9_take_25 ?_
  refine lv_iload_n hx hb dX9_take_28 rfl (lv_at hl 1 rfl) ?_
  refine z_aald hx hb hK hP 1 4 rfl rfl 0 rfl (by decide) (by decide) s0 rfl dX9_take_29 ?_
  have j40 : W p l e (zRm 2 0 0) s m ([.ref q, vI 0, vI w] : List Value).toArray below meth c H locs (0) (0) (MQ below ((qi g (fun (_ : Unit) => (if w = 0 then fa0 (nn0 - 1) else fa0 (nn0 - 1) * fa0 (nn0 - 1) - fa0 (nn0 - 1) * fb0 (nn0 - 1) + fb0 (nn0 - 1) * fb0 (nn0 - 1))) (fun (_ : Unit) => True) (fun (_ : Unit) => [[dsk q d], [((d 11), .inl (g.2 4, 3, .inr (.inr (.inr (.inr (rA [s0, s1, s2]))))))], (storeW g s0 xs0 tt0 (nn0 - 1) fa0 fb0 fp0)])) A) ([.ref q, vI 0, vI w] : List Value).toArray s 0 0 A) (F0 m 40 ls [vI w, .ref s0]) := by
    refine z_cVi (As := [vI w]) (rest := []) ⟨hx, hb, hml, hown, hts⟩ hK hP hD hS hA [2] [0, 1] rfl rfl rfl (c_X6_pop_ok l g s0 xs0 tt0 nn0 fa0 fb0 fp0 w hs0 (by omega) (by omega) (by omega) hc) (cwV 1 hts gX9_take_X6_pop rfl rfl rfl (by decide +kernel) ⟨Nat.le_of_ble_eq_true rfl, Nat.le_of_ble_eq_true rfl⟩) 6 0 rfl rfl rfl (fun _ _ _ _ _ _ => trivial) (fun _ _ _ => trivial) rfl hl.1 (Nat.le_of_ble_eq_true rfl) rfl dX9_take_40 ⟨Nat.le_of_ble_eq_true rfl, Nat.le_of_ble_eq_true rfl⟩ (fun u_7 H locs hwu_7 hP hD hS => ?_)
    try dsimp only at hwu_7
    have hP : zP g [[dsk q d], [((d 11), .inl (g.2 4, 3, .inr (.inr (.inr (.inr (rA [s0, s1, s2]))))))], (storeW g s0 xs0 tt0 (nn0 - 1) fa0 fb0 fp0)] H := hP
    have hD : zD A [[dsk q d], [((d 11), .inl (g.2 4, 3, .inr (.inr (.inr (.inr (rA [s0, s1, s2]))))))], (storeW g s0 xs0 tt0 (nn0 - 1) fa0 fb0 fp0)] := hD
    refine z_toI (if w = 0 then fa0 (nn0 - 1) else fa0 (nn0 - 1) * fa0 (nn0 - 1) - fa0 (nn0 - 1) * fb0 (nn0 - 1) + fb0 (nn0 - 1) * fb0 (nn0 - 1)) rfl ?_
    exact z_reti () [0, 1, 2] hx hb hr rfl hlocks hK hP hD hS (rfl) trivial rfl rfl (rfl) (Nat.le_of_ble_eq_true rfl) (Nat.le_of_ble_eq_true rfl) dX9_take_43
  refine lv_iload_n hx hb dX9_take_30 rfl (lv_at hl 2 rfl) ?_
  refine z_iconst hx hb dX9_take_31 rfl ?_
  refine z_icmp_ne (tgt := 39) hx hb (by omega) (by decide) dX9_take_32 (by decide) (fun cq8 => ?_) (fun cq8 => ?_)
  · refine z_iconst hx hb dX9_take_39 rfl ?_
    refine z_toI w (by omega) ?_
    exact j40
  · refine z_iconst hx hb dX9_take_35 rfl ?_
    refine lv_goto (tgt := 40) hx hb dX9_take_36 (by decide) ?_
    refine z_toI w (by omega) ?_
    exact j40

set_option maxHeartbeats 4000000 in
set_option maxRecDepth 100000 in
theorem c_X9_sum0_null (l : Launch) (g : zG) (q : Nat) (d : Nat → Nat) (s0 : Nat) (s1 : Nat) (s2 : Nat) (xs0 : Nat → Nat) (tt0 : Int) (nn0 : Nat) (fa0 : Nat → Int) (fb0 : Nat → Int) (fp0 : Nat → Int) (w : Int) (hs0 : sok tt0 nn0 fp0) (hw : -2147483648 ≤ w ∧ w < 2147483648) (ho : 0 ≤ w ∧ w ≤ 2) (ht : tt0 = 0) : zMet l g yX9_sum wsX9_sum 2 0 0 [.ref q, vI 0, vI w] zX0 [[dsk q d], [((d 11), .inl (g.2 4, 3, .inr (.inr (.inr (.inr (rA [s0, s1, s2]))))))], (storeW g s0 xs0 tt0 nn0 fa0 fb0 fp0)] (qi g (fun (_ : Unit) => (-2000000011)) (fun (_ : Unit) => True) (fun (_ : Unit) => [[dsk q d], [((d 11), .inl (g.2 4, 3, .inr (.inr (.inr (.inr (rA [s0, s1, s2]))))))], (storeW g s0 xs0 tt0 nn0 fa0 fb0 fp0)])) := by
  refine z_ent (cc := cX9_sum) (maxL := 3) (ret := (some .int)) (by decide) rfl (Nat.le_of_ble_eq_true rfl) ?_
  intro p e s m below meth c A ls hx hb hr hml hown hts hlocks hin0 hA hK hP hD hS hXX hl
  have hown : s.vm.findClass RX9 = some m.cls := hown
  have hin9_ : ∀ w ∈ wsX90, w ∈ wsX9_sum := zw_in [22, 23, 24, 25, 26, 27, 28, 29, 30, 31, 32, 33] rfl
  have hl : lv_has ls 3 [(0, .ref q), (1, vI 0), (2, vI w)] := hl
  refine lv_iload_n hx hb dX9_sum_0 rfl (lv_at hl 1 rfl) ?_
  refine z_cSi (As := [vI 0]) (rest := []) ⟨hx, hb, hml, hown, hts⟩ hK hP hD hS hA [] [0, 1, 2] rfl rfl rfl (c_X9_isNoStore l g 0 (by omega)) (va_cwS 1 hts gX9_sum_X9_isNoStore rfl rfl rfl (by decide +kernel) ⟨Nat.le_of_ble_eq_true rfl, Nat.le_of_ble_eq_true rfl⟩) (fun _ _ _ _ _ _ => trivial) (fun _ _ _ => trivial) rfl hl.1 (Nat.le_of_ble_eq_true rfl) rfl dX9_sum_1 ⟨Nat.le_of_ble_eq_true rfl, Nat.le_of_ble_eq_true rfl⟩ (fun u_1 H locs hwu_1 hP hD hS => ?_)
  try dsimp only at hwu_1
  have hP : zP g [[dsk q d], [((d 11), .inl (g.2 4, 3, .inr (.inr (.inr (.inr (rA [s0, s1, s2]))))))], (storeW g s0 xs0 tt0 nn0 fa0 fb0 fp0)] H := hP
  have hD : zD A [[dsk q d], [((d 11), .inl (g.2 4, 3, .inr (.inr (.inr (.inr (rA [s0, s1, s2]))))))], (storeW g s0 xs0 tt0 nn0 fa0 fb0 fp0)] := hD
  refine z_toI (oU 0 0 2) rfl ?_
  have hf_2 := oU_s 0 0 2
  refine z_if_eq (tgt := 10) hx hb (by omega) dX9_sum_4 (by decide) (fun cq3 => ?_) (fun cq3 => False.elim (by omega))
  refine lv_iload_n hx hb dX9_sum_10 rfl (lv_at hl 2 rfl) ?_
  refine z_iconst hx hb dX9_sum_11 rfl ?_
  refine z_iconst hx hb dX9_sum_12 rfl ?_
  refine z_cSi (As := [vI w, vI 0, vI 2]) (rest := []) ⟨hx, hb, hml, hown, hts⟩ hK hP hD hS hA [] [0, 1, 2] rfl rfl rfl (c_X9_isOutside l g w 0 2 (by first | assumption | omega | decide) (by first | assumption | omega | decide) (by first | assumption | omega | decide)) (va_cwS 3 hts gX9_sum_X9_isOutside rfl rfl rfl (by decide +kernel) ⟨Nat.le_of_ble_eq_true rfl, Nat.le_of_ble_eq_true rfl⟩) (fun _ _ _ _ _ _ => trivial) (fun _ _ _ => trivial) rfl hl.1 (Nat.le_of_ble_eq_true rfl) rfl dX9_sum_13 ⟨Nat.le_of_ble_eq_true rfl, Nat.le_of_ble_eq_true rfl⟩ (fun u_4 H locs hwu_4 hP hD hS => ?_)
  try dsimp only at hwu_4
  have hP : zP g [[dsk q d], [((d 11), .inl (g.2 4, 3, .inr (.inr (.inr (.inr (rA [s0, s1, s2]))))))], (storeW g s0 xs0 tt0 nn0 fa0 fb0 fp0)] H := hP
  have hD : zD A [[dsk q d], [((d 11), .inl (g.2 4, 3, .inr (.inr (.inr (.inr (rA [s0, s1, s2]))))))], (storeW g s0 xs0 tt0 nn0 fa0 fb0 fp0)] := hD
  refine z_toI (oU w 0 2) rfl ?_
  have hf_5 := oU_s w 0 2
  refine z_if_eq (tgt := 24) hx hb (by omega) dX9_sum_16 (by decide) (fun cq6 => ?_) (fun cq6 => False.elim (by omega))
  refine lv_aload_n hx hb dX9_sum_24 rfl (lv_at hl 0 rfl) ?_
  refine z_get hx hb hts hin9_ hown hK hP 0 rfl rfl 11 (by decide) (hts _ (List.mem_of_getElem? (i := 3) rfl)) rfl dX9_sum_25 ?_
  refine lv_iload_n hx hb dX9_sum_28 rfl (lv_at hl 1 rfl) ?_
  refine z_aald hx hb hK hP 1 4 rfl rfl 0 rfl (by decide) (by decide) s0 rfl dX9_sum_29 ?_
  refine lv_iload_n hx hb dX9_sum_30 rfl (lv_at hl 2 rfl) ?_
  refine z_cVi (As := [vI w]) (rest := []) ⟨hx, hb, hml, hown, hts⟩ hK hP hD hS hA [2] [0, 1] rfl rfl rfl (c_X6_totalOf_null l g s0 xs0 tt0 nn0 fa0 fb0 fp0 w hs0 (by omega)) (cwV 1 hts gX9_sum_X6_totalOf rfl rfl rfl (by decide +kernel) ⟨Nat.le_of_ble_eq_true rfl, Nat.le_of_ble_eq_true rfl⟩) 6 0 rfl rfl rfl (fun _ _ _ _ _ _ => trivial) (fun _ _ _ => trivial) rfl hl.1 (Nat.le_of_ble_eq_true rfl) rfl dX9_sum_31 ⟨Nat.le_of_ble_eq_true rfl, Nat.le_of_ble_eq_true rfl⟩ (fun u_7 H locs hwu_7 hP hD hS => ?_)
  try dsimp only at hwu_7
  have hP : zP g [[dsk q d], [((d 11), .inl (g.2 4, 3, .inr (.inr (.inr (.inr (rA [s0, s1, s2]))))))], (storeW g s0 xs0 tt0 nn0 fa0 fb0 fp0)] H := hP
  have hD : zD A [[dsk q d], [((d 11), .inl (g.2 4, 3, .inr (.inr (.inr (.inr (rA [s0, s1, s2]))))))], (storeW g s0 xs0 tt0 nn0 fa0 fb0 fp0)] := hD
  refine z_toI (-2000000011) rfl ?_
  exact z_reti () [0, 1, 2] hx hb hr rfl hlocks hK hP hD hS (rfl) trivial rfl rfl (rfl) (Nat.le_of_ble_eq_true rfl) (Nat.le_of_ble_eq_true rfl) dX9_sum_34

set_option maxHeartbeats 4000000 in
set_option maxRecDepth 100000 in
theorem c_X9_sum0_ok (l : Launch) (g : zG) (q : Nat) (d : Nat → Nat) (s0 : Nat) (s1 : Nat) (s2 : Nat) (xs0 : Nat → Nat) (tt0 : Int) (nn0 : Nat) (fa0 : Nat → Int) (fb0 : Nat → Int) (fp0 : Nat → Int) (w : Int) (hs0 : sok tt0 nn0 fp0) (hw : -2147483648 ≤ w ∧ w < 2147483648) (ho : 0 ≤ w ∧ w ≤ 2) (ht : tt0 = 1) : zMet l g yX9_sum wsX9_sum 2 0 0 [.ref q, vI 0, vI w] zX0 [[dsk q d], [((d 11), .inl (g.2 4, 3, .inr (.inr (.inr (.inr (rA [s0, s1, s2]))))))], (storeW g s0 xs0 tt0 nn0 fa0 fb0 fp0)] (qi g (fun (_ : Unit) => (tot nn0 (if w = 2 then fp0 else if w = 0 then fa0 else fb0))) (fun (_ : Unit) => True) (fun (_ : Unit) => [[dsk q d], [((d 11), .inl (g.2 4, 3, .inr (.inr (.inr (.inr (rA [s0, s1, s2]))))))], (storeW g s0 xs0 tt0 nn0 fa0 fb0 fp0)])) := by
  refine z_ent (cc := cX9_sum) (maxL := 3) (ret := (some .int)) (by decide) rfl (Nat.le_of_ble_eq_true rfl) ?_
  intro p e s m below meth c A ls hx hb hr hml hown hts hlocks hin0 hA hK hP hD hS hXX hl
  have hown : s.vm.findClass RX9 = some m.cls := hown
  have hin9_ : ∀ w ∈ wsX90, w ∈ wsX9_sum := zw_in [22, 23, 24, 25, 26, 27, 28, 29, 30, 31, 32, 33] rfl
  have hl : lv_has ls 3 [(0, .ref q), (1, vI 0), (2, vI w)] := hl
  refine lv_iload_n hx hb dX9_sum_0 rfl (lv_at hl 1 rfl) ?_
  refine z_cSi (As := [vI 0]) (rest := []) ⟨hx, hb, hml, hown, hts⟩ hK hP hD hS hA [] [0, 1, 2] rfl rfl rfl (c_X9_isNoStore l g 0 (by omega)) (va_cwS 1 hts gX9_sum_X9_isNoStore rfl rfl rfl (by decide +kernel) ⟨Nat.le_of_ble_eq_true rfl, Nat.le_of_ble_eq_true rfl⟩) (fun _ _ _ _ _ _ => trivial) (fun _ _ _ => trivial) rfl hl.1 (Nat.le_of_ble_eq_true rfl) rfl dX9_sum_1 ⟨Nat.le_of_ble_eq_true rfl, Nat.le_of_ble_eq_true rfl⟩ (fun u_1 H locs hwu_1 hP hD hS => ?_)
  try dsimp only at hwu_1
  have hP : zP g [[dsk q d], [((d 11), .inl (g.2 4, 3, .inr (.inr (.inr (.inr (rA [s0, s1, s2]))))))], (storeW g s0 xs0 tt0 nn0 fa0 fb0 fp0)] H := hP
  have hD : zD A [[dsk q d], [((d 11), .inl (g.2 4, 3, .inr (.inr (.inr (.inr (rA [s0, s1, s2]))))))], (storeW g s0 xs0 tt0 nn0 fa0 fb0 fp0)] := hD
  refine z_toI (oU 0 0 2) rfl ?_
  have hf_2 := oU_s 0 0 2
  refine z_if_eq (tgt := 10) hx hb (by omega) dX9_sum_4 (by decide) (fun cq3 => ?_) (fun cq3 => False.elim (by omega))
  refine lv_iload_n hx hb dX9_sum_10 rfl (lv_at hl 2 rfl) ?_
  refine z_iconst hx hb dX9_sum_11 rfl ?_
  refine z_iconst hx hb dX9_sum_12 rfl ?_
  refine z_cSi (As := [vI w, vI 0, vI 2]) (rest := []) ⟨hx, hb, hml, hown, hts⟩ hK hP hD hS hA [] [0, 1, 2] rfl rfl rfl (c_X9_isOutside l g w 0 2 (by first | assumption | omega | decide) (by first | assumption | omega | decide) (by first | assumption | omega | decide)) (va_cwS 3 hts gX9_sum_X9_isOutside rfl rfl rfl (by decide +kernel) ⟨Nat.le_of_ble_eq_true rfl, Nat.le_of_ble_eq_true rfl⟩) (fun _ _ _ _ _ _ => trivial) (fun _ _ _ => trivial) rfl hl.1 (Nat.le_of_ble_eq_true rfl) rfl dX9_sum_13 ⟨Nat.le_of_ble_eq_true rfl, Nat.le_of_ble_eq_true rfl⟩ (fun u_4 H locs hwu_4 hP hD hS => ?_)
  try dsimp only at hwu_4
  have hP : zP g [[dsk q d], [((d 11), .inl (g.2 4, 3, .inr (.inr (.inr (.inr (rA [s0, s1, s2]))))))], (storeW g s0 xs0 tt0 nn0 fa0 fb0 fp0)] H := hP
  have hD : zD A [[dsk q d], [((d 11), .inl (g.2 4, 3, .inr (.inr (.inr (.inr (rA [s0, s1, s2]))))))], (storeW g s0 xs0 tt0 nn0 fa0 fb0 fp0)] := hD
  refine z_toI (oU w 0 2) rfl ?_
  have hf_5 := oU_s w 0 2
  refine z_if_eq (tgt := 24) hx hb (by omega) dX9_sum_16 (by decide) (fun cq6 => ?_) (fun cq6 => False.elim (by omega))
  refine lv_aload_n hx hb dX9_sum_24 rfl (lv_at hl 0 rfl) ?_
  refine z_get hx hb hts hin9_ hown hK hP 0 rfl rfl 11 (by decide) (hts _ (List.mem_of_getElem? (i := 3) rfl)) rfl dX9_sum_25 ?_
  refine lv_iload_n hx hb dX9_sum_28 rfl (lv_at hl 1 rfl) ?_
  refine z_aald hx hb hK hP 1 4 rfl rfl 0 rfl (by decide) (by decide) s0 rfl dX9_sum_29 ?_
  refine lv_iload_n hx hb dX9_sum_30 rfl (lv_at hl 2 rfl) ?_
  refine z_cVi (As := [vI w]) (rest := []) ⟨hx, hb, hml, hown, hts⟩ hK hP hD hS hA [2] [0, 1] rfl rfl rfl (c_X6_totalOf l g s0 xs0 tt0 nn0 fa0 fb0 fp0 w hs0 (by omega) (by omega)) (cwV 1 hts gX9_sum_X6_totalOf rfl rfl rfl (by decide +kernel) ⟨Nat.le_of_ble_eq_true rfl, Nat.le_of_ble_eq_true rfl⟩) 6 0 rfl rfl rfl (fun _ _ _ _ _ _ => trivial) (fun _ _ _ => trivial) rfl hl.1 (Nat.le_of_ble_eq_true rfl) rfl dX9_sum_31 ⟨Nat.le_of_ble_eq_true rfl, Nat.le_of_ble_eq_true rfl⟩ (fun u_7 H locs hwu_7 hP hD hS => ?_)
  try dsimp only at hwu_7
  have hP : zP g [[dsk q d], [((d 11), .inl (g.2 4, 3, .inr (.inr (.inr (.inr (rA [s0, s1, s2]))))))], (storeW g s0 xs0 tt0 nn0 fa0 fb0 fp0)] H := hP
  have hD : zD A [[dsk q d], [((d 11), .inl (g.2 4, 3, .inr (.inr (.inr (.inr (rA [s0, s1, s2]))))))], (storeW g s0 xs0 tt0 nn0 fa0 fb0 fp0)] := hD
  refine z_toI (tot nn0 (if w = 2 then fp0 else if w = 0 then fa0 else fb0)) rfl ?_
  exact z_reti () [0, 1, 2] hx hb hr rfl hlocks hK hP hD hS (rfl) trivial rfl rfl (rfl) (Nat.le_of_ble_eq_true rfl) (Nat.le_of_ble_eq_true rfl) dX9_sum_34

set_option maxHeartbeats 4000000 in
set_option maxRecDepth 100000 in
theorem c_X9_drop0_null (l : Launch) (g : zG) (q : Nat) (d : Nat → Nat) (s0 : Nat) (s1 : Nat) (s2 : Nat) (xs0 : Nat → Nat) (tt0 : Int) (nn0 : Nat) (fa0 : Nat → Int) (fb0 : Nat → Int) (fp0 : Nat → Int) (hs0 : sok tt0 nn0 fp0) (ht : tt0 = 0) : zMet l g yX9_drop wsX9_drop 2 0 0 [.ref q, vI 0] zX0 [[dsk q d], [((d 11), .inl (g.2 4, 3, .inr (.inr (.inr (.inr (rA [s0, s1, s2]))))))], (storeW g s0 xs0 tt0 nn0 fa0 fb0 fp0)] (qi g (fun (_ : Unit) => (-2000000011)) (fun (_ : Unit) => True) (fun (_ : Unit) => [[dsk q d], [((d 11), .inl (g.2 4, 3, .inr (.inr (.inr (.inr (rA [s0, s1, s2]))))))], (storeW g s0 xs0 tt0 nn0 fa0 fb0 fp0)])) := by
  obtain ⟨hs1_, hs2_, hs3_⟩ := id hs0
  refine z_ent (cc := cX9_drop) (maxL := 2) (ret := (some .int)) (by decide) rfl (Nat.le_of_ble_eq_true rfl) ?_
  intro p e s m below meth c A ls hx hb hr hml hown hts hlocks hin0 hA hK hP hD hS hXX hl
  have hown : s.vm.findClass RX9 = some m.cls := hown
  have hin6_ : ∀ w ∈ wsX60, w ∈ wsX9_drop := zw_in [31, 32, 33, 34, 35] rfl
  have hin9_ : ∀ w ∈ wsX90, w ∈ wsX9_drop := zw_in [19, 20, 21, 22, 23, 24, 25, 26, 27, 28, 29, 30] rfl
  have hl : lv_has ls 2 [(0, .ref q), (1, vI 0)] := hl
  refine lv_iload_n hx hb dX9_drop_0 rfl (lv_at hl 1 rfl) ?_
  refine z_cSi (As := [vI 0]) (rest := []) ⟨hx, hb, hml, hown, hts⟩ hK hP hD hS hA [] [0, 1, 2] rfl rfl rfl (c_X9_isNoStore l g 0 (by omega)) (va_cwS 1 hts gX9_drop_X9_isNoStore rfl rfl rfl (by decide +kernel) ⟨Nat.le_of_ble_eq_true rfl, Nat.le_of_ble_eq_true rfl⟩) (fun _ _ _ _ _ _ => trivial) (fun _ _ _ => trivial) rfl hl.1 (Nat.le_of_ble_eq_true rfl) rfl dX9_drop_1 ⟨Nat.le_of_ble_eq_true rfl, Nat.le_of_ble_eq_true rfl⟩ (fun u_1 H locs hwu_1 hP hD hS => ?_)
  try dsimp only at hwu_1
  have hP : zP g [[dsk q d], [((d 11), .inl (g.2 4, 3, .inr (.inr (.inr (.inr (rA [s0, s1, s2]))))))], (storeW g s0 xs0 tt0 nn0 fa0 fb0 fp0)] H := hP
  have hD : zD A [[dsk q d], [((d 11), .inl (g.2 4, 3, .inr (.inr (.inr (.inr (rA [s0, s1, s2]))))))], (storeW g s0 xs0 tt0 nn0 fa0 fb0 fp0)] := hD
  refine z_toI (oU 0 0 2) rfl ?_
  have hf_2 := oU_s 0 0 2
  refine z_if_eq (tgt := 10) hx hb (by omega) dX9_drop_4 (by decide) (fun cq3 => ?_) (fun cq3 => False.elim (by omega))
  refine lv_aload_n hx hb dX9_drop_10 rfl (lv_at hl 0 rfl) ?_
  refine z_get hx hb hts hin9_ hown hK hP 0 rfl rfl 11 (by decide) (hts _ (List.mem_of_getElem? (i := 2) rfl)) rfl dX9_drop_11 ?_
  refine lv_iload_n hx hb dX9_drop_14 rfl (lv_at hl 1 rfl) ?_
  refine z_aald hx hb hK hP 1 4 rfl rfl 0 rfl (by decide) (by decide) s0 rfl dX9_drop_15 ?_
  have hP : zP g [[dsk q d], [((d 11), .inl (g.2 4, 3, .inr (.inr (.inr (.inr (rA [s0, s1, s2]))))))], [(s0, .inr (6, [vI tt0, vI ((nn0 : Nat) : Int), .ref (xs0 0), .ref (xs0 1), .ref (xs0 2)]))], [((xs0 0), .inl (g.2 0, 8, .inl (aI fa0)))], [((xs0 1), .inl (g.2 0, 8, .inl (aI fb0)))], [((xs0 2), .inl (g.2 2, 8, .inl (aI fp0)))]] H := hP
  have hD : zD A [[dsk q d], [((d 11), .inl (g.2 4, 3, .inr (.inr (.inr (.inr (rA [s0, s1, s2]))))))], [(s0, .inr (6, [vI tt0, vI ((nn0 : Nat) : Int), .ref (xs0 0), .ref (xs0 1), .ref (xs0 2)]))], [((xs0 0), .inl (g.2 0, 8, .inl (aI fa0)))], [((xs0 1), .inl (g.2 0, 8, .inl (aI fb0)))], [((xs0 2), .inl (g.2 2, 8, .inl (aI fp0)))]] := hD
  refine z_get hx hb hts hin6_ hown hK hP 2 rfl rfl 0 (by decide) (hts _ (List.mem_of_getElem? (i := 3) rfl)) rfl dX9_drop_16 ?_
  refine z_if_eq (tgt := 34) hx hb (by omega) dX9_drop_19 (by decide) (fun cq4 => ?_) (fun cq4 => False.elim (by omega))
  refine z_ldcw hx hb (-2000000011) hown (hts _ (List.mem_of_getElem? (i := 4) rfl)) rfl dX9_drop_34 ?_
  have hP : zP g [[dsk q d], [((d 11), .inl (g.2 4, 3, .inr (.inr (.inr (.inr (rA [s0, s1, s2]))))))], (storeW g s0 xs0 tt0 nn0 fa0 fb0 fp0)] H := hP
  have hD : zD A [[dsk q d], [((d 11), .inl (g.2 4, 3, .inr (.inr (.inr (.inr (rA [s0, s1, s2]))))))], (storeW g s0 xs0 tt0 nn0 fa0 fb0 fp0)] := hD
  exact z_reti () [0, 1, 2] hx hb hr rfl hlocks hK hP hD hS (rfl) trivial rfl rfl (rfl) (Nat.le_of_ble_eq_true rfl) (Nat.le_of_ble_eq_true rfl) dX9_drop_37

set_option maxHeartbeats 4000000 in
set_option maxRecDepth 100000 in
theorem c_X9_drop0_ok (l : Launch) (g : zG) (q : Nat) (d : Nat → Nat) (s0 : Nat) (s1 : Nat) (s2 : Nat) (xs0 : Nat → Nat) (tt0 : Int) (nn0 : Nat) (fa0 : Nat → Int) (fb0 : Nat → Int) (fp0 : Nat → Int) (hs0 : sok tt0 nn0 fp0) (ht : tt0 = 1) : zMet l g yX9_drop wsX9_drop 2 0 0 [.ref q, vI 0] zX0 [[dsk q d], [((d 11), .inl (g.2 4, 3, .inr (.inr (.inr (.inr (rA [s0, s1, s2]))))))], (storeW g s0 xs0 tt0 nn0 fa0 fb0 fp0)] (qi g (fun (_ : Unit) => ((nn0 : Nat) : Int)) (fun (_ : Unit) => True) (fun (_ : Unit) => [[dsk q d], [((d 11), .inl (g.2 4, 3, .inr (.inr (.inr (.inr (rA [s0, s1, s2]))))))], (storeW g s0 xs0 0 0 fa0 fb0 fp0)])) := by
  obtain ⟨hs1_, hs2_, hs3_⟩ := id hs0
  refine z_ent (cc := cX9_drop) (maxL := 2) (ret := (some .int)) (by decide) rfl (Nat.le_of_ble_eq_true rfl) ?_
  intro p e s m below meth c A ls hx hb hr hml hown hts hlocks hin0 hA hK hP hD hS hXX hl
  have hown : s.vm.findClass RX9 = some m.cls := hown
  have hin6_ : ∀ w ∈ wsX60, w ∈ wsX9_drop := zw_in [31, 32, 33, 34, 35] rfl
  have hin9_ : ∀ w ∈ wsX90, w ∈ wsX9_drop := zw_in [19, 20, 21, 22, 23, 24, 25, 26, 27, 28, 29, 30] rfl
  have hl : lv_has ls 2 [(0, .ref q), (1, vI 0)] := hl
  refine lv_iload_n hx hb dX9_drop_0 rfl (lv_at hl 1 rfl) ?_
  refine z_cSi (As := [vI 0]) (rest := []) ⟨hx, hb, hml, hown, hts⟩ hK hP hD hS hA [] [0, 1, 2] rfl rfl rfl (c_X9_isNoStore l g 0 (by omega)) (va_cwS 1 hts gX9_drop_X9_isNoStore rfl rfl rfl (by decide +kernel) ⟨Nat.le_of_ble_eq_true rfl, Nat.le_of_ble_eq_true rfl⟩) (fun _ _ _ _ _ _ => trivial) (fun _ _ _ => trivial) rfl hl.1 (Nat.le_of_ble_eq_true rfl) rfl dX9_drop_1 ⟨Nat.le_of_ble_eq_true rfl, Nat.le_of_ble_eq_true rfl⟩ (fun u_1 H locs hwu_1 hP hD hS => ?_)
  try dsimp only at hwu_1
  have hP : zP g [[dsk q d], [((d 11), .inl (g.2 4, 3, .inr (.inr (.inr (.inr (rA [s0, s1, s2]))))))], (storeW g s0 xs0 tt0 nn0 fa0 fb0 fp0)] H := hP
  have hD : zD A [[dsk q d], [((d 11), .inl (g.2 4, 3, .inr (.inr (.inr (.inr (rA [s0, s1, s2]))))))], (storeW g s0 xs0 tt0 nn0 fa0 fb0 fp0)] := hD
  refine z_toI (oU 0 0 2) rfl ?_
  have hf_2 := oU_s 0 0 2
  refine z_if_eq (tgt := 10) hx hb (by omega) dX9_drop_4 (by decide) (fun cq3 => ?_) (fun cq3 => False.elim (by omega))
  refine lv_aload_n hx hb dX9_drop_10 rfl (lv_at hl 0 rfl) ?_
  refine z_get hx hb hts hin9_ hown hK hP 0 rfl rfl 11 (by decide) (hts _ (List.mem_of_getElem? (i := 2) rfl)) rfl dX9_drop_11 ?_
  refine lv_iload_n hx hb dX9_drop_14 rfl (lv_at hl 1 rfl) ?_
  refine z_aald hx hb hK hP 1 4 rfl rfl 0 rfl (by decide) (by decide) s0 rfl dX9_drop_15 ?_
  have hP : zP g [[dsk q d], [((d 11), .inl (g.2 4, 3, .inr (.inr (.inr (.inr (rA [s0, s1, s2]))))))], [(s0, .inr (6, [vI tt0, vI ((nn0 : Nat) : Int), .ref (xs0 0), .ref (xs0 1), .ref (xs0 2)]))], [((xs0 0), .inl (g.2 0, 8, .inl (aI fa0)))], [((xs0 1), .inl (g.2 0, 8, .inl (aI fb0)))], [((xs0 2), .inl (g.2 2, 8, .inl (aI fp0)))]] H := hP
  have hD : zD A [[dsk q d], [((d 11), .inl (g.2 4, 3, .inr (.inr (.inr (.inr (rA [s0, s1, s2]))))))], [(s0, .inr (6, [vI tt0, vI ((nn0 : Nat) : Int), .ref (xs0 0), .ref (xs0 1), .ref (xs0 2)]))], [((xs0 0), .inl (g.2 0, 8, .inl (aI fa0)))], [((xs0 1), .inl (g.2 0, 8, .inl (aI fb0)))], [((xs0 2), .inl (g.2 2, 8, .inl (aI fp0)))]] := hD
  refine z_get hx hb hts hin6_ hown hK hP 2 rfl rfl 0 (by decide) (hts _ (List.mem_of_getElem? (i := 3) rfl)) rfl dX9_drop_16 ?_
  refine z_if_eq (tgt := 34) hx hb (by omega) dX9_drop_19 (by decide) (fun cq4 => False.elim (by omega)) (fun cq4 => ?_)
  have hP : zP g [[dsk q d], [((d 11), .inl (g.2 4, 3, .inr (.inr (.inr (.inr (rA [s0, s1, s2]))))))], (storeW g s0 xs0 tt0 nn0 fa0 fb0 fp0)] H := hP
  have hD : zD A [[dsk q d], [((d 11), .inl (g.2 4, 3, .inr (.inr (.inr (.inr (rA [s0, s1, s2]))))))], (storeW g s0 xs0 tt0 nn0 fa0 fb0 fp0)] := hD
  refine lv_aload_n hx hb dX9_drop_22 rfl (lv_at hl 0 rfl) ?_
  refine z_get hx hb hts hin9_ hown hK hP 0 rfl rfl 11 (by decide) (hts _ (List.mem_of_getElem? (i := 2) rfl)) rfl dX9_drop_23 ?_
  refine lv_iload_n hx hb dX9_drop_26 rfl (lv_at hl 1 rfl) ?_
  refine z_aald hx hb hK hP 1 4 rfl rfl 0 rfl (by decide) (by decide) s0 rfl dX9_drop_27 ?_
  refine z_cVi (As := []) (rest := []) ⟨hx, hb, hml, hown, hts⟩ hK hP hD hS hA [2] [0, 1] rfl rfl rfl (c_X6_vanish l g s0 xs0 tt0 nn0 fa0 fb0 fp0 hs0) (cwV 0 hts gX9_drop_X6_vanish rfl rfl rfl (by decide +kernel) ⟨Nat.le_of_ble_eq_true rfl, Nat.le_of_ble_eq_true rfl⟩) 6 0 rfl rfl rfl (fun _ _ _ _ _ _ => trivial) (fun _ _ _ => trivial) rfl hl.1 (Nat.le_of_ble_eq_true rfl) rfl dX9_drop_28 ⟨Nat.le_of_ble_eq_true rfl, Nat.le_of_ble_eq_true rfl⟩ (fun u_5 H locs hwu_5 hP hD hS => ?_)
  try dsimp only at hwu_5
  have hP : zP g [[dsk q d], [((d 11), .inl (g.2 4, 3, .inr (.inr (.inr (.inr (rA [s0, s1, s2]))))))], (storeW g s0 xs0 0 0 fa0 fb0 fp0)] H := hP
  have hD : zD A [[dsk q d], [((d 11), .inl (g.2 4, 3, .inr (.inr (.inr (.inr (rA [s0, s1, s2]))))))], (storeW g s0 xs0 0 0 fa0 fb0 fp0)] := hD
  refine z_toI ((nn0 : Nat) : Int) rfl ?_
  refine lv_goto (tgt := 37) hx hb dX9_drop_31 (by decide) ?_
  exact z_reti () [0, 1, 2] hx hb hr rfl hlocks hK hP hD hS (rfl) trivial rfl rfl (rfl) (Nat.le_of_ble_eq_true rfl) (Nat.le_of_ble_eq_true rfl) dX9_drop_37

set_option maxHeartbeats 4000000 in
set_option maxRecDepth 100000 in
theorem c_X9_take1_null (l : Launch) (g : zG) (q : Nat) (d : Nat → Nat) (s0 : Nat) (s1 : Nat) (s2 : Nat) (xs1 : Nat → Nat) (tt1 : Int) (nn1 : Nat) (fa1 : Nat → Int) (fb1 : Nat → Int) (fp1 : Nat → Int) (w : Int) (hs1 : sok tt1 nn1 fp1) (hw : -2147483648 ≤ w ∧ w < 2147483648) (ho : 0 ≤ w ∧ w ≤ 1) (ht : tt1 = 0) : zMet l g yX9_take wsX9_take 2 0 0 [.ref q, vI 1, vI w] zX0 [[dsk q d], [((d 11), .inl (g.2 4, 3, .inr (.inr (.inr (.inr (rA [s0, s1, s2]))))))], (storeW g s1 xs1 tt1 nn1 fa1 fb1 fp1)] (qi g (fun (_ : Unit) => (-2000000011)) (fun (_ : Unit) => True) (fun (_ : Unit) => [[dsk q d], [((d 11), .inl (g.2 4, 3, .inr (.inr (.inr (.inr (rA [s0, s1, s2]))))))], (storeW g s1 xs1 tt1 nn1 fa1 fb1 fp1)])) := by
  refine z_ent (cc := cX9_take) (maxL := 3) (ret := (some .int)) (by decide) rfl (Nat.le_of_ble_eq_true rfl) ?_
  intro p e s m below meth c A ls hx hb hr hml hown hts hlocks hin0 hA hK hP hD hS hXX hl
  have hown : s.vm.findClass RX9 = some m.cls := hown
  have hin9_ : ∀ w ∈ wsX90, w ∈ wsX9_take := zw_in [24, 25, 26, 27, 28, 29, 30, 31, 32, 33, 34, 35] rfl
  have hl : lv_has ls 3 [(0, .ref q), (1, vI 1), (2, vI w)] := hl
  refine lv_iload_n hx hb dX9_take_0 rfl (lv_at hl 1 rfl) ?_
  refine z_cSi (As := [vI 1]) (rest := []) ⟨hx, hb, hml, hown, hts⟩ hK hP hD hS hA [] [0, 1, 2] rfl rfl rfl (c_X9_isNoStore l g 1 (by omega)) (va_cwS 1 hts gX9_take_X9_isNoStore rfl rfl rfl (by decide +kernel) ⟨Nat.le_of_ble_eq_true rfl, Nat.le_of_ble_eq_true rfl⟩) (fun _ _ _ _ _ _ => trivial) (fun _ _ _ => trivial) rfl hl.1 (Nat.le_of_ble_eq_true rfl) rfl dX9_take_1 ⟨Nat.le_of_ble_eq_true rfl, Nat.le_of_ble_eq_true rfl⟩ (fun u_1 H locs hwu_1 hP hD hS => ?_)
  try dsimp only at hwu_1
  have hP : zP g [[dsk q d], [((d 11), .inl (g.2 4, 3, .inr (.inr (.inr (.inr (rA [s0, s1, s2]))))))], (storeW g s1 xs1 tt1 nn1 fa1 fb1 fp1)] H := hP
  have hD : zD A [[dsk q d], [((d 11), .inl (g.2 4, 3, .inr (.inr (.inr (.inr (rA [s0, s1, s2]))))))], (storeW g s1 xs1 tt1 nn1 fa1 fb1 fp1)] := hD
  refine z_toI (oU 1 0 2) rfl ?_
  have hf_2 := oU_s 1 0 2
  refine z_if_eq (tgt := 10) hx hb (by omega) dX9_take_4 (by decide) (fun cq3 => ?_) (fun cq3 => False.elim (by omega))
  refine lv_iload_n hx hb dX9_take_10 rfl (lv_at hl 2 rfl) ?_
  refine z_iconst hx hb dX9_take_11 rfl ?_
  refine z_iconst hx hb dX9_take_12 rfl ?_
  refine z_cSi (As := [vI w, vI 0, vI 1]) (rest := []) ⟨hx, hb, hml, hown, hts⟩ hK hP hD hS hA [] [0, 1, 2] rfl rfl rfl (c_X9_isOutside l g w 0 1 (by first | assumption | omega | decide) (by first | assumption | omega | decide) (by first | assumption | omega | decide)) (va_cwS 3 hts gX9_take_X9_isOutside rfl rfl rfl (by decide +kernel) ⟨Nat.le_of_ble_eq_true rfl, Nat.le_of_ble_eq_true rfl⟩) (fun _ _ _ _ _ _ => trivial) (fun _ _ _ => trivial) rfl hl.1 (Nat.le_of_ble_eq_true rfl) rfl dX9_take_13 ⟨Nat.le_of_ble_eq_true rfl, Nat.le_of_ble_eq_true rfl⟩ (fun u_4 H locs hwu_4 hP hD hS => ?_)
  try dsimp only at hwu_4
  have hP : zP g [[dsk q d], [((d 11), .inl (g.2 4, 3, .inr (.inr (.inr (.inr (rA [s0, s1, s2]))))))], (storeW g s1 xs1 tt1 nn1 fa1 fb1 fp1)] H := hP
  have hD : zD A [[dsk q d], [((d 11), .inl (g.2 4, 3, .inr (.inr (.inr (.inr (rA [s0, s1, s2]))))))], (storeW g s1 xs1 tt1 nn1 fa1 fb1 fp1)] := hD
  refine z_toI (oU w 0 1) rfl ?_
  have hf_5 := oU_s w 0 1
  refine z_if_eq (tgt := 24) hx hb (by omega) dX9_take_16 (by decide) (fun cq6 => ?_) (fun cq6 => False.elim (by omega))
  refine lv_aload_n hx hb dX9_take_24 rfl (lv_at hl 0 rfl) ?_
  refine z_get hx hb hts hin9_ hown hK hP 0 rfl rfl 11 (by decide) (hts _ (List.mem_of_getElem? (i := 3) rfl)) rfl dX9_take_25 ?_
  refine lv_iload_n hx hb dX9_take_28 rfl (lv_at hl 1 rfl) ?_
  refine z_aald hx hb hK hP 1 4 rfl rfl 1 rfl (by decide) (by decide) s1 rfl dX9_take_29 ?_
  have j40 : W p l e (zRm 2 0 0) s m ([.ref q, vI 1, vI w] : List Value).toArray below meth c H locs (0) (0) (MQ below ((qi g (fun (_ : Unit) => (-2000000011)) (fun (_ : Unit) => True) (fun (_ : Unit) => [[dsk q d], [((d 11), .inl (g.2 4, 3, .inr (.inr (.inr (.inr (rA [s0, s1, s2]))))))], (storeW g s1 xs1 tt1 nn1 fa1 fb1 fp1)])) A) ([.ref q, vI 1, vI w] : List Value).toArray s 0 0 A) (F0 m 40 ls [vI w, .ref s1]) := by
    refine z_cVi (As := [vI w]) (rest := []) ⟨hx, hb, hml, hown, hts⟩ hK hP hD hS hA [2] [0, 1] rfl rfl rfl (c_X6_pop_null l g s1 xs1 tt1 nn1 fa1 fb1 fp1 w hs1 (by omega) (by omega)) (cwV 1 hts gX9_take_X6_pop rfl rfl rfl (by decide +kernel) ⟨Nat.le_of_ble_eq_true rfl, Nat.le_of_ble_eq_true rfl⟩) 6 0 rfl rfl rfl (fun _ _ _ _ _ _ => trivial) (fun _ _ _ => trivial) rfl hl.1 (Nat.le_of_ble_eq_true rfl) rfl dX9_take_40 ⟨Nat.le_of_ble_eq_true rfl, Nat.le_of_ble_eq_true rfl⟩ (fun u_7 H locs hwu_7 hP hD hS => ?_)
    try dsimp only at hwu_7
    have hP : zP g [[dsk q d], [((d 11), .inl (g.2 4, 3, .inr (.inr (.inr (.inr (rA [s0, s1, s2]))))))], (storeW g s1 xs1 tt1 nn1 fa1 fb1 fp1)] H := hP
    have hD : zD A [[dsk q d], [((d 11), .inl (g.2 4, 3, .inr (.inr (.inr (.inr (rA [s0, s1, s2]))))))], (storeW g s1 xs1 tt1 nn1 fa1 fb1 fp1)] := hD
    refine z_toI (-2000000011) rfl ?_
    exact z_reti () [0, 1, 2] hx hb hr rfl hlocks hK hP hD hS (rfl) trivial rfl rfl (rfl) (Nat.le_of_ble_eq_true rfl) (Nat.le_of_ble_eq_true rfl) dX9_take_43
  refine lv_iload_n hx hb dX9_take_30 rfl (lv_at hl 2 rfl) ?_
  refine z_iconst hx hb dX9_take_31 rfl ?_
  refine z_icmp_ne (tgt := 39) hx hb (by omega) (by decide) dX9_take_32 (by decide) (fun cq8 => ?_) (fun cq8 => ?_)
  · refine z_iconst hx hb dX9_take_39 rfl ?_
    refine z_toI w (by omega) ?_
    exact j40
  · refine z_iconst hx hb dX9_take_35 rfl ?_
    refine lv_goto (tgt := 40) hx hb dX9_take_36 (by decide) ?_
    refine z_toI w (by omega) ?_
    exact j40

set_option maxHeartbeats 4000000 in
set_option maxRecDepth 100000 in
theorem c_X9_take1_empty (l : Launch) (g : zG) (q : Nat) (d : Nat → Nat) (s0 : Nat) (s1 : Nat) (s2 : Nat) (xs1 : Nat → Nat) (tt1 : Int) (nn1 : Nat) (fa1 : Nat → Int) (fb1 : Nat → Int) (fp1 : Nat → Int) (w : Int) (hs1 : sok tt1 nn1 fp1) (hw : -2147483648 ≤ w ∧ w < 2147483648) (ho : 0 ≤ w ∧ w ≤ 1) (ht : tt1 = 1) (hn : nn1 = 0) : zMet l g yX9_take wsX9_take 2 0 0 [.ref q, vI 1, vI w] zX0 [[dsk q d], [((d 11), .inl (g.2 4, 3, .inr (.inr (.inr (.inr (rA [s0, s1, s2]))))))], (storeW g s1 xs1 tt1 nn1 fa1 fb1 fp1)] (qi g (fun (_ : Unit) => (-2000000012)) (fun (_ : Unit) => True) (fun (_ : Unit) => [[dsk q d], [((d 11), .inl (g.2 4, 3, .inr (.inr (.inr (.inr (rA [s0, s1, s2]))))))], (storeW g s1 xs1 tt1 nn1 fa1 fb1 fp1)])) := by
  refine z_ent (cc := cX9_take) (maxL := 3) (ret := (some .int)) (by decide) rfl (Nat.le_of_ble_eq_true rfl) ?_
  intro p e s m below meth c A ls hx hb hr hml hown hts hlocks hin0 hA hK hP hD hS hXX hl
  have hown : s.vm.findClass RX9 = some m.cls := hown
  have hin9_ : ∀ w ∈ wsX90, w ∈ wsX9_take := zw_in [24, 25, 26, 27, 28, 29, 30, 31, 32, 33, 34, 35] rfl
  have hl : lv_has ls 3 [(0, .ref q), (1, vI 1), (2, vI w)] := hl
  refine lv_iload_n hx hb dX9_take_0 rfl (lv_at hl 1 rfl) ?_
  refine z_cSi (As := [vI 1]) (rest := []) ⟨hx, hb, hml, hown, hts⟩ hK hP hD hS hA [] [0, 1, 2] rfl rfl rfl (c_X9_isNoStore l g 1 (by omega)) (va_cwS 1 hts gX9_take_X9_isNoStore rfl rfl rfl (by decide +kernel) ⟨Nat.le_of_ble_eq_true rfl, Nat.le_of_ble_eq_true rfl⟩) (fun _ _ _ _ _ _ => trivial) (fun _ _ _ => trivial) rfl hl.1 (Nat.le_of_ble_eq_true rfl) rfl dX9_take_1 ⟨Nat.le_of_ble_eq_true rfl, Nat.le_of_ble_eq_true rfl⟩ (fun u_1 H locs hwu_1 hP hD hS => ?_)
  try dsimp only at hwu_1
  have hP : zP g [[dsk q d], [((d 11), .inl (g.2 4, 3, .inr (.inr (.inr (.inr (rA [s0, s1, s2]))))))], (storeW g s1 xs1 tt1 nn1 fa1 fb1 fp1)] H := hP
  have hD : zD A [[dsk q d], [((d 11), .inl (g.2 4, 3, .inr (.inr (.inr (.inr (rA [s0, s1, s2]))))))], (storeW g s1 xs1 tt1 nn1 fa1 fb1 fp1)] := hD
  refine z_toI (oU 1 0 2) rfl ?_
  have hf_2 := oU_s 1 0 2
  refine z_if_eq (tgt := 10) hx hb (by omega) dX9_take_4 (by decide) (fun cq3 => ?_) (fun cq3 => False.elim (by omega))
  refine lv_iload_n hx hb dX9_take_10 rfl (lv_at hl 2 rfl) ?_
  refine z_iconst hx hb dX9_take_11 rfl ?_
  refine z_iconst hx hb dX9_take_12 rfl ?_
  refine z_cSi (As := [vI w, vI 0, vI 1]) (rest := []) ⟨hx, hb, hml, hown, hts⟩ hK hP hD hS hA [] [0, 1, 2] rfl rfl rfl (c_X9_isOutside l g w 0 1 (by first | assumption | omega | decide) (by first | assumption | omega | decide) (by first | assumption | omega | decide)) (va_cwS 3 hts gX9_take_X9_isOutside rfl rfl rfl (by decide +kernel) ⟨Nat.le_of_ble_eq_true rfl, Nat.le_of_ble_eq_true rfl⟩) (fun _ _ _ _ _ _ => trivial) (fun _ _ _ => trivial) rfl hl.1 (Nat.le_of_ble_eq_true rfl) rfl dX9_take_13 ⟨Nat.le_of_ble_eq_true rfl, Nat.le_of_ble_eq_true rfl⟩ (fun u_4 H locs hwu_4 hP hD hS => ?_)
  try dsimp only at hwu_4
  have hP : zP g [[dsk q d], [((d 11), .inl (g.2 4, 3, .inr (.inr (.inr (.inr (rA [s0, s1, s2]))))))], (storeW g s1 xs1 tt1 nn1 fa1 fb1 fp1)] H := hP
  have hD : zD A [[dsk q d], [((d 11), .inl (g.2 4, 3, .inr (.inr (.inr (.inr (rA [s0, s1, s2]))))))], (storeW g s1 xs1 tt1 nn1 fa1 fb1 fp1)] := hD
  refine z_toI (oU w 0 1) rfl ?_
  have hf_5 := oU_s w 0 1
  refine z_if_eq (tgt := 24) hx hb (by omega) dX9_take_16 (by decide) (fun cq6 => ?_) (fun cq6 => False.elim (by omega))
  refine lv_aload_n hx hb dX9_take_24 rfl (lv_at hl 0 rfl) ?_
  refine z_get hx hb hts hin9_ hown hK hP 0 rfl rfl 11 (by decide) (hts _ (List.mem_of_getElem? (i := 3) rfl)) rfl dX9_take_25 ?_
  refine lv_iload_n hx hb dX9_take_28 rfl (lv_at hl 1 rfl) ?_
  refine z_aald hx hb hK hP 1 4 rfl rfl 1 rfl (by decide) (by decide) s1 rfl dX9_take_29 ?_
  have j40 : W p l e (zRm 2 0 0) s m ([.ref q, vI 1, vI w] : List Value).toArray below meth c H locs (0) (0) (MQ below ((qi g (fun (_ : Unit) => (-2000000012)) (fun (_ : Unit) => True) (fun (_ : Unit) => [[dsk q d], [((d 11), .inl (g.2 4, 3, .inr (.inr (.inr (.inr (rA [s0, s1, s2]))))))], (storeW g s1 xs1 tt1 nn1 fa1 fb1 fp1)])) A) ([.ref q, vI 1, vI w] : List Value).toArray s 0 0 A) (F0 m 40 ls [vI w, .ref s1]) := by
    refine z_cVi (As := [vI w]) (rest := []) ⟨hx, hb, hml, hown, hts⟩ hK hP hD hS hA [2] [0, 1] rfl rfl rfl (c_X6_pop_empty l g s1 xs1 tt1 nn1 fa1 fb1 fp1 w hs1 (by omega) (by omega) (by omega)) (cwV 1 hts gX9_take_X6_pop rfl rfl rfl (by decide +kernel) ⟨Nat.le_of_ble_eq_true rfl, Nat.le_of_ble_eq_true rfl⟩) 6 0 rfl rfl rfl (fun _ _ _ _ _ _ => trivial) (fun _ _ _ => trivial) rfl hl.1 (Nat.le_of_ble_eq_true rfl) rfl dX9_take_40 ⟨Nat.le_of_ble_eq_true rfl, Nat.le_of_ble_eq_true rfl⟩ (fun u_7 H locs hwu_7 hP hD hS => ?_)
    try dsimp only at hwu_7
    have hP : zP g [[dsk q d], [((d 11), .inl (g.2 4, 3, .inr (.inr (.inr (.inr (rA [s0, s1, s2]))))))], (storeW g s1 xs1 tt1 nn1 fa1 fb1 fp1)] H := hP
    have hD : zD A [[dsk q d], [((d 11), .inl (g.2 4, 3, .inr (.inr (.inr (.inr (rA [s0, s1, s2]))))))], (storeW g s1 xs1 tt1 nn1 fa1 fb1 fp1)] := hD
    refine z_toI (-2000000012) rfl ?_
    exact z_reti () [0, 1, 2] hx hb hr rfl hlocks hK hP hD hS (rfl) trivial rfl rfl (rfl) (Nat.le_of_ble_eq_true rfl) (Nat.le_of_ble_eq_true rfl) dX9_take_43
  refine lv_iload_n hx hb dX9_take_30 rfl (lv_at hl 2 rfl) ?_
  refine z_iconst hx hb dX9_take_31 rfl ?_
  refine z_icmp_ne (tgt := 39) hx hb (by omega) (by decide) dX9_take_32 (by decide) (fun cq8 => ?_) (fun cq8 => ?_)
  · refine z_iconst hx hb dX9_take_39 rfl ?_
    refine z_toI w (by omega) ?_
    exact j40
  · refine z_iconst hx hb dX9_take_35 rfl ?_
    refine lv_goto (tgt := 40) hx hb dX9_take_36 (by decide) ?_
    refine z_toI w (by omega) ?_
    exact j40

set_option maxHeartbeats 4000000 in
set_option maxRecDepth 100000 in
theorem c_X9_take1_cast (l : Launch) (g : zG) (q : Nat) (d : Nat → Nat) (s0 : Nat) (s1 : Nat) (s2 : Nat) (xs1 : Nat → Nat) (tt1 : Int) (nn1 : Nat) (fa1 : Nat → Int) (fb1 : Nat → Int) (fp1 : Nat → Int) (w : Int) (hs1 : sok tt1 nn1 fp1) (hw : -2147483648 ≤ w ∧ w < 2147483648) (ho : 0 ≤ w ∧ w ≤ 1) (ht : tt1 = 1) (hn : 1 ≤ nn1) (hc : fp1 (nn1 - 1) ≠ w) : zMet l g yX9_take wsX9_take 2 0 0 [.ref q, vI 1, vI w] zX0 [[dsk q d], [((d 11), .inl (g.2 4, 3, .inr (.inr (.inr (.inr (rA [s0, s1, s2]))))))], (storeW g s1 xs1 tt1 nn1 fa1 fb1 fp1)] (qi g (fun (_ : Unit) => (-2000000013)) (fun (_ : Unit) => True) (fun (_ : Unit) => [[dsk q d], [((d 11), .inl (g.2 4, 3, .inr (.inr (.inr (.inr (rA [s0, s1, s2]))))))], (storeW g s1 xs1 tt1 nn1 fa1 fb1 fp1)])) := by
  refine z_ent (cc := cX9_take) (maxL := 3) (ret := (some .int)) (by decide) rfl (Nat.le_of_ble_eq_true rfl) ?_
  intro p e s m below meth c A ls hx hb hr hml hown hts hlocks hin0 hA hK hP hD hS hXX hl
  have hown : s.vm.findClass RX9 = some m.cls := hown
  have hin9_ : ∀ w ∈ wsX90, w ∈ wsX9_take := zw_in [24, 25, 26, 27, 28, 29, 30, 31, 32, 33, 34, 35] rfl
  have hl : lv_has ls 3 [(0, .ref q), (1, vI 1), (2, vI w)] := hl
  refine lv_iload_n hx hb dX9_take_0 rfl (lv_at hl 1 rfl) ?_
  refine z_cSi (As := [vI 1]) (rest := []) ⟨hx, hb, hml, hown, hts⟩ hK hP hD hS hA [] [0, 1, 2] rfl rfl rfl (c_X9_isNoStore l g 1 (by omega)) (va_cwS 1 hts gX9_take_X9_isNoStore rfl rfl rfl (by decide +kernel) ⟨Nat.le_of_ble_eq_true rfl, Nat.le_of_ble_eq_true rfl⟩) (fun _ _ _ _ _ _ => trivial) (fun _ _ _ => trivial) rfl hl.1 (Nat.le_of_ble_eq_true rfl) rfl dX9_take_1 ⟨Nat.le_of_ble_eq_true rfl, Nat.le_of_ble_eq_true rfl⟩ (fun u_1 H locs hwu_1 hP hD hS => ?_)
  try dsimp only at hwu_1
  have hP : zP g [[dsk q d], [((d 11), .inl (g.2 4, 3, .inr (.inr (.inr (.inr (rA [s0, s1, s2]))))))], (storeW g s1 xs1 tt1 nn1 fa1 fb1 fp1)] H := hP
  have hD : zD A [[dsk q d], [((d 11), .inl (g.2 4, 3, .inr (.inr (.inr (.inr (rA [s0, s1, s2]))))))], (storeW g s1 xs1 tt1 nn1 fa1 fb1 fp1)] := hD
  refine z_toI (oU 1 0 2) rfl ?_
  have hf_2 := oU_s 1 0 2
  refine z_if_eq (tgt := 10) hx hb (by omega) dX9_take_4 (by decide) (fun cq3 => ?_) (fun cq3 => False.elim (by omega))
  refine lv_iload_n hx hb dX9_take_10 rfl (lv_at hl 2 rfl) ?_
  refine z_iconst hx hb dX9_take_11 rfl ?_
  refine z_iconst hx hb dX9_take_12 rfl ?_
  refine z_cSi (As := [vI w, vI 0, vI 1]) (rest := []) ⟨hx, hb, hml, hown, hts⟩ hK hP hD hS hA [] [0, 1, 2] rfl rfl rfl (c_X9_isOutside l g w 0 1 (by first | assumption | omega | decide) (by first | assumption | omega | decide) (by first | assumption | omega | decide)) (va_cwS 3 hts gX9_take_X9_isOutside rfl rfl rfl (by decide +kernel) ⟨Nat.le_of_ble_eq_true rfl, Nat.le_of_ble_eq_true rfl⟩) (fun _ _ _ _ _ _ => trivial) (fun _ _ _ => trivial) rfl hl.1 (Nat.le_of_ble_eq_true rfl) rfl dX9_take_13 ⟨Nat.le_of_ble_eq_true rfl, Nat.le_of_ble_eq_true rfl⟩ (fun u_4 H locs hwu_4 hP hD hS => ?_)
  try dsimp only at hwu_4
  have hP : zP g [[dsk q d], [((d 11), .inl (g.2 4, 3, .inr (.inr (.inr (.inr (rA [s0, s1, s2]))))))], (storeW g s1 xs1 tt1 nn1 fa1 fb1 fp1)] H := hP
  have hD : zD A [[dsk q d], [((d 11), .inl (g.2 4, 3, .inr (.inr (.inr (.inr (rA [s0, s1, s2]))))))], (storeW g s1 xs1 tt1 nn1 fa1 fb1 fp1)] := hD
  refine z_toI (oU w 0 1) rfl ?_
  have hf_5 := oU_s w 0 1
  refine z_if_eq (tgt := 24) hx hb (by omega) dX9_take_16 (by decide) (fun cq6 => ?_) (fun cq6 => False.elim (by omega))
  refine lv_aload_n hx hb dX9_take_24 rfl (lv_at hl 0 rfl) ?_
  refine z_get hx hb hts hin9_ hown hK hP 0 rfl rfl 11 (by decide) (hts _ (List.mem_of_getElem? (i := 3) rfl)) rfl dX9_take_25 ?_
  refine lv_iload_n hx hb dX9_take_28 rfl (lv_at hl 1 rfl) ?_
  refine z_aald hx hb hK hP 1 4 rfl rfl 1 rfl (by decide) (by decide) s1 rfl dX9_take_29 ?_
  have j40 : W p l e (zRm 2 0 0) s m ([.ref q, vI 1, vI w] : List Value).toArray below meth c H locs (0) (0) (MQ below ((qi g (fun (_ : Unit) => (-2000000013)) (fun (_ : Unit) => True) (fun (_ : Unit) => [[dsk q d], [((d 11), .inl (g.2 4, 3, .inr (.inr (.inr (.inr (rA [s0, s1, s2]))))))], (storeW g s1 xs1 tt1 nn1 fa1 fb1 fp1)])) A) ([.ref q, vI 1, vI w] : List Value).toArray s 0 0 A) (F0 m 40 ls [vI w, .ref s1]) := by
    refine z_cVi (As := [vI w]) (rest := []) ⟨hx, hb, hml, hown, hts⟩ hK hP hD hS hA [2] [0, 1] rfl rfl rfl (c_X6_pop_cast l g s1 xs1 tt1 nn1 fa1 fb1 fp1 w hs1 (by omega) (by omega) (by omega) hc) (cwV 1 hts gX9_take_X6_pop rfl rfl rfl (by decide +kernel) ⟨Nat.le_of_ble_eq_true rfl, Nat.le_of_ble_eq_true rfl⟩) 6 0 rfl rfl rfl (fun _ _ _ _ _ _ => trivial) (fun _ _ _ => trivial) rfl hl.1 (Nat.le_of_ble_eq_true rfl) rfl dX9_take_40 ⟨Nat.le_of_ble_eq_true rfl, Nat.le_of_ble_eq_true rfl⟩ (fun u_7 H locs hwu_7 hP hD hS => ?_)
    try dsimp only at hwu_7
    have hP : zP g [[dsk q d], [((d 11), .inl (g.2 4, 3, .inr (.inr (.inr (.inr (rA [s0, s1, s2]))))))], (storeW g s1 xs1 tt1 nn1 fa1 fb1 fp1)] H := hP
    have hD : zD A [[dsk q d], [((d 11), .inl (g.2 4, 3, .inr (.inr (.inr (.inr (rA [s0, s1, s2]))))))], (storeW g s1 xs1 tt1 nn1 fa1 fb1 fp1)] := hD
    refine z_toI (-2000000013) rfl ?_
    exact z_reti () [0, 1, 2] hx hb hr rfl hlocks hK hP hD hS (rfl) trivial rfl rfl (rfl) (Nat.le_of_ble_eq_true rfl) (Nat.le_of_ble_eq_true rfl) dX9_take_43
  refine lv_iload_n hx hb dX9_take_30 rfl (lv_at hl 2 rfl) ?_
  refine z_iconst hx hb dX9_take_31 rfl ?_
  refine z_icmp_ne (tgt := 39) hx hb (by omega) (by decide) dX9_take_32 (by decide) (fun cq8 => ?_) (fun cq8 => ?_)
  · refine z_iconst hx hb dX9_take_39 rfl ?_
    refine z_toI w (by omega) ?_
    exact j40
  · refine z_iconst hx hb dX9_take_35 rfl ?_
    refine lv_goto (tgt := 40) hx hb dX9_take_36 (by decide) ?_
    refine z_toI w (by omega) ?_
    exact j40

set_option maxHeartbeats 4000000 in
set_option maxRecDepth 100000 in
theorem c_X9_take1_ok (l : Launch) (g : zG) (q : Nat) (d : Nat → Nat) (s0 : Nat) (s1 : Nat) (s2 : Nat) (xs1 : Nat → Nat) (tt1 : Int) (nn1 : Nat) (fa1 : Nat → Int) (fb1 : Nat → Int) (fp1 : Nat → Int) (w : Int) (hs1 : sok tt1 nn1 fp1) (hw : -2147483648 ≤ w ∧ w < 2147483648) (ho : 0 ≤ w ∧ w ≤ 1) (ht : tt1 = 1) (hn : 1 ≤ nn1) (hc : fp1 (nn1 - 1) = w) : zMet l g yX9_take wsX9_take 2 0 0 [.ref q, vI 1, vI w] zX0 [[dsk q d], [((d 11), .inl (g.2 4, 3, .inr (.inr (.inr (.inr (rA [s0, s1, s2]))))))], (storeW g s1 xs1 tt1 nn1 fa1 fb1 fp1)] (qi g (fun (_ : Unit) => (if w = 0 then fa1 (nn1 - 1) else fa1 (nn1 - 1) * fa1 (nn1 - 1) - fa1 (nn1 - 1) * fb1 (nn1 - 1) + fb1 (nn1 - 1) * fb1 (nn1 - 1))) (fun (_ : Unit) => True) (fun (_ : Unit) => [[dsk q d], [((d 11), .inl (g.2 4, 3, .inr (.inr (.inr (.inr (rA [s0, s1, s2]))))))], (storeW g s1 xs1 tt1 (nn1 - 1) fa1 fb1 fp1)])) := by
  refine z_ent (cc := cX9_take) (maxL := 3) (ret := (some .int)) (by decide) rfl (Nat.le_of_ble_eq_true rfl) ?_
  intro p e s m below meth c A ls hx hb hr hml hown hts hlocks hin0 hA hK hP hD hS hXX hl
  have hown : s.vm.findClass RX9 = some m.cls := hown
  have hin9_ : ∀ w ∈ wsX90, w ∈ wsX9_take := zw_in [24, 25, 26, 27, 28, 29, 30, 31, 32, 33, 34, 35] rfl
  have hl : lv_has ls 3 [(0, .ref q), (1, vI 1), (2, vI w)] := hl
  refine lv_iload_n hx hb dX9_take_0 rfl (lv_at hl 1 rfl) ?_
  refine z_cSi (As := [vI 1]) (rest := []) ⟨hx, hb, hml, hown, hts⟩ hK hP hD hS hA [] [0, 1, 2] rfl rfl rfl (c_X9_isNoStore l g 1 (by omega)) (va_cwS 1 hts gX9_take_X9_isNoStore rfl rfl rfl (by decide +kernel) ⟨Nat.le_of_ble_eq_true rfl, Nat.le_of_ble_eq_true rfl⟩) (fun _ _ _ _ _ _ => trivial) (fun _ _ _ => trivial) rfl hl.1 (Nat.le_of_ble_eq_true rfl) rfl dX9_take_1 ⟨Nat.le_of_ble_eq_true rfl, Nat.le_of_ble_eq_true rfl⟩ (fun u_1 H locs hwu_1 hP hD hS => ?_)
  try dsimp only at hwu_1
  have hP : zP g [[dsk q d], [((d 11), .inl (g.2 4, 3, .inr (.inr (.inr (.inr (rA [s0, s1, s2]))))))], (storeW g s1 xs1 tt1 nn1 fa1 fb1 fp1)] H := hP
  have hD : zD A [[dsk q d], [((d 11), .inl (g.2 4, 3, .inr (.inr (.inr (.inr (rA [s0, s1, s2]))))))], (storeW g s1 xs1 tt1 nn1 fa1 fb1 fp1)] := hD
  refine z_toI (oU 1 0 2) rfl ?_
  have hf_2 := oU_s 1 0 2
  refine z_if_eq (tgt := 10) hx hb (by omega) dX9_take_4 (by decide) (fun cq3 => ?_) (fun cq3 => False.elim (by omega))
  refine lv_iload_n hx hb dX9_take_10 rfl (lv_at hl 2 rfl) ?_
  refine z_iconst hx hb dX9_take_11 rfl ?_
  refine z_iconst hx hb dX9_take_12 rfl ?_
  refine z_cSi (As := [vI w, vI 0, vI 1]) (rest := []) ⟨hx, hb, hml, hown, hts⟩ hK hP hD hS hA [] [0, 1, 2] rfl rfl rfl (c_X9_isOutside l g w 0 1 (by first | assumption | omega | decide) (by first | assumption | omega | decide) (by first | assumption | omega | decide)) (va_cwS 3 hts gX9_take_X9_isOutside rfl rfl rfl (by decide +kernel) ⟨Nat.le_of_ble_eq_true rfl, Nat.le_of_ble_eq_true rfl⟩) (fun _ _ _ _ _ _ => trivial) (fun _ _ _ => trivial) rfl hl.1 (Nat.le_of_ble_eq_true rfl) rfl dX9_take_13 ⟨Nat.le_of_ble_eq_true rfl, Nat.le_of_ble_eq_true rfl⟩ (fun u_4 H locs hwu_4 hP hD hS => ?_)
  try dsimp only at hwu_4
  have hP : zP g [[dsk q d], [((d 11), .inl (g.2 4, 3, .inr (.inr (.inr (.inr (rA [s0, s1, s2]))))))], (storeW g s1 xs1 tt1 nn1 fa1 fb1 fp1)] H := hP
  have hD : zD A [[dsk q d], [((d 11), .inl (g.2 4, 3, .inr (.inr (.inr (.inr (rA [s0, s1, s2]))))))], (storeW g s1 xs1 tt1 nn1 fa1 fb1 fp1)] := hD
  refine z_toI (oU w 0 1) rfl ?_
  have hf_5 := oU_s w 0 1
  refine z_if_eq (tgt := 24) hx hb (by omega) dX9_take_16 (by decide) (fun cq6 => ?_) (fun cq6 => False.elim (by omega))
  refine lv_aload_n hx hb dX9_take_24 rfl (lv_at hl 0 rfl) ?_
  refine z_get hx hb hts hin9_ hown hK hP 0 rfl rfl 11 (by decide) (hts _ (List.mem_of_getElem? (i := 3) rfl)) rfl dX9_take_25 ?_
  refine lv_iload_n hx hb dX9_take_28 rfl (lv_at hl 1 rfl) ?_
  refine z_aald hx hb hK hP 1 4 rfl rfl 1 rfl (by decide) (by decide) s1 rfl dX9_take_29 ?_
  have j40 : W p l e (zRm 2 0 0) s m ([.ref q, vI 1, vI w] : List Value).toArray below meth c H locs (0) (0) (MQ below ((qi g (fun (_ : Unit) => (if w = 0 then fa1 (nn1 - 1) else fa1 (nn1 - 1) * fa1 (nn1 - 1) - fa1 (nn1 - 1) * fb1 (nn1 - 1) + fb1 (nn1 - 1) * fb1 (nn1 - 1))) (fun (_ : Unit) => True) (fun (_ : Unit) => [[dsk q d], [((d 11), .inl (g.2 4, 3, .inr (.inr (.inr (.inr (rA [s0, s1, s2]))))))], (storeW g s1 xs1 tt1 (nn1 - 1) fa1 fb1 fp1)])) A) ([.ref q, vI 1, vI w] : List Value).toArray s 0 0 A) (F0 m 40 ls [vI w, .ref s1]) := by
    refine z_cVi (As := [vI w]) (rest := []) ⟨hx, hb, hml, hown, hts⟩ hK hP hD hS hA [2] [0, 1] rfl rfl rfl (c_X6_pop_ok l g s1 xs1 tt1 nn1 fa1 fb1 fp1 w hs1 (by omega) (by omega) (by omega) hc) (cwV 1 hts gX9_take_X6_pop rfl rfl rfl (by decide +kernel) ⟨Nat.le_of_ble_eq_true rfl, Nat.le_of_ble_eq_true rfl⟩) 6 0 rfl rfl rfl (fun _ _ _ _ _ _ => trivial) (fun _ _ _ => trivial) rfl hl.1 (Nat.le_of_ble_eq_true rfl) rfl dX9_take_40 ⟨Nat.le_of_ble_eq_true rfl, Nat.le_of_ble_eq_true rfl⟩ (fun u_7 H locs hwu_7 hP hD hS => ?_)
    try dsimp only at hwu_7
    have hP : zP g [[dsk q d], [((d 11), .inl (g.2 4, 3, .inr (.inr (.inr (.inr (rA [s0, s1, s2]))))))], (storeW g s1 xs1 tt1 (nn1 - 1) fa1 fb1 fp1)] H := hP
    have hD : zD A [[dsk q d], [((d 11), .inl (g.2 4, 3, .inr (.inr (.inr (.inr (rA [s0, s1, s2]))))))], (storeW g s1 xs1 tt1 (nn1 - 1) fa1 fb1 fp1)] := hD
    refine z_toI (if w = 0 then fa1 (nn1 - 1) else fa1 (nn1 - 1) * fa1 (nn1 - 1) - fa1 (nn1 - 1) * fb1 (nn1 - 1) + fb1 (nn1 - 1) * fb1 (nn1 - 1)) rfl ?_
    exact z_reti () [0, 1, 2] hx hb hr rfl hlocks hK hP hD hS (rfl) trivial rfl rfl (rfl) (Nat.le_of_ble_eq_true rfl) (Nat.le_of_ble_eq_true rfl) dX9_take_43
  refine lv_iload_n hx hb dX9_take_30 rfl (lv_at hl 2 rfl) ?_
  refine z_iconst hx hb dX9_take_31 rfl ?_
  refine z_icmp_ne (tgt := 39) hx hb (by omega) (by decide) dX9_take_32 (by decide) (fun cq8 => ?_) (fun cq8 => ?_)
  · refine z_iconst hx hb dX9_take_39 rfl ?_
    refine z_toI w (by omega) ?_
    exact j40
  · refine z_iconst hx hb dX9_take_35 rfl ?_
    refine lv_goto (tgt := 40) hx hb dX9_take_36 (by decide) ?_
    refine z_toI w (by omega) ?_
    exact j40

set_option maxHeartbeats 4000000 in
set_option maxRecDepth 100000 in
theorem c_X9_sum1_null (l : Launch) (g : zG) (q : Nat) (d : Nat → Nat) (s0 : Nat) (s1 : Nat) (s2 : Nat) (xs1 : Nat → Nat) (tt1 : Int) (nn1 : Nat) (fa1 : Nat → Int) (fb1 : Nat → Int) (fp1 : Nat → Int) (w : Int) (hs1 : sok tt1 nn1 fp1) (hw : -2147483648 ≤ w ∧ w < 2147483648) (ho : 0 ≤ w ∧ w ≤ 2) (ht : tt1 = 0) : zMet l g yX9_sum wsX9_sum 2 0 0 [.ref q, vI 1, vI w] zX0 [[dsk q d], [((d 11), .inl (g.2 4, 3, .inr (.inr (.inr (.inr (rA [s0, s1, s2]))))))], (storeW g s1 xs1 tt1 nn1 fa1 fb1 fp1)] (qi g (fun (_ : Unit) => (-2000000011)) (fun (_ : Unit) => True) (fun (_ : Unit) => [[dsk q d], [((d 11), .inl (g.2 4, 3, .inr (.inr (.inr (.inr (rA [s0, s1, s2]))))))], (storeW g s1 xs1 tt1 nn1 fa1 fb1 fp1)])) := by
  refine z_ent (cc := cX9_sum) (maxL := 3) (ret := (some .int)) (by decide) rfl (Nat.le_of_ble_eq_true rfl) ?_
  intro p e s m below meth c A ls hx hb hr hml hown hts hlocks hin0 hA hK hP hD hS hXX hl
  have hown : s.vm.findClass RX9 = some m.cls := hown
  have hin9_ : ∀ w ∈ wsX90, w ∈ wsX9_sum := zw_in [22, 23, 24, 25, 26, 27, 28, 29, 30, 31, 32, 33] rfl
  have hl : lv_has ls 3 [(0, .ref q), (1, vI 1), (2, vI w)] := hl
  refine lv_iload_n hx hb dX9_sum_0 rfl (lv_at hl 1 rfl) ?_
  refine z_cSi (As := [vI 1]) (rest := []) ⟨hx, hb, hml, hown, hts⟩ hK hP hD hS hA [] [0, 1, 2] rfl rfl rfl (c_X9_isNoStore l g 1 (by omega)) (va_cwS 1 hts gX9_sum_X9_isNoStore rfl rfl rfl (by decide +kernel) ⟨Nat.le_of_ble_eq_true rfl, Nat.le_of_ble_eq_true rfl⟩) (fun _ _ _ _ _ _ => trivial) (fun _ _ _ => trivial) rfl hl.1 (Nat.le_of_ble_eq_true rfl) rfl dX9_sum_1 ⟨Nat.le_of_ble_eq_true rfl, Nat.le_of_ble_eq_true rfl⟩ (fun u_1 H locs hwu_1 hP hD hS => ?_)
  try dsimp only at hwu_1
  have hP : zP g [[dsk q d], [((d 11), .inl (g.2 4, 3, .inr (.inr (.inr (.inr (rA [s0, s1, s2]))))))], (storeW g s1 xs1 tt1 nn1 fa1 fb1 fp1)] H := hP
  have hD : zD A [[dsk q d], [((d 11), .inl (g.2 4, 3, .inr (.inr (.inr (.inr (rA [s0, s1, s2]))))))], (storeW g s1 xs1 tt1 nn1 fa1 fb1 fp1)] := hD
  refine z_toI (oU 1 0 2) rfl ?_
  have hf_2 := oU_s 1 0 2
  refine z_if_eq (tgt := 10) hx hb (by omega) dX9_sum_4 (by decide) (fun cq3 => ?_) (fun cq3 => False.elim (by omega))
  refine lv_iload_n hx hb dX9_sum_10 rfl (lv_at hl 2 rfl) ?_
  refine z_iconst hx hb dX9_sum_11 rfl ?_
  refine z_iconst hx hb dX9_sum_12 rfl ?_
  refine z_cSi (As := [vI w, vI 0, vI 2]) (rest := []) ⟨hx, hb, hml, hown, hts⟩ hK hP hD hS hA [] [0, 1, 2] rfl rfl rfl (c_X9_isOutside l g w 0 2 (by first | assumption | omega | decide) (by first | assumption | omega | decide) (by first | assumption | omega | decide)) (va_cwS 3 hts gX9_sum_X9_isOutside rfl rfl rfl (by decide +kernel) ⟨Nat.le_of_ble_eq_true rfl, Nat.le_of_ble_eq_true rfl⟩) (fun _ _ _ _ _ _ => trivial) (fun _ _ _ => trivial) rfl hl.1 (Nat.le_of_ble_eq_true rfl) rfl dX9_sum_13 ⟨Nat.le_of_ble_eq_true rfl, Nat.le_of_ble_eq_true rfl⟩ (fun u_4 H locs hwu_4 hP hD hS => ?_)
  try dsimp only at hwu_4
  have hP : zP g [[dsk q d], [((d 11), .inl (g.2 4, 3, .inr (.inr (.inr (.inr (rA [s0, s1, s2]))))))], (storeW g s1 xs1 tt1 nn1 fa1 fb1 fp1)] H := hP
  have hD : zD A [[dsk q d], [((d 11), .inl (g.2 4, 3, .inr (.inr (.inr (.inr (rA [s0, s1, s2]))))))], (storeW g s1 xs1 tt1 nn1 fa1 fb1 fp1)] := hD
  refine z_toI (oU w 0 2) rfl ?_
  have hf_5 := oU_s w 0 2
  refine z_if_eq (tgt := 24) hx hb (by omega) dX9_sum_16 (by decide) (fun cq6 => ?_) (fun cq6 => False.elim (by omega))
  refine lv_aload_n hx hb dX9_sum_24 rfl (lv_at hl 0 rfl) ?_
  refine z_get hx hb hts hin9_ hown hK hP 0 rfl rfl 11 (by decide) (hts _ (List.mem_of_getElem? (i := 3) rfl)) rfl dX9_sum_25 ?_
  refine lv_iload_n hx hb dX9_sum_28 rfl (lv_at hl 1 rfl) ?_
  refine z_aald hx hb hK hP 1 4 rfl rfl 1 rfl (by decide) (by decide) s1 rfl dX9_sum_29 ?_
  refine lv_iload_n hx hb dX9_sum_30 rfl (lv_at hl 2 rfl) ?_
  refine z_cVi (As := [vI w]) (rest := []) ⟨hx, hb, hml, hown, hts⟩ hK hP hD hS hA [2] [0, 1] rfl rfl rfl (c_X6_totalOf_null l g s1 xs1 tt1 nn1 fa1 fb1 fp1 w hs1 (by omega)) (cwV 1 hts gX9_sum_X6_totalOf rfl rfl rfl (by decide +kernel) ⟨Nat.le_of_ble_eq_true rfl, Nat.le_of_ble_eq_true rfl⟩) 6 0 rfl rfl rfl (fun _ _ _ _ _ _ => trivial) (fun _ _ _ => trivial) rfl hl.1 (Nat.le_of_ble_eq_true rfl) rfl dX9_sum_31 ⟨Nat.le_of_ble_eq_true rfl, Nat.le_of_ble_eq_true rfl⟩ (fun u_7 H locs hwu_7 hP hD hS => ?_)
  try dsimp only at hwu_7
  have hP : zP g [[dsk q d], [((d 11), .inl (g.2 4, 3, .inr (.inr (.inr (.inr (rA [s0, s1, s2]))))))], (storeW g s1 xs1 tt1 nn1 fa1 fb1 fp1)] H := hP
  have hD : zD A [[dsk q d], [((d 11), .inl (g.2 4, 3, .inr (.inr (.inr (.inr (rA [s0, s1, s2]))))))], (storeW g s1 xs1 tt1 nn1 fa1 fb1 fp1)] := hD
  refine z_toI (-2000000011) rfl ?_
  exact z_reti () [0, 1, 2] hx hb hr rfl hlocks hK hP hD hS (rfl) trivial rfl rfl (rfl) (Nat.le_of_ble_eq_true rfl) (Nat.le_of_ble_eq_true rfl) dX9_sum_34

set_option maxHeartbeats 4000000 in
set_option maxRecDepth 100000 in
theorem c_X9_sum1_ok (l : Launch) (g : zG) (q : Nat) (d : Nat → Nat) (s0 : Nat) (s1 : Nat) (s2 : Nat) (xs1 : Nat → Nat) (tt1 : Int) (nn1 : Nat) (fa1 : Nat → Int) (fb1 : Nat → Int) (fp1 : Nat → Int) (w : Int) (hs1 : sok tt1 nn1 fp1) (hw : -2147483648 ≤ w ∧ w < 2147483648) (ho : 0 ≤ w ∧ w ≤ 2) (ht : tt1 = 1) : zMet l g yX9_sum wsX9_sum 2 0 0 [.ref q, vI 1, vI w] zX0 [[dsk q d], [((d 11), .inl (g.2 4, 3, .inr (.inr (.inr (.inr (rA [s0, s1, s2]))))))], (storeW g s1 xs1 tt1 nn1 fa1 fb1 fp1)] (qi g (fun (_ : Unit) => (tot nn1 (if w = 2 then fp1 else if w = 0 then fa1 else fb1))) (fun (_ : Unit) => True) (fun (_ : Unit) => [[dsk q d], [((d 11), .inl (g.2 4, 3, .inr (.inr (.inr (.inr (rA [s0, s1, s2]))))))], (storeW g s1 xs1 tt1 nn1 fa1 fb1 fp1)])) := by
  refine z_ent (cc := cX9_sum) (maxL := 3) (ret := (some .int)) (by decide) rfl (Nat.le_of_ble_eq_true rfl) ?_
  intro p e s m below meth c A ls hx hb hr hml hown hts hlocks hin0 hA hK hP hD hS hXX hl
  have hown : s.vm.findClass RX9 = some m.cls := hown
  have hin9_ : ∀ w ∈ wsX90, w ∈ wsX9_sum := zw_in [22, 23, 24, 25, 26, 27, 28, 29, 30, 31, 32, 33] rfl
  have hl : lv_has ls 3 [(0, .ref q), (1, vI 1), (2, vI w)] := hl
  refine lv_iload_n hx hb dX9_sum_0 rfl (lv_at hl 1 rfl) ?_
  refine z_cSi (As := [vI 1]) (rest := []) ⟨hx, hb, hml, hown, hts⟩ hK hP hD hS hA [] [0, 1, 2] rfl rfl rfl (c_X9_isNoStore l g 1 (by omega)) (va_cwS 1 hts gX9_sum_X9_isNoStore rfl rfl rfl (by decide +kernel) ⟨Nat.le_of_ble_eq_true rfl, Nat.le_of_ble_eq_true rfl⟩) (fun _ _ _ _ _ _ => trivial) (fun _ _ _ => trivial) rfl hl.1 (Nat.le_of_ble_eq_true rfl) rfl dX9_sum_1 ⟨Nat.le_of_ble_eq_true rfl, Nat.le_of_ble_eq_true rfl⟩ (fun u_1 H locs hwu_1 hP hD hS => ?_)
  try dsimp only at hwu_1
  have hP : zP g [[dsk q d], [((d 11), .inl (g.2 4, 3, .inr (.inr (.inr (.inr (rA [s0, s1, s2]))))))], (storeW g s1 xs1 tt1 nn1 fa1 fb1 fp1)] H := hP
  have hD : zD A [[dsk q d], [((d 11), .inl (g.2 4, 3, .inr (.inr (.inr (.inr (rA [s0, s1, s2]))))))], (storeW g s1 xs1 tt1 nn1 fa1 fb1 fp1)] := hD
  refine z_toI (oU 1 0 2) rfl ?_
  have hf_2 := oU_s 1 0 2
  refine z_if_eq (tgt := 10) hx hb (by omega) dX9_sum_4 (by decide) (fun cq3 => ?_) (fun cq3 => False.elim (by omega))
  refine lv_iload_n hx hb dX9_sum_10 rfl (lv_at hl 2 rfl) ?_
  refine z_iconst hx hb dX9_sum_11 rfl ?_
  refine z_iconst hx hb dX9_sum_12 rfl ?_
  refine z_cSi (As := [vI w, vI 0, vI 2]) (rest := []) ⟨hx, hb, hml, hown, hts⟩ hK hP hD hS hA [] [0, 1, 2] rfl rfl rfl (c_X9_isOutside l g w 0 2 (by first | assumption | omega | decide) (by first | assumption | omega | decide) (by first | assumption | omega | decide)) (va_cwS 3 hts gX9_sum_X9_isOutside rfl rfl rfl (by decide +kernel) ⟨Nat.le_of_ble_eq_true rfl, Nat.le_of_ble_eq_true rfl⟩) (fun _ _ _ _ _ _ => trivial) (fun _ _ _ => trivial) rfl hl.1 (Nat.le_of_ble_eq_true rfl) rfl dX9_sum_13 ⟨Nat.le_of_ble_eq_true rfl, Nat.le_of_ble_eq_true rfl⟩ (fun u_4 H locs hwu_4 hP hD hS => ?_)
  try dsimp only at hwu_4
  have hP : zP g [[dsk q d], [((d 11), .inl (g.2 4, 3, .inr (.inr (.inr (.inr (rA [s0, s1, s2]))))))], (storeW g s1 xs1 tt1 nn1 fa1 fb1 fp1)] H := hP
  have hD : zD A [[dsk q d], [((d 11), .inl (g.2 4, 3, .inr (.inr (.inr (.inr (rA [s0, s1, s2]))))))], (storeW g s1 xs1 tt1 nn1 fa1 fb1 fp1)] := hD
  refine z_toI (oU w 0 2) rfl ?_
  have hf_5 := oU_s w 0 2
  refine z_if_eq (tgt := 24) hx hb (by omega) dX9_sum_16 (by decide) (fun cq6 => ?_) (fun cq6 => False.elim (by omega))
  refine lv_aload_n hx hb dX9_sum_24 rfl (lv_at hl 0 rfl) ?_
  refine z_get hx hb hts hin9_ hown hK hP 0 rfl rfl 11 (by decide) (hts _ (List.mem_of_getElem? (i := 3) rfl)) rfl dX9_sum_25 ?_
  refine lv_iload_n hx hb dX9_sum_28 rfl (lv_at hl 1 rfl) ?_
  refine z_aald hx hb hK hP 1 4 rfl rfl 1 rfl (by decide) (by decide) s1 rfl dX9_sum_29 ?_
  refine lv_iload_n hx hb dX9_sum_30 rfl (lv_at hl 2 rfl) ?_
  refine z_cVi (As := [vI w]) (rest := []) ⟨hx, hb, hml, hown, hts⟩ hK hP hD hS hA [2] [0, 1] rfl rfl rfl (c_X6_totalOf l g s1 xs1 tt1 nn1 fa1 fb1 fp1 w hs1 (by omega) (by omega)) (cwV 1 hts gX9_sum_X6_totalOf rfl rfl rfl (by decide +kernel) ⟨Nat.le_of_ble_eq_true rfl, Nat.le_of_ble_eq_true rfl⟩) 6 0 rfl rfl rfl (fun _ _ _ _ _ _ => trivial) (fun _ _ _ => trivial) rfl hl.1 (Nat.le_of_ble_eq_true rfl) rfl dX9_sum_31 ⟨Nat.le_of_ble_eq_true rfl, Nat.le_of_ble_eq_true rfl⟩ (fun u_7 H locs hwu_7 hP hD hS => ?_)
  try dsimp only at hwu_7
  have hP : zP g [[dsk q d], [((d 11), .inl (g.2 4, 3, .inr (.inr (.inr (.inr (rA [s0, s1, s2]))))))], (storeW g s1 xs1 tt1 nn1 fa1 fb1 fp1)] H := hP
  have hD : zD A [[dsk q d], [((d 11), .inl (g.2 4, 3, .inr (.inr (.inr (.inr (rA [s0, s1, s2]))))))], (storeW g s1 xs1 tt1 nn1 fa1 fb1 fp1)] := hD
  refine z_toI (tot nn1 (if w = 2 then fp1 else if w = 0 then fa1 else fb1)) rfl ?_
  exact z_reti () [0, 1, 2] hx hb hr rfl hlocks hK hP hD hS (rfl) trivial rfl rfl (rfl) (Nat.le_of_ble_eq_true rfl) (Nat.le_of_ble_eq_true rfl) dX9_sum_34

set_option maxHeartbeats 4000000 in
set_option maxRecDepth 100000 in
theorem c_X9_drop1_null (l : Launch) (g : zG) (q : Nat) (d : Nat → Nat) (s0 : Nat) (s1 : Nat) (s2 : Nat) (xs1 : Nat → Nat) (tt1 : Int) (nn1 : Nat) (fa1 : Nat → Int) (fb1 : Nat → Int) (fp1 : Nat → Int) (hs1 : sok tt1 nn1 fp1) (ht : tt1 = 0) : zMet l g yX9_drop wsX9_drop 2 0 0 [.ref q, vI 1] zX0 [[dsk q d], [((d 11), .inl (g.2 4, 3, .inr (.inr (.inr (.inr (rA [s0, s1, s2]))))))], (storeW g s1 xs1 tt1 nn1 fa1 fb1 fp1)] (qi g (fun (_ : Unit) => (-2000000011)) (fun (_ : Unit) => True) (fun (_ : Unit) => [[dsk q d], [((d 11), .inl (g.2 4, 3, .inr (.inr (.inr (.inr (rA [s0, s1, s2]))))))], (storeW g s1 xs1 tt1 nn1 fa1 fb1 fp1)])) := by
  obtain ⟨hs1_, hs2_, hs3_⟩ := id hs1
  refine z_ent (cc := cX9_drop) (maxL := 2) (ret := (some .int)) (by decide) rfl (Nat.le_of_ble_eq_true rfl) ?_
  intro p e s m below meth c A ls hx hb hr hml hown hts hlocks hin0 hA hK hP hD hS hXX hl
  have hown : s.vm.findClass RX9 = some m.cls := hown
  have hin6_ : ∀ w ∈ wsX60, w ∈ wsX9_drop := zw_in [31, 32, 33, 34, 35] rfl
  have hin9_ : ∀ w ∈ wsX90, w ∈ wsX9_drop := zw_in [19, 20, 21, 22, 23, 24, 25, 26, 27, 28, 29, 30] rfl
  have hl : lv_has ls 2 [(0, .ref q), (1, vI 1)] := hl
  refine lv_iload_n hx hb dX9_drop_0 rfl (lv_at hl 1 rfl) ?_
  refine z_cSi (As := [vI 1]) (rest := []) ⟨hx, hb, hml, hown, hts⟩ hK hP hD hS hA [] [0, 1, 2] rfl rfl rfl (c_X9_isNoStore l g 1 (by omega)) (va_cwS 1 hts gX9_drop_X9_isNoStore rfl rfl rfl (by decide +kernel) ⟨Nat.le_of_ble_eq_true rfl, Nat.le_of_ble_eq_true rfl⟩) (fun _ _ _ _ _ _ => trivial) (fun _ _ _ => trivial) rfl hl.1 (Nat.le_of_ble_eq_true rfl) rfl dX9_drop_1 ⟨Nat.le_of_ble_eq_true rfl, Nat.le_of_ble_eq_true rfl⟩ (fun u_1 H locs hwu_1 hP hD hS => ?_)
  try dsimp only at hwu_1
  have hP : zP g [[dsk q d], [((d 11), .inl (g.2 4, 3, .inr (.inr (.inr (.inr (rA [s0, s1, s2]))))))], (storeW g s1 xs1 tt1 nn1 fa1 fb1 fp1)] H := hP
  have hD : zD A [[dsk q d], [((d 11), .inl (g.2 4, 3, .inr (.inr (.inr (.inr (rA [s0, s1, s2]))))))], (storeW g s1 xs1 tt1 nn1 fa1 fb1 fp1)] := hD
  refine z_toI (oU 1 0 2) rfl ?_
  have hf_2 := oU_s 1 0 2
  refine z_if_eq (tgt := 10) hx hb (by omega) dX9_drop_4 (by decide) (fun cq3 => ?_) (fun cq3 => False.elim (by omega))
  refine lv_aload_n hx hb dX9_drop_10 rfl (lv_at hl 0 rfl) ?_
  refine z_get hx hb hts hin9_ hown hK hP 0 rfl rfl 11 (by decide) (hts _ (List.mem_of_getElem? (i := 2) rfl)) rfl dX9_drop_11 ?_
  refine lv_iload_n hx hb dX9_drop_14 rfl (lv_at hl 1 rfl) ?_
  refine z_aald hx hb hK hP 1 4 rfl rfl 1 rfl (by decide) (by decide) s1 rfl dX9_drop_15 ?_
  have hP : zP g [[dsk q d], [((d 11), .inl (g.2 4, 3, .inr (.inr (.inr (.inr (rA [s0, s1, s2]))))))], [(s1, .inr (6, [vI tt1, vI ((nn1 : Nat) : Int), .ref (xs1 0), .ref (xs1 1), .ref (xs1 2)]))], [((xs1 0), .inl (g.2 0, 8, .inl (aI fa1)))], [((xs1 1), .inl (g.2 0, 8, .inl (aI fb1)))], [((xs1 2), .inl (g.2 2, 8, .inl (aI fp1)))]] H := hP
  have hD : zD A [[dsk q d], [((d 11), .inl (g.2 4, 3, .inr (.inr (.inr (.inr (rA [s0, s1, s2]))))))], [(s1, .inr (6, [vI tt1, vI ((nn1 : Nat) : Int), .ref (xs1 0), .ref (xs1 1), .ref (xs1 2)]))], [((xs1 0), .inl (g.2 0, 8, .inl (aI fa1)))], [((xs1 1), .inl (g.2 0, 8, .inl (aI fb1)))], [((xs1 2), .inl (g.2 2, 8, .inl (aI fp1)))]] := hD
  refine z_get hx hb hts hin6_ hown hK hP 2 rfl rfl 0 (by decide) (hts _ (List.mem_of_getElem? (i := 3) rfl)) rfl dX9_drop_16 ?_
  refine z_if_eq (tgt := 34) hx hb (by omega) dX9_drop_19 (by decide) (fun cq4 => ?_) (fun cq4 => False.elim (by omega))
  refine z_ldcw hx hb (-2000000011) hown (hts _ (List.mem_of_getElem? (i := 4) rfl)) rfl dX9_drop_34 ?_
  have hP : zP g [[dsk q d], [((d 11), .inl (g.2 4, 3, .inr (.inr (.inr (.inr (rA [s0, s1, s2]))))))], (storeW g s1 xs1 tt1 nn1 fa1 fb1 fp1)] H := hP
  have hD : zD A [[dsk q d], [((d 11), .inl (g.2 4, 3, .inr (.inr (.inr (.inr (rA [s0, s1, s2]))))))], (storeW g s1 xs1 tt1 nn1 fa1 fb1 fp1)] := hD
  exact z_reti () [0, 1, 2] hx hb hr rfl hlocks hK hP hD hS (rfl) trivial rfl rfl (rfl) (Nat.le_of_ble_eq_true rfl) (Nat.le_of_ble_eq_true rfl) dX9_drop_37

set_option maxHeartbeats 4000000 in
set_option maxRecDepth 100000 in
theorem c_X9_drop1_ok (l : Launch) (g : zG) (q : Nat) (d : Nat → Nat) (s0 : Nat) (s1 : Nat) (s2 : Nat) (xs1 : Nat → Nat) (tt1 : Int) (nn1 : Nat) (fa1 : Nat → Int) (fb1 : Nat → Int) (fp1 : Nat → Int) (hs1 : sok tt1 nn1 fp1) (ht : tt1 = 1) : zMet l g yX9_drop wsX9_drop 2 0 0 [.ref q, vI 1] zX0 [[dsk q d], [((d 11), .inl (g.2 4, 3, .inr (.inr (.inr (.inr (rA [s0, s1, s2]))))))], (storeW g s1 xs1 tt1 nn1 fa1 fb1 fp1)] (qi g (fun (_ : Unit) => ((nn1 : Nat) : Int)) (fun (_ : Unit) => True) (fun (_ : Unit) => [[dsk q d], [((d 11), .inl (g.2 4, 3, .inr (.inr (.inr (.inr (rA [s0, s1, s2]))))))], (storeW g s1 xs1 0 0 fa1 fb1 fp1)])) := by
  obtain ⟨hs1_, hs2_, hs3_⟩ := id hs1
  refine z_ent (cc := cX9_drop) (maxL := 2) (ret := (some .int)) (by decide) rfl (Nat.le_of_ble_eq_true rfl) ?_
  intro p e s m below meth c A ls hx hb hr hml hown hts hlocks hin0 hA hK hP hD hS hXX hl
  have hown : s.vm.findClass RX9 = some m.cls := hown
  have hin6_ : ∀ w ∈ wsX60, w ∈ wsX9_drop := zw_in [31, 32, 33, 34, 35] rfl
  have hin9_ : ∀ w ∈ wsX90, w ∈ wsX9_drop := zw_in [19, 20, 21, 22, 23, 24, 25, 26, 27, 28, 29, 30] rfl
  have hl : lv_has ls 2 [(0, .ref q), (1, vI 1)] := hl
  refine lv_iload_n hx hb dX9_drop_0 rfl (lv_at hl 1 rfl) ?_
  refine z_cSi (As := [vI 1]) (rest := []) ⟨hx, hb, hml, hown, hts⟩ hK hP hD hS hA [] [0, 1, 2] rfl rfl rfl (c_X9_isNoStore l g 1 (by omega)) (va_cwS 1 hts gX9_drop_X9_isNoStore rfl rfl rfl (by decide +kernel) ⟨Nat.le_of_ble_eq_true rfl, Nat.le_of_ble_eq_true rfl⟩) (fun _ _ _ _ _ _ => trivial) (fun _ _ _ => trivial) rfl hl.1 (Nat.le_of_ble_eq_true rfl) rfl dX9_drop_1 ⟨Nat.le_of_ble_eq_true rfl, Nat.le_of_ble_eq_true rfl⟩ (fun u_1 H locs hwu_1 hP hD hS => ?_)
  try dsimp only at hwu_1
  have hP : zP g [[dsk q d], [((d 11), .inl (g.2 4, 3, .inr (.inr (.inr (.inr (rA [s0, s1, s2]))))))], (storeW g s1 xs1 tt1 nn1 fa1 fb1 fp1)] H := hP
  have hD : zD A [[dsk q d], [((d 11), .inl (g.2 4, 3, .inr (.inr (.inr (.inr (rA [s0, s1, s2]))))))], (storeW g s1 xs1 tt1 nn1 fa1 fb1 fp1)] := hD
  refine z_toI (oU 1 0 2) rfl ?_
  have hf_2 := oU_s 1 0 2
  refine z_if_eq (tgt := 10) hx hb (by omega) dX9_drop_4 (by decide) (fun cq3 => ?_) (fun cq3 => False.elim (by omega))
  refine lv_aload_n hx hb dX9_drop_10 rfl (lv_at hl 0 rfl) ?_
  refine z_get hx hb hts hin9_ hown hK hP 0 rfl rfl 11 (by decide) (hts _ (List.mem_of_getElem? (i := 2) rfl)) rfl dX9_drop_11 ?_
  refine lv_iload_n hx hb dX9_drop_14 rfl (lv_at hl 1 rfl) ?_
  refine z_aald hx hb hK hP 1 4 rfl rfl 1 rfl (by decide) (by decide) s1 rfl dX9_drop_15 ?_
  have hP : zP g [[dsk q d], [((d 11), .inl (g.2 4, 3, .inr (.inr (.inr (.inr (rA [s0, s1, s2]))))))], [(s1, .inr (6, [vI tt1, vI ((nn1 : Nat) : Int), .ref (xs1 0), .ref (xs1 1), .ref (xs1 2)]))], [((xs1 0), .inl (g.2 0, 8, .inl (aI fa1)))], [((xs1 1), .inl (g.2 0, 8, .inl (aI fb1)))], [((xs1 2), .inl (g.2 2, 8, .inl (aI fp1)))]] H := hP
  have hD : zD A [[dsk q d], [((d 11), .inl (g.2 4, 3, .inr (.inr (.inr (.inr (rA [s0, s1, s2]))))))], [(s1, .inr (6, [vI tt1, vI ((nn1 : Nat) : Int), .ref (xs1 0), .ref (xs1 1), .ref (xs1 2)]))], [((xs1 0), .inl (g.2 0, 8, .inl (aI fa1)))], [((xs1 1), .inl (g.2 0, 8, .inl (aI fb1)))], [((xs1 2), .inl (g.2 2, 8, .inl (aI fp1)))]] := hD
  refine z_get hx hb hts hin6_ hown hK hP 2 rfl rfl 0 (by decide) (hts _ (List.mem_of_getElem? (i := 3) rfl)) rfl dX9_drop_16 ?_
  refine z_if_eq (tgt := 34) hx hb (by omega) dX9_drop_19 (by decide) (fun cq4 => False.elim (by omega)) (fun cq4 => ?_)
  have hP : zP g [[dsk q d], [((d 11), .inl (g.2 4, 3, .inr (.inr (.inr (.inr (rA [s0, s1, s2]))))))], (storeW g s1 xs1 tt1 nn1 fa1 fb1 fp1)] H := hP
  have hD : zD A [[dsk q d], [((d 11), .inl (g.2 4, 3, .inr (.inr (.inr (.inr (rA [s0, s1, s2]))))))], (storeW g s1 xs1 tt1 nn1 fa1 fb1 fp1)] := hD
  refine lv_aload_n hx hb dX9_drop_22 rfl (lv_at hl 0 rfl) ?_
  refine z_get hx hb hts hin9_ hown hK hP 0 rfl rfl 11 (by decide) (hts _ (List.mem_of_getElem? (i := 2) rfl)) rfl dX9_drop_23 ?_
  refine lv_iload_n hx hb dX9_drop_26 rfl (lv_at hl 1 rfl) ?_
  refine z_aald hx hb hK hP 1 4 rfl rfl 1 rfl (by decide) (by decide) s1 rfl dX9_drop_27 ?_
  refine z_cVi (As := []) (rest := []) ⟨hx, hb, hml, hown, hts⟩ hK hP hD hS hA [2] [0, 1] rfl rfl rfl (c_X6_vanish l g s1 xs1 tt1 nn1 fa1 fb1 fp1 hs1) (cwV 0 hts gX9_drop_X6_vanish rfl rfl rfl (by decide +kernel) ⟨Nat.le_of_ble_eq_true rfl, Nat.le_of_ble_eq_true rfl⟩) 6 0 rfl rfl rfl (fun _ _ _ _ _ _ => trivial) (fun _ _ _ => trivial) rfl hl.1 (Nat.le_of_ble_eq_true rfl) rfl dX9_drop_28 ⟨Nat.le_of_ble_eq_true rfl, Nat.le_of_ble_eq_true rfl⟩ (fun u_5 H locs hwu_5 hP hD hS => ?_)
  try dsimp only at hwu_5
  have hP : zP g [[dsk q d], [((d 11), .inl (g.2 4, 3, .inr (.inr (.inr (.inr (rA [s0, s1, s2]))))))], (storeW g s1 xs1 0 0 fa1 fb1 fp1)] H := hP
  have hD : zD A [[dsk q d], [((d 11), .inl (g.2 4, 3, .inr (.inr (.inr (.inr (rA [s0, s1, s2]))))))], (storeW g s1 xs1 0 0 fa1 fb1 fp1)] := hD
  refine z_toI ((nn1 : Nat) : Int) rfl ?_
  refine lv_goto (tgt := 37) hx hb dX9_drop_31 (by decide) ?_
  exact z_reti () [0, 1, 2] hx hb hr rfl hlocks hK hP hD hS (rfl) trivial rfl rfl (rfl) (Nat.le_of_ble_eq_true rfl) (Nat.le_of_ble_eq_true rfl) dX9_drop_37

set_option maxHeartbeats 4000000 in
set_option maxRecDepth 100000 in
theorem c_X9_take2_null (l : Launch) (g : zG) (q : Nat) (d : Nat → Nat) (s0 : Nat) (s1 : Nat) (s2 : Nat) (xs2 : Nat → Nat) (tt2 : Int) (nn2 : Nat) (fa2 : Nat → Int) (fb2 : Nat → Int) (fp2 : Nat → Int) (w : Int) (hs2 : sok tt2 nn2 fp2) (hw : -2147483648 ≤ w ∧ w < 2147483648) (ho : 0 ≤ w ∧ w ≤ 1) (ht : tt2 = 0) : zMet l g yX9_take wsX9_take 2 0 0 [.ref q, vI 2, vI w] zX0 [[dsk q d], [((d 11), .inl (g.2 4, 3, .inr (.inr (.inr (.inr (rA [s0, s1, s2]))))))], (storeW g s2 xs2 tt2 nn2 fa2 fb2 fp2)] (qi g (fun (_ : Unit) => (-2000000011)) (fun (_ : Unit) => True) (fun (_ : Unit) => [[dsk q d], [((d 11), .inl (g.2 4, 3, .inr (.inr (.inr (.inr (rA [s0, s1, s2]))))))], (storeW g s2 xs2 tt2 nn2 fa2 fb2 fp2)])) := by
  refine z_ent (cc := cX9_take) (maxL := 3) (ret := (some .int)) (by decide) rfl (Nat.le_of_ble_eq_true rfl) ?_
  intro p e s m below meth c A ls hx hb hr hml hown hts hlocks hin0 hA hK hP hD hS hXX hl
  have hown : s.vm.findClass RX9 = some m.cls := hown
  have hin9_ : ∀ w ∈ wsX90, w ∈ wsX9_take := zw_in [24, 25, 26, 27, 28, 29, 30, 31, 32, 33, 34, 35] rfl
  have hl : lv_has ls 3 [(0, .ref q), (1, vI 2), (2, vI w)] := hl
  refine lv_iload_n hx hb dX9_take_0 rfl (lv_at hl 1 rfl) ?_
  refine z_cSi (As := [vI 2]) (rest := []) ⟨hx, hb, hml, hown, hts⟩ hK hP hD hS hA [] [0, 1, 2] rfl rfl rfl (c_X9_isNoStore l g 2 (by omega)) (va_cwS 1 hts gX9_take_X9_isNoStore rfl rfl rfl (by decide +kernel) ⟨Nat.le_of_ble_eq_true rfl, Nat.le_of_ble_eq_true rfl⟩) (fun _ _ _ _ _ _ => trivial) (fun _ _ _ => trivial) rfl hl.1 (Nat.le_of_ble_eq_true rfl) rfl dX9_take_1 ⟨Nat.le_of_ble_eq_true rfl, Nat.le_of_ble_eq_true rfl⟩ (fun u_1 H locs hwu_1 hP hD hS => ?_)
  try dsimp only at hwu_1
  have hP : zP g [[dsk q d], [((d 11), .inl (g.2 4, 3, .inr (.inr (.inr (.inr (rA [s0, s1, s2]))))))], (storeW g s2 xs2 tt2 nn2 fa2 fb2 fp2)] H := hP
  have hD : zD A [[dsk q d], [((d 11), .inl (g.2 4, 3, .inr (.inr (.inr (.inr (rA [s0, s1, s2]))))))], (storeW g s2 xs2 tt2 nn2 fa2 fb2 fp2)] := hD
  refine z_toI (oU 2 0 2) rfl ?_
  have hf_2 := oU_s 2 0 2
  refine z_if_eq (tgt := 10) hx hb (by omega) dX9_take_4 (by decide) (fun cq3 => ?_) (fun cq3 => False.elim (by omega))
  refine lv_iload_n hx hb dX9_take_10 rfl (lv_at hl 2 rfl) ?_
  refine z_iconst hx hb dX9_take_11 rfl ?_
  refine z_iconst hx hb dX9_take_12 rfl ?_
  refine z_cSi (As := [vI w, vI 0, vI 1]) (rest := []) ⟨hx, hb, hml, hown, hts⟩ hK hP hD hS hA [] [0, 1, 2] rfl rfl rfl (c_X9_isOutside l g w 0 1 (by first | assumption | omega | decide) (by first | assumption | omega | decide) (by first | assumption | omega | decide)) (va_cwS 3 hts gX9_take_X9_isOutside rfl rfl rfl (by decide +kernel) ⟨Nat.le_of_ble_eq_true rfl, Nat.le_of_ble_eq_true rfl⟩) (fun _ _ _ _ _ _ => trivial) (fun _ _ _ => trivial) rfl hl.1 (Nat.le_of_ble_eq_true rfl) rfl dX9_take_13 ⟨Nat.le_of_ble_eq_true rfl, Nat.le_of_ble_eq_true rfl⟩ (fun u_4 H locs hwu_4 hP hD hS => ?_)
  try dsimp only at hwu_4
  have hP : zP g [[dsk q d], [((d 11), .inl (g.2 4, 3, .inr (.inr (.inr (.inr (rA [s0, s1, s2]))))))], (storeW g s2 xs2 tt2 nn2 fa2 fb2 fp2)] H := hP
  have hD : zD A [[dsk q d], [((d 11), .inl (g.2 4, 3, .inr (.inr (.inr (.inr (rA [s0, s1, s2]))))))], (storeW g s2 xs2 tt2 nn2 fa2 fb2 fp2)] := hD
  refine z_toI (oU w 0 1) rfl ?_
  have hf_5 := oU_s w 0 1
  refine z_if_eq (tgt := 24) hx hb (by omega) dX9_take_16 (by decide) (fun cq6 => ?_) (fun cq6 => False.elim (by omega))
  refine lv_aload_n hx hb dX9_take_24 rfl (lv_at hl 0 rfl) ?_
  refine z_get hx hb hts hin9_ hown hK hP 0 rfl rfl 11 (by decide) (hts _ (List.mem_of_getElem? (i := 3) rfl)) rfl dX9_take_25 ?_
  refine lv_iload_n hx hb dX9_take_28 rfl (lv_at hl 1 rfl) ?_
  refine z_aald hx hb hK hP 1 4 rfl rfl 2 rfl (by decide) (by decide) s2 rfl dX9_take_29 ?_
  have j40 : W p l e (zRm 2 0 0) s m ([.ref q, vI 2, vI w] : List Value).toArray below meth c H locs (0) (0) (MQ below ((qi g (fun (_ : Unit) => (-2000000011)) (fun (_ : Unit) => True) (fun (_ : Unit) => [[dsk q d], [((d 11), .inl (g.2 4, 3, .inr (.inr (.inr (.inr (rA [s0, s1, s2]))))))], (storeW g s2 xs2 tt2 nn2 fa2 fb2 fp2)])) A) ([.ref q, vI 2, vI w] : List Value).toArray s 0 0 A) (F0 m 40 ls [vI w, .ref s2]) := by
    refine z_cVi (As := [vI w]) (rest := []) ⟨hx, hb, hml, hown, hts⟩ hK hP hD hS hA [2] [0, 1] rfl rfl rfl (c_X6_pop_null l g s2 xs2 tt2 nn2 fa2 fb2 fp2 w hs2 (by omega) (by omega)) (cwV 1 hts gX9_take_X6_pop rfl rfl rfl (by decide +kernel) ⟨Nat.le_of_ble_eq_true rfl, Nat.le_of_ble_eq_true rfl⟩) 6 0 rfl rfl rfl (fun _ _ _ _ _ _ => trivial) (fun _ _ _ => trivial) rfl hl.1 (Nat.le_of_ble_eq_true rfl) rfl dX9_take_40 ⟨Nat.le_of_ble_eq_true rfl, Nat.le_of_ble_eq_true rfl⟩ (fun u_7 H locs hwu_7 hP hD hS => ?_)
    try dsimp only at hwu_7
    have hP : zP g [[dsk q d], [((d 11), .inl (g.2 4, 3, .inr (.inr (.inr (.inr (rA [s0, s1, s2]))))))], (storeW g s2 xs2 tt2 nn2 fa2 fb2 fp2)] H := hP
    have hD : zD A [[dsk q d], [((d 11), .inl (g.2 4, 3, .inr (.inr (.inr (.inr (rA [s0, s1, s2]))))))], (storeW g s2 xs2 tt2 nn2 fa2 fb2 fp2)] := hD
    refine z_toI (-2000000011) rfl ?_
    exact z_reti () [0, 1, 2] hx hb hr rfl hlocks hK hP hD hS (rfl) trivial rfl rfl (rfl) (Nat.le_of_ble_eq_true rfl) (Nat.le_of_ble_eq_true rfl) dX9_take_43
  refine lv_iload_n hx hb dX9_take_30 rfl (lv_at hl 2 rfl) ?_
  refine z_iconst hx hb dX9_take_31 rfl ?_
  refine z_icmp_ne (tgt := 39) hx hb (by omega) (by decide) dX9_take_32 (by decide) (fun cq8 => ?_) (fun cq8 => ?_)
  · refine z_iconst hx hb dX9_take_39 rfl ?_
    refine z_toI w (by omega) ?_
    exact j40
  · refine z_iconst hx hb dX9_take_35 rfl ?_
    refine lv_goto (tgt := 40) hx hb dX9_take_36 (by decide) ?_
    refine z_toI w (by omega) ?_
    exact j40

set_option maxHeartbeats 4000000 in
set_option maxRecDepth 100000 in
theorem c_X9_take2_empty (l : Launch) (g : zG) (q : Nat) (d : Nat → Nat) (s0 : Nat) (s1 : Nat) (s2 : Nat) (xs2 : Nat → Nat) (tt2 : Int) (nn2 : Nat) (fa2 : Nat → Int) (fb2 : Nat → Int) (fp2 : Nat → Int) (w : Int) (hs2 : sok tt2 nn2 fp2) (hw : -2147483648 ≤ w ∧ w < 2147483648) (ho : 0 ≤ w ∧ w ≤ 1) (ht : tt2 = 1) (hn : nn2 = 0) : zMet l g yX9_take wsX9_take 2 0 0 [.ref q, vI 2, vI w] zX0 [[dsk q d], [((d 11), .inl (g.2 4, 3, .inr (.inr (.inr (.inr (rA [s0, s1, s2]))))))], (storeW g s2 xs2 tt2 nn2 fa2 fb2 fp2)] (qi g (fun (_ : Unit) => (-2000000012)) (fun (_ : Unit) => True) (fun (_ : Unit) => [[dsk q d], [((d 11), .inl (g.2 4, 3, .inr (.inr (.inr (.inr (rA [s0, s1, s2]))))))], (storeW g s2 xs2 tt2 nn2 fa2 fb2 fp2)])) := by
  refine z_ent (cc := cX9_take) (maxL := 3) (ret := (some .int)) (by decide) rfl (Nat.le_of_ble_eq_true rfl) ?_
  intro p e s m below meth c A ls hx hb hr hml hown hts hlocks hin0 hA hK hP hD hS hXX hl
  have hown : s.vm.findClass RX9 = some m.cls := hown
  have hin9_ : ∀ w ∈ wsX90, w ∈ wsX9_take := zw_in [24, 25, 26, 27, 28, 29, 30, 31, 32, 33, 34, 35] rfl
  have hl : lv_has ls 3 [(0, .ref q), (1, vI 2), (2, vI w)] := hl
  refine lv_iload_n hx hb dX9_take_0 rfl (lv_at hl 1 rfl) ?_
  refine z_cSi (As := [vI 2]) (rest := []) ⟨hx, hb, hml, hown, hts⟩ hK hP hD hS hA [] [0, 1, 2] rfl rfl rfl (c_X9_isNoStore l g 2 (by omega)) (va_cwS 1 hts gX9_take_X9_isNoStore rfl rfl rfl (by decide +kernel) ⟨Nat.le_of_ble_eq_true rfl, Nat.le_of_ble_eq_true rfl⟩) (fun _ _ _ _ _ _ => trivial) (fun _ _ _ => trivial) rfl hl.1 (Nat.le_of_ble_eq_true rfl) rfl dX9_take_1 ⟨Nat.le_of_ble_eq_true rfl, Nat.le_of_ble_eq_true rfl⟩ (fun u_1 H locs hwu_1 hP hD hS => ?_)
  try dsimp only at hwu_1
  have hP : zP g [[dsk q d], [((d 11), .inl (g.2 4, 3, .inr (.inr (.inr (.inr (rA [s0, s1, s2]))))))], (storeW g s2 xs2 tt2 nn2 fa2 fb2 fp2)] H := hP
  have hD : zD A [[dsk q d], [((d 11), .inl (g.2 4, 3, .inr (.inr (.inr (.inr (rA [s0, s1, s2]))))))], (storeW g s2 xs2 tt2 nn2 fa2 fb2 fp2)] := hD
  refine z_toI (oU 2 0 2) rfl ?_
  have hf_2 := oU_s 2 0 2
  refine z_if_eq (tgt := 10) hx hb (by omega) dX9_take_4 (by decide) (fun cq3 => ?_) (fun cq3 => False.elim (by omega))
  refine lv_iload_n hx hb dX9_take_10 rfl (lv_at hl 2 rfl) ?_
  refine z_iconst hx hb dX9_take_11 rfl ?_
  refine z_iconst hx hb dX9_take_12 rfl ?_
  refine z_cSi (As := [vI w, vI 0, vI 1]) (rest := []) ⟨hx, hb, hml, hown, hts⟩ hK hP hD hS hA [] [0, 1, 2] rfl rfl rfl (c_X9_isOutside l g w 0 1 (by first | assumption | omega | decide) (by first | assumption | omega | decide) (by first | assumption | omega | decide)) (va_cwS 3 hts gX9_take_X9_isOutside rfl rfl rfl (by decide +kernel) ⟨Nat.le_of_ble_eq_true rfl, Nat.le_of_ble_eq_true rfl⟩) (fun _ _ _ _ _ _ => trivial) (fun _ _ _ => trivial) rfl hl.1 (Nat.le_of_ble_eq_true rfl) rfl dX9_take_13 ⟨Nat.le_of_ble_eq_true rfl, Nat.le_of_ble_eq_true rfl⟩ (fun u_4 H locs hwu_4 hP hD hS => ?_)
  try dsimp only at hwu_4
  have hP : zP g [[dsk q d], [((d 11), .inl (g.2 4, 3, .inr (.inr (.inr (.inr (rA [s0, s1, s2]))))))], (storeW g s2 xs2 tt2 nn2 fa2 fb2 fp2)] H := hP
  have hD : zD A [[dsk q d], [((d 11), .inl (g.2 4, 3, .inr (.inr (.inr (.inr (rA [s0, s1, s2]))))))], (storeW g s2 xs2 tt2 nn2 fa2 fb2 fp2)] := hD
  refine z_toI (oU w 0 1) rfl ?_
  have hf_5 := oU_s w 0 1
  refine z_if_eq (tgt := 24) hx hb (by omega) dX9_take_16 (by decide) (fun cq6 => ?_) (fun cq6 => False.elim (by omega))
  refine lv_aload_n hx hb dX9_take_24 rfl (lv_at hl 0 rfl) ?_
  refine z_get hx hb hts hin9_ hown hK hP 0 rfl rfl 11 (by decide) (hts _ (List.mem_of_getElem? (i := 3) rfl)) rfl dX9_take_25 ?_
  refine lv_iload_n hx hb dX9_take_28 rfl (lv_at hl 1 rfl) ?_
  refine z_aald hx hb hK hP 1 4 rfl rfl 2 rfl (by decide) (by decide) s2 rfl dX9_take_29 ?_
  have j40 : W p l e (zRm 2 0 0) s m ([.ref q, vI 2, vI w] : List Value).toArray below meth c H locs (0) (0) (MQ below ((qi g (fun (_ : Unit) => (-2000000012)) (fun (_ : Unit) => True) (fun (_ : Unit) => [[dsk q d], [((d 11), .inl (g.2 4, 3, .inr (.inr (.inr (.inr (rA [s0, s1, s2]))))))], (storeW g s2 xs2 tt2 nn2 fa2 fb2 fp2)])) A) ([.ref q, vI 2, vI w] : List Value).toArray s 0 0 A) (F0 m 40 ls [vI w, .ref s2]) := by
    refine z_cVi (As := [vI w]) (rest := []) ⟨hx, hb, hml, hown, hts⟩ hK hP hD hS hA [2] [0, 1] rfl rfl rfl (c_X6_pop_empty l g s2 xs2 tt2 nn2 fa2 fb2 fp2 w hs2 (by omega) (by omega) (by omega)) (cwV 1 hts gX9_take_X6_pop rfl rfl rfl (by decide +kernel) ⟨Nat.le_of_ble_eq_true rfl, Nat.le_of_ble_eq_true rfl⟩) 6 0 rfl rfl rfl (fun _ _ _ _ _ _ => trivial) (fun _ _ _ => trivial) rfl hl.1 (Nat.le_of_ble_eq_true rfl) rfl dX9_take_40 ⟨Nat.le_of_ble_eq_true rfl, Nat.le_of_ble_eq_true rfl⟩ (fun u_7 H locs hwu_7 hP hD hS => ?_)
    try dsimp only at hwu_7
    have hP : zP g [[dsk q d], [((d 11), .inl (g.2 4, 3, .inr (.inr (.inr (.inr (rA [s0, s1, s2]))))))], (storeW g s2 xs2 tt2 nn2 fa2 fb2 fp2)] H := hP
    have hD : zD A [[dsk q d], [((d 11), .inl (g.2 4, 3, .inr (.inr (.inr (.inr (rA [s0, s1, s2]))))))], (storeW g s2 xs2 tt2 nn2 fa2 fb2 fp2)] := hD
    refine z_toI (-2000000012) rfl ?_
    exact z_reti () [0, 1, 2] hx hb hr rfl hlocks hK hP hD hS (rfl) trivial rfl rfl (rfl) (Nat.le_of_ble_eq_true rfl) (Nat.le_of_ble_eq_true rfl) dX9_take_43
  refine lv_iload_n hx hb dX9_take_30 rfl (lv_at hl 2 rfl) ?_
  refine z_iconst hx hb dX9_take_31 rfl ?_
  refine z_icmp_ne (tgt := 39) hx hb (by omega) (by decide) dX9_take_32 (by decide) (fun cq8 => ?_) (fun cq8 => ?_)
  · refine z_iconst hx hb dX9_take_39 rfl ?_
    refine z_toI w (by omega) ?_
    exact j40
  · refine z_iconst hx hb dX9_take_35 rfl ?_
    refine lv_goto (tgt := 40) hx hb dX9_take_36 (by decide) ?_
    refine z_toI w (by omega) ?_
    exact j40

set_option maxHeartbeats 4000000 in
set_option maxRecDepth 100000 in
theorem c_X9_take2_cast (l : Launch) (g : zG) (q : Nat) (d : Nat → Nat) (s0 : Nat) (s1 : Nat) (s2 : Nat) (xs2 : Nat → Nat) (tt2 : Int) (nn2 : Nat) (fa2 : Nat → Int) (fb2 : Nat → Int) (fp2 : Nat → Int) (w : Int) (hs2 : sok tt2 nn2 fp2) (hw : -2147483648 ≤ w ∧ w < 2147483648) (ho : 0 ≤ w ∧ w ≤ 1) (ht : tt2 = 1) (hn : 1 ≤ nn2) (hc : fp2 (nn2 - 1) ≠ w) : zMet l g yX9_take wsX9_take 2 0 0 [.ref q, vI 2, vI w] zX0 [[dsk q d], [((d 11), .inl (g.2 4, 3, .inr (.inr (.inr (.inr (rA [s0, s1, s2]))))))], (storeW g s2 xs2 tt2 nn2 fa2 fb2 fp2)] (qi g (fun (_ : Unit) => (-2000000013)) (fun (_ : Unit) => True) (fun (_ : Unit) => [[dsk q d], [((d 11), .inl (g.2 4, 3, .inr (.inr (.inr (.inr (rA [s0, s1, s2]))))))], (storeW g s2 xs2 tt2 nn2 fa2 fb2 fp2)])) := by
  refine z_ent (cc := cX9_take) (maxL := 3) (ret := (some .int)) (by decide) rfl (Nat.le_of_ble_eq_true rfl) ?_
  intro p e s m below meth c A ls hx hb hr hml hown hts hlocks hin0 hA hK hP hD hS hXX hl
  have hown : s.vm.findClass RX9 = some m.cls := hown
  have hin9_ : ∀ w ∈ wsX90, w ∈ wsX9_take := zw_in [24, 25, 26, 27, 28, 29, 30, 31, 32, 33, 34, 35] rfl
  have hl : lv_has ls 3 [(0, .ref q), (1, vI 2), (2, vI w)] := hl
  refine lv_iload_n hx hb dX9_take_0 rfl (lv_at hl 1 rfl) ?_
  refine z_cSi (As := [vI 2]) (rest := []) ⟨hx, hb, hml, hown, hts⟩ hK hP hD hS hA [] [0, 1, 2] rfl rfl rfl (c_X9_isNoStore l g 2 (by omega)) (va_cwS 1 hts gX9_take_X9_isNoStore rfl rfl rfl (by decide +kernel) ⟨Nat.le_of_ble_eq_true rfl, Nat.le_of_ble_eq_true rfl⟩) (fun _ _ _ _ _ _ => trivial) (fun _ _ _ => trivial) rfl hl.1 (Nat.le_of_ble_eq_true rfl) rfl dX9_take_1 ⟨Nat.le_of_ble_eq_true rfl, Nat.le_of_ble_eq_true rfl⟩ (fun u_1 H locs hwu_1 hP hD hS => ?_)
  try dsimp only at hwu_1
  have hP : zP g [[dsk q d], [((d 11), .inl (g.2 4, 3, .inr (.inr (.inr (.inr (rA [s0, s1, s2]))))))], (storeW g s2 xs2 tt2 nn2 fa2 fb2 fp2)] H := hP
  have hD : zD A [[dsk q d], [((d 11), .inl (g.2 4, 3, .inr (.inr (.inr (.inr (rA [s0, s1, s2]))))))], (storeW g s2 xs2 tt2 nn2 fa2 fb2 fp2)] := hD
  refine z_toI (oU 2 0 2) rfl ?_
  have hf_2 := oU_s 2 0 2
  refine z_if_eq (tgt := 10) hx hb (by omega) dX9_take_4 (by decide) (fun cq3 => ?_) (fun cq3 => False.elim (by omega))
  refine lv_iload_n hx hb dX9_take_10 rfl (lv_at hl 2 rfl) ?_
  refine z_iconst hx hb dX9_take_11 rfl ?_
  refine z_iconst hx hb dX9_take_12 rfl ?_
  refine z_cSi (As := [vI w, vI 0, vI 1]) (rest := []) ⟨hx, hb, hml, hown, hts⟩ hK hP hD hS hA [] [0, 1, 2] rfl rfl rfl (c_X9_isOutside l g w 0 1 (by first | assumption | omega | decide) (by first | assumption | omega | decide) (by first | assumption | omega | decide)) (va_cwS 3 hts gX9_take_X9_isOutside rfl rfl rfl (by decide +kernel) ⟨Nat.le_of_ble_eq_true rfl, Nat.le_of_ble_eq_true rfl⟩) (fun _ _ _ _ _ _ => trivial) (fun _ _ _ => trivial) rfl hl.1 (Nat.le_of_ble_eq_true rfl) rfl dX9_take_13 ⟨Nat.le_of_ble_eq_true rfl, Nat.le_of_ble_eq_true rfl⟩ (fun u_4 H locs hwu_4 hP hD hS => ?_)
  try dsimp only at hwu_4
  have hP : zP g [[dsk q d], [((d 11), .inl (g.2 4, 3, .inr (.inr (.inr (.inr (rA [s0, s1, s2]))))))], (storeW g s2 xs2 tt2 nn2 fa2 fb2 fp2)] H := hP
  have hD : zD A [[dsk q d], [((d 11), .inl (g.2 4, 3, .inr (.inr (.inr (.inr (rA [s0, s1, s2]))))))], (storeW g s2 xs2 tt2 nn2 fa2 fb2 fp2)] := hD
  refine z_toI (oU w 0 1) rfl ?_
  have hf_5 := oU_s w 0 1
  refine z_if_eq (tgt := 24) hx hb (by omega) dX9_take_16 (by decide) (fun cq6 => ?_) (fun cq6 => False.elim (by omega))
  refine lv_aload_n hx hb dX9_take_24 rfl (lv_at hl 0 rfl) ?_
  refine z_get hx hb hts hin9_ hown hK hP 0 rfl rfl 11 (by decide) (hts _ (List.mem_of_getElem? (i := 3) rfl)) rfl dX9_take_25 ?_
  refine lv_iload_n hx hb dX9_take_28 rfl (lv_at hl 1 rfl) ?_
  refine z_aald hx hb hK hP 1 4 rfl rfl 2 rfl (by decide) (by decide) s2 rfl dX9_take_29 ?_
  have j40 : W p l e (zRm 2 0 0) s m ([.ref q, vI 2, vI w] : List Value).toArray below meth c H locs (0) (0) (MQ below ((qi g (fun (_ : Unit) => (-2000000013)) (fun (_ : Unit) => True) (fun (_ : Unit) => [[dsk q d], [((d 11), .inl (g.2 4, 3, .inr (.inr (.inr (.inr (rA [s0, s1, s2]))))))], (storeW g s2 xs2 tt2 nn2 fa2 fb2 fp2)])) A) ([.ref q, vI 2, vI w] : List Value).toArray s 0 0 A) (F0 m 40 ls [vI w, .ref s2]) := by
    refine z_cVi (As := [vI w]) (rest := []) ⟨hx, hb, hml, hown, hts⟩ hK hP hD hS hA [2] [0, 1] rfl rfl rfl (c_X6_pop_cast l g s2 xs2 tt2 nn2 fa2 fb2 fp2 w hs2 (by omega) (by omega) (by omega) hc) (cwV 1 hts gX9_take_X6_pop rfl rfl rfl (by decide +kernel) ⟨Nat.le_of_ble_eq_true rfl, Nat.le_of_ble_eq_true rfl⟩) 6 0 rfl rfl rfl (fun _ _ _ _ _ _ => trivial) (fun _ _ _ => trivial) rfl hl.1 (Nat.le_of_ble_eq_true rfl) rfl dX9_take_40 ⟨Nat.le_of_ble_eq_true rfl, Nat.le_of_ble_eq_true rfl⟩ (fun u_7 H locs hwu_7 hP hD hS => ?_)
    try dsimp only at hwu_7
    have hP : zP g [[dsk q d], [((d 11), .inl (g.2 4, 3, .inr (.inr (.inr (.inr (rA [s0, s1, s2]))))))], (storeW g s2 xs2 tt2 nn2 fa2 fb2 fp2)] H := hP
    have hD : zD A [[dsk q d], [((d 11), .inl (g.2 4, 3, .inr (.inr (.inr (.inr (rA [s0, s1, s2]))))))], (storeW g s2 xs2 tt2 nn2 fa2 fb2 fp2)] := hD
    refine z_toI (-2000000013) rfl ?_
    exact z_reti () [0, 1, 2] hx hb hr rfl hlocks hK hP hD hS (rfl) trivial rfl rfl (rfl) (Nat.le_of_ble_eq_true rfl) (Nat.le_of_ble_eq_true rfl) dX9_take_43
  refine lv_iload_n hx hb dX9_take_30 rfl (lv_at hl 2 rfl) ?_
  refine z_iconst hx hb dX9_take_31 rfl ?_
  refine z_icmp_ne (tgt := 39) hx hb (by omega) (by decide) dX9_take_32 (by decide) (fun cq8 => ?_) (fun cq8 => ?_)
  · refine z_iconst hx hb dX9_take_39 rfl ?_
    refine z_toI w (by omega) ?_
    exact j40
  · refine z_iconst hx hb dX9_take_35 rfl ?_
    refine lv_goto (tgt := 40) hx hb dX9_take_36 (by decide) ?_
    refine z_toI w (by omega) ?_
    exact j40

set_option maxHeartbeats 4000000 in
set_option maxRecDepth 100000 in
theorem c_X9_take2_ok (l : Launch) (g : zG) (q : Nat) (d : Nat → Nat) (s0 : Nat) (s1 : Nat) (s2 : Nat) (xs2 : Nat → Nat) (tt2 : Int) (nn2 : Nat) (fa2 : Nat → Int) (fb2 : Nat → Int) (fp2 : Nat → Int) (w : Int) (hs2 : sok tt2 nn2 fp2) (hw : -2147483648 ≤ w ∧ w < 2147483648) (ho : 0 ≤ w ∧ w ≤ 1) (ht : tt2 = 1) (hn : 1 ≤ nn2) (hc : fp2 (nn2 - 1) = w) : zMet l g yX9_take wsX9_take 2 0 0 [.ref q, vI 2, vI w] zX0 [[dsk q d], [((d 11), .inl (g.2 4, 3, .inr (.inr (.inr (.inr (rA [s0, s1, s2]))))))], (storeW g s2 xs2 tt2 nn2 fa2 fb2 fp2)] (qi g (fun (_ : Unit) => (if w = 0 then fa2 (nn2 - 1) else fa2 (nn2 - 1) * fa2 (nn2 - 1) - fa2 (nn2 - 1) * fb2 (nn2 - 1) + fb2 (nn2 - 1) * fb2 (nn2 - 1))) (fun (_ : Unit) => True) (fun (_ : Unit) => [[dsk q d], [((d 11), .inl (g.2 4, 3, .inr (.inr (.inr (.inr (rA [s0, s1, s2]))))))], (storeW g s2 xs2 tt2 (nn2 - 1) fa2 fb2 fp2)])) := by
  refine z_ent (cc := cX9_take) (maxL := 3) (ret := (some .int)) (by decide) rfl (Nat.le_of_ble_eq_true rfl) ?_
  intro p e s m below meth c A ls hx hb hr hml hown hts hlocks hin0 hA hK hP hD hS hXX hl
  have hown : s.vm.findClass RX9 = some m.cls := hown
  have hin9_ : ∀ w ∈ wsX90, w ∈ wsX9_take := zw_in [24, 25, 26, 27, 28, 29, 30, 31, 32, 33, 34, 35] rfl
  have hl : lv_has ls 3 [(0, .ref q), (1, vI 2), (2, vI w)] := hl
  refine lv_iload_n hx hb dX9_take_0 rfl (lv_at hl 1 rfl) ?_
  refine z_cSi (As := [vI 2]) (rest := []) ⟨hx, hb, hml, hown, hts⟩ hK hP hD hS hA [] [0, 1, 2] rfl rfl rfl (c_X9_isNoStore l g 2 (by omega)) (va_cwS 1 hts gX9_take_X9_isNoStore rfl rfl rfl (by decide +kernel) ⟨Nat.le_of_ble_eq_true rfl, Nat.le_of_ble_eq_true rfl⟩) (fun _ _ _ _ _ _ => trivial) (fun _ _ _ => trivial) rfl hl.1 (Nat.le_of_ble_eq_true rfl) rfl dX9_take_1 ⟨Nat.le_of_ble_eq_true rfl, Nat.le_of_ble_eq_true rfl⟩ (fun u_1 H locs hwu_1 hP hD hS => ?_)
  try dsimp only at hwu_1
  have hP : zP g [[dsk q d], [((d 11), .inl (g.2 4, 3, .inr (.inr (.inr (.inr (rA [s0, s1, s2]))))))], (storeW g s2 xs2 tt2 nn2 fa2 fb2 fp2)] H := hP
  have hD : zD A [[dsk q d], [((d 11), .inl (g.2 4, 3, .inr (.inr (.inr (.inr (rA [s0, s1, s2]))))))], (storeW g s2 xs2 tt2 nn2 fa2 fb2 fp2)] := hD
  refine z_toI (oU 2 0 2) rfl ?_
  have hf_2 := oU_s 2 0 2
  refine z_if_eq (tgt := 10) hx hb (by omega) dX9_take_4 (by decide) (fun cq3 => ?_) (fun cq3 => False.elim (by omega))
  refine lv_iload_n hx hb dX9_take_10 rfl (lv_at hl 2 rfl) ?_
  refine z_iconst hx hb dX9_take_11 rfl ?_
  refine z_iconst hx hb dX9_take_12 rfl ?_
  refine z_cSi (As := [vI w, vI 0, vI 1]) (rest := []) ⟨hx, hb, hml, hown, hts⟩ hK hP hD hS hA [] [0, 1, 2] rfl rfl rfl (c_X9_isOutside l g w 0 1 (by first | assumption | omega | decide) (by first | assumption | omega | decide) (by first | assumption | omega | decide)) (va_cwS 3 hts gX9_take_X9_isOutside rfl rfl rfl (by decide +kernel) ⟨Nat.le_of_ble_eq_true rfl, Nat.le_of_ble_eq_true rfl⟩) (fun _ _ _ _ _ _ => trivial) (fun _ _ _ => trivial) rfl hl.1 (Nat.le_of_ble_eq_true rfl) rfl dX9_take_13 ⟨Nat.le_of_ble_eq_true rfl, Nat.le_of_ble_eq_true rfl⟩ (fun u_4 H locs hwu_4 hP hD hS => ?_)
  try dsimp only at hwu_4
  have hP : zP g [[dsk q d], [((d 11), .inl (g.2 4, 3, .inr (.inr (.inr (.inr (rA [s0, s1, s2]))))))], (storeW g s2 xs2 tt2 nn2 fa2 fb2 fp2)] H := hP
  have hD : zD A [[dsk q d], [((d 11), .inl (g.2 4, 3, .inr (.inr (.inr (.inr (rA [s0, s1, s2]))))))], (storeW g s2 xs2 tt2 nn2 fa2 fb2 fp2)] := hD
  refine z_toI (oU w 0 1) rfl ?_
  have hf_5 := oU_s w 0 1
  refine z_if_eq (tgt := 24) hx hb (by omega) dX9_take_16 (by decide) (fun cq6 => ?_) (fun cq6 => False.elim (by omega))
  refine lv_aload_n hx hb dX9_take_24 rfl (lv_at hl 0 rfl) ?_
  refine z_get hx hb hts hin9_ hown hK hP 0 rfl rfl 11 (by decide) (hts _ (List.mem_of_getElem? (i := 3) rfl)) rfl dX9_take_25 ?_
  refine lv_iload_n hx hb dX9_take_28 rfl (lv_at hl 1 rfl) ?_
  refine z_aald hx hb hK hP 1 4 rfl rfl 2 rfl (by decide) (by decide) s2 rfl dX9_take_29 ?_
  have j40 : W p l e (zRm 2 0 0) s m ([.ref q, vI 2, vI w] : List Value).toArray below meth c H locs (0) (0) (MQ below ((qi g (fun (_ : Unit) => (if w = 0 then fa2 (nn2 - 1) else fa2 (nn2 - 1) * fa2 (nn2 - 1) - fa2 (nn2 - 1) * fb2 (nn2 - 1) + fb2 (nn2 - 1) * fb2 (nn2 - 1))) (fun (_ : Unit) => True) (fun (_ : Unit) => [[dsk q d], [((d 11), .inl (g.2 4, 3, .inr (.inr (.inr (.inr (rA [s0, s1, s2]))))))], (storeW g s2 xs2 tt2 (nn2 - 1) fa2 fb2 fp2)])) A) ([.ref q, vI 2, vI w] : List Value).toArray s 0 0 A) (F0 m 40 ls [vI w, .ref s2]) := by
    refine z_cVi (As := [vI w]) (rest := []) ⟨hx, hb, hml, hown, hts⟩ hK hP hD hS hA [2] [0, 1] rfl rfl rfl (c_X6_pop_ok l g s2 xs2 tt2 nn2 fa2 fb2 fp2 w hs2 (by omega) (by omega) (by omega) hc) (cwV 1 hts gX9_take_X6_pop rfl rfl rfl (by decide +kernel) ⟨Nat.le_of_ble_eq_true rfl, Nat.le_of_ble_eq_true rfl⟩) 6 0 rfl rfl rfl (fun _ _ _ _ _ _ => trivial) (fun _ _ _ => trivial) rfl hl.1 (Nat.le_of_ble_eq_true rfl) rfl dX9_take_40 ⟨Nat.le_of_ble_eq_true rfl, Nat.le_of_ble_eq_true rfl⟩ (fun u_7 H locs hwu_7 hP hD hS => ?_)
    try dsimp only at hwu_7
    have hP : zP g [[dsk q d], [((d 11), .inl (g.2 4, 3, .inr (.inr (.inr (.inr (rA [s0, s1, s2]))))))], (storeW g s2 xs2 tt2 (nn2 - 1) fa2 fb2 fp2)] H := hP
    have hD : zD A [[dsk q d], [((d 11), .inl (g.2 4, 3, .inr (.inr (.inr (.inr (rA [s0, s1, s2]))))))], (storeW g s2 xs2 tt2 (nn2 - 1) fa2 fb2 fp2)] := hD
    refine z_toI (if w = 0 then fa2 (nn2 - 1) else fa2 (nn2 - 1) * fa2 (nn2 - 1) - fa2 (nn2 - 1) * fb2 (nn2 - 1) + fb2 (nn2 - 1) * fb2 (nn2 - 1)) rfl ?_
    exact z_reti () [0, 1, 2] hx hb hr rfl hlocks hK hP hD hS (rfl) trivial rfl rfl (rfl) (Nat.le_of_ble_eq_true rfl) (Nat.le_of_ble_eq_true rfl) dX9_take_43
  refine lv_iload_n hx hb dX9_take_30 rfl (lv_at hl 2 rfl) ?_
  refine z_iconst hx hb dX9_take_31 rfl ?_
  refine z_icmp_ne (tgt := 39) hx hb (by omega) (by decide) dX9_take_32 (by decide) (fun cq8 => ?_) (fun cq8 => ?_)
  · refine z_iconst hx hb dX9_take_39 rfl ?_
    refine z_toI w (by omega) ?_
    exact j40
  · refine z_iconst hx hb dX9_take_35 rfl ?_
    refine lv_goto (tgt := 40) hx hb dX9_take_36 (by decide) ?_
    refine z_toI w (by omega) ?_
    exact j40

set_option maxHeartbeats 4000000 in
set_option maxRecDepth 100000 in
theorem c_X9_sum2_null (l : Launch) (g : zG) (q : Nat) (d : Nat → Nat) (s0 : Nat) (s1 : Nat) (s2 : Nat) (xs2 : Nat → Nat) (tt2 : Int) (nn2 : Nat) (fa2 : Nat → Int) (fb2 : Nat → Int) (fp2 : Nat → Int) (w : Int) (hs2 : sok tt2 nn2 fp2) (hw : -2147483648 ≤ w ∧ w < 2147483648) (ho : 0 ≤ w ∧ w ≤ 2) (ht : tt2 = 0) : zMet l g yX9_sum wsX9_sum 2 0 0 [.ref q, vI 2, vI w] zX0 [[dsk q d], [((d 11), .inl (g.2 4, 3, .inr (.inr (.inr (.inr (rA [s0, s1, s2]))))))], (storeW g s2 xs2 tt2 nn2 fa2 fb2 fp2)] (qi g (fun (_ : Unit) => (-2000000011)) (fun (_ : Unit) => True) (fun (_ : Unit) => [[dsk q d], [((d 11), .inl (g.2 4, 3, .inr (.inr (.inr (.inr (rA [s0, s1, s2]))))))], (storeW g s2 xs2 tt2 nn2 fa2 fb2 fp2)])) := by
  refine z_ent (cc := cX9_sum) (maxL := 3) (ret := (some .int)) (by decide) rfl (Nat.le_of_ble_eq_true rfl) ?_
  intro p e s m below meth c A ls hx hb hr hml hown hts hlocks hin0 hA hK hP hD hS hXX hl
  have hown : s.vm.findClass RX9 = some m.cls := hown
  have hin9_ : ∀ w ∈ wsX90, w ∈ wsX9_sum := zw_in [22, 23, 24, 25, 26, 27, 28, 29, 30, 31, 32, 33] rfl
  have hl : lv_has ls 3 [(0, .ref q), (1, vI 2), (2, vI w)] := hl
  refine lv_iload_n hx hb dX9_sum_0 rfl (lv_at hl 1 rfl) ?_
  refine z_cSi (As := [vI 2]) (rest := []) ⟨hx, hb, hml, hown, hts⟩ hK hP hD hS hA [] [0, 1, 2] rfl rfl rfl (c_X9_isNoStore l g 2 (by omega)) (va_cwS 1 hts gX9_sum_X9_isNoStore rfl rfl rfl (by decide +kernel) ⟨Nat.le_of_ble_eq_true rfl, Nat.le_of_ble_eq_true rfl⟩) (fun _ _ _ _ _ _ => trivial) (fun _ _ _ => trivial) rfl hl.1 (Nat.le_of_ble_eq_true rfl) rfl dX9_sum_1 ⟨Nat.le_of_ble_eq_true rfl, Nat.le_of_ble_eq_true rfl⟩ (fun u_1 H locs hwu_1 hP hD hS => ?_)
  try dsimp only at hwu_1
  have hP : zP g [[dsk q d], [((d 11), .inl (g.2 4, 3, .inr (.inr (.inr (.inr (rA [s0, s1, s2]))))))], (storeW g s2 xs2 tt2 nn2 fa2 fb2 fp2)] H := hP
  have hD : zD A [[dsk q d], [((d 11), .inl (g.2 4, 3, .inr (.inr (.inr (.inr (rA [s0, s1, s2]))))))], (storeW g s2 xs2 tt2 nn2 fa2 fb2 fp2)] := hD
  refine z_toI (oU 2 0 2) rfl ?_
  have hf_2 := oU_s 2 0 2
  refine z_if_eq (tgt := 10) hx hb (by omega) dX9_sum_4 (by decide) (fun cq3 => ?_) (fun cq3 => False.elim (by omega))
  refine lv_iload_n hx hb dX9_sum_10 rfl (lv_at hl 2 rfl) ?_
  refine z_iconst hx hb dX9_sum_11 rfl ?_
  refine z_iconst hx hb dX9_sum_12 rfl ?_
  refine z_cSi (As := [vI w, vI 0, vI 2]) (rest := []) ⟨hx, hb, hml, hown, hts⟩ hK hP hD hS hA [] [0, 1, 2] rfl rfl rfl (c_X9_isOutside l g w 0 2 (by first | assumption | omega | decide) (by first | assumption | omega | decide) (by first | assumption | omega | decide)) (va_cwS 3 hts gX9_sum_X9_isOutside rfl rfl rfl (by decide +kernel) ⟨Nat.le_of_ble_eq_true rfl, Nat.le_of_ble_eq_true rfl⟩) (fun _ _ _ _ _ _ => trivial) (fun _ _ _ => trivial) rfl hl.1 (Nat.le_of_ble_eq_true rfl) rfl dX9_sum_13 ⟨Nat.le_of_ble_eq_true rfl, Nat.le_of_ble_eq_true rfl⟩ (fun u_4 H locs hwu_4 hP hD hS => ?_)
  try dsimp only at hwu_4
  have hP : zP g [[dsk q d], [((d 11), .inl (g.2 4, 3, .inr (.inr (.inr (.inr (rA [s0, s1, s2]))))))], (storeW g s2 xs2 tt2 nn2 fa2 fb2 fp2)] H := hP
  have hD : zD A [[dsk q d], [((d 11), .inl (g.2 4, 3, .inr (.inr (.inr (.inr (rA [s0, s1, s2]))))))], (storeW g s2 xs2 tt2 nn2 fa2 fb2 fp2)] := hD
  refine z_toI (oU w 0 2) rfl ?_
  have hf_5 := oU_s w 0 2
  refine z_if_eq (tgt := 24) hx hb (by omega) dX9_sum_16 (by decide) (fun cq6 => ?_) (fun cq6 => False.elim (by omega))
  refine lv_aload_n hx hb dX9_sum_24 rfl (lv_at hl 0 rfl) ?_
  refine z_get hx hb hts hin9_ hown hK hP 0 rfl rfl 11 (by decide) (hts _ (List.mem_of_getElem? (i := 3) rfl)) rfl dX9_sum_25 ?_
  refine lv_iload_n hx hb dX9_sum_28 rfl (lv_at hl 1 rfl) ?_
  refine z_aald hx hb hK hP 1 4 rfl rfl 2 rfl (by decide) (by decide) s2 rfl dX9_sum_29 ?_
  refine lv_iload_n hx hb dX9_sum_30 rfl (lv_at hl 2 rfl) ?_
  refine z_cVi (As := [vI w]) (rest := []) ⟨hx, hb, hml, hown, hts⟩ hK hP hD hS hA [2] [0, 1] rfl rfl rfl (c_X6_totalOf_null l g s2 xs2 tt2 nn2 fa2 fb2 fp2 w hs2 (by omega)) (cwV 1 hts gX9_sum_X6_totalOf rfl rfl rfl (by decide +kernel) ⟨Nat.le_of_ble_eq_true rfl, Nat.le_of_ble_eq_true rfl⟩) 6 0 rfl rfl rfl (fun _ _ _ _ _ _ => trivial) (fun _ _ _ => trivial) rfl hl.1 (Nat.le_of_ble_eq_true rfl) rfl dX9_sum_31 ⟨Nat.le_of_ble_eq_true rfl, Nat.le_of_ble_eq_true rfl⟩ (fun u_7 H locs hwu_7 hP hD hS => ?_)
  try dsimp only at hwu_7
  have hP : zP g [[dsk q d], [((d 11), .inl (g.2 4, 3, .inr (.inr (.inr (.inr (rA [s0, s1, s2]))))))], (storeW g s2 xs2 tt2 nn2 fa2 fb2 fp2)] H := hP
  have hD : zD A [[dsk q d], [((d 11), .inl (g.2 4, 3, .inr (.inr (.inr (.inr (rA [s0, s1, s2]))))))], (storeW g s2 xs2 tt2 nn2 fa2 fb2 fp2)] := hD
  refine z_toI (-2000000011) rfl ?_
  exact z_reti () [0, 1, 2] hx hb hr rfl hlocks hK hP hD hS (rfl) trivial rfl rfl (rfl) (Nat.le_of_ble_eq_true rfl) (Nat.le_of_ble_eq_true rfl) dX9_sum_34

set_option maxHeartbeats 4000000 in
set_option maxRecDepth 100000 in
theorem c_X9_sum2_ok (l : Launch) (g : zG) (q : Nat) (d : Nat → Nat) (s0 : Nat) (s1 : Nat) (s2 : Nat) (xs2 : Nat → Nat) (tt2 : Int) (nn2 : Nat) (fa2 : Nat → Int) (fb2 : Nat → Int) (fp2 : Nat → Int) (w : Int) (hs2 : sok tt2 nn2 fp2) (hw : -2147483648 ≤ w ∧ w < 2147483648) (ho : 0 ≤ w ∧ w ≤ 2) (ht : tt2 = 1) : zMet l g yX9_sum wsX9_sum 2 0 0 [.ref q, vI 2, vI w] zX0 [[dsk q d], [((d 11), .inl (g.2 4, 3, .inr (.inr (.inr (.inr (rA [s0, s1, s2]))))))], (storeW g s2 xs2 tt2 nn2 fa2 fb2 fp2)] (qi g (fun (_ : Unit) => (tot nn2 (if w = 2 then fp2 else if w = 0 then fa2 else fb2))) (fun (_ : Unit) => True) (fun (_ : Unit) => [[dsk q d], [((d 11), .inl (g.2 4, 3, .inr (.inr (.inr (.inr (rA [s0, s1, s2]))))))], (storeW g s2 xs2 tt2 nn2 fa2 fb2 fp2)])) := by
  refine z_ent (cc := cX9_sum) (maxL := 3) (ret := (some .int)) (by decide) rfl (Nat.le_of_ble_eq_true rfl) ?_
  intro p e s m below meth c A ls hx hb hr hml hown hts hlocks hin0 hA hK hP hD hS hXX hl
  have hown : s.vm.findClass RX9 = some m.cls := hown
  have hin9_ : ∀ w ∈ wsX90, w ∈ wsX9_sum := zw_in [22, 23, 24, 25, 26, 27, 28, 29, 30, 31, 32, 33] rfl
  have hl : lv_has ls 3 [(0, .ref q), (1, vI 2), (2, vI w)] := hl
  refine lv_iload_n hx hb dX9_sum_0 rfl (lv_at hl 1 rfl) ?_
  refine z_cSi (As := [vI 2]) (rest := []) ⟨hx, hb, hml, hown, hts⟩ hK hP hD hS hA [] [0, 1, 2] rfl rfl rfl (c_X9_isNoStore l g 2 (by omega)) (va_cwS 1 hts gX9_sum_X9_isNoStore rfl rfl rfl (by decide +kernel) ⟨Nat.le_of_ble_eq_true rfl, Nat.le_of_ble_eq_true rfl⟩) (fun _ _ _ _ _ _ => trivial) (fun _ _ _ => trivial) rfl hl.1 (Nat.le_of_ble_eq_true rfl) rfl dX9_sum_1 ⟨Nat.le_of_ble_eq_true rfl, Nat.le_of_ble_eq_true rfl⟩ (fun u_1 H locs hwu_1 hP hD hS => ?_)
  try dsimp only at hwu_1
  have hP : zP g [[dsk q d], [((d 11), .inl (g.2 4, 3, .inr (.inr (.inr (.inr (rA [s0, s1, s2]))))))], (storeW g s2 xs2 tt2 nn2 fa2 fb2 fp2)] H := hP
  have hD : zD A [[dsk q d], [((d 11), .inl (g.2 4, 3, .inr (.inr (.inr (.inr (rA [s0, s1, s2]))))))], (storeW g s2 xs2 tt2 nn2 fa2 fb2 fp2)] := hD
  refine z_toI (oU 2 0 2) rfl ?_
  have hf_2 := oU_s 2 0 2
  refine z_if_eq (tgt := 10) hx hb (by omega) dX9_sum_4 (by decide) (fun cq3 => ?_) (fun cq3 => False.elim (by omega))
  refine lv_iload_n hx hb dX9_sum_10 rfl (lv_at hl 2 rfl) ?_
  refine z_iconst hx hb dX9_sum_11 rfl ?_
  refine z_iconst hx hb dX9_sum_12 rfl ?_
  refine z_cSi (As := [vI w, vI 0, vI 2]) (rest := []) ⟨hx, hb, hml, hown, hts⟩ hK hP hD hS hA [] [0, 1, 2] rfl rfl rfl (c_X9_isOutside l g w 0 2 (by first | assumption | omega | decide) (by first | assumption | omega | decide) (by first | assumption | omega | decide)) (va_cwS 3 hts gX9_sum_X9_isOutside rfl rfl rfl (by decide +kernel) ⟨Nat.le_of_ble_eq_true rfl, Nat.le_of_ble_eq_true rfl⟩) (fun _ _ _ _ _ _ => trivial) (fun _ _ _ => trivial) rfl hl.1 (Nat.le_of_ble_eq_true rfl) rfl dX9_sum_13 ⟨Nat.le_of_ble_eq_true rfl, Nat.le_of_ble_eq_true rfl⟩ (fun u_4 H locs hwu_4 hP hD hS => ?_)
  try dsimp only at hwu_4
  have hP : zP g [[dsk q d], [((d 11), .inl (g.2 4, 3, .inr (.inr (.inr (.inr (rA [s0, s1, s2]))))))], (storeW g s2 xs2 tt2 nn2 fa2 fb2 fp2)] H := hP
  have hD : zD A [[dsk q d], [((d 11), .inl (g.2 4, 3, .inr (.inr (.inr (.inr (rA [s0, s1, s2]))))))], (storeW g s2 xs2 tt2 nn2 fa2 fb2 fp2)] := hD
  refine z_toI (oU w 0 2) rfl ?_
  have hf_5 := oU_s w 0 2
  refine z_if_eq (tgt := 24) hx hb (by omega) dX9_sum_16 (by decide) (fun cq6 => ?_) (fun cq6 => False.elim (by omega))
  refine lv_aload_n hx hb dX9_sum_24 rfl (lv_at hl 0 rfl) ?_
  refine z_get hx hb hts hin9_ hown hK hP 0 rfl rfl 11 (by decide) (hts _ (List.mem_of_getElem? (i := 3) rfl)) rfl dX9_sum_25 ?_
  refine lv_iload_n hx hb dX9_sum_28 rfl (lv_at hl 1 rfl) ?_
  refine z_aald hx hb hK hP 1 4 rfl rfl 2 rfl (by decide) (by decide) s2 rfl dX9_sum_29 ?_
  refine lv_iload_n hx hb dX9_sum_30 rfl (lv_at hl 2 rfl) ?_
  refine z_cVi (As := [vI w]) (rest := []) ⟨hx, hb, hml, hown, hts⟩ hK hP hD hS hA [2] [0, 1] rfl rfl rfl (c_X6_totalOf l g s2 xs2 tt2 nn2 fa2 fb2 fp2 w hs2 (by omega) (by omega)) (cwV 1 hts gX9_sum_X6_totalOf rfl rfl rfl (by decide +kernel) ⟨Nat.le_of_ble_eq_true rfl, Nat.le_of_ble_eq_true rfl⟩) 6 0 rfl rfl rfl (fun _ _ _ _ _ _ => trivial) (fun _ _ _ => trivial) rfl hl.1 (Nat.le_of_ble_eq_true rfl) rfl dX9_sum_31 ⟨Nat.le_of_ble_eq_true rfl, Nat.le_of_ble_eq_true rfl⟩ (fun u_7 H locs hwu_7 hP hD hS => ?_)
  try dsimp only at hwu_7
  have hP : zP g [[dsk q d], [((d 11), .inl (g.2 4, 3, .inr (.inr (.inr (.inr (rA [s0, s1, s2]))))))], (storeW g s2 xs2 tt2 nn2 fa2 fb2 fp2)] H := hP
  have hD : zD A [[dsk q d], [((d 11), .inl (g.2 4, 3, .inr (.inr (.inr (.inr (rA [s0, s1, s2]))))))], (storeW g s2 xs2 tt2 nn2 fa2 fb2 fp2)] := hD
  refine z_toI (tot nn2 (if w = 2 then fp2 else if w = 0 then fa2 else fb2)) rfl ?_
  exact z_reti () [0, 1, 2] hx hb hr rfl hlocks hK hP hD hS (rfl) trivial rfl rfl (rfl) (Nat.le_of_ble_eq_true rfl) (Nat.le_of_ble_eq_true rfl) dX9_sum_34

set_option maxHeartbeats 4000000 in
set_option maxRecDepth 100000 in
theorem c_X9_drop2_null (l : Launch) (g : zG) (q : Nat) (d : Nat → Nat) (s0 : Nat) (s1 : Nat) (s2 : Nat) (xs2 : Nat → Nat) (tt2 : Int) (nn2 : Nat) (fa2 : Nat → Int) (fb2 : Nat → Int) (fp2 : Nat → Int) (hs2 : sok tt2 nn2 fp2) (ht : tt2 = 0) : zMet l g yX9_drop wsX9_drop 2 0 0 [.ref q, vI 2] zX0 [[dsk q d], [((d 11), .inl (g.2 4, 3, .inr (.inr (.inr (.inr (rA [s0, s1, s2]))))))], (storeW g s2 xs2 tt2 nn2 fa2 fb2 fp2)] (qi g (fun (_ : Unit) => (-2000000011)) (fun (_ : Unit) => True) (fun (_ : Unit) => [[dsk q d], [((d 11), .inl (g.2 4, 3, .inr (.inr (.inr (.inr (rA [s0, s1, s2]))))))], (storeW g s2 xs2 tt2 nn2 fa2 fb2 fp2)])) := by
  obtain ⟨hs1_, hs2_, hs3_⟩ := id hs2
  refine z_ent (cc := cX9_drop) (maxL := 2) (ret := (some .int)) (by decide) rfl (Nat.le_of_ble_eq_true rfl) ?_
  intro p e s m below meth c A ls hx hb hr hml hown hts hlocks hin0 hA hK hP hD hS hXX hl
  have hown : s.vm.findClass RX9 = some m.cls := hown
  have hin6_ : ∀ w ∈ wsX60, w ∈ wsX9_drop := zw_in [31, 32, 33, 34, 35] rfl
  have hin9_ : ∀ w ∈ wsX90, w ∈ wsX9_drop := zw_in [19, 20, 21, 22, 23, 24, 25, 26, 27, 28, 29, 30] rfl
  have hl : lv_has ls 2 [(0, .ref q), (1, vI 2)] := hl
  refine lv_iload_n hx hb dX9_drop_0 rfl (lv_at hl 1 rfl) ?_
  refine z_cSi (As := [vI 2]) (rest := []) ⟨hx, hb, hml, hown, hts⟩ hK hP hD hS hA [] [0, 1, 2] rfl rfl rfl (c_X9_isNoStore l g 2 (by omega)) (va_cwS 1 hts gX9_drop_X9_isNoStore rfl rfl rfl (by decide +kernel) ⟨Nat.le_of_ble_eq_true rfl, Nat.le_of_ble_eq_true rfl⟩) (fun _ _ _ _ _ _ => trivial) (fun _ _ _ => trivial) rfl hl.1 (Nat.le_of_ble_eq_true rfl) rfl dX9_drop_1 ⟨Nat.le_of_ble_eq_true rfl, Nat.le_of_ble_eq_true rfl⟩ (fun u_1 H locs hwu_1 hP hD hS => ?_)
  try dsimp only at hwu_1
  have hP : zP g [[dsk q d], [((d 11), .inl (g.2 4, 3, .inr (.inr (.inr (.inr (rA [s0, s1, s2]))))))], (storeW g s2 xs2 tt2 nn2 fa2 fb2 fp2)] H := hP
  have hD : zD A [[dsk q d], [((d 11), .inl (g.2 4, 3, .inr (.inr (.inr (.inr (rA [s0, s1, s2]))))))], (storeW g s2 xs2 tt2 nn2 fa2 fb2 fp2)] := hD
  refine z_toI (oU 2 0 2) rfl ?_
  have hf_2 := oU_s 2 0 2
  refine z_if_eq (tgt := 10) hx hb (by omega) dX9_drop_4 (by decide) (fun cq3 => ?_) (fun cq3 => False.elim (by omega))
  refine lv_aload_n hx hb dX9_drop_10 rfl (lv_at hl 0 rfl) ?_
  refine z_get hx hb hts hin9_ hown hK hP 0 rfl rfl 11 (by decide) (hts _ (List.mem_of_getElem? (i := 2) rfl)) rfl dX9_drop_11 ?_
  refine lv_iload_n hx hb dX9_drop_14 rfl (lv_at hl 1 rfl) ?_
  refine z_aald hx hb hK hP 1 4 rfl rfl 2 rfl (by decide) (by decide) s2 rfl dX9_drop_15 ?_
  have hP : zP g [[dsk q d], [((d 11), .inl (g.2 4, 3, .inr (.inr (.inr (.inr (rA [s0, s1, s2]))))))], [(s2, .inr (6, [vI tt2, vI ((nn2 : Nat) : Int), .ref (xs2 0), .ref (xs2 1), .ref (xs2 2)]))], [((xs2 0), .inl (g.2 0, 8, .inl (aI fa2)))], [((xs2 1), .inl (g.2 0, 8, .inl (aI fb2)))], [((xs2 2), .inl (g.2 2, 8, .inl (aI fp2)))]] H := hP
  have hD : zD A [[dsk q d], [((d 11), .inl (g.2 4, 3, .inr (.inr (.inr (.inr (rA [s0, s1, s2]))))))], [(s2, .inr (6, [vI tt2, vI ((nn2 : Nat) : Int), .ref (xs2 0), .ref (xs2 1), .ref (xs2 2)]))], [((xs2 0), .inl (g.2 0, 8, .inl (aI fa2)))], [((xs2 1), .inl (g.2 0, 8, .inl (aI fb2)))], [((xs2 2), .inl (g.2 2, 8, .inl (aI fp2)))]] := hD
  refine z_get hx hb hts hin6_ hown hK hP 2 rfl rfl 0 (by decide) (hts _ (List.mem_of_getElem? (i := 3) rfl)) rfl dX9_drop_16 ?_
  refine z_if_eq (tgt := 34) hx hb (by omega) dX9_drop_19 (by decide) (fun cq4 => ?_) (fun cq4 => False.elim (by omega))
  refine z_ldcw hx hb (-2000000011) hown (hts _ (List.mem_of_getElem? (i := 4) rfl)) rfl dX9_drop_34 ?_
  have hP : zP g [[dsk q d], [((d 11), .inl (g.2 4, 3, .inr (.inr (.inr (.inr (rA [s0, s1, s2]))))))], (storeW g s2 xs2 tt2 nn2 fa2 fb2 fp2)] H := hP
  have hD : zD A [[dsk q d], [((d 11), .inl (g.2 4, 3, .inr (.inr (.inr (.inr (rA [s0, s1, s2]))))))], (storeW g s2 xs2 tt2 nn2 fa2 fb2 fp2)] := hD
  exact z_reti () [0, 1, 2] hx hb hr rfl hlocks hK hP hD hS (rfl) trivial rfl rfl (rfl) (Nat.le_of_ble_eq_true rfl) (Nat.le_of_ble_eq_true rfl) dX9_drop_37

set_option maxHeartbeats 4000000 in
set_option maxRecDepth 100000 in
theorem c_X9_drop2_ok (l : Launch) (g : zG) (q : Nat) (d : Nat → Nat) (s0 : Nat) (s1 : Nat) (s2 : Nat) (xs2 : Nat → Nat) (tt2 : Int) (nn2 : Nat) (fa2 : Nat → Int) (fb2 : Nat → Int) (fp2 : Nat → Int) (hs2 : sok tt2 nn2 fp2) (ht : tt2 = 1) : zMet l g yX9_drop wsX9_drop 2 0 0 [.ref q, vI 2] zX0 [[dsk q d], [((d 11), .inl (g.2 4, 3, .inr (.inr (.inr (.inr (rA [s0, s1, s2]))))))], (storeW g s2 xs2 tt2 nn2 fa2 fb2 fp2)] (qi g (fun (_ : Unit) => ((nn2 : Nat) : Int)) (fun (_ : Unit) => True) (fun (_ : Unit) => [[dsk q d], [((d 11), .inl (g.2 4, 3, .inr (.inr (.inr (.inr (rA [s0, s1, s2]))))))], (storeW g s2 xs2 0 0 fa2 fb2 fp2)])) := by
  obtain ⟨hs1_, hs2_, hs3_⟩ := id hs2
  refine z_ent (cc := cX9_drop) (maxL := 2) (ret := (some .int)) (by decide) rfl (Nat.le_of_ble_eq_true rfl) ?_
  intro p e s m below meth c A ls hx hb hr hml hown hts hlocks hin0 hA hK hP hD hS hXX hl
  have hown : s.vm.findClass RX9 = some m.cls := hown
  have hin6_ : ∀ w ∈ wsX60, w ∈ wsX9_drop := zw_in [31, 32, 33, 34, 35] rfl
  have hin9_ : ∀ w ∈ wsX90, w ∈ wsX9_drop := zw_in [19, 20, 21, 22, 23, 24, 25, 26, 27, 28, 29, 30] rfl
  have hl : lv_has ls 2 [(0, .ref q), (1, vI 2)] := hl
  refine lv_iload_n hx hb dX9_drop_0 rfl (lv_at hl 1 rfl) ?_
  refine z_cSi (As := [vI 2]) (rest := []) ⟨hx, hb, hml, hown, hts⟩ hK hP hD hS hA [] [0, 1, 2] rfl rfl rfl (c_X9_isNoStore l g 2 (by omega)) (va_cwS 1 hts gX9_drop_X9_isNoStore rfl rfl rfl (by decide +kernel) ⟨Nat.le_of_ble_eq_true rfl, Nat.le_of_ble_eq_true rfl⟩) (fun _ _ _ _ _ _ => trivial) (fun _ _ _ => trivial) rfl hl.1 (Nat.le_of_ble_eq_true rfl) rfl dX9_drop_1 ⟨Nat.le_of_ble_eq_true rfl, Nat.le_of_ble_eq_true rfl⟩ (fun u_1 H locs hwu_1 hP hD hS => ?_)
  try dsimp only at hwu_1
  have hP : zP g [[dsk q d], [((d 11), .inl (g.2 4, 3, .inr (.inr (.inr (.inr (rA [s0, s1, s2]))))))], (storeW g s2 xs2 tt2 nn2 fa2 fb2 fp2)] H := hP
  have hD : zD A [[dsk q d], [((d 11), .inl (g.2 4, 3, .inr (.inr (.inr (.inr (rA [s0, s1, s2]))))))], (storeW g s2 xs2 tt2 nn2 fa2 fb2 fp2)] := hD
  refine z_toI (oU 2 0 2) rfl ?_
  have hf_2 := oU_s 2 0 2
  refine z_if_eq (tgt := 10) hx hb (by omega) dX9_drop_4 (by decide) (fun cq3 => ?_) (fun cq3 => False.elim (by omega))
  refine lv_aload_n hx hb dX9_drop_10 rfl (lv_at hl 0 rfl) ?_
  refine z_get hx hb hts hin9_ hown hK hP 0 rfl rfl 11 (by decide) (hts _ (List.mem_of_getElem? (i := 2) rfl)) rfl dX9_drop_11 ?_
  refine lv_iload_n hx hb dX9_drop_14 rfl (lv_at hl 1 rfl) ?_
  refine z_aald hx hb hK hP 1 4 rfl rfl 2 rfl (by decide) (by decide) s2 rfl dX9_drop_15 ?_
  have hP : zP g [[dsk q d], [((d 11), .inl (g.2 4, 3, .inr (.inr (.inr (.inr (rA [s0, s1, s2]))))))], [(s2, .inr (6, [vI tt2, vI ((nn2 : Nat) : Int), .ref (xs2 0), .ref (xs2 1), .ref (xs2 2)]))], [((xs2 0), .inl (g.2 0, 8, .inl (aI fa2)))], [((xs2 1), .inl (g.2 0, 8, .inl (aI fb2)))], [((xs2 2), .inl (g.2 2, 8, .inl (aI fp2)))]] H := hP
  have hD : zD A [[dsk q d], [((d 11), .inl (g.2 4, 3, .inr (.inr (.inr (.inr (rA [s0, s1, s2]))))))], [(s2, .inr (6, [vI tt2, vI ((nn2 : Nat) : Int), .ref (xs2 0), .ref (xs2 1), .ref (xs2 2)]))], [((xs2 0), .inl (g.2 0, 8, .inl (aI fa2)))], [((xs2 1), .inl (g.2 0, 8, .inl (aI fb2)))], [((xs2 2), .inl (g.2 2, 8, .inl (aI fp2)))]] := hD
  refine z_get hx hb hts hin6_ hown hK hP 2 rfl rfl 0 (by decide) (hts _ (List.mem_of_getElem? (i := 3) rfl)) rfl dX9_drop_16 ?_
  refine z_if_eq (tgt := 34) hx hb (by omega) dX9_drop_19 (by decide) (fun cq4 => False.elim (by omega)) (fun cq4 => ?_)
  have hP : zP g [[dsk q d], [((d 11), .inl (g.2 4, 3, .inr (.inr (.inr (.inr (rA [s0, s1, s2]))))))], (storeW g s2 xs2 tt2 nn2 fa2 fb2 fp2)] H := hP
  have hD : zD A [[dsk q d], [((d 11), .inl (g.2 4, 3, .inr (.inr (.inr (.inr (rA [s0, s1, s2]))))))], (storeW g s2 xs2 tt2 nn2 fa2 fb2 fp2)] := hD
  refine lv_aload_n hx hb dX9_drop_22 rfl (lv_at hl 0 rfl) ?_
  refine z_get hx hb hts hin9_ hown hK hP 0 rfl rfl 11 (by decide) (hts _ (List.mem_of_getElem? (i := 2) rfl)) rfl dX9_drop_23 ?_
  refine lv_iload_n hx hb dX9_drop_26 rfl (lv_at hl 1 rfl) ?_
  refine z_aald hx hb hK hP 1 4 rfl rfl 2 rfl (by decide) (by decide) s2 rfl dX9_drop_27 ?_
  refine z_cVi (As := []) (rest := []) ⟨hx, hb, hml, hown, hts⟩ hK hP hD hS hA [2] [0, 1] rfl rfl rfl (c_X6_vanish l g s2 xs2 tt2 nn2 fa2 fb2 fp2 hs2) (cwV 0 hts gX9_drop_X6_vanish rfl rfl rfl (by decide +kernel) ⟨Nat.le_of_ble_eq_true rfl, Nat.le_of_ble_eq_true rfl⟩) 6 0 rfl rfl rfl (fun _ _ _ _ _ _ => trivial) (fun _ _ _ => trivial) rfl hl.1 (Nat.le_of_ble_eq_true rfl) rfl dX9_drop_28 ⟨Nat.le_of_ble_eq_true rfl, Nat.le_of_ble_eq_true rfl⟩ (fun u_5 H locs hwu_5 hP hD hS => ?_)
  try dsimp only at hwu_5
  have hP : zP g [[dsk q d], [((d 11), .inl (g.2 4, 3, .inr (.inr (.inr (.inr (rA [s0, s1, s2]))))))], (storeW g s2 xs2 0 0 fa2 fb2 fp2)] H := hP
  have hD : zD A [[dsk q d], [((d 11), .inl (g.2 4, 3, .inr (.inr (.inr (.inr (rA [s0, s1, s2]))))))], (storeW g s2 xs2 0 0 fa2 fb2 fp2)] := hD
  refine z_toI ((nn2 : Nat) : Int) rfl ?_
  refine lv_goto (tgt := 37) hx hb dX9_drop_31 (by decide) ?_
  exact z_reti () [0, 1, 2] hx hb hr rfl hlocks hK hP hD hS (rfl) trivial rfl rfl (rfl) (Nat.le_of_ble_eq_true rfl) (Nat.le_of_ble_eq_true rfl) dX9_drop_37

set_option maxHeartbeats 4000000 in
set_option maxRecDepth 100000 in
theorem c_X9_drop_unk (l : Launch) (g : zG) (q : Nat) (d : Nat → Nat) (a : Int) (hr0 : -2147483648 ≤ a ∧ a < 2147483648) (ha : ¬ (0 ≤ a ∧ a ≤ 2)) : zMet l g yX9_drop wsX9_drop 2 0 0 [.ref q, vI a] zX0 [[dsk q d]] (qi g (fun (_ : Unit) => (-2000000001)) (fun (_ : Unit) => True) (fun (_ : Unit) => [[dsk q d]])) := by
  refine z_ent (cc := cX9_drop) (maxL := 2) (ret := (some .int)) (by decide) rfl (Nat.le_of_ble_eq_true rfl) ?_
  intro p e s m below meth c A ls hx hb hr hml hown hts hlocks hin0 hA hK hP hD hS hXX hl
  have hown : s.vm.findClass RX9 = some m.cls := hown
  have hl : lv_has ls 2 [(0, .ref q), (1, vI a)] := hl
  refine lv_iload_n hx hb dX9_drop_0 rfl (lv_at hl 1 rfl) ?_
  refine z_cSi (As := [vI a]) (rest := []) ⟨hx, hb, hml, hown, hts⟩ hK hP hD hS hA [] [0] rfl rfl rfl (c_X9_isNoStore l g a (by first | assumption | omega | decide)) (va_cwS 1 hts gX9_drop_X9_isNoStore rfl rfl rfl (by decide +kernel) ⟨Nat.le_of_ble_eq_true rfl, Nat.le_of_ble_eq_true rfl⟩) (fun _ _ _ _ _ _ => trivial) (fun _ _ _ => trivial) rfl hl.1 (Nat.le_of_ble_eq_true rfl) rfl dX9_drop_1 ⟨Nat.le_of_ble_eq_true rfl, Nat.le_of_ble_eq_true rfl⟩ (fun u_1 H locs hwu_1 hP hD hS => ?_)
  try dsimp only at hwu_1
  have hP : zP g [[dsk q d]] H := hP
  have hD : zD A [[dsk q d]] := hD
  refine z_toI (oU a 0 2) rfl ?_
  have hf_2 := oU_s a 0 2
  refine z_if_eq (tgt := 10) hx hb (by omega) dX9_drop_4 (by decide) (fun cq3 => False.elim (by omega)) (fun cq3 => ?_)
  refine z_ldc hx hb (-2000000001) hown (hts _ (List.mem_of_getElem? (i := 1) rfl)) rfl dX9_drop_7 ?_
  exact z_reti () [0] hx hb hr rfl hlocks hK hP hD hS (rfl) trivial rfl rfl (rfl) (Nat.le_of_ble_eq_true rfl) (Nat.le_of_ble_eq_true rfl) dX9_drop_9

set_option maxHeartbeats 4000000 in
set_option maxRecDepth 100000 in
theorem c_X9_thingsOfAllStores (l : Launch) (g : zG) (q : Nat) (d : Nat → Nat) (s0 : Nat) (xs0 : Nat → Nat) (tt0 : Int) (nn0 : Nat) (fa0 : Nat → Int) (fb0 : Nat → Int) (fp0 : Nat → Int) (s1 : Nat) (xs1 : Nat → Nat) (tt1 : Int) (nn1 : Nat) (fa1 : Nat → Int) (fb1 : Nat → Int) (fp1 : Nat → Int) (s2 : Nat) (xs2 : Nat → Nat) (tt2 : Int) (nn2 : Nat) (fa2 : Nat → Int) (fb2 : Nat → Int) (fp2 : Nat → Int) (hs0 : sok tt0 nn0 fp0) (hs1 : sok tt1 nn1 fp1) (hs2 : sok tt2 nn2 fp2) : zMet l g yX9_thingsOfAllStores wsX9_thingsOfAllStores 0 0 0 [.ref q] zX0 [[dsk q d], [((d 11), .inl (g.2 4, 3, .inr (.inr (.inr (.inr (rA [s0, s1, s2]))))))], (storeW g s0 xs0 tt0 nn0 fa0 fb0 fp0), (storeW g s1 xs1 tt1 nn1 fa1 fb1 fp1), (storeW g s2 xs2 tt2 nn2 fa2 fb2 fp2)] (qi g (fun (_ : Unit) => ((nn0 : Int) + (nn1 : Int) + (nn2 : Int))) (fun (_ : Unit) => True) (fun (_ : Unit) => [[dsk q d], [((d 11), .inl (g.2 4, 3, .inr (.inr (.inr (.inr (rA [s0, s1, s2]))))))], (storeW g s0 xs0 tt0 nn0 fa0 fb0 fp0), (storeW g s1 xs1 tt1 nn1 fa1 fb1 fp1), (storeW g s2 xs2 tt2 nn2 fa2 fb2 fp2)])) := by
  refine z_ent (cc := cX9_thingsOfAllStores) (maxL := 3) (ret := (some .int)) (by decide) rfl (Nat.le_of_ble_eq_true rfl) ?_
  intro p e s m below meth c A ls hx hb hr hml hown hts hlocks hin0 hA hK hP hD hS hXX hl
  have hown : s.vm.findClass RX9 = some m.cls := hown
  have hin6_ : ∀ w ∈ wsX60, w ∈ wsX9_thingsOfAllStores := zw_in [15, 16, 17, 18, 19] rfl
  have hin9_ : ∀ w ∈ wsX90, w ∈ wsX9_thingsOfAllStores := zw_in [3, 4, 5, 6, 7, 8, 9, 10, 11, 12, 13, 14] rfl
  have hl : lv_has ls 3 [(0, .ref q)] := hl
  have hP : zP g [[dsk q d], [((d 11), .inl (g.2 4, 3, .inr (.inr (.inr (.inr (rA [s0, s1, s2]))))))], [(s0, .inr (6, [vI tt0, vI ((nn0 : Nat) : Int), .ref (xs0 0), .ref (xs0 1), .ref (xs0 2)]))], [((xs0 0), .inl (g.2 0, 8, .inl (aI fa0)))], [((xs0 1), .inl (g.2 0, 8, .inl (aI fb0)))], [((xs0 2), .inl (g.2 2, 8, .inl (aI fp0)))], (storeW g s1 xs1 tt1 nn1 fa1 fb1 fp1), (storeW g s2 xs2 tt2 nn2 fa2 fb2 fp2)] s.heap := hP
  have hD : zD A [[dsk q d], [((d 11), .inl (g.2 4, 3, .inr (.inr (.inr (.inr (rA [s0, s1, s2]))))))], [(s0, .inr (6, [vI tt0, vI ((nn0 : Nat) : Int), .ref (xs0 0), .ref (xs0 1), .ref (xs0 2)]))], [((xs0 0), .inl (g.2 0, 8, .inl (aI fa0)))], [((xs0 1), .inl (g.2 0, 8, .inl (aI fb0)))], [((xs0 2), .inl (g.2 2, 8, .inl (aI fp0)))], (storeW g s1 xs1 tt1 nn1 fa1 fb1 fp1), (storeW g s2 xs2 tt2 nn2 fa2 fb2 fp2)] := hD
  have hP : zP g [[dsk q d], [((d 11), .inl (g.2 4, 3, .inr (.inr (.inr (.inr (rA [s0, s1, s2]))))))], [(s0, .inr (6, [vI tt0, vI ((nn0 : Nat) : Int), .ref (xs0 0), .ref (xs0 1), .ref (xs0 2)]))], [((xs0 0), .inl (g.2 0, 8, .inl (aI fa0)))], [((xs0 1), .inl (g.2 0, 8, .inl (aI fb0)))], [((xs0 2), .inl (g.2 2, 8, .inl (aI fp0)))], [(s1, .inr (6, [vI tt1, vI ((nn1 : Nat) : Int), .ref (xs1 0), .ref (xs1 1), .ref (xs1 2)]))], [((xs1 0), .inl (g.2 0, 8, .inl (aI fa1)))], [((xs1 1), .inl (g.2 0, 8, .inl (aI fb1)))], [((xs1 2), .inl (g.2 2, 8, .inl (aI fp1)))], (storeW g s2 xs2 tt2 nn2 fa2 fb2 fp2)] s.heap := hP
  have hD : zD A [[dsk q d], [((d 11), .inl (g.2 4, 3, .inr (.inr (.inr (.inr (rA [s0, s1, s2]))))))], [(s0, .inr (6, [vI tt0, vI ((nn0 : Nat) : Int), .ref (xs0 0), .ref (xs0 1), .ref (xs0 2)]))], [((xs0 0), .inl (g.2 0, 8, .inl (aI fa0)))], [((xs0 1), .inl (g.2 0, 8, .inl (aI fb0)))], [((xs0 2), .inl (g.2 2, 8, .inl (aI fp0)))], [(s1, .inr (6, [vI tt1, vI ((nn1 : Nat) : Int), .ref (xs1 0), .ref (xs1 1), .ref (xs1 2)]))], [((xs1 0), .inl (g.2 0, 8, .inl (aI fa1)))], [((xs1 1), .inl (g.2 0, 8, .inl (aI fb1)))], [((xs1 2), .inl (g.2 2, 8, .inl (aI fp1)))], (storeW g s2 xs2 tt2 nn2 fa2 fb2 fp2)] := hD
  have hP : zP g [[dsk q d], [((d 11), .inl (g.2 4, 3, .inr (.inr (.inr (.inr (rA [s0, s1, s2]))))))], [(s0, .inr (6, [vI tt0, vI ((nn0 : Nat) : Int), .ref (xs0 0), .ref (xs0 1), .ref (xs0 2)]))], [((xs0 0), .inl (g.2 0, 8, .inl (aI fa0)))], [((xs0 1), .inl (g.2 0, 8, .inl (aI fb0)))], [((xs0 2), .inl (g.2 2, 8, .inl (aI fp0)))], [(s1, .inr (6, [vI tt1, vI ((nn1 : Nat) : Int), .ref (xs1 0), .ref (xs1 1), .ref (xs1 2)]))], [((xs1 0), .inl (g.2 0, 8, .inl (aI fa1)))], [((xs1 1), .inl (g.2 0, 8, .inl (aI fb1)))], [((xs1 2), .inl (g.2 2, 8, .inl (aI fp1)))], [(s2, .inr (6, [vI tt2, vI ((nn2 : Nat) : Int), .ref (xs2 0), .ref (xs2 1), .ref (xs2 2)]))], [((xs2 0), .inl (g.2 0, 8, .inl (aI fa2)))], [((xs2 1), .inl (g.2 0, 8, .inl (aI fb2)))], [((xs2 2), .inl (g.2 2, 8, .inl (aI fp2)))]] s.heap := hP
  have hD : zD A [[dsk q d], [((d 11), .inl (g.2 4, 3, .inr (.inr (.inr (.inr (rA [s0, s1, s2]))))))], [(s0, .inr (6, [vI tt0, vI ((nn0 : Nat) : Int), .ref (xs0 0), .ref (xs0 1), .ref (xs0 2)]))], [((xs0 0), .inl (g.2 0, 8, .inl (aI fa0)))], [((xs0 1), .inl (g.2 0, 8, .inl (aI fb0)))], [((xs0 2), .inl (g.2 2, 8, .inl (aI fp0)))], [(s1, .inr (6, [vI tt1, vI ((nn1 : Nat) : Int), .ref (xs1 0), .ref (xs1 1), .ref (xs1 2)]))], [((xs1 0), .inl (g.2 0, 8, .inl (aI fa1)))], [((xs1 1), .inl (g.2 0, 8, .inl (aI fb1)))], [((xs1 2), .inl (g.2 2, 8, .inl (aI fp1)))], [(s2, .inr (6, [vI tt2, vI ((nn2 : Nat) : Int), .ref (xs2 0), .ref (xs2 1), .ref (xs2 2)]))], [((xs2 0), .inl (g.2 0, 8, .inl (aI fa2)))], [((xs2 1), .inl (g.2 0, 8, .inl (aI fb2)))], [((xs2 2), .inl (g.2 2, 8, .inl (aI fp2)))]] := hD
  refine z_iconst hx hb dX9_thingsOfAllStores_0 rfl ?_
  refine lv_istore_n (lv' := [(1, vI 0), (0, .ref q)]) hx hb dX9_thingsOfAllStores_1 rfl hl (by decide) rfl (fun ls hl => ?_)
  refine z_iconst hx hb dX9_thingsOfAllStores_2 rfl ?_
  refine lv_istore_n (lv' := [(2, vI 0), (1, vI 0), (0, .ref q)]) hx hb dX9_thingsOfAllStores_3 rfl hl (by decide) rfl (fun ls hl => ?_)
  refine lv_iload_n hx hb dX9_thingsOfAllStores_4 rfl (lv_at hl 0 rfl) ?_
  refine z_iconst hx hb dX9_thingsOfAllStores_5 rfl ?_
  refine z_icmp_ge (tgt := 27) hx hb (by decide) (by decide) dX9_thingsOfAllStores_6 (by decide) (fun cq1 => False.elim (by omega)) (fun cq1 => ?_)
  refine lv_iload_n hx hb dX9_thingsOfAllStores_9 rfl (lv_at hl 1 rfl) ?_
  refine lv_aload_n hx hb dX9_thingsOfAllStores_10 rfl (lv_at hl 2 rfl) ?_
  refine z_get hx hb hts hin9_ hown hK hP 0 rfl rfl 11 (by decide) (hts _ (List.mem_of_getElem? (i := 1) rfl)) rfl dX9_thingsOfAllStores_11 ?_
  refine lv_iload_n hx hb dX9_thingsOfAllStores_14 rfl (lv_at hl 0 rfl) ?_
  refine z_aald hx hb hK hP 1 4 rfl rfl 0 rfl (by decide) (by decide) s0 rfl dX9_thingsOfAllStores_15 ?_
  refine z_get hx hb hts hin6_ hown hK hP 2 rfl rfl 1 (by decide) (hts _ (List.mem_of_getElem? (i := 2) rfl)) rfl dX9_thingsOfAllStores_16 ?_
  refine z_iadd hx hb (((0 + nn0) : Nat) : Int) (by omega) dX9_thingsOfAllStores_19 ?_
  refine lv_istore_n (lv' := [(1, vI (((0 + nn0) : Nat) : Int)), (2, vI 0), (0, .ref q)]) hx hb dX9_thingsOfAllStores_20 rfl hl (by decide) rfl (fun ls hl => ?_)
  refine z_iinc hx hb 1 (lv' := [(2, vI 1), (1, vI (((0 + nn0) : Nat) : Int)), (0, .ref q)]) dX9_thingsOfAllStores_21 hl (k := 1) rfl (rfl) (by decide) rfl (fun ls hl => ?_)
  refine lv_goto (tgt := 4) hx hb dX9_thingsOfAllStores_24 (by decide) ?_
  refine lv_iload_n hx hb dX9_thingsOfAllStores_4 rfl (lv_at hl 0 rfl) ?_
  refine z_iconst hx hb dX9_thingsOfAllStores_5 rfl ?_
  refine z_icmp_ge (tgt := 27) hx hb (by decide) (by decide) dX9_thingsOfAllStores_6 (by decide) (fun cq2 => False.elim (by omega)) (fun cq2 => ?_)
  refine lv_iload_n hx hb dX9_thingsOfAllStores_9 rfl (lv_at hl 1 rfl) ?_
  refine lv_aload_n hx hb dX9_thingsOfAllStores_10 rfl (lv_at hl 2 rfl) ?_
  refine z_get hx hb hts hin9_ hown hK hP 0 rfl rfl 11 (by decide) (hts _ (List.mem_of_getElem? (i := 1) rfl)) rfl dX9_thingsOfAllStores_11 ?_
  refine lv_iload_n hx hb dX9_thingsOfAllStores_14 rfl (lv_at hl 0 rfl) ?_
  refine z_aald hx hb hK hP 1 4 rfl rfl 1 rfl (by decide) (by decide) s1 rfl dX9_thingsOfAllStores_15 ?_
  refine z_get hx hb hts hin6_ hown hK hP 6 rfl rfl 1 (by decide) (hts _ (List.mem_of_getElem? (i := 2) rfl)) rfl dX9_thingsOfAllStores_16 ?_
  refine z_iadd hx hb ((((0 + nn0) + nn1) : Nat) : Int) (by omega) dX9_thingsOfAllStores_19 ?_
  refine lv_istore_n (lv' := [(1, vI ((((0 + nn0) + nn1) : Nat) : Int)), (2, vI 1), (0, .ref q)]) hx hb dX9_thingsOfAllStores_20 rfl hl (by decide) rfl (fun ls hl => ?_)
  refine z_iinc hx hb 2 (lv' := [(2, vI 2), (1, vI ((((0 + nn0) + nn1) : Nat) : Int)), (0, .ref q)]) dX9_thingsOfAllStores_21 hl (k := 1) rfl (rfl) (by decide) rfl (fun ls hl => ?_)
  refine lv_goto (tgt := 4) hx hb dX9_thingsOfAllStores_24 (by decide) ?_
  refine lv_iload_n hx hb dX9_thingsOfAllStores_4 rfl (lv_at hl 0 rfl) ?_
  refine z_iconst hx hb dX9_thingsOfAllStores_5 rfl ?_
  refine z_icmp_ge (tgt := 27) hx hb (by decide) (by decide) dX9_thingsOfAllStores_6 (by decide) (fun cq3 => False.elim (by omega)) (fun cq3 => ?_)
  refine lv_iload_n hx hb dX9_thingsOfAllStores_9 rfl (lv_at hl 1 rfl) ?_
  refine lv_aload_n hx hb dX9_thingsOfAllStores_10 rfl (lv_at hl 2 rfl) ?_
  refine z_get hx hb hts hin9_ hown hK hP 0 rfl rfl 11 (by decide) (hts _ (List.mem_of_getElem? (i := 1) rfl)) rfl dX9_thingsOfAllStores_11 ?_
  refine lv_iload_n hx hb dX9_thingsOfAllStores_14 rfl (lv_at hl 0 rfl) ?_
  refine z_aald hx hb hK hP 1 4 rfl rfl 2 rfl (by decide) (by decide) s2 rfl dX9_thingsOfAllStores_15 ?_
  refine z_get hx hb hts hin6_ hown hK hP 10 rfl rfl 1 (by decide) (hts _ (List.mem_of_getElem? (i := 2) rfl)) rfl dX9_thingsOfAllStores_16 ?_
  refine z_iadd hx hb (((((0 + nn0) + nn1) + nn2) : Nat) : Int) (by omega) dX9_thingsOfAllStores_19 ?_
  refine lv_istore_n (lv' := [(1, vI (((((0 + nn0) + nn1) + nn2) : Nat) : Int)), (2, vI 2), (0, .ref q)]) hx hb dX9_thingsOfAllStores_20 rfl hl (by decide) rfl (fun ls hl => ?_)
  refine z_iinc hx hb 3 (lv' := [(2, vI 3), (1, vI (((((0 + nn0) + nn1) + nn2) : Nat) : Int)), (0, .ref q)]) dX9_thingsOfAllStores_21 hl (k := 1) rfl (rfl) (by decide) rfl (fun ls hl => ?_)
  refine lv_goto (tgt := 4) hx hb dX9_thingsOfAllStores_24 (by decide) ?_
  refine lv_iload_n hx hb dX9_thingsOfAllStores_4 rfl (lv_at hl 0 rfl) ?_
  refine z_iconst hx hb dX9_thingsOfAllStores_5 rfl ?_
  refine z_icmp_ge (tgt := 27) hx hb (by decide) (by decide) dX9_thingsOfAllStores_6 (by decide) (fun cq4 => ?_) (fun cq4 => False.elim (by omega))
  refine lv_iload_n hx hb dX9_thingsOfAllStores_27 rfl (lv_at hl 1 rfl) ?_
  have hP : zP g [[dsk q d], [((d 11), .inl (g.2 4, 3, .inr (.inr (.inr (.inr (rA [s0, s1, s2]))))))], [(s1, .inr (6, [vI tt1, vI ((nn1 : Nat) : Int), .ref (xs1 0), .ref (xs1 1), .ref (xs1 2)]))], [((xs1 0), .inl (g.2 0, 8, .inl (aI fa1)))], [((xs1 1), .inl (g.2 0, 8, .inl (aI fb1)))], [((xs1 2), .inl (g.2 2, 8, .inl (aI fp1)))], [(s2, .inr (6, [vI tt2, vI ((nn2 : Nat) : Int), .ref (xs2 0), .ref (xs2 1), .ref (xs2 2)]))], [((xs2 0), .inl (g.2 0, 8, .inl (aI fa2)))], [((xs2 1), .inl (g.2 0, 8, .inl (aI fb2)))], [((xs2 2), .inl (g.2 2, 8, .inl (aI fp2)))], [(s0, .inr (6, [vI tt0, vI ((nn0 : Nat) : Int), .ref (xs0 0), .ref (xs0 1), .ref (xs0 2)]))], [((xs0 0), .inl (g.2 0, 8, .inl (aI fa0)))], [((xs0 1), .inl (g.2 0, 8, .inl (aI fb0)))], [((xs0 2), .inl (g.2 2, 8, .inl (aI fp0)))]] s.heap := zP_sub hP [0, 1, 6, 7, 8, 9, 10, 11, 12, 13, 2, 3, 4, 5] rfl
  have hD : zD A [[dsk q d], [((d 11), .inl (g.2 4, 3, .inr (.inr (.inr (.inr (rA [s0, s1, s2]))))))], [(s1, .inr (6, [vI tt1, vI ((nn1 : Nat) : Int), .ref (xs1 0), .ref (xs1 1), .ref (xs1 2)]))], [((xs1 0), .inl (g.2 0, 8, .inl (aI fa1)))], [((xs1 1), .inl (g.2 0, 8, .inl (aI fb1)))], [((xs1 2), .inl (g.2 2, 8, .inl (aI fp1)))], [(s2, .inr (6, [vI tt2, vI ((nn2 : Nat) : Int), .ref (xs2 0), .ref (xs2 1), .ref (xs2 2)]))], [((xs2 0), .inl (g.2 0, 8, .inl (aI fa2)))], [((xs2 1), .inl (g.2 0, 8, .inl (aI fb2)))], [((xs2 2), .inl (g.2 2, 8, .inl (aI fp2)))], [(s0, .inr (6, [vI tt0, vI ((nn0 : Nat) : Int), .ref (xs0 0), .ref (xs0 1), .ref (xs0 2)]))], [((xs0 0), .inl (g.2 0, 8, .inl (aI fa0)))], [((xs0 1), .inl (g.2 0, 8, .inl (aI fb0)))], [((xs0 2), .inl (g.2 2, 8, .inl (aI fp0)))]] := zD_sub hD [0, 1, 6, 7, 8, 9, 10, 11, 12, 13, 2, 3, 4, 5] rfl rfl
  have hP : zP g [[dsk q d], [((d 11), .inl (g.2 4, 3, .inr (.inr (.inr (.inr (rA [s0, s1, s2]))))))], [(s1, .inr (6, [vI tt1, vI ((nn1 : Nat) : Int), .ref (xs1 0), .ref (xs1 1), .ref (xs1 2)]))], [((xs1 0), .inl (g.2 0, 8, .inl (aI fa1)))], [((xs1 1), .inl (g.2 0, 8, .inl (aI fb1)))], [((xs1 2), .inl (g.2 2, 8, .inl (aI fp1)))], [(s2, .inr (6, [vI tt2, vI ((nn2 : Nat) : Int), .ref (xs2 0), .ref (xs2 1), .ref (xs2 2)]))], [((xs2 0), .inl (g.2 0, 8, .inl (aI fa2)))], [((xs2 1), .inl (g.2 0, 8, .inl (aI fb2)))], [((xs2 2), .inl (g.2 2, 8, .inl (aI fp2)))], (storeW g s0 xs0 tt0 nn0 fa0 fb0 fp0)] s.heap := hP
  have hD : zD A [[dsk q d], [((d 11), .inl (g.2 4, 3, .inr (.inr (.inr (.inr (rA [s0, s1, s2]))))))], [(s1, .inr (6, [vI tt1, vI ((nn1 : Nat) : Int), .ref (xs1 0), .ref (xs1 1), .ref (xs1 2)]))], [((xs1 0), .inl (g.2 0, 8, .inl (aI fa1)))], [((xs1 1), .inl (g.2 0, 8, .inl (aI fb1)))], [((xs1 2), .inl (g.2 2, 8, .inl (aI fp1)))], [(s2, .inr (6, [vI tt2, vI ((nn2 : Nat) : Int), .ref (xs2 0), .ref (xs2 1), .ref (xs2 2)]))], [((xs2 0), .inl (g.2 0, 8, .inl (aI fa2)))], [((xs2 1), .inl (g.2 0, 8, .inl (aI fb2)))], [((xs2 2), .inl (g.2 2, 8, .inl (aI fp2)))], (storeW g s0 xs0 tt0 nn0 fa0 fb0 fp0)] := hD
  have hP : zP g [[dsk q d], [((d 11), .inl (g.2 4, 3, .inr (.inr (.inr (.inr (rA [s0, s1, s2]))))))], [(s2, .inr (6, [vI tt2, vI ((nn2 : Nat) : Int), .ref (xs2 0), .ref (xs2 1), .ref (xs2 2)]))], [((xs2 0), .inl (g.2 0, 8, .inl (aI fa2)))], [((xs2 1), .inl (g.2 0, 8, .inl (aI fb2)))], [((xs2 2), .inl (g.2 2, 8, .inl (aI fp2)))], [(s1, .inr (6, [vI tt1, vI ((nn1 : Nat) : Int), .ref (xs1 0), .ref (xs1 1), .ref (xs1 2)]))], [((xs1 0), .inl (g.2 0, 8, .inl (aI fa1)))], [((xs1 1), .inl (g.2 0, 8, .inl (aI fb1)))], [((xs1 2), .inl (g.2 2, 8, .inl (aI fp1)))], (storeW g s0 xs0 tt0 nn0 fa0 fb0 fp0)] s.heap := zP_sub hP [0, 1, 6, 7, 8, 9, 2, 3, 4, 5, 10] rfl
  have hD : zD A [[dsk q d], [((d 11), .inl (g.2 4, 3, .inr (.inr (.inr (.inr (rA [s0, s1, s2]))))))], [(s2, .inr (6, [vI tt2, vI ((nn2 : Nat) : Int), .ref (xs2 0), .ref (xs2 1), .ref (xs2 2)]))], [((xs2 0), .inl (g.2 0, 8, .inl (aI fa2)))], [((xs2 1), .inl (g.2 0, 8, .inl (aI fb2)))], [((xs2 2), .inl (g.2 2, 8, .inl (aI fp2)))], [(s1, .inr (6, [vI tt1, vI ((nn1 : Nat) : Int), .ref (xs1 0), .ref (xs1 1), .ref (xs1 2)]))], [((xs1 0), .inl (g.2 0, 8, .inl (aI fa1)))], [((xs1 1), .inl (g.2 0, 8, .inl (aI fb1)))], [((xs1 2), .inl (g.2 2, 8, .inl (aI fp1)))], (storeW g s0 xs0 tt0 nn0 fa0 fb0 fp0)] := zD_sub hD [0, 1, 6, 7, 8, 9, 2, 3, 4, 5, 10] rfl rfl
  have hP : zP g [[dsk q d], [((d 11), .inl (g.2 4, 3, .inr (.inr (.inr (.inr (rA [s0, s1, s2]))))))], [(s2, .inr (6, [vI tt2, vI ((nn2 : Nat) : Int), .ref (xs2 0), .ref (xs2 1), .ref (xs2 2)]))], [((xs2 0), .inl (g.2 0, 8, .inl (aI fa2)))], [((xs2 1), .inl (g.2 0, 8, .inl (aI fb2)))], [((xs2 2), .inl (g.2 2, 8, .inl (aI fp2)))], (storeW g s1 xs1 tt1 nn1 fa1 fb1 fp1), (storeW g s0 xs0 tt0 nn0 fa0 fb0 fp0)] s.heap := hP
  have hD : zD A [[dsk q d], [((d 11), .inl (g.2 4, 3, .inr (.inr (.inr (.inr (rA [s0, s1, s2]))))))], [(s2, .inr (6, [vI tt2, vI ((nn2 : Nat) : Int), .ref (xs2 0), .ref (xs2 1), .ref (xs2 2)]))], [((xs2 0), .inl (g.2 0, 8, .inl (aI fa2)))], [((xs2 1), .inl (g.2 0, 8, .inl (aI fb2)))], [((xs2 2), .inl (g.2 2, 8, .inl (aI fp2)))], (storeW g s1 xs1 tt1 nn1 fa1 fb1 fp1), (storeW g s0 xs0 tt0 nn0 fa0 fb0 fp0)] := hD
  have hP : zP g [[dsk q d], [((d 11), .inl (g.2 4, 3, .inr (.inr (.inr (.inr (rA [s0, s1, s2]))))))], (storeW g s2 xs2 tt2 nn2 fa2 fb2 fp2), (storeW g s1 xs1 tt1 nn1 fa1 fb1 fp1), (storeW g s0 xs0 tt0 nn0 fa0 fb0 fp0)] s.heap := hP
  have hD : zD A [[dsk q d], [((d 11), .inl (g.2 4, 3, .inr (.inr (.inr (.inr (rA [s0, s1, s2]))))))], (storeW g s2 xs2 tt2 nn2 fa2 fb2 fp2), (storeW g s1 xs1 tt1 nn1 fa1 fb1 fp1), (storeW g s0 xs0 tt0 nn0 fa0 fb0 fp0)] := hD
  exact z_reti () [0, 1, 4, 3, 2] hx hb hr rfl hlocks hK hP hD hS (by omega) trivial rfl rfl (rfl) (Nat.le_of_ble_eq_true rfl) (Nat.le_of_ble_eq_true rfl) dX9_thingsOfAllStores_28

set_option maxHeartbeats 4000000 in
set_option maxRecDepth 100000 in
theorem c_X9_count (l : Launch) (g : zG) (q : Nat) (d : Nat → Nat) (tx : Nat → Nat) (n : Nat) (c_ : Nat) (k : Nat) (s_ : Nat) (e_ : Nat) (f : Nat → Int) (m_ : Nat → Int) (gx : Nat → Nat) (v : Int) (b : Nat) (h : Nat → Int) (o : Nat → Int) (l_ : Nat → Int) (e5 : Nat) (y : Nat → Nat) (X : Nat → Nat → Nat) (T : Nat → Nat → FO) (sz : Nat) (nx : Nat) (s0 : Nat) (xs0 : Nat → Nat) (tt0 : Int) (nn0 : Nat) (fa0 : Nat → Int) (fb0 : Nat → Int) (fp0 : Nat → Int) (s1 : Nat) (xs1 : Nat → Nat) (tt1 : Int) (nn1 : Nat) (fa1 : Nat → Int) (fb1 : Nat → Int) (fp1 : Nat → Int) (s2 : Nat) (xs2 : Nat → Nat) (tt2 : Int) (nn2 : Nat) (fa2 : Nat → Int) (fb2 : Nat → Int) (fp2 : Nat → Int) (w : Int) (hs0 : sok tt0 nn0 fp0) (hs1 : sok tt1 nn1 fp1) (hs2 : sok tt2 nn2 fp2) (hw : -2147483648 ≤ w ∧ w < 2147483648) : zMet l g yX9_count wsX9_count 1 0 0 [.ref q, vI w] zX0 [[dsk q d], (textW g (d 0) tx n c_ k s_ e_ f m_), (netW g (d 1) gx v b h o l_), (noteW g (d 5) e5 y X T sz nx), [((d 11), .inl (g.2 4, 3, .inr (.inr (.inr (.inr (rA [s0, s1, s2]))))))], (storeW g s0 xs0 tt0 nn0 fa0 fb0 fp0), (storeW g s1 xs1 tt1 nn1 fa1 fb1 fp1), (storeW g s2 xs2 tt2 nn2 fa2 fb2 fp2)] (qi g (fun (_ : Unit) => (aCnt v b nn0 nn1 nn2 sz n w)) (fun (_ : Unit) => True) (fun (_ : Unit) => [[dsk q d], (textW g (d 0) tx n c_ k s_ e_ f m_), (netW g (d 1) gx v b h o l_), (noteW g (d 5) e5 y X T sz nx), [((d 11), .inl (g.2 4, 3, .inr (.inr (.inr (.inr (rA [s0, s1, s2]))))))], (storeW g s0 xs0 tt0 nn0 fa0 fb0 fp0), (storeW g s1 xs1 tt1 nn1 fa1 fb1 fp1), (storeW g s2 xs2 tt2 nn2 fa2 fb2 fp2)])) := by
  refine z_ent (cc := cX9_count) (maxL := 2) (ret := (some .int)) (by decide) rfl (Nat.le_of_ble_eq_true rfl) ?_
  intro p e s m below meth c A ls hx hb hr hml hown hts hlocks hin0 hA hK hP hD hS hXX hl
  have hown : s.vm.findClass RX9 = some m.cls := hown
  have hin2_ : ∀ w ∈ wsX20, w ∈ wsX9_count := zw_in [28, 29, 30, 31, 32] rfl
  have hin3_ : ∀ w ∈ wsX30, w ∈ wsX9_count := zw_in [33, 34, 35] rfl
  have hin7_ : ∀ w ∈ wsX70, w ∈ wsX9_count := zw_in [36, 37, 38, 39, 40, 41, 42] rfl
  have hin9_ : ∀ w ∈ wsX90, w ∈ wsX9_count := zw_in [16, 17, 18, 19, 20, 21, 22, 23, 24, 25, 26, 27] rfl
  have hl : lv_has ls 2 [(0, .ref q), (1, vI w)] := hl
  refine lv_iload_n hx hb dX9_count_0 rfl (lv_at hl 1 rfl) ?_
  rcases (show w = 0 ∨ w = 1 ∨ w = 2 ∨ w = 3 ∨ w = 4 ∨ (w < 0 ∨ 4 < w) by omega) with hc_1 | hc_1 | hc_1 | hc_1 | hc_1 | hc_1
  · refine z_swIn hx hb 0 36 hc_1 (by decide) dX9_count_1 (by decide) (by decide) rfl (by decide) ?_
    subst hc_1
    refine lv_aload_n hx hb dX9_count_36 rfl (lv_at hl 0 rfl) ?_
    refine z_get hx hb hts hin9_ hown hK hP 0 rfl rfl 1 (by decide) (hts _ (List.mem_of_getElem? (i := 1) rfl)) rfl dX9_count_37 ?_
    have hP : zP g [[dsk q d], [((d 11), .inl (g.2 4, 3, .inr (.inr (.inr (.inr (rA [s0, s1, s2]))))))], (netW g (d 1) gx v b h o l_), (textW g (d 0) tx n c_ k s_ e_ f m_), (noteW g (d 5) e5 y X T sz nx), (storeW g s0 xs0 tt0 nn0 fa0 fb0 fp0), (storeW g s1 xs1 tt1 nn1 fa1 fb1 fp1), (storeW g s2 xs2 tt2 nn2 fa2 fb2 fp2)] s.heap := zP_sub hP [0, 4, 2, 1, 3, 5, 6, 7] rfl
    have hD : zD A [[dsk q d], [((d 11), .inl (g.2 4, 3, .inr (.inr (.inr (.inr (rA [s0, s1, s2]))))))], (netW g (d 1) gx v b h o l_), (textW g (d 0) tx n c_ k s_ e_ f m_), (noteW g (d 5) e5 y X T sz nx), (storeW g s0 xs0 tt0 nn0 fa0 fb0 fp0), (storeW g s1 xs1 tt1 nn1 fa1 fb1 fp1), (storeW g s2 xs2 tt2 nn2 fa2 fb2 fp2)] := zD_sub hD [0, 4, 2, 1, 3, 5, 6, 7] rfl rfl
    have hP : zP g [[dsk q d], [((d 11), .inl (g.2 4, 3, .inr (.inr (.inr (.inr (rA [s0, s1, s2]))))))], [((d 1), .inr (2, [vI v, vI ((b : Nat) : Int), .ref (gx 0), .ref (gx 1), .ref (gx 2)]))], [((gx 0), .inl (g.2 0, 6, .inl (aI h)))], [((gx 1), .inl (g.2 0, 18, .inl (aI o)))], [((gx 2), .inl (g.2 0, 6, .inl (aI l_)))], (textW g (d 0) tx n c_ k s_ e_ f m_), (noteW g (d 5) e5 y X T sz nx), (storeW g s0 xs0 tt0 nn0 fa0 fb0 fp0), (storeW g s1 xs1 tt1 nn1 fa1 fb1 fp1), (storeW g s2 xs2 tt2 nn2 fa2 fb2 fp2)] s.heap := hP
    have hD : zD A [[dsk q d], [((d 11), .inl (g.2 4, 3, .inr (.inr (.inr (.inr (rA [s0, s1, s2]))))))], [((d 1), .inr (2, [vI v, vI ((b : Nat) : Int), .ref (gx 0), .ref (gx 1), .ref (gx 2)]))], [((gx 0), .inl (g.2 0, 6, .inl (aI h)))], [((gx 1), .inl (g.2 0, 18, .inl (aI o)))], [((gx 2), .inl (g.2 0, 6, .inl (aI l_)))], (textW g (d 0) tx n c_ k s_ e_ f m_), (noteW g (d 5) e5 y X T sz nx), (storeW g s0 xs0 tt0 nn0 fa0 fb0 fp0), (storeW g s1 xs1 tt1 nn1 fa1 fb1 fp1), (storeW g s2 xs2 tt2 nn2 fa2 fb2 fp2)] := hD
    refine z_get hx hb hts hin2_ hown hK hP 2 rfl rfl 1 (by decide) (hts _ (List.mem_of_getElem? (i := 2) rfl)) rfl dX9_count_40 ?_
    have hP : zP g [[dsk q d], [((d 11), .inl (g.2 4, 3, .inr (.inr (.inr (.inr (rA [s0, s1, s2]))))))], (netW g (d 1) gx v b h o l_), (textW g (d 0) tx n c_ k s_ e_ f m_), (noteW g (d 5) e5 y X T sz nx), (storeW g s0 xs0 tt0 nn0 fa0 fb0 fp0), (storeW g s1 xs1 tt1 nn1 fa1 fb1 fp1), (storeW g s2 xs2 tt2 nn2 fa2 fb2 fp2)] s.heap := hP
    have hD : zD A [[dsk q d], [((d 11), .inl (g.2 4, 3, .inr (.inr (.inr (.inr (rA [s0, s1, s2]))))))], (netW g (d 1) gx v b h o l_), (textW g (d 0) tx n c_ k s_ e_ f m_), (noteW g (d 5) e5 y X T sz nx), (storeW g s0 xs0 tt0 nn0 fa0 fb0 fp0), (storeW g s1 xs1 tt1 nn1 fa1 fb1 fp1), (storeW g s2 xs2 tt2 nn2 fa2 fb2 fp2)] := hD
    exact z_reti () [0, 3, 2, 4, 1, 5, 6, 7] hx hb hr rfl hlocks hK hP hD hS (rfl) trivial rfl rfl (rfl) (Nat.le_of_ble_eq_true rfl) (Nat.le_of_ble_eq_true rfl) dX9_count_43
  · refine z_swIn hx hb 1 44 hc_1 (by decide) dX9_count_1 (by decide) (by decide) rfl (by decide) ?_
    subst hc_1
    refine lv_aload_n hx hb dX9_count_44 rfl (lv_at hl 0 rfl) ?_
    refine z_get hx hb hts hin9_ hown hK hP 0 rfl rfl 1 (by decide) (hts _ (List.mem_of_getElem? (i := 1) rfl)) rfl dX9_count_45 ?_
    have hP : zP g [[dsk q d], [((d 11), .inl (g.2 4, 3, .inr (.inr (.inr (.inr (rA [s0, s1, s2]))))))], (netW g (d 1) gx v b h o l_), (textW g (d 0) tx n c_ k s_ e_ f m_), (noteW g (d 5) e5 y X T sz nx), (storeW g s0 xs0 tt0 nn0 fa0 fb0 fp0), (storeW g s1 xs1 tt1 nn1 fa1 fb1 fp1), (storeW g s2 xs2 tt2 nn2 fa2 fb2 fp2)] s.heap := zP_sub hP [0, 4, 2, 1, 3, 5, 6, 7] rfl
    have hD : zD A [[dsk q d], [((d 11), .inl (g.2 4, 3, .inr (.inr (.inr (.inr (rA [s0, s1, s2]))))))], (netW g (d 1) gx v b h o l_), (textW g (d 0) tx n c_ k s_ e_ f m_), (noteW g (d 5) e5 y X T sz nx), (storeW g s0 xs0 tt0 nn0 fa0 fb0 fp0), (storeW g s1 xs1 tt1 nn1 fa1 fb1 fp1), (storeW g s2 xs2 tt2 nn2 fa2 fb2 fp2)] := zD_sub hD [0, 4, 2, 1, 3, 5, 6, 7] rfl rfl
    have hP : zP g [[dsk q d], [((d 11), .inl (g.2 4, 3, .inr (.inr (.inr (.inr (rA [s0, s1, s2]))))))], [((d 1), .inr (2, [vI v, vI ((b : Nat) : Int), .ref (gx 0), .ref (gx 1), .ref (gx 2)]))], [((gx 0), .inl (g.2 0, 6, .inl (aI h)))], [((gx 1), .inl (g.2 0, 18, .inl (aI o)))], [((gx 2), .inl (g.2 0, 6, .inl (aI l_)))], (textW g (d 0) tx n c_ k s_ e_ f m_), (noteW g (d 5) e5 y X T sz nx), (storeW g s0 xs0 tt0 nn0 fa0 fb0 fp0), (storeW g s1 xs1 tt1 nn1 fa1 fb1 fp1), (storeW g s2 xs2 tt2 nn2 fa2 fb2 fp2)] s.heap := hP
    have hD : zD A [[dsk q d], [((d 11), .inl (g.2 4, 3, .inr (.inr (.inr (.inr (rA [s0, s1, s2]))))))], [((d 1), .inr (2, [vI v, vI ((b : Nat) : Int), .ref (gx 0), .ref (gx 1), .ref (gx 2)]))], [((gx 0), .inl (g.2 0, 6, .inl (aI h)))], [((gx 1), .inl (g.2 0, 18, .inl (aI o)))], [((gx 2), .inl (g.2 0, 6, .inl (aI l_)))], (textW g (d 0) tx n c_ k s_ e_ f m_), (noteW g (d 5) e5 y X T sz nx), (storeW g s0 xs0 tt0 nn0 fa0 fb0 fp0), (storeW g s1 xs1 tt1 nn1 fa1 fb1 fp1), (storeW g s2 xs2 tt2 nn2 fa2 fb2 fp2)] := hD
    refine z_get hx hb hts hin2_ hown hK hP 2 rfl rfl 0 (by decide) (hts _ (List.mem_of_getElem? (i := 3) rfl)) rfl dX9_count_48 ?_
    have hP : zP g [[dsk q d], [((d 11), .inl (g.2 4, 3, .inr (.inr (.inr (.inr (rA [s0, s1, s2]))))))], (netW g (d 1) gx v b h o l_), (textW g (d 0) tx n c_ k s_ e_ f m_), (noteW g (d 5) e5 y X T sz nx), (storeW g s0 xs0 tt0 nn0 fa0 fb0 fp0), (storeW g s1 xs1 tt1 nn1 fa1 fb1 fp1), (storeW g s2 xs2 tt2 nn2 fa2 fb2 fp2)] s.heap := hP
    have hD : zD A [[dsk q d], [((d 11), .inl (g.2 4, 3, .inr (.inr (.inr (.inr (rA [s0, s1, s2]))))))], (netW g (d 1) gx v b h o l_), (textW g (d 0) tx n c_ k s_ e_ f m_), (noteW g (d 5) e5 y X T sz nx), (storeW g s0 xs0 tt0 nn0 fa0 fb0 fp0), (storeW g s1 xs1 tt1 nn1 fa1 fb1 fp1), (storeW g s2 xs2 tt2 nn2 fa2 fb2 fp2)] := hD
    exact z_reti () [0, 3, 2, 4, 1, 5, 6, 7] hx hb hr rfl hlocks hK hP hD hS (rfl) trivial rfl rfl (rfl) (Nat.le_of_ble_eq_true rfl) (Nat.le_of_ble_eq_true rfl) dX9_count_51
  · refine z_swIn hx hb 2 52 hc_1 (by decide) dX9_count_1 (by decide) (by decide) rfl (by decide) ?_
    subst hc_1
    refine lv_aload_n hx hb dX9_count_52 rfl (lv_at hl 0 rfl) ?_
    refine z_cVi (As := []) (rest := []) ⟨hx, hb, hml, hown, hts⟩ hK hP hD hS hA [0, 4, 5, 6, 7] [1, 2, 3] rfl rfl rfl (c_X9_thingsOfAllStores l g q d s0 xs0 tt0 nn0 fa0 fb0 fp0 s1 xs1 tt1 nn1 fa1 fb1 fp1 s2 xs2 tt2 nn2 fa2 fb2 fp2 (by first | assumption | omega | decide) (by first | assumption | omega | decide) (by first | assumption | omega | decide)) (cwV 0 hts gX9_count_X9_thingsOfAllStores rfl rfl rfl (by decide +kernel) ⟨Nat.le_of_ble_eq_true rfl, Nat.le_of_ble_eq_true rfl⟩) 9 0 rfl rfl rfl (fun _ _ _ _ _ _ => trivial) (fun _ _ _ => trivial) rfl hl.1 (Nat.le_of_ble_eq_true rfl) rfl dX9_count_53 ⟨Nat.le_of_ble_eq_true rfl, Nat.le_of_ble_eq_true rfl⟩ (fun u_2 H locs hwu_2 hP hD hS => ?_)
    try dsimp only at hwu_2
    have hP : zP g [(textW g (d 0) tx n c_ k s_ e_ f m_), (netW g (d 1) gx v b h o l_), (noteW g (d 5) e5 y X T sz nx), [dsk q d], [((d 11), .inl (g.2 4, 3, .inr (.inr (.inr (.inr (rA [s0, s1, s2]))))))], (storeW g s0 xs0 tt0 nn0 fa0 fb0 fp0), (storeW g s1 xs1 tt1 nn1 fa1 fb1 fp1), (storeW g s2 xs2 tt2 nn2 fa2 fb2 fp2)] H := hP
    have hD : zD A [(textW g (d 0) tx n c_ k s_ e_ f m_), (netW g (d 1) gx v b h o l_), (noteW g (d 5) e5 y X T sz nx), [dsk q d], [((d 11), .inl (g.2 4, 3, .inr (.inr (.inr (.inr (rA [s0, s1, s2]))))))], (storeW g s0 xs0 tt0 nn0 fa0 fb0 fp0), (storeW g s1 xs1 tt1 nn1 fa1 fb1 fp1), (storeW g s2 xs2 tt2 nn2 fa2 fb2 fp2)] := hD
    have hP : zP g [[dsk q d], [((d 11), .inl (g.2 4, 3, .inr (.inr (.inr (.inr (rA [s0, s1, s2]))))))], (textW g (d 0) tx n c_ k s_ e_ f m_), (netW g (d 1) gx v b h o l_), (noteW g (d 5) e5 y X T sz nx), (storeW g s0 xs0 tt0 nn0 fa0 fb0 fp0), (storeW g s1 xs1 tt1 nn1 fa1 fb1 fp1), (storeW g s2 xs2 tt2 nn2 fa2 fb2 fp2)] H := zP_sub hP [3, 4, 0, 1, 2, 5, 6, 7] rfl
    have hD : zD A [[dsk q d], [((d 11), .inl (g.2 4, 3, .inr (.inr (.inr (.inr (rA [s0, s1, s2]))))))], (textW g (d 0) tx n c_ k s_ e_ f m_), (netW g (d 1) gx v b h o l_), (noteW g (d 5) e5 y X T sz nx), (storeW g s0 xs0 tt0 nn0 fa0 fb0 fp0), (storeW g s1 xs1 tt1 nn1 fa1 fb1 fp1), (storeW g s2 xs2 tt2 nn2 fa2 fb2 fp2)] := zD_sub hD [3, 4, 0, 1, 2, 5, 6, 7] rfl rfl
    refine z_toI ((nn0 : Int) + (nn1 : Int) + (nn2 : Int)) rfl ?_
    exact z_reti () [0, 2, 3, 4, 1, 5, 6, 7] hx hb hr rfl hlocks hK hP hD hS (rfl) trivial rfl rfl (rfl) (Nat.le_of_ble_eq_true rfl) (Nat.le_of_ble_eq_true rfl) dX9_count_56
  · refine z_swIn hx hb 3 57 hc_1 (by decide) dX9_count_1 (by decide) (by decide) rfl (by decide) ?_
    subst hc_1
    refine lv_aload_n hx hb dX9_count_57 rfl (lv_at hl 0 rfl) ?_
    refine z_get hx hb hts hin9_ hown hK hP 0 rfl rfl 5 (by decide) (hts _ (List.mem_of_getElem? (i := 4) rfl)) rfl dX9_count_58 ?_
    have hP : zP g [[dsk q d], [((d 11), .inl (g.2 4, 3, .inr (.inr (.inr (.inr (rA [s0, s1, s2]))))))], (noteW g (d 5) e5 y X T sz nx), (textW g (d 0) tx n c_ k s_ e_ f m_), (netW g (d 1) gx v b h o l_), (storeW g s0 xs0 tt0 nn0 fa0 fb0 fp0), (storeW g s1 xs1 tt1 nn1 fa1 fb1 fp1), (storeW g s2 xs2 tt2 nn2 fa2 fb2 fp2)] s.heap := zP_sub hP [0, 4, 3, 1, 2, 5, 6, 7] rfl
    have hD : zD A [[dsk q d], [((d 11), .inl (g.2 4, 3, .inr (.inr (.inr (.inr (rA [s0, s1, s2]))))))], (noteW g (d 5) e5 y X T sz nx), (textW g (d 0) tx n c_ k s_ e_ f m_), (netW g (d 1) gx v b h o l_), (storeW g s0 xs0 tt0 nn0 fa0 fb0 fp0), (storeW g s1 xs1 tt1 nn1 fa1 fb1 fp1), (storeW g s2 xs2 tt2 nn2 fa2 fb2 fp2)] := zD_sub hD [0, 4, 3, 1, 2, 5, 6, 7] rfl rfl
    have hP : zP g [[dsk q d], [((d 11), .inl (g.2 4, 3, .inr (.inr (.inr (.inr (rA [s0, s1, s2]))))))], [((d 5), .inr (3, [.ref e5, vI ((sz : Nat) : Int), vI ((nx : Nat) : Int)]))], [(e5, .inl (g.2 5, 8, .inr (.inr (.inr (.inr (rA [(y 0), (y 1), (y 2), (y 3), (y 4), (y 5), (y 6), (y 7)]))))))], (threeW g (y 0) (X 0) (T 0)), (threeW g (y 1) (X 1) (T 1)), (threeW g (y 2) (X 2) (T 2)), (threeW g (y 3) (X 3) (T 3)), (threeW g (y 4) (X 4) (T 4)), (threeW g (y 5) (X 5) (T 5)), (threeW g (y 6) (X 6) (T 6)), (threeW g (y 7) (X 7) (T 7)), (textW g (d 0) tx n c_ k s_ e_ f m_), (netW g (d 1) gx v b h o l_), (storeW g s0 xs0 tt0 nn0 fa0 fb0 fp0), (storeW g s1 xs1 tt1 nn1 fa1 fb1 fp1), (storeW g s2 xs2 tt2 nn2 fa2 fb2 fp2)] s.heap := hP
    have hD : zD A [[dsk q d], [((d 11), .inl (g.2 4, 3, .inr (.inr (.inr (.inr (rA [s0, s1, s2]))))))], [((d 5), .inr (3, [.ref e5, vI ((sz : Nat) : Int), vI ((nx : Nat) : Int)]))], [(e5, .inl (g.2 5, 8, .inr (.inr (.inr (.inr (rA [(y 0), (y 1), (y 2), (y 3), (y 4), (y 5), (y 6), (y 7)]))))))], (threeW g (y 0) (X 0) (T 0)), (threeW g (y 1) (X 1) (T 1)), (threeW g (y 2) (X 2) (T 2)), (threeW g (y 3) (X 3) (T 3)), (threeW g (y 4) (X 4) (T 4)), (threeW g (y 5) (X 5) (T 5)), (threeW g (y 6) (X 6) (T 6)), (threeW g (y 7) (X 7) (T 7)), (textW g (d 0) tx n c_ k s_ e_ f m_), (netW g (d 1) gx v b h o l_), (storeW g s0 xs0 tt0 nn0 fa0 fb0 fp0), (storeW g s1 xs1 tt1 nn1 fa1 fb1 fp1), (storeW g s2 xs2 tt2 nn2 fa2 fb2 fp2)] := hD
    refine z_get hx hb hts hin3_ hown hK hP 2 rfl rfl 1 (by decide) (hts _ (List.mem_of_getElem? (i := 5) rfl)) rfl dX9_count_61 ?_
    have hP : zP g [[dsk q d], [((d 11), .inl (g.2 4, 3, .inr (.inr (.inr (.inr (rA [s0, s1, s2]))))))], (noteW g (d 5) e5 y X T sz nx), (textW g (d 0) tx n c_ k s_ e_ f m_), (netW g (d 1) gx v b h o l_), (storeW g s0 xs0 tt0 nn0 fa0 fb0 fp0), (storeW g s1 xs1 tt1 nn1 fa1 fb1 fp1), (storeW g s2 xs2 tt2 nn2 fa2 fb2 fp2)] s.heap := hP
    have hD : zD A [[dsk q d], [((d 11), .inl (g.2 4, 3, .inr (.inr (.inr (.inr (rA [s0, s1, s2]))))))], (noteW g (d 5) e5 y X T sz nx), (textW g (d 0) tx n c_ k s_ e_ f m_), (netW g (d 1) gx v b h o l_), (storeW g s0 xs0 tt0 nn0 fa0 fb0 fp0), (storeW g s1 xs1 tt1 nn1 fa1 fb1 fp1), (storeW g s2 xs2 tt2 nn2 fa2 fb2 fp2)] := hD
    exact z_reti () [0, 3, 4, 2, 1, 5, 6, 7] hx hb hr rfl hlocks hK hP hD hS (rfl) trivial rfl rfl (rfl) (Nat.le_of_ble_eq_true rfl) (Nat.le_of_ble_eq_true rfl) dX9_count_64
  · refine z_swIn hx hb 4 65 hc_1 (by decide) dX9_count_1 (by decide) (by decide) rfl (by decide) ?_
    subst hc_1
    refine lv_aload_n hx hb dX9_count_65 rfl (lv_at hl 0 rfl) ?_
    refine z_get hx hb hts hin9_ hown hK hP 0 rfl rfl 0 (by decide) (hts _ (List.mem_of_getElem? (i := 6) rfl)) rfl dX9_count_66 ?_
    have hP : zP g [[dsk q d], [((d 11), .inl (g.2 4, 3, .inr (.inr (.inr (.inr (rA [s0, s1, s2]))))))], (textW g (d 0) tx n c_ k s_ e_ f m_), (netW g (d 1) gx v b h o l_), (noteW g (d 5) e5 y X T sz nx), (storeW g s0 xs0 tt0 nn0 fa0 fb0 fp0), (storeW g s1 xs1 tt1 nn1 fa1 fb1 fp1), (storeW g s2 xs2 tt2 nn2 fa2 fb2 fp2)] s.heap := zP_sub hP [0, 4, 1, 2, 3, 5, 6, 7] rfl
    have hD : zD A [[dsk q d], [((d 11), .inl (g.2 4, 3, .inr (.inr (.inr (.inr (rA [s0, s1, s2]))))))], (textW g (d 0) tx n c_ k s_ e_ f m_), (netW g (d 1) gx v b h o l_), (noteW g (d 5) e5 y X T sz nx), (storeW g s0 xs0 tt0 nn0 fa0 fb0 fp0), (storeW g s1 xs1 tt1 nn1 fa1 fb1 fp1), (storeW g s2 xs2 tt2 nn2 fa2 fb2 fp2)] := zD_sub hD [0, 4, 1, 2, 3, 5, 6, 7] rfl rfl
    have hP : zP g [[dsk q d], [((d 11), .inl (g.2 4, 3, .inr (.inr (.inr (.inr (rA [s0, s1, s2]))))))], [((d 0), .inr (7, [.ref (tx 0), vI ((n : Nat) : Int), vI ((c_ : Nat) : Int), vI ((k : Nat) : Int), vI ((s_ : Nat) : Int), vI ((e_ : Nat) : Int), .ref (tx 1)]))], [((tx 0), .inl (g.2 0, 200, .inl (aI f)))], [((tx 1), .inl (g.2 0, 4, .inl (aI m_)))], (netW g (d 1) gx v b h o l_), (noteW g (d 5) e5 y X T sz nx), (storeW g s0 xs0 tt0 nn0 fa0 fb0 fp0), (storeW g s1 xs1 tt1 nn1 fa1 fb1 fp1), (storeW g s2 xs2 tt2 nn2 fa2 fb2 fp2)] s.heap := hP
    have hD : zD A [[dsk q d], [((d 11), .inl (g.2 4, 3, .inr (.inr (.inr (.inr (rA [s0, s1, s2]))))))], [((d 0), .inr (7, [.ref (tx 0), vI ((n : Nat) : Int), vI ((c_ : Nat) : Int), vI ((k : Nat) : Int), vI ((s_ : Nat) : Int), vI ((e_ : Nat) : Int), .ref (tx 1)]))], [((tx 0), .inl (g.2 0, 200, .inl (aI f)))], [((tx 1), .inl (g.2 0, 4, .inl (aI m_)))], (netW g (d 1) gx v b h o l_), (noteW g (d 5) e5 y X T sz nx), (storeW g s0 xs0 tt0 nn0 fa0 fb0 fp0), (storeW g s1 xs1 tt1 nn1 fa1 fb1 fp1), (storeW g s2 xs2 tt2 nn2 fa2 fb2 fp2)] := hD
    refine z_get hx hb hts hin7_ hown hK hP 2 rfl rfl 1 (by decide) (hts _ (List.mem_of_getElem? (i := 7) rfl)) rfl dX9_count_69 ?_
    have hP : zP g [[dsk q d], [((d 11), .inl (g.2 4, 3, .inr (.inr (.inr (.inr (rA [s0, s1, s2]))))))], (textW g (d 0) tx n c_ k s_ e_ f m_), (netW g (d 1) gx v b h o l_), (noteW g (d 5) e5 y X T sz nx), (storeW g s0 xs0 tt0 nn0 fa0 fb0 fp0), (storeW g s1 xs1 tt1 nn1 fa1 fb1 fp1), (storeW g s2 xs2 tt2 nn2 fa2 fb2 fp2)] s.heap := hP
    have hD : zD A [[dsk q d], [((d 11), .inl (g.2 4, 3, .inr (.inr (.inr (.inr (rA [s0, s1, s2]))))))], (textW g (d 0) tx n c_ k s_ e_ f m_), (netW g (d 1) gx v b h o l_), (noteW g (d 5) e5 y X T sz nx), (storeW g s0 xs0 tt0 nn0 fa0 fb0 fp0), (storeW g s1 xs1 tt1 nn1 fa1 fb1 fp1), (storeW g s2 xs2 tt2 nn2 fa2 fb2 fp2)] := hD
    exact z_reti () [0, 2, 3, 4, 1, 5, 6, 7] hx hb hr rfl hlocks hK hP hD hS (rfl) trivial rfl rfl (rfl) (Nat.le_of_ble_eq_true rfl) (Nat.le_of_ble_eq_true rfl) dX9_count_72
  · refine z_swOut hx hb 73 (by omega) dX9_count_1 hc_1 (by decide) ?_
    refine z_ldc hx hb (-2000000002) hown (hts _ (List.mem_of_getElem? (i := 8) rfl)) rfl dX9_count_73 ?_
    exact z_reti () [0, 1, 2, 3, 4, 5, 6, 7] hx hb hr rfl hlocks hK hP hD hS (by unfold aCnt; rw [if_neg (by omega), if_neg (by omega), if_neg (by omega), if_neg (by omega), if_neg (by omega)]) trivial rfl rfl (rfl) (Nat.le_of_ble_eq_true rfl) (Nat.le_of_ble_eq_true rfl) dX9_count_75

set_option maxHeartbeats 4000000 in
set_option maxRecDepth 100000 in
theorem c_X9_startAnew (l : Launch) (g : zG) (q : Nat) (d : Nat → Nat) (px : Nat → Nat) (t : Nat → FO) (e5 : Nat) (y : Nat → Nat) (X : Nat → Nat → Nat) (T : Nat → Nat → FO) (sz : Nat) (nx : Nat) (fk : Nat → Int) (s0 : Nat) (xs0 : Nat → Nat) (tt0 : Int) (nn0 : Nat) (fa0 : Nat → Int) (fb0 : Nat → Int) (fp0 : Nat → Int) (s1 : Nat) (xs1 : Nat → Nat) (tt1 : Int) (nn1 : Nat) (fa1 : Nat → Int) (fb1 : Nat → Int) (fp1 : Nat → Int) (s2 : Nat) (xs2 : Nat → Nat) (tt2 : Int) (nn2 : Nat) (fa2 : Nat → Int) (fb2 : Nat → Int) (fp2 : Nat → Int) (hs0 : sok tt0 nn0 fp0) (hs1 : sok tt1 nn1 fp1) (hs2 : sok tt2 nn2 fp2) : zMet l g yX9_startAnew wsX9_startAnew 4 0 0 [.ref q] zX0 [[dsk q d], (threeW g (d 3) px t), (noteW g (d 5) e5 y X T sz nx), [((d 7), .inl (g.2 2, 2, .inl (aI fk)))], [((d 11), .inl (g.2 4, 3, .inr (.inr (.inr (.inr (rA [s0, s1, s2]))))))], (storeW g s0 xs0 tt0 nn0 fa0 fb0 fp0), (storeW g s1 xs1 tt1 nn1 fa1 fb1 fp1), (storeW g s2 xs2 tt2 nn2 fa2 fb2 fp2)] (qv g (fun (_ : Unit) => True) (fun (_ : Unit) => [[dsk q d], (threeW g (d 3) px zT0), (noteW g (d 5) e5 y X T 0 nx), [((d 7), .inl (g.2 2, 2, .inl (aI (uI (uI fk 0 0) 1 0))))], [((d 11), .inl (g.2 4, 3, .inr (.inr (.inr (.inr (rA [s0, s1, s2]))))))], (storeW g s0 xs0 0 0 fa0 fb0 fp0), (storeW g s1 xs1 0 0 fa1 fb1 fp1), (storeW g s2 xs2 0 0 fa2 fb2 fp2)])) := by
  refine z_ent (cc := cX9_startAnew) (maxL := 2) (ret := none) (by decide) rfl (Nat.le_of_ble_eq_true rfl) ?_
  intro p e s m below meth c A ls hx hb hr hml hown hts hlocks hin0 hA hK hP hD hS hXX hl
  have hown : s.vm.findClass RX9 = some m.cls := hown
  have hin3_ : ∀ w ∈ wsX30, w ∈ wsX9_startAnew := zw_in [55, 56, 57] rfl
  have hin9_ : ∀ w ∈ wsX90, w ∈ wsX9_startAnew := zw_in [43, 44, 45, 46, 47, 48, 49, 50, 51, 52, 53, 54] rfl
  have hl : lv_has ls 2 [(0, .ref q)] := hl
  refine lv_aload_n hx hb dX9_startAnew_0 rfl (lv_at hl 0 rfl) ?_
  refine z_get hx hb hts hin9_ hown hK hP 0 rfl rfl 3 (by decide) (hts _ (List.mem_of_getElem? (i := 1) rfl)) rfl dX9_startAnew_1 ?_
  refine z_cVv (As := []) (rest := []) ⟨hx, hb, hml, hown, hts⟩ hK hP hD hS hA [1] [0, 2, 3, 4, 5, 6, 7] rfl rfl rfl (c_X8_clear l g (d 3) px t ) (cwV 0 hts gX9_startAnew_X8_clear rfl rfl rfl (by decide +kernel) ⟨Nat.le_of_ble_eq_true rfl, Nat.le_of_ble_eq_true rfl⟩) 8 0 rfl rfl rfl (fun _ _ _ _ _ _ => trivial) (fun _ _ _ => trivial) rfl hl.1 (Nat.le_of_ble_eq_true rfl) rfl dX9_startAnew_4 ⟨Nat.le_of_ble_eq_true rfl, Nat.le_of_ble_eq_true rfl⟩ (fun u_1 H locs hwu_1 hP hD hS => ?_)
  try dsimp only at hwu_1
  have hP : zP g [[dsk q d], (noteW g (d 5) e5 y X T sz nx), [((d 7), .inl (g.2 2, 2, .inl (aI fk)))], [((d 11), .inl (g.2 4, 3, .inr (.inr (.inr (.inr (rA [s0, s1, s2]))))))], (storeW g s0 xs0 tt0 nn0 fa0 fb0 fp0), (storeW g s1 xs1 tt1 nn1 fa1 fb1 fp1), (storeW g s2 xs2 tt2 nn2 fa2 fb2 fp2), (threeW g (d 3) px (lF [some (0, 1), some (0, 1), some (0, 1), some (0, 1), some (0, 1), some (0, 1)]))] H := hP
  have hD : zD A [[dsk q d], (noteW g (d 5) e5 y X T sz nx), [((d 7), .inl (g.2 2, 2, .inl (aI fk)))], [((d 11), .inl (g.2 4, 3, .inr (.inr (.inr (.inr (rA [s0, s1, s2]))))))], (storeW g s0 xs0 tt0 nn0 fa0 fb0 fp0), (storeW g s1 xs1 tt1 nn1 fa1 fb1 fp1), (storeW g s2 xs2 tt2 nn2 fa2 fb2 fp2), (threeW g (d 3) px (lF [some (0, 1), some (0, 1), some (0, 1), some (0, 1), some (0, 1), some (0, 1)]))] := hD
  have hP : zP g [[dsk q d], [((d 7), .inl (g.2 2, 2, .inl (aI fk)))], [((d 11), .inl (g.2 4, 3, .inr (.inr (.inr (.inr (rA [s0, s1, s2]))))))], (noteW g (d 5) e5 y X T sz nx), (storeW g s0 xs0 tt0 nn0 fa0 fb0 fp0), (storeW g s1 xs1 tt1 nn1 fa1 fb1 fp1), (storeW g s2 xs2 tt2 nn2 fa2 fb2 fp2), (threeW g (d 3) px (lF [some (0, 1), some (0, 1), some (0, 1), some (0, 1), some (0, 1), some (0, 1)]))] H := zP_sub hP [0, 2, 3, 1, 4, 5, 6, 7] rfl
  have hD : zD A [[dsk q d], [((d 7), .inl (g.2 2, 2, .inl (aI fk)))], [((d 11), .inl (g.2 4, 3, .inr (.inr (.inr (.inr (rA [s0, s1, s2]))))))], (noteW g (d 5) e5 y X T sz nx), (storeW g s0 xs0 tt0 nn0 fa0 fb0 fp0), (storeW g s1 xs1 tt1 nn1 fa1 fb1 fp1), (storeW g s2 xs2 tt2 nn2 fa2 fb2 fp2), (threeW g (d 3) px (lF [some (0, 1), some (0, 1), some (0, 1), some (0, 1), some (0, 1), some (0, 1)]))] := zD_sub hD [0, 2, 3, 1, 4, 5, 6, 7] rfl rfl
  have hP : zP g [[dsk q d], [((d 7), .inl (g.2 2, 2, .inl (aI fk)))], [((d 11), .inl (g.2 4, 3, .inr (.inr (.inr (.inr (rA [s0, s1, s2]))))))], [((d 5), .inr (3, [.ref e5, vI ((sz : Nat) : Int), vI ((nx : Nat) : Int)]))], [(e5, .inl (g.2 5, 8, .inr (.inr (.inr (.inr (rA [(y 0), (y 1), (y 2), (y 3), (y 4), (y 5), (y 6), (y 7)]))))))], (threeW g (y 0) (X 0) (T 0)), (threeW g (y 1) (X 1) (T 1)), (threeW g (y 2) (X 2) (T 2)), (threeW g (y 3) (X 3) (T 3)), (threeW g (y 4) (X 4) (T 4)), (threeW g (y 5) (X 5) (T 5)), (threeW g (y 6) (X 6) (T 6)), (threeW g (y 7) (X 7) (T 7)), (storeW g s0 xs0 tt0 nn0 fa0 fb0 fp0), (storeW g s1 xs1 tt1 nn1 fa1 fb1 fp1), (storeW g s2 xs2 tt2 nn2 fa2 fb2 fp2), (threeW g (d 3) px (lF [some (0, 1), some (0, 1), some (0, 1), some (0, 1), some (0, 1), some (0, 1)]))] H := hP
  have hD : zD A [[dsk q d], [((d 7), .inl (g.2 2, 2, .inl (aI fk)))], [((d 11), .inl (g.2 4, 3, .inr (.inr (.inr (.inr (rA [s0, s1, s2]))))))], [((d 5), .inr (3, [.ref e5, vI ((sz : Nat) : Int), vI ((nx : Nat) : Int)]))], [(e5, .inl (g.2 5, 8, .inr (.inr (.inr (.inr (rA [(y 0), (y 1), (y 2), (y 3), (y 4), (y 5), (y 6), (y 7)]))))))], (threeW g (y 0) (X 0) (T 0)), (threeW g (y 1) (X 1) (T 1)), (threeW g (y 2) (X 2) (T 2)), (threeW g (y 3) (X 3) (T 3)), (threeW g (y 4) (X 4) (T 4)), (threeW g (y 5) (X 5) (T 5)), (threeW g (y 6) (X 6) (T 6)), (threeW g (y 7) (X 7) (T 7)), (storeW g s0 xs0 tt0 nn0 fa0 fb0 fp0), (storeW g s1 xs1 tt1 nn1 fa1 fb1 fp1), (storeW g s2 xs2 tt2 nn2 fa2 fb2 fp2), (threeW g (d 3) px (lF [some (0, 1), some (0, 1), some (0, 1), some (0, 1), some (0, 1), some (0, 1)]))] := hD
  refine lv_aload_n hx hb dX9_startAnew_7 rfl (lv_at hl 0 rfl) ?_
  refine z_get hx hb hts hin9_ hown hK hP 0 rfl rfl 5 (by decide) (hts _ (List.mem_of_getElem? (i := 2) rfl)) rfl dX9_startAnew_8 ?_
  refine z_iconst hx hb dX9_startAnew_11 rfl ?_
  refine z_put hx hb hts hin3_ tyX3 tyX3_ok nmX3 hown hK hP hD hS 3 rfl rfl 1 (by decide) (hts _ (List.mem_of_getElem? (i := 3) rfl)) rfl rfl rfl (Nat.le_of_ble_eq_true rfl) dX9_startAnew_12 [[dsk q d], [((d 7), .inl (g.2 2, 2, .inl (aI fk)))], [((d 11), .inl (g.2 4, 3, .inr (.inr (.inr (.inr (rA [s0, s1, s2]))))))], [((d 5), .inr (3, [.ref e5, vI 0, vI ((nx : Nat) : Int)]))], [(e5, .inl (g.2 5, 8, .inr (.inr (.inr (.inr (rA [(y 0), (y 1), (y 2), (y 3), (y 4), (y 5), (y 6), (y 7)]))))))], (threeW g (y 0) (X 0) (T 0)), (threeW g (y 1) (X 1) (T 1)), (threeW g (y 2) (X 2) (T 2)), (threeW g (y 3) (X 3) (T 3)), (threeW g (y 4) (X 4) (T 4)), (threeW g (y 5) (X 5) (T 5)), (threeW g (y 6) (X 6) (T 6)), (threeW g (y 7) (X 7) (T 7)), (storeW g s0 xs0 tt0 nn0 fa0 fb0 fp0), (storeW g s1 xs1 tt1 nn1 fa1 fb1 fp1), (storeW g s2 xs2 tt2 nn2 fa2 fb2 fp2), (threeW g (d 3) px (lF [some (0, 1), some (0, 1), some (0, 1), some (0, 1), some (0, 1), some (0, 1)]))] rfl (fun H locs hP hD hS => ?_)
  refine z_iconst hx hb dX9_startAnew_15 rfl ?_
  refine lv_istore_n (lv' := [(1, vI 0), (0, .ref q)]) hx hb dX9_startAnew_16 rfl hl (by decide) rfl (fun ls hl => ?_)
  refine lv_iload_n hx hb dX9_startAnew_17 rfl (lv_at hl 0 rfl) ?_
  refine z_iconst hx hb dX9_startAnew_18 rfl ?_
  refine z_icmp_ge (tgt := 35) hx hb (by decide) (by decide) dX9_startAnew_19 (by decide) (fun cq2 => False.elim (by omega)) (fun cq2 => ?_)
  refine lv_aload_n hx hb dX9_startAnew_22 rfl (lv_at hl 1 rfl) ?_
  refine z_get hx hb hts hin9_ hown hK hP 0 rfl rfl 7 (by decide) (hts _ (List.mem_of_getElem? (i := 4) rfl)) rfl dX9_startAnew_23 ?_
  refine lv_iload_n hx hb dX9_startAnew_26 rfl (lv_at hl 0 rfl) ?_
  refine z_iconst hx hb dX9_startAnew_27 rfl ?_
  refine z_zast hx hb hK hP 1 hD hS rfl 0 rfl (by decide) (by decide) (by decide) dX9_startAnew_28 [[dsk q d], [((d 7), .inl (g.2 2, 2, .inl (aI (uI fk 0 0))))], [((d 11), .inl (g.2 4, 3, .inr (.inr (.inr (.inr (rA [s0, s1, s2]))))))], [((d 5), .inr (3, [.ref e5, vI 0, vI ((nx : Nat) : Int)]))], [(e5, .inl (g.2 5, 8, .inr (.inr (.inr (.inr (rA [(y 0), (y 1), (y 2), (y 3), (y 4), (y 5), (y 6), (y 7)]))))))], (threeW g (y 0) (X 0) (T 0)), (threeW g (y 1) (X 1) (T 1)), (threeW g (y 2) (X 2) (T 2)), (threeW g (y 3) (X 3) (T 3)), (threeW g (y 4) (X 4) (T 4)), (threeW g (y 5) (X 5) (T 5)), (threeW g (y 6) (X 6) (T 6)), (threeW g (y 7) (X 7) (T 7)), (storeW g s0 xs0 tt0 nn0 fa0 fb0 fp0), (storeW g s1 xs1 tt1 nn1 fa1 fb1 fp1), (storeW g s2 xs2 tt2 nn2 fa2 fb2 fp2), (threeW g (d 3) px (lF [some (0, 1), some (0, 1), some (0, 1), some (0, 1), some (0, 1), some (0, 1)]))] rfl (fun H locs hP hD hS => ?_)
  refine z_iinc hx hb 1 (lv' := [(1, vI 1), (0, .ref q)]) dX9_startAnew_29 hl (k := 0) rfl (rfl) (by decide) rfl (fun ls hl => ?_)
  refine lv_goto (tgt := 17) hx hb dX9_startAnew_32 (by decide) ?_
  refine lv_iload_n hx hb dX9_startAnew_17 rfl (lv_at hl 0 rfl) ?_
  refine z_iconst hx hb dX9_startAnew_18 rfl ?_
  refine z_icmp_ge (tgt := 35) hx hb (by decide) (by decide) dX9_startAnew_19 (by decide) (fun cq3 => False.elim (by omega)) (fun cq3 => ?_)
  refine lv_aload_n hx hb dX9_startAnew_22 rfl (lv_at hl 1 rfl) ?_
  refine z_get hx hb hts hin9_ hown hK hP 0 rfl rfl 7 (by decide) (hts _ (List.mem_of_getElem? (i := 4) rfl)) rfl dX9_startAnew_23 ?_
  refine lv_iload_n hx hb dX9_startAnew_26 rfl (lv_at hl 0 rfl) ?_
  refine z_iconst hx hb dX9_startAnew_27 rfl ?_
  refine z_zast hx hb hK hP 1 hD hS rfl 1 rfl (by decide) (by decide) (by decide) dX9_startAnew_28 [[dsk q d], [((d 7), .inl (g.2 2, 2, .inl (aI (uI (uI fk 0 0) 1 0))))], [((d 11), .inl (g.2 4, 3, .inr (.inr (.inr (.inr (rA [s0, s1, s2]))))))], [((d 5), .inr (3, [.ref e5, vI 0, vI ((nx : Nat) : Int)]))], [(e5, .inl (g.2 5, 8, .inr (.inr (.inr (.inr (rA [(y 0), (y 1), (y 2), (y 3), (y 4), (y 5), (y 6), (y 7)]))))))], (threeW g (y 0) (X 0) (T 0)), (threeW g (y 1) (X 1) (T 1)), (threeW g (y 2) (X 2) (T 2)), (threeW g (y 3) (X 3) (T 3)), (threeW g (y 4) (X 4) (T 4)), (threeW g (y 5) (X 5) (T 5)), (threeW g (y 6) (X 6) (T 6)), (threeW g (y 7) (X 7) (T 7)), (storeW g s0 xs0 tt0 nn0 fa0 fb0 fp0), (storeW g s1 xs1 tt1 nn1 fa1 fb1 fp1), (storeW g s2 xs2 tt2 nn2 fa2 fb2 fp2), (threeW g (d 3) px (lF [some (0, 1), some (0, 1), some (0, 1), some (0, 1), some (0, 1), some (0, 1)]))] rfl (fun H locs hP hD hS => ?_)
  refine z_iinc hx hb 2 (lv' := [(1, vI 2), (0, .ref q)]) dX9_startAnew_29 hl (k := 0) rfl (rfl) (by decide) rfl (fun ls hl => ?_)
  refine lv_goto (tgt := 17) hx hb dX9_startAnew_32 (by decide) ?_
  refine lv_iload_n hx hb dX9_startAnew_17 rfl (lv_at hl 0 rfl) ?_
  refine z_iconst hx hb dX9_startAnew_18 rfl ?_
  refine z_icmp_ge (tgt := 35) hx hb (by decide) (by decide) dX9_startAnew_19 (by decide) (fun cq4 => ?_) (fun cq4 => False.elim (by omega))
  refine z_iconst hx hb dX9_startAnew_35 rfl ?_
  refine lv_istore_n (lv' := [(1, vI 0), (0, .ref q)]) hx hb dX9_startAnew_36 rfl hl (by decide) rfl (fun ls hl => ?_)
  refine lv_iload_n hx hb dX9_startAnew_37 rfl (lv_at hl 0 rfl) ?_
  refine z_iconst hx hb dX9_startAnew_38 rfl ?_
  refine z_icmp_ge (tgt := 58) hx hb (by decide) (by decide) dX9_startAnew_39 (by decide) (fun cq5 => False.elim (by omega)) (fun cq5 => ?_)
  refine lv_aload_n hx hb dX9_startAnew_42 rfl (lv_at hl 1 rfl) ?_
  refine z_get hx hb hts hin9_ hown hK hP 0 rfl rfl 11 (by decide) (hts _ (List.mem_of_getElem? (i := 5) rfl)) rfl dX9_startAnew_43 ?_
  refine lv_iload_n hx hb dX9_startAnew_46 rfl (lv_at hl 0 rfl) ?_
  refine z_aald hx hb hK hP 2 4 rfl rfl 0 rfl (by decide) (by decide) s0 rfl dX9_startAnew_47 ?_
  refine z_cVi (As := []) (rest := []) ⟨hx, hb, hml, hown, hts⟩ hK hP hD hS hA [13] [0, 1, 2, 3, 4, 5, 6, 7, 8, 9, 10, 11, 12, 14, 15, 16] rfl rfl rfl (c_X6_vanish l g s0 xs0 tt0 nn0 fa0 fb0 fp0 hs0) (cwV 0 hts gX9_startAnew_X6_vanish rfl rfl rfl (by decide +kernel) ⟨Nat.le_of_ble_eq_true rfl, Nat.le_of_ble_eq_true rfl⟩) 6 0 rfl rfl rfl (fun _ _ _ _ _ _ => trivial) (fun _ _ _ => trivial) rfl hl.1 (Nat.le_of_ble_eq_true rfl) rfl dX9_startAnew_48 ⟨Nat.le_of_ble_eq_true rfl, Nat.le_of_ble_eq_true rfl⟩ (fun u_6 H locs hwu_6 hP hD hS => ?_)
  try dsimp only at hwu_6
  have hP : zP g [[dsk q d], [((d 7), .inl (g.2 2, 2, .inl (aI (uI (uI fk 0 0) 1 0))))], [((d 11), .inl (g.2 4, 3, .inr (.inr (.inr (.inr (rA [s0, s1, s2]))))))], [((d 5), .inr (3, [.ref e5, vI 0, vI ((nx : Nat) : Int)]))], [(e5, .inl (g.2 5, 8, .inr (.inr (.inr (.inr (rA [(y 0), (y 1), (y 2), (y 3), (y 4), (y 5), (y 6), (y 7)]))))))], (threeW g (y 0) (X 0) (T 0)), (threeW g (y 1) (X 1) (T 1)), (threeW g (y 2) (X 2) (T 2)), (threeW g (y 3) (X 3) (T 3)), (threeW g (y 4) (X 4) (T 4)), (threeW g (y 5) (X 5) (T 5)), (threeW g (y 6) (X 6) (T 6)), (threeW g (y 7) (X 7) (T 7)), (storeW g s1 xs1 tt1 nn1 fa1 fb1 fp1), (storeW g s2 xs2 tt2 nn2 fa2 fb2 fp2), (threeW g (d 3) px (lF [some (0, 1), some (0, 1), some (0, 1), some (0, 1), some (0, 1), some (0, 1)])), (storeW g s0 xs0 0 0 fa0 fb0 fp0)] H := hP
  have hD : zD A [[dsk q d], [((d 7), .inl (g.2 2, 2, .inl (aI (uI (uI fk 0 0) 1 0))))], [((d 11), .inl (g.2 4, 3, .inr (.inr (.inr (.inr (rA [s0, s1, s2]))))))], [((d 5), .inr (3, [.ref e5, vI 0, vI ((nx : Nat) : Int)]))], [(e5, .inl (g.2 5, 8, .inr (.inr (.inr (.inr (rA [(y 0), (y 1), (y 2), (y 3), (y 4), (y 5), (y 6), (y 7)]))))))], (threeW g (y 0) (X 0) (T 0)), (threeW g (y 1) (X 1) (T 1)), (threeW g (y 2) (X 2) (T 2)), (threeW g (y 3) (X 3) (T 3)), (threeW g (y 4) (X 4) (T 4)), (threeW g (y 5) (X 5) (T 5)), (threeW g (y 6) (X 6) (T 6)), (threeW g (y 7) (X 7) (T 7)), (storeW g s1 xs1 tt1 nn1 fa1 fb1 fp1), (storeW g s2 xs2 tt2 nn2 fa2 fb2 fp2), (threeW g (d 3) px (lF [some (0, 1), some (0, 1), some (0, 1), some (0, 1), some (0, 1), some (0, 1)])), (storeW g s0 xs0 0 0 fa0 fb0 fp0)] := hD
  refine z_toI ((nn0 : Nat) : Int) rfl ?_
  refine lv_pop hx hb dX9_startAnew_51 rfl ?_
  refine z_iinc hx hb 1 (lv' := [(1, vI 1), (0, .ref q)]) dX9_startAnew_52 hl (k := 0) rfl (rfl) (by decide) rfl (fun ls hl => ?_)
  refine lv_goto (tgt := 37) hx hb dX9_startAnew_55 (by decide) ?_
  refine lv_iload_n hx hb dX9_startAnew_37 rfl (lv_at hl 0 rfl) ?_
  refine z_iconst hx hb dX9_startAnew_38 rfl ?_
  refine z_icmp_ge (tgt := 58) hx hb (by decide) (by decide) dX9_startAnew_39 (by decide) (fun cq7 => False.elim (by omega)) (fun cq7 => ?_)
  refine lv_aload_n hx hb dX9_startAnew_42 rfl (lv_at hl 1 rfl) ?_
  refine z_get hx hb hts hin9_ hown hK hP 0 rfl rfl 11 (by decide) (hts _ (List.mem_of_getElem? (i := 5) rfl)) rfl dX9_startAnew_43 ?_
  refine lv_iload_n hx hb dX9_startAnew_46 rfl (lv_at hl 0 rfl) ?_
  refine z_aald hx hb hK hP 2 4 rfl rfl 1 rfl (by decide) (by decide) s1 rfl dX9_startAnew_47 ?_
  refine z_cVi (As := []) (rest := []) ⟨hx, hb, hml, hown, hts⟩ hK hP hD hS hA [13] [0, 1, 2, 3, 4, 5, 6, 7, 8, 9, 10, 11, 12, 14, 15, 16] rfl rfl rfl (c_X6_vanish l g s1 xs1 tt1 nn1 fa1 fb1 fp1 hs1) (cwV 0 hts gX9_startAnew_X6_vanish rfl rfl rfl (by decide +kernel) ⟨Nat.le_of_ble_eq_true rfl, Nat.le_of_ble_eq_true rfl⟩) 6 0 rfl rfl rfl (fun _ _ _ _ _ _ => trivial) (fun _ _ _ => trivial) rfl hl.1 (Nat.le_of_ble_eq_true rfl) rfl dX9_startAnew_48 ⟨Nat.le_of_ble_eq_true rfl, Nat.le_of_ble_eq_true rfl⟩ (fun u_8 H locs hwu_8 hP hD hS => ?_)
  try dsimp only at hwu_8
  have hP : zP g [[dsk q d], [((d 7), .inl (g.2 2, 2, .inl (aI (uI (uI fk 0 0) 1 0))))], [((d 11), .inl (g.2 4, 3, .inr (.inr (.inr (.inr (rA [s0, s1, s2]))))))], [((d 5), .inr (3, [.ref e5, vI 0, vI ((nx : Nat) : Int)]))], [(e5, .inl (g.2 5, 8, .inr (.inr (.inr (.inr (rA [(y 0), (y 1), (y 2), (y 3), (y 4), (y 5), (y 6), (y 7)]))))))], (threeW g (y 0) (X 0) (T 0)), (threeW g (y 1) (X 1) (T 1)), (threeW g (y 2) (X 2) (T 2)), (threeW g (y 3) (X 3) (T 3)), (threeW g (y 4) (X 4) (T 4)), (threeW g (y 5) (X 5) (T 5)), (threeW g (y 6) (X 6) (T 6)), (threeW g (y 7) (X 7) (T 7)), (storeW g s2 xs2 tt2 nn2 fa2 fb2 fp2), (threeW g (d 3) px (lF [some (0, 1), some (0, 1), some (0, 1), some (0, 1), some (0, 1), some (0, 1)])), (storeW g s0 xs0 0 0 fa0 fb0 fp0), (storeW g s1 xs1 0 0 fa1 fb1 fp1)] H := hP
  have hD : zD A [[dsk q d], [((d 7), .inl (g.2 2, 2, .inl (aI (uI (uI fk 0 0) 1 0))))], [((d 11), .inl (g.2 4, 3, .inr (.inr (.inr (.inr (rA [s0, s1, s2]))))))], [((d 5), .inr (3, [.ref e5, vI 0, vI ((nx : Nat) : Int)]))], [(e5, .inl (g.2 5, 8, .inr (.inr (.inr (.inr (rA [(y 0), (y 1), (y 2), (y 3), (y 4), (y 5), (y 6), (y 7)]))))))], (threeW g (y 0) (X 0) (T 0)), (threeW g (y 1) (X 1) (T 1)), (threeW g (y 2) (X 2) (T 2)), (threeW g (y 3) (X 3) (T 3)), (threeW g (y 4) (X 4) (T 4)), (threeW g (y 5) (X 5) (T 5)), (threeW g (y 6) (X 6) (T 6)), (threeW g (y 7) (X 7) (T 7)), (storeW g s2 xs2 tt2 nn2 fa2 fb2 fp2), (threeW g (d 3) px (lF [some (0, 1), some (0, 1), some (0, 1), some (0, 1), some (0, 1), some (0, 1)])), (storeW g s0 xs0 0 0 fa0 fb0 fp0), (storeW g s1 xs1 0 0 fa1 fb1 fp1)] := hD
  refine z_toI ((nn1 : Nat) : Int) rfl ?_
  refine lv_pop hx hb dX9_startAnew_51 rfl ?_
  refine z_iinc hx hb 2 (lv' := [(1, vI 2), (0, .ref q)]) dX9_startAnew_52 hl (k := 0) rfl (rfl) (by decide) rfl (fun ls hl => ?_)
  refine lv_goto (tgt := 37) hx hb dX9_startAnew_55 (by decide) ?_
  refine lv_iload_n hx hb dX9_startAnew_37 rfl (lv_at hl 0 rfl) ?_
  refine z_iconst hx hb dX9_startAnew_38 rfl ?_
  refine z_icmp_ge (tgt := 58) hx hb (by decide) (by decide) dX9_startAnew_39 (by decide) (fun cq9 => False.elim (by omega)) (fun cq9 => ?_)
  refine lv_aload_n hx hb dX9_startAnew_42 rfl (lv_at hl 1 rfl) ?_
  refine z_get hx hb hts hin9_ hown hK hP 0 rfl rfl 11 (by decide) (hts _ (List.mem_of_getElem? (i := 5) rfl)) rfl dX9_startAnew_43 ?_
  refine lv_iload_n hx hb dX9_startAnew_46 rfl (lv_at hl 0 rfl) ?_
  refine z_aald hx hb hK hP 2 4 rfl rfl 2 rfl (by decide) (by decide) s2 rfl dX9_startAnew_47 ?_
  refine z_cVi (As := []) (rest := []) ⟨hx, hb, hml, hown, hts⟩ hK hP hD hS hA [13] [0, 1, 2, 3, 4, 5, 6, 7, 8, 9, 10, 11, 12, 14, 15, 16] rfl rfl rfl (c_X6_vanish l g s2 xs2 tt2 nn2 fa2 fb2 fp2 hs2) (cwV 0 hts gX9_startAnew_X6_vanish rfl rfl rfl (by decide +kernel) ⟨Nat.le_of_ble_eq_true rfl, Nat.le_of_ble_eq_true rfl⟩) 6 0 rfl rfl rfl (fun _ _ _ _ _ _ => trivial) (fun _ _ _ => trivial) rfl hl.1 (Nat.le_of_ble_eq_true rfl) rfl dX9_startAnew_48 ⟨Nat.le_of_ble_eq_true rfl, Nat.le_of_ble_eq_true rfl⟩ (fun u_10 H locs hwu_10 hP hD hS => ?_)
  try dsimp only at hwu_10
  have hP : zP g [[dsk q d], [((d 7), .inl (g.2 2, 2, .inl (aI (uI (uI fk 0 0) 1 0))))], [((d 11), .inl (g.2 4, 3, .inr (.inr (.inr (.inr (rA [s0, s1, s2]))))))], [((d 5), .inr (3, [.ref e5, vI 0, vI ((nx : Nat) : Int)]))], [(e5, .inl (g.2 5, 8, .inr (.inr (.inr (.inr (rA [(y 0), (y 1), (y 2), (y 3), (y 4), (y 5), (y 6), (y 7)]))))))], (threeW g (y 0) (X 0) (T 0)), (threeW g (y 1) (X 1) (T 1)), (threeW g (y 2) (X 2) (T 2)), (threeW g (y 3) (X 3) (T 3)), (threeW g (y 4) (X 4) (T 4)), (threeW g (y 5) (X 5) (T 5)), (threeW g (y 6) (X 6) (T 6)), (threeW g (y 7) (X 7) (T 7)), (threeW g (d 3) px (lF [some (0, 1), some (0, 1), some (0, 1), some (0, 1), some (0, 1), some (0, 1)])), (storeW g s0 xs0 0 0 fa0 fb0 fp0), (storeW g s1 xs1 0 0 fa1 fb1 fp1), (storeW g s2 xs2 0 0 fa2 fb2 fp2)] H := hP
  have hD : zD A [[dsk q d], [((d 7), .inl (g.2 2, 2, .inl (aI (uI (uI fk 0 0) 1 0))))], [((d 11), .inl (g.2 4, 3, .inr (.inr (.inr (.inr (rA [s0, s1, s2]))))))], [((d 5), .inr (3, [.ref e5, vI 0, vI ((nx : Nat) : Int)]))], [(e5, .inl (g.2 5, 8, .inr (.inr (.inr (.inr (rA [(y 0), (y 1), (y 2), (y 3), (y 4), (y 5), (y 6), (y 7)]))))))], (threeW g (y 0) (X 0) (T 0)), (threeW g (y 1) (X 1) (T 1)), (threeW g (y 2) (X 2) (T 2)), (threeW g (y 3) (X 3) (T 3)), (threeW g (y 4) (X 4) (T 4)), (threeW g (y 5) (X 5) (T 5)), (threeW g (y 6) (X 6) (T 6)), (threeW g (y 7) (X 7) (T 7)), (threeW g (d 3) px (lF [some (0, 1), some (0, 1), some (0, 1), some (0, 1), some (0, 1), some (0, 1)])), (storeW g s0 xs0 0 0 fa0 fb0 fp0), (storeW g s1 xs1 0 0 fa1 fb1 fp1), (storeW g s2 xs2 0 0 fa2 fb2 fp2)] := hD
  refine z_toI ((nn2 : Nat) : Int) rfl ?_
  refine lv_pop hx hb dX9_startAnew_51 rfl ?_
  refine z_iinc hx hb 3 (lv' := [(1, vI 3), (0, .ref q)]) dX9_startAnew_52 hl (k := 0) rfl (rfl) (by decide) rfl (fun ls hl => ?_)
  refine lv_goto (tgt := 37) hx hb dX9_startAnew_55 (by decide) ?_
  refine lv_iload_n hx hb dX9_startAnew_37 rfl (lv_at hl 0 rfl) ?_
  refine z_iconst hx hb dX9_startAnew_38 rfl ?_
  refine z_icmp_ge (tgt := 58) hx hb (by decide) (by decide) dX9_startAnew_39 (by decide) (fun cq11 => ?_) (fun cq11 => False.elim (by omega))
  have hP : zP g [[dsk q d], [((d 7), .inl (g.2 2, 2, .inl (aI (uI (uI fk 0 0) 1 0))))], [((d 11), .inl (g.2 4, 3, .inr (.inr (.inr (.inr (rA [s0, s1, s2]))))))], (noteW g (d 5) e5 y X T 0 nx), (threeW g (d 3) px (lF [some (0, 1), some (0, 1), some (0, 1), some (0, 1), some (0, 1), some (0, 1)])), (storeW g s0 xs0 0 0 fa0 fb0 fp0), (storeW g s1 xs1 0 0 fa1 fb1 fp1), (storeW g s2 xs2 0 0 fa2 fb2 fp2)] H := hP
  have hD : zD A [[dsk q d], [((d 7), .inl (g.2 2, 2, .inl (aI (uI (uI fk 0 0) 1 0))))], [((d 11), .inl (g.2 4, 3, .inr (.inr (.inr (.inr (rA [s0, s1, s2]))))))], (noteW g (d 5) e5 y X T 0 nx), (threeW g (d 3) px (lF [some (0, 1), some (0, 1), some (0, 1), some (0, 1), some (0, 1), some (0, 1)])), (storeW g s0 xs0 0 0 fa0 fb0 fp0), (storeW g s1 xs1 0 0 fa1 fb1 fp1), (storeW g s2 xs2 0 0 fa2 fb2 fp2)] := hD
  exact z_retv () [0, 4, 3, 1, 2, 5, 6, 7] hx hb hr hlocks hK hP hD hS trivial rfl rfl (rfl) (Nat.le_of_ble_eq_true rfl) (Nat.le_of_ble_eq_true rfl) dX9_startAnew_58

set_option maxHeartbeats 4000000 in
set_option maxRecDepth 100000 in
theorem c_X9_net_not (l : Launch) (g : zG) (q : Nat) (d : Nat → Nat) (tx : Nat → Nat) (n : Nat) (c_ : Nat) (k : Nat) (s_ : Nat) (e_ : Nat) (f : Nat → Int) (m_ : Nat → Int) (gx : Nat → Nat) (v : Int) (b : Nat) (h : Nat → Int) (o : Nat → Int) (l_ : Nat → Int) (dx : Nat → Nat) (v0 : Int) (b0 : Nat) (h0 : Nat → Int) (o0 : Nat → Int) (l0 : Nat → Int) (xs : Nat → Nat) (vs : Nat → Nat) (hn : n ≤ 200) (hf : ∀ i, 0 ≤ f i ∧ f i ≤ 255) (hN : nok v b h o l_) (ho : (pA f n 24 0 (v, b, h, o, l_) 0).1 ≠ -1) (hr9 : -2147483648 ≤ ((pA f n 24 0 (v, b, h, o, l_) 0).1) ∧ ((pA f n 24 0 (v, b, h, o, l_) 0).1) < 2147483648) : zMet l g yX9_net wsX9_net 7 0 0 [.ref q] (zXW xs vs) [[dsk q d], (textW g (d 0) tx n c_ k s_ e_ f m_), (netW g (d 1) gx v b h o l_), (netW g (d 2) dx v0 b0 h0 o0 l0)] (qi g (fun (u_ : Nat × Nat × Nat × Nat × (Nat → Int) × Int × Nat × (Nat → Int) × (Nat → Int) × (Nat → Int)) => (-2000000003)) (fun (u_ : Nat × Nat × Nat × Nat × (Nat → Int) × Int × Nat × (Nat → Int) × (Nat → Int) × (Nat → Int)) => True) (fun (u_ : Nat × Nat × Nat × Nat × (Nat → Int) × Int × Nat × (Nat → Int) × (Nat → Int) × (Nat → Int)) => [[dsk q d], (textW g (d 0) tx n u_.1 u_.2.1 u_.2.2.1 u_.2.2.2.1 f u_.2.2.2.2.1), (netW g (d 1) gx v b h o l_), (netW g (d 2) dx u_.2.2.2.2.2.1 u_.2.2.2.2.2.2.1 u_.2.2.2.2.2.2.2.1 u_.2.2.2.2.2.2.2.2.1 u_.2.2.2.2.2.2.2.2.2)])) := by
  refine z_ent (cc := cX9_net) (maxL := 1) (ret := (some .int)) (by decide) rfl (Nat.le_of_ble_eq_true rfl) ?_
  intro p e s m below meth c A ls hx hb hr hml hown hts hlocks hin0 hA hK hP hD hS hXX hl
  have hown : s.vm.findClass RX9 = some m.cls := hown
  have hin9_ : ∀ w ∈ wsX90, w ∈ wsX9_net := zw_in [177, 178, 179, 180, 181, 182, 183, 184, 185, 186, 187, 188] rfl
  have hl : lv_has ls 1 [(0, .ref q)] := hl
  refine lv_aload_n hx hb dX9_net_0 rfl (lv_at hl 0 rfl) ?_
  refine z_get hx hb hts hin9_ hown hK hP 0 rfl rfl 2 (by decide) (hts _ (List.mem_of_getElem? (i := 1) rfl)) rfl dX9_net_1 ?_
  refine lv_aload_n hx hb dX9_net_4 rfl (lv_at hl 0 rfl) ?_
  refine z_get hx hb hts hin9_ hown hK hP 0 rfl rfl 1 (by decide) (hts _ (List.mem_of_getElem? (i := 2) rfl)) rfl dX9_net_5 ?_
  refine z_cVv (As := [.ref (d 1)]) (rest := []) ⟨hx, hb, hml, hown, hts⟩ hK hP hD hS hA [3, 2] [0, 1] rfl rfl rfl (c_X2_become l g (d 2) dx v0 b0 h0 o0 l0 (d 1) gx v b h o l_ ) (cwV 1 hts gX9_net_X2_become rfl rfl rfl (by decide +kernel) ⟨Nat.le_of_ble_eq_true rfl, Nat.le_of_ble_eq_true rfl⟩) 2 0 rfl rfl rfl (fun _ _ _ _ _ _ => trivial) (fun _ _ _ => trivial) rfl hl.1 (Nat.le_of_ble_eq_true rfl) rfl dX9_net_8 ⟨Nat.le_of_ble_eq_true rfl, Nat.le_of_ble_eq_true rfl⟩ (fun u_1 H locs hwu_1 hP hD hS => ?_)
  try dsimp only at hwu_1
  have hP : zP g [[dsk q d], (textW g (d 0) tx n c_ k s_ e_ f m_), (netW g (d 2) dx v b h o l_), (netW g (d 1) gx v b h o l_)] H := hP
  have hD : zD A [[dsk q d], (textW g (d 0) tx n c_ k s_ e_ f m_), (netW g (d 2) dx v b h o l_), (netW g (d 1) gx v b h o l_)] := hD
  refine lv_aload_n hx hb dX9_net_11 rfl (lv_at hl 0 rfl) ?_
  refine z_get hx hb hts hin9_ hown hK hP 0 rfl rfl 0 (by decide) (hts _ (List.mem_of_getElem? (i := 3) rfl)) rfl dX9_net_12 ?_
  refine lv_aload_n hx hb dX9_net_15 rfl (lv_at hl 0 rfl) ?_
  refine z_get hx hb hts hin9_ hown hK hP 0 rfl rfl 2 (by decide) (hts _ (List.mem_of_getElem? (i := 1) rfl)) rfl dX9_net_16 ?_
  refine z_xVi (As := [.ref (d 2)]) (rest := []) ⟨hx, hb, hml, hown, hts⟩ hK hP hD hS hA [1, 2] [0, 3] rfl rfl rfl (c_X7_readInto l g (d 0) tx n c_ k s_ e_ f m_ (d 2) dx v b h o l_ xs vs (by first | assumption | omega) (by first | assumption | omega) hN) (cwV 1 hts gX9_net_X7_readInto rfl rfl rfl (by decide +kernel) ⟨Nat.le_of_ble_eq_true rfl, Nat.le_of_ble_eq_true rfl⟩) 7 0 rfl rfl rfl zXW_b (zXW_s hXX hS) rfl hl.1 (Nat.le_of_ble_eq_true rfl) rfl dX9_net_19 ⟨Nat.le_of_ble_eq_true rfl, Nat.le_of_ble_eq_true rfl⟩ (fun u_2 H locs hwu_2 hP hD hS => ?_)
  obtain ⟨c2_3, k2_4, s2_5, e2_6, m2_7, v2_8, b2_9, h2_10, o2_11, l2_12⟩ := u_2
  try dsimp only at hwu_2
  have hP : zP g [[dsk q d], (netW g (d 1) gx v b h o l_), (textW g (d 0) tx n c2_3 k2_4 s2_5 e2_6 f m2_7), (netW g (d 2) dx v2_8 b2_9 h2_10 o2_11 l2_12)] H := hP
  have hD : zD A [[dsk q d], (netW g (d 1) gx v b h o l_), (textW g (d 0) tx n c2_3 k2_4 s2_5 e2_6 f m2_7), (netW g (d 2) dx v2_8 b2_9 h2_10 o2_11 l2_12)] := hD
  refine z_toI ((pA f n 24 0 (v, b, h, o, l_) 0).1) rfl ?_
  refine z_iconst hx hb dX9_net_22 rfl ?_
  refine z_icmp_eq (tgt := 29) hx hb hr9 (by decide) dX9_net_23 (by decide) (fun cq13 => False.elim (by omega)) (fun cq13 => ?_)
  refine z_ldc hx hb (-2000000003) hown (hts _ (List.mem_of_getElem? (i := 4) rfl)) rfl dX9_net_26 ?_
  exact z_reti (c2_3, k2_4, s2_5, e2_6, m2_7, v2_8, b2_9, h2_10, o2_11, l2_12) [0, 2, 1, 3] hx hb hr rfl hlocks hK hP hD hS (rfl) trivial rfl rfl (rfl) (Nat.le_of_ble_eq_true rfl) (Nat.le_of_ble_eq_true rfl) dX9_net_28

set_option maxHeartbeats 4000000 in
set_option maxRecDepth 100000 in
theorem c_X9_net (l : Launch) (g : zG) (q : Nat) (d : Nat → Nat) (tx : Nat → Nat) (n : Nat) (c_ : Nat) (k : Nat) (s_ : Nat) (e_ : Nat) (f : Nat → Int) (m_ : Nat → Int) (gx : Nat → Nat) (v : Int) (b : Nat) (h : Nat → Int) (o : Nat → Int) (l_ : Nat → Int) (dx : Nat → Nat) (v0 : Int) (b0 : Nat) (h0 : Nat → Int) (o0 : Nat → Int) (l0 : Nat → Int) (px : Nat → Nat) (t : Nat → FO) (e5 : Nat) (y : Nat → Nat) (X : Nat → Nat → Nat) (T : Nat → Nat → FO) (sz : Nat) (nx : Nat) (fk : Nat → Int) (s0 : Nat) (xs0 : Nat → Nat) (tt0 : Int) (nn0 : Nat) (fa0 : Nat → Int) (fb0 : Nat → Int) (fp0 : Nat → Int) (s1 : Nat) (xs1 : Nat → Nat) (tt1 : Int) (nn1 : Nat) (fa1 : Nat → Int) (fb1 : Nat → Int) (fp1 : Nat → Int) (s2 : Nat) (xs2 : Nat → Nat) (tt2 : Int) (nn2 : Nat) (fa2 : Nat → Int) (fb2 : Nat → Int) (fp2 : Nat → Int) (xs : Nat → Nat) (vs : Nat → Nat) (hn : n ≤ 200) (hf : ∀ i, 0 ≤ f i ∧ f i ≤ 255) (hN : nok v b h o l_) (hs0 : sok tt0 nn0 fp0) (hs1 : sok tt1 nn1 fp1) (hs2 : sok tt2 nn2 fp2) (ho : (pA f n 24 0 (v, b, h, o, l_) 0).1 = -1) : zMet l g yX9_net wsX9_net 7 0 0 [.ref q] (zXW xs vs) [[dsk q d], (textW g (d 0) tx n c_ k s_ e_ f m_), (netW g (d 1) gx v b h o l_), (netW g (d 2) dx v0 b0 h0 o0 l0), (threeW g (d 3) px t), (noteW g (d 5) e5 y X T sz nx), [((d 7), .inl (g.2 2, 2, .inl (aI fk)))], [((d 11), .inl (g.2 4, 3, .inr (.inr (.inr (.inr (rA [s0, s1, s2]))))))], (storeW g s0 xs0 tt0 nn0 fa0 fb0 fp0), (storeW g s1 xs1 tt1 nn1 fa1 fb1 fp1), (storeW g s2 xs2 tt2 nn2 fa2 fb2 fp2)] (qi g (fun (u_ : Nat × Nat × Nat × Nat × (Nat → Int) × Int × Nat × (Nat → Int) × (Nat → Int) × (Nat → Int)) => ((u_.1 : Nat) : Int)) (fun (u_ : Nat × Nat × Nat × Nat × (Nat → Int) × Int × Nat × (Nat → Int) × (Nat → Int) × (Nat → Int)) => ((u_.2.2.2.2.2.1, u_.2.2.2.2.2.2.1, u_.2.2.2.2.2.2.2.1, u_.2.2.2.2.2.2.2.2.1, u_.2.2.2.2.2.2.2.2.2) = (pA f n 24 0 (v, b, h, o, l_) 0).2.1 ∧ u_.1 = (pA f n 24 0 (v, b, h, o, l_) 0).2.2)) (fun (u_ : Nat × Nat × Nat × Nat × (Nat → Int) × Int × Nat × (Nat → Int) × (Nat → Int) × (Nat → Int)) => [[dsk q d], (textW g (d 0) tx 0 u_.1 u_.2.1 u_.2.2.1 u_.2.2.2.1 f u_.2.2.2.2.1), (netW g (d 1) gx u_.2.2.2.2.2.1 u_.2.2.2.2.2.2.1 u_.2.2.2.2.2.2.2.1 u_.2.2.2.2.2.2.2.2.1 u_.2.2.2.2.2.2.2.2.2), (netW g (d 2) dx u_.2.2.2.2.2.1 u_.2.2.2.2.2.2.1 u_.2.2.2.2.2.2.2.1 u_.2.2.2.2.2.2.2.2.1 u_.2.2.2.2.2.2.2.2.2), (threeW g (d 3) px zT0), (noteW g (d 5) e5 y X T 0 nx), [((d 7), .inl (g.2 2, 2, .inl (aI (uI (uI fk 0 0) 1 0))))], [((d 11), .inl (g.2 4, 3, .inr (.inr (.inr (.inr (rA [s0, s1, s2]))))))], (storeW g s0 xs0 0 0 fa0 fb0 fp0), (storeW g s1 xs1 0 0 fa1 fb1 fp1), (storeW g s2 xs2 0 0 fa2 fb2 fp2)])) := by
  refine z_ent (cc := cX9_net) (maxL := 1) (ret := (some .int)) (by decide) rfl (Nat.le_of_ble_eq_true rfl) ?_
  intro p e s m below meth c A ls hx hb hr hml hown hts hlocks hin0 hA hK hP hD hS hXX hl
  have hown : s.vm.findClass RX9 = some m.cls := hown
  have hin7_ : ∀ w ∈ wsX70, w ∈ wsX9_net := zw_in [189, 190, 191, 192, 193, 194, 195] rfl
  have hin9_ : ∀ w ∈ wsX90, w ∈ wsX9_net := zw_in [177, 178, 179, 180, 181, 182, 183, 184, 185, 186, 187, 188] rfl
  have hl : lv_has ls 1 [(0, .ref q)] := hl
  refine lv_aload_n hx hb dX9_net_0 rfl (lv_at hl 0 rfl) ?_
  refine z_get hx hb hts hin9_ hown hK hP 0 rfl rfl 2 (by decide) (hts _ (List.mem_of_getElem? (i := 1) rfl)) rfl dX9_net_1 ?_
  refine lv_aload_n hx hb dX9_net_4 rfl (lv_at hl 0 rfl) ?_
  refine z_get hx hb hts hin9_ hown hK hP 0 rfl rfl 1 (by decide) (hts _ (List.mem_of_getElem? (i := 2) rfl)) rfl dX9_net_5 ?_
  refine z_cVv (As := [.ref (d 1)]) (rest := []) ⟨hx, hb, hml, hown, hts⟩ hK hP hD hS hA [3, 2] [0, 1, 4, 5, 6, 7, 8, 9, 10] rfl rfl rfl (c_X2_become l g (d 2) dx v0 b0 h0 o0 l0 (d 1) gx v b h o l_ ) (cwV 1 hts gX9_net_X2_become rfl rfl rfl (by decide +kernel) ⟨Nat.le_of_ble_eq_true rfl, Nat.le_of_ble_eq_true rfl⟩) 2 0 rfl rfl rfl (fun _ _ _ _ _ _ => trivial) (fun _ _ _ => trivial) rfl hl.1 (Nat.le_of_ble_eq_true rfl) rfl dX9_net_8 ⟨Nat.le_of_ble_eq_true rfl, Nat.le_of_ble_eq_true rfl⟩ (fun u_1 H locs hwu_1 hP hD hS => ?_)
  try dsimp only at hwu_1
  have hP : zP g [[dsk q d], (textW g (d 0) tx n c_ k s_ e_ f m_), (threeW g (d 3) px t), (noteW g (d 5) e5 y X T sz nx), [((d 7), .inl (g.2 2, 2, .inl (aI fk)))], [((d 11), .inl (g.2 4, 3, .inr (.inr (.inr (.inr (rA [s0, s1, s2]))))))], (storeW g s0 xs0 tt0 nn0 fa0 fb0 fp0), (storeW g s1 xs1 tt1 nn1 fa1 fb1 fp1), (storeW g s2 xs2 tt2 nn2 fa2 fb2 fp2), (netW g (d 2) dx v b h o l_), (netW g (d 1) gx v b h o l_)] H := hP
  have hD : zD A [[dsk q d], (textW g (d 0) tx n c_ k s_ e_ f m_), (threeW g (d 3) px t), (noteW g (d 5) e5 y X T sz nx), [((d 7), .inl (g.2 2, 2, .inl (aI fk)))], [((d 11), .inl (g.2 4, 3, .inr (.inr (.inr (.inr (rA [s0, s1, s2]))))))], (storeW g s0 xs0 tt0 nn0 fa0 fb0 fp0), (storeW g s1 xs1 tt1 nn1 fa1 fb1 fp1), (storeW g s2 xs2 tt2 nn2 fa2 fb2 fp2), (netW g (d 2) dx v b h o l_), (netW g (d 1) gx v b h o l_)] := hD
  have hP : zP g [[dsk q d], [((d 7), .inl (g.2 2, 2, .inl (aI fk)))], [((d 11), .inl (g.2 4, 3, .inr (.inr (.inr (.inr (rA [s0, s1, s2]))))))], (textW g (d 0) tx n c_ k s_ e_ f m_), (threeW g (d 3) px t), (noteW g (d 5) e5 y X T sz nx), (storeW g s0 xs0 tt0 nn0 fa0 fb0 fp0), (storeW g s1 xs1 tt1 nn1 fa1 fb1 fp1), (storeW g s2 xs2 tt2 nn2 fa2 fb2 fp2), (netW g (d 2) dx v b h o l_), (netW g (d 1) gx v b h o l_)] H := zP_sub hP [0, 4, 5, 1, 2, 3, 6, 7, 8, 9, 10] rfl
  have hD : zD A [[dsk q d], [((d 7), .inl (g.2 2, 2, .inl (aI fk)))], [((d 11), .inl (g.2 4, 3, .inr (.inr (.inr (.inr (rA [s0, s1, s2]))))))], (textW g (d 0) tx n c_ k s_ e_ f m_), (threeW g (d 3) px t), (noteW g (d 5) e5 y X T sz nx), (storeW g s0 xs0 tt0 nn0 fa0 fb0 fp0), (storeW g s1 xs1 tt1 nn1 fa1 fb1 fp1), (storeW g s2 xs2 tt2 nn2 fa2 fb2 fp2), (netW g (d 2) dx v b h o l_), (netW g (d 1) gx v b h o l_)] := zD_sub hD [0, 4, 5, 1, 2, 3, 6, 7, 8, 9, 10] rfl rfl
  refine lv_aload_n hx hb dX9_net_11 rfl (lv_at hl 0 rfl) ?_
  refine z_get hx hb hts hin9_ hown hK hP 0 rfl rfl 0 (by decide) (hts _ (List.mem_of_getElem? (i := 3) rfl)) rfl dX9_net_12 ?_
  refine lv_aload_n hx hb dX9_net_15 rfl (lv_at hl 0 rfl) ?_
  refine z_get hx hb hts hin9_ hown hK hP 0 rfl rfl 2 (by decide) (hts _ (List.mem_of_getElem? (i := 1) rfl)) rfl dX9_net_16 ?_
  refine z_xVi (As := [.ref (d 2)]) (rest := []) ⟨hx, hb, hml, hown, hts⟩ hK hP hD hS hA [3, 9] [0, 1, 2, 4, 5, 6, 7, 8, 10] rfl rfl rfl (c_X7_readInto l g (d 0) tx n c_ k s_ e_ f m_ (d 2) dx v b h o l_ xs vs (by first | assumption | omega) (by first | assumption | omega) hN) (cwV 1 hts gX9_net_X7_readInto rfl rfl rfl (by decide +kernel) ⟨Nat.le_of_ble_eq_true rfl, Nat.le_of_ble_eq_true rfl⟩) 7 0 rfl rfl rfl zXW_b (zXW_s hXX hS) rfl hl.1 (Nat.le_of_ble_eq_true rfl) rfl dX9_net_19 ⟨Nat.le_of_ble_eq_true rfl, Nat.le_of_ble_eq_true rfl⟩ (fun u_2 H locs hwu_2 hP hD hS => ?_)
  obtain ⟨c2_3, k2_4, s2_5, e2_6, m2_7, v2_8, b2_9, h2_10, o2_11, l2_12⟩ := u_2
  try dsimp only at hwu_2
  have hP : zP g [[dsk q d], [((d 7), .inl (g.2 2, 2, .inl (aI fk)))], [((d 11), .inl (g.2 4, 3, .inr (.inr (.inr (.inr (rA [s0, s1, s2]))))))], (threeW g (d 3) px t), (noteW g (d 5) e5 y X T sz nx), (storeW g s0 xs0 tt0 nn0 fa0 fb0 fp0), (storeW g s1 xs1 tt1 nn1 fa1 fb1 fp1), (storeW g s2 xs2 tt2 nn2 fa2 fb2 fp2), (netW g (d 1) gx v b h o l_), (textW g (d 0) tx n c2_3 k2_4 s2_5 e2_6 f m2_7), (netW g (d 2) dx v2_8 b2_9 h2_10 o2_11 l2_12)] H := hP
  have hD : zD A [[dsk q d], [((d 7), .inl (g.2 2, 2, .inl (aI fk)))], [((d 11), .inl (g.2 4, 3, .inr (.inr (.inr (.inr (rA [s0, s1, s2]))))))], (threeW g (d 3) px t), (noteW g (d 5) e5 y X T sz nx), (storeW g s0 xs0 tt0 nn0 fa0 fb0 fp0), (storeW g s1 xs1 tt1 nn1 fa1 fb1 fp1), (storeW g s2 xs2 tt2 nn2 fa2 fb2 fp2), (netW g (d 1) gx v b h o l_), (textW g (d 0) tx n c2_3 k2_4 s2_5 e2_6 f m2_7), (netW g (d 2) dx v2_8 b2_9 h2_10 o2_11 l2_12)] := hD
  refine z_toI ((pA f n 24 0 (v, b, h, o, l_) 0).1) rfl ?_
  refine z_iconst hx hb dX9_net_22 rfl ?_
  refine z_icmp_eq (tgt := 29) hx hb (by omega) (by decide) dX9_net_23 (by decide) (fun cq13 => ?_) (fun cq13 => False.elim (by omega))
  refine lv_aload_n hx hb dX9_net_29 rfl (lv_at hl 0 rfl) ?_
  refine z_get hx hb hts hin9_ hown hK hP 0 rfl rfl 1 (by decide) (hts _ (List.mem_of_getElem? (i := 2) rfl)) rfl dX9_net_30 ?_
  refine lv_aload_n hx hb dX9_net_33 rfl (lv_at hl 0 rfl) ?_
  refine z_get hx hb hts hin9_ hown hK hP 0 rfl rfl 2 (by decide) (hts _ (List.mem_of_getElem? (i := 1) rfl)) rfl dX9_net_34 ?_
  refine z_cVv (As := [.ref (d 2)]) (rest := []) ⟨hx, hb, hml, hown, hts⟩ hK hP hD hS hA [8, 10] [0, 1, 2, 3, 4, 5, 6, 7, 9] rfl rfl rfl (c_X2_become l g (d 1) gx v b h o l_ (d 2) dx v2_8 b2_9 h2_10 o2_11 l2_12 ) (cwV 1 hts gX9_net_X2_become rfl rfl rfl (by decide +kernel) ⟨Nat.le_of_ble_eq_true rfl, Nat.le_of_ble_eq_true rfl⟩) 2 0 rfl rfl rfl (fun _ _ _ _ _ _ => trivial) (fun _ _ _ => trivial) rfl hl.1 (Nat.le_of_ble_eq_true rfl) rfl dX9_net_37 ⟨Nat.le_of_ble_eq_true rfl, Nat.le_of_ble_eq_true rfl⟩ (fun u_14 H locs hwu_14 hP hD hS => ?_)
  try dsimp only at hwu_14
  have hP : zP g [[dsk q d], [((d 7), .inl (g.2 2, 2, .inl (aI fk)))], [((d 11), .inl (g.2 4, 3, .inr (.inr (.inr (.inr (rA [s0, s1, s2]))))))], (threeW g (d 3) px t), (noteW g (d 5) e5 y X T sz nx), (storeW g s0 xs0 tt0 nn0 fa0 fb0 fp0), (storeW g s1 xs1 tt1 nn1 fa1 fb1 fp1), (storeW g s2 xs2 tt2 nn2 fa2 fb2 fp2), (textW g (d 0) tx n c2_3 k2_4 s2_5 e2_6 f m2_7), (netW g (d 1) gx v2_8 b2_9 h2_10 o2_11 l2_12), (netW g (d 2) dx v2_8 b2_9 h2_10 o2_11 l2_12)] H := hP
  have hD : zD A [[dsk q d], [((d 7), .inl (g.2 2, 2, .inl (aI fk)))], [((d 11), .inl (g.2 4, 3, .inr (.inr (.inr (.inr (rA [s0, s1, s2]))))))], (threeW g (d 3) px t), (noteW g (d 5) e5 y X T sz nx), (storeW g s0 xs0 tt0 nn0 fa0 fb0 fp0), (storeW g s1 xs1 tt1 nn1 fa1 fb1 fp1), (storeW g s2 xs2 tt2 nn2 fa2 fb2 fp2), (textW g (d 0) tx n c2_3 k2_4 s2_5 e2_6 f m2_7), (netW g (d 1) gx v2_8 b2_9 h2_10 o2_11 l2_12), (netW g (d 2) dx v2_8 b2_9 h2_10 o2_11 l2_12)] := hD
  have hP : zP g [[dsk q d], [((d 7), .inl (g.2 2, 2, .inl (aI fk)))], [((d 11), .inl (g.2 4, 3, .inr (.inr (.inr (.inr (rA [s0, s1, s2]))))))], (textW g (d 0) tx n c2_3 k2_4 s2_5 e2_6 f m2_7), (threeW g (d 3) px t), (noteW g (d 5) e5 y X T sz nx), (storeW g s0 xs0 tt0 nn0 fa0 fb0 fp0), (storeW g s1 xs1 tt1 nn1 fa1 fb1 fp1), (storeW g s2 xs2 tt2 nn2 fa2 fb2 fp2), (netW g (d 1) gx v2_8 b2_9 h2_10 o2_11 l2_12), (netW g (d 2) dx v2_8 b2_9 h2_10 o2_11 l2_12)] H := zP_sub hP [0, 1, 2, 8, 3, 4, 5, 6, 7, 9, 10] rfl
  have hD : zD A [[dsk q d], [((d 7), .inl (g.2 2, 2, .inl (aI fk)))], [((d 11), .inl (g.2 4, 3, .inr (.inr (.inr (.inr (rA [s0, s1, s2]))))))], (textW g (d 0) tx n c2_3 k2_4 s2_5 e2_6 f m2_7), (threeW g (d 3) px t), (noteW g (d 5) e5 y X T sz nx), (storeW g s0 xs0 tt0 nn0 fa0 fb0 fp0), (storeW g s1 xs1 tt1 nn1 fa1 fb1 fp1), (storeW g s2 xs2 tt2 nn2 fa2 fb2 fp2), (netW g (d 1) gx v2_8 b2_9 h2_10 o2_11 l2_12), (netW g (d 2) dx v2_8 b2_9 h2_10 o2_11 l2_12)] := zD_sub hD [0, 1, 2, 8, 3, 4, 5, 6, 7, 9, 10] rfl rfl
  have hP : zP g [[dsk q d], [((d 7), .inl (g.2 2, 2, .inl (aI fk)))], [((d 11), .inl (g.2 4, 3, .inr (.inr (.inr (.inr (rA [s0, s1, s2]))))))], [((d 0), .inr (7, [.ref (tx 0), vI ((n : Nat) : Int), vI ((c2_3 : Nat) : Int), vI ((k2_4 : Nat) : Int), vI ((s2_5 : Nat) : Int), vI ((e2_6 : Nat) : Int), .ref (tx 1)]))], [((tx 0), .inl (g.2 0, 200, .inl (aI f)))], [((tx 1), .inl (g.2 0, 4, .inl (aI m2_7)))], (threeW g (d 3) px t), (noteW g (d 5) e5 y X T sz nx), (storeW g s0 xs0 tt0 nn0 fa0 fb0 fp0), (storeW g s1 xs1 tt1 nn1 fa1 fb1 fp1), (storeW g s2 xs2 tt2 nn2 fa2 fb2 fp2), (netW g (d 1) gx v2_8 b2_9 h2_10 o2_11 l2_12), (netW g (d 2) dx v2_8 b2_9 h2_10 o2_11 l2_12)] H := hP
  have hD : zD A [[dsk q d], [((d 7), .inl (g.2 2, 2, .inl (aI fk)))], [((d 11), .inl (g.2 4, 3, .inr (.inr (.inr (.inr (rA [s0, s1, s2]))))))], [((d 0), .inr (7, [.ref (tx 0), vI ((n : Nat) : Int), vI ((c2_3 : Nat) : Int), vI ((k2_4 : Nat) : Int), vI ((s2_5 : Nat) : Int), vI ((e2_6 : Nat) : Int), .ref (tx 1)]))], [((tx 0), .inl (g.2 0, 200, .inl (aI f)))], [((tx 1), .inl (g.2 0, 4, .inl (aI m2_7)))], (threeW g (d 3) px t), (noteW g (d 5) e5 y X T sz nx), (storeW g s0 xs0 tt0 nn0 fa0 fb0 fp0), (storeW g s1 xs1 tt1 nn1 fa1 fb1 fp1), (storeW g s2 xs2 tt2 nn2 fa2 fb2 fp2), (netW g (d 1) gx v2_8 b2_9 h2_10 o2_11 l2_12), (netW g (d 2) dx v2_8 b2_9 h2_10 o2_11 l2_12)] := hD
  refine lv_aload_n hx hb dX9_net_40 rfl (lv_at hl 0 rfl) ?_
  refine z_get hx hb hts hin9_ hown hK hP 0 rfl rfl 0 (by decide) (hts _ (List.mem_of_getElem? (i := 3) rfl)) rfl dX9_net_41 ?_
  refine z_iconst hx hb dX9_net_44 rfl ?_
  refine z_put hx hb hts hin7_ tyX7 tyX7_ok nmX7 hown hK hP hD hS 3 rfl rfl 1 (by decide) (hts _ (List.mem_of_getElem? (i := 5) rfl)) rfl rfl rfl (Nat.le_of_ble_eq_true rfl) dX9_net_45 [[dsk q d], [((d 7), .inl (g.2 2, 2, .inl (aI fk)))], [((d 11), .inl (g.2 4, 3, .inr (.inr (.inr (.inr (rA [s0, s1, s2]))))))], [((d 0), .inr (7, [.ref (tx 0), vI 0, vI ((c2_3 : Nat) : Int), vI ((k2_4 : Nat) : Int), vI ((s2_5 : Nat) : Int), vI ((e2_6 : Nat) : Int), .ref (tx 1)]))], [((tx 0), .inl (g.2 0, 200, .inl (aI f)))], [((tx 1), .inl (g.2 0, 4, .inl (aI m2_7)))], (threeW g (d 3) px t), (noteW g (d 5) e5 y X T sz nx), (storeW g s0 xs0 tt0 nn0 fa0 fb0 fp0), (storeW g s1 xs1 tt1 nn1 fa1 fb1 fp1), (storeW g s2 xs2 tt2 nn2 fa2 fb2 fp2), (netW g (d 1) gx v2_8 b2_9 h2_10 o2_11 l2_12), (netW g (d 2) dx v2_8 b2_9 h2_10 o2_11 l2_12)] rfl (fun H locs hP hD hS => ?_)
  refine lv_aload_n hx hb dX9_net_48 rfl (lv_at hl 0 rfl) ?_
  refine z_cVv (As := []) (rest := []) ⟨hx, hb, hml, hown, hts⟩ hK hP hD hS hA [0, 6, 7, 1, 2, 8, 9, 10] [3, 4, 5, 11, 12] rfl rfl rfl (c_X9_startAnew l g q d px t e5 y X T sz nx fk s0 xs0 tt0 nn0 fa0 fb0 fp0 s1 xs1 tt1 nn1 fa1 fb1 fp1 s2 xs2 tt2 nn2 fa2 fb2 fp2 (by assumption) (by assumption) (by assumption)) (cwV 0 hts gX9_net_X9_startAnew rfl rfl rfl (by decide +kernel) ⟨Nat.le_of_ble_eq_true rfl, Nat.le_of_ble_eq_true rfl⟩) 9 0 rfl rfl rfl (fun _ _ _ _ _ _ => trivial) (fun _ _ _ => trivial) rfl hl.1 (Nat.le_of_ble_eq_true rfl) rfl dX9_net_49 ⟨Nat.le_of_ble_eq_true rfl, Nat.le_of_ble_eq_true rfl⟩ (fun u_15 H locs hwu_15 hP hD hS => ?_)
  try dsimp only at hwu_15
  have hP : zP g [[((d 0), .inr (7, [.ref (tx 0), vI 0, vI ((c2_3 : Nat) : Int), vI ((k2_4 : Nat) : Int), vI ((s2_5 : Nat) : Int), vI ((e2_6 : Nat) : Int), .ref (tx 1)]))], [((tx 0), .inl (g.2 0, 200, .inl (aI f)))], [((tx 1), .inl (g.2 0, 4, .inl (aI m2_7)))], (netW g (d 1) gx v2_8 b2_9 h2_10 o2_11 l2_12), (netW g (d 2) dx v2_8 b2_9 h2_10 o2_11 l2_12), [dsk q d], (threeW g (d 3) px zT0), (noteW g (d 5) e5 y X T 0 nx), [((d 7), .inl (g.2 2, 2, .inl (aI (uI (uI fk 0 0) 1 0))))], [((d 11), .inl (g.2 4, 3, .inr (.inr (.inr (.inr (rA [s0, s1, s2]))))))], (storeW g s0 xs0 0 0 fa0 fb0 fp0), (storeW g s1 xs1 0 0 fa1 fb1 fp1), (storeW g s2 xs2 0 0 fa2 fb2 fp2)] H := hP
  have hD : zD A [[((d 0), .inr (7, [.ref (tx 0), vI 0, vI ((c2_3 : Nat) : Int), vI ((k2_4 : Nat) : Int), vI ((s2_5 : Nat) : Int), vI ((e2_6 : Nat) : Int), .ref (tx 1)]))], [((tx 0), .inl (g.2 0, 200, .inl (aI f)))], [((tx 1), .inl (g.2 0, 4, .inl (aI m2_7)))], (netW g (d 1) gx v2_8 b2_9 h2_10 o2_11 l2_12), (netW g (d 2) dx v2_8 b2_9 h2_10 o2_11 l2_12), [dsk q d], (threeW g (d 3) px zT0), (noteW g (d 5) e5 y X T 0 nx), [((d 7), .inl (g.2 2, 2, .inl (aI (uI (uI fk 0 0) 1 0))))], [((d 11), .inl (g.2 4, 3, .inr (.inr (.inr (.inr (rA [s0, s1, s2]))))))], (storeW g s0 xs0 0 0 fa0 fb0 fp0), (storeW g s1 xs1 0 0 fa1 fb1 fp1), (storeW g s2 xs2 0 0 fa2 fb2 fp2)] := hD
  have hP : zP g [[((d 0), .inr (7, [.ref (tx 0), vI 0, vI ((c2_3 : Nat) : Int), vI ((k2_4 : Nat) : Int), vI ((s2_5 : Nat) : Int), vI ((e2_6 : Nat) : Int), .ref (tx 1)]))], [((tx 0), .inl (g.2 0, 200, .inl (aI f)))], [((tx 1), .inl (g.2 0, 4, .inl (aI m2_7)))], [dsk q d], [((d 7), .inl (g.2 2, 2, .inl (aI (uI (uI fk 0 0) 1 0))))], [((d 11), .inl (g.2 4, 3, .inr (.inr (.inr (.inr (rA [s0, s1, s2]))))))], (netW g (d 1) gx v2_8 b2_9 h2_10 o2_11 l2_12), (netW g (d 2) dx v2_8 b2_9 h2_10 o2_11 l2_12), (threeW g (d 3) px zT0), (noteW g (d 5) e5 y X T 0 nx), (storeW g s0 xs0 0 0 fa0 fb0 fp0), (storeW g s1 xs1 0 0 fa1 fb1 fp1), (storeW g s2 xs2 0 0 fa2 fb2 fp2)] H := zP_sub hP [0, 1, 2, 5, 8, 9, 3, 4, 6, 7, 10, 11, 12] rfl
  have hD : zD A [[((d 0), .inr (7, [.ref (tx 0), vI 0, vI ((c2_3 : Nat) : Int), vI ((k2_4 : Nat) : Int), vI ((s2_5 : Nat) : Int), vI ((e2_6 : Nat) : Int), .ref (tx 1)]))], [((tx 0), .inl (g.2 0, 200, .inl (aI f)))], [((tx 1), .inl (g.2 0, 4, .inl (aI m2_7)))], [dsk q d], [((d 7), .inl (g.2 2, 2, .inl (aI (uI (uI fk 0 0) 1 0))))], [((d 11), .inl (g.2 4, 3, .inr (.inr (.inr (.inr (rA [s0, s1, s2]))))))], (netW g (d 1) gx v2_8 b2_9 h2_10 o2_11 l2_12), (netW g (d 2) dx v2_8 b2_9 h2_10 o2_11 l2_12), (threeW g (d 3) px zT0), (noteW g (d 5) e5 y X T 0 nx), (storeW g s0 xs0 0 0 fa0 fb0 fp0), (storeW g s1 xs1 0 0 fa1 fb1 fp1), (storeW g s2 xs2 0 0 fa2 fb2 fp2)] := zD_sub hD [0, 1, 2, 5, 8, 9, 3, 4, 6, 7, 10, 11, 12] rfl rfl
  refine lv_aload_n hx hb dX9_net_52 rfl (lv_at hl 0 rfl) ?_
  refine z_get hx hb hts hin9_ hown hK hP 3 rfl rfl 0 (by decide) (hts _ (List.mem_of_getElem? (i := 3) rfl)) rfl dX9_net_53 ?_
  refine z_get hx hb hts hin7_ hown hK hP 0 rfl rfl 2 (by decide) (hts _ (List.mem_of_getElem? (i := 6) rfl)) rfl dX9_net_56 ?_
  have hP : zP g [[dsk q d], [((d 7), .inl (g.2 2, 2, .inl (aI (uI (uI fk 0 0) 1 0))))], [((d 11), .inl (g.2 4, 3, .inr (.inr (.inr (.inr (rA [s0, s1, s2]))))))], [((d 0), .inr (7, [.ref (tx 0), vI 0, vI ((c2_3 : Nat) : Int), vI ((k2_4 : Nat) : Int), vI ((s2_5 : Nat) : Int), vI ((e2_6 : Nat) : Int), .ref (tx 1)]))], [((tx 0), .inl (g.2 0, 200, .inl (aI f)))], [((tx 1), .inl (g.2 0, 4, .inl (aI m2_7)))], (netW g (d 1) gx v2_8 b2_9 h2_10 o2_11 l2_12), (netW g (d 2) dx v2_8 b2_9 h2_10 o2_11 l2_12), (threeW g (d 3) px zT0), (noteW g (d 5) e5 y X T 0 nx), (storeW g s0 xs0 0 0 fa0 fb0 fp0), (storeW g s1 xs1 0 0 fa1 fb1 fp1), (storeW g s2 xs2 0 0 fa2 fb2 fp2)] H := zP_sub hP [3, 4, 5, 0, 1, 2, 6, 7, 8, 9, 10, 11, 12] rfl
  have hD : zD A [[dsk q d], [((d 7), .inl (g.2 2, 2, .inl (aI (uI (uI fk 0 0) 1 0))))], [((d 11), .inl (g.2 4, 3, .inr (.inr (.inr (.inr (rA [s0, s1, s2]))))))], [((d 0), .inr (7, [.ref (tx 0), vI 0, vI ((c2_3 : Nat) : Int), vI ((k2_4 : Nat) : Int), vI ((s2_5 : Nat) : Int), vI ((e2_6 : Nat) : Int), .ref (tx 1)]))], [((tx 0), .inl (g.2 0, 200, .inl (aI f)))], [((tx 1), .inl (g.2 0, 4, .inl (aI m2_7)))], (netW g (d 1) gx v2_8 b2_9 h2_10 o2_11 l2_12), (netW g (d 2) dx v2_8 b2_9 h2_10 o2_11 l2_12), (threeW g (d 3) px zT0), (noteW g (d 5) e5 y X T 0 nx), (storeW g s0 xs0 0 0 fa0 fb0 fp0), (storeW g s1 xs1 0 0 fa1 fb1 fp1), (storeW g s2 xs2 0 0 fa2 fb2 fp2)] := zD_sub hD [3, 4, 5, 0, 1, 2, 6, 7, 8, 9, 10, 11, 12] rfl rfl
  have hP : zP g [[dsk q d], [((d 7), .inl (g.2 2, 2, .inl (aI (uI (uI fk 0 0) 1 0))))], [((d 11), .inl (g.2 4, 3, .inr (.inr (.inr (.inr (rA [s0, s1, s2]))))))], (textW g (d 0) tx 0 c2_3 k2_4 s2_5 e2_6 f m2_7), (netW g (d 1) gx v2_8 b2_9 h2_10 o2_11 l2_12), (netW g (d 2) dx v2_8 b2_9 h2_10 o2_11 l2_12), (threeW g (d 3) px zT0), (noteW g (d 5) e5 y X T 0 nx), (storeW g s0 xs0 0 0 fa0 fb0 fp0), (storeW g s1 xs1 0 0 fa1 fb1 fp1), (storeW g s2 xs2 0 0 fa2 fb2 fp2)] H := hP
  have hD : zD A [[dsk q d], [((d 7), .inl (g.2 2, 2, .inl (aI (uI (uI fk 0 0) 1 0))))], [((d 11), .inl (g.2 4, 3, .inr (.inr (.inr (.inr (rA [s0, s1, s2]))))))], (textW g (d 0) tx 0 c2_3 k2_4 s2_5 e2_6 f m2_7), (netW g (d 1) gx v2_8 b2_9 h2_10 o2_11 l2_12), (netW g (d 2) dx v2_8 b2_9 h2_10 o2_11 l2_12), (threeW g (d 3) px zT0), (noteW g (d 5) e5 y X T 0 nx), (storeW g s0 xs0 0 0 fa0 fb0 fp0), (storeW g s1 xs1 0 0 fa1 fb1 fp1), (storeW g s2 xs2 0 0 fa2 fb2 fp2)] := hD
  exact z_reti (c2_3, k2_4, s2_5, e2_6, m2_7, v2_8, b2_9, h2_10, o2_11, l2_12) [0, 3, 4, 5, 6, 7, 1, 2, 8, 9, 10] hx hb hr rfl hlocks hK hP hD hS (rfl) (hwu_2 ho) rfl rfl (rfl) (Nat.le_of_ble_eq_true rfl) (Nat.le_of_ble_eq_true rfl) dX9_net_59
