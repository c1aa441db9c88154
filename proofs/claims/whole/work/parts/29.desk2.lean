set_option maxHeartbeats 4000000 in
set_option maxRecDepth 100000 in
theorem c_X9_isNoBus (l : Launch) (g : zG) (q : Nat) (d : Nat → Nat) (gx : Nat → Nat) (v : Int) (b : Nat) (h : Nat → Int) (o : Nat → Int) (l_ : Nat → Int) (i : Int) (hi : -2147483648 ≤ i ∧ i < 2147483648) (hb6 : b ≤ 6) : zMet l g yX9_isNoBus wsX9_isNoBus 1 0 0 [.ref q, vI i] zX0 [[dsk q d], (netW g (d 1) gx v b h o l_)] (qi g (fun (_ : Unit) => (oU i 0 ((b : Int) - 1))) (fun (_ : Unit) => True) (fun (_ : Unit) => [[dsk q d], (netW g (d 1) gx v b h o l_)])) := by
  refine z_ent (cc := cX9_isNoBus) (maxL := 2) (ret := (some .boolean)) (by decide) rfl (Nat.le_of_ble_eq_true rfl) ?_
  intro p e s m below meth c A ls hx hb hr hml hown hts hlocks hin0 hA hK hP hD hS hXX hl
  have hown : s.vm.findClass RX9 = some m.cls := hown
  have hin2_ : ∀ w ∈ wsX20, w ∈ wsX9_isNoBus := zw_in [19, 20, 21, 22, 23] rfl
  have hin9_ : ∀ w ∈ wsX90, w ∈ wsX9_isNoBus := zw_in [7, 8, 9, 10, 11, 12, 13, 14, 15, 16, 17, 18] rfl
  have hl : lv_has ls 2 [(0, .ref q), (1, vI i)] := hl
  have hP : zP g [[dsk q d], [((d 1), .inr (2, [vI v, vI ((b : Nat) : Int), .ref (gx 0), .ref (gx 1), .ref (gx 2)]))], [((gx 0), .inl (g.2 0, 6, .inl (aI h)))], [((gx 1), .inl (g.2 0, 18, .inl (aI o)))], [((gx 2), .inl (g.2 0, 6, .inl (aI l_)))]] s.heap := hP
  have hD : zD A [[dsk q d], [((d 1), .inr (2, [vI v, vI ((b : Nat) : Int), .ref (gx 0), .ref (gx 1), .ref (gx 2)]))], [((gx 0), .inl (g.2 0, 6, .inl (aI h)))], [((gx 1), .inl (g.2 0, 18, .inl (aI o)))], [((gx 2), .inl (g.2 0, 6, .inl (aI l_)))]] := hD
  refine lv_iload_n hx hb dX9_isNoBus_0 rfl (lv_at hl 1 rfl) ?_
  refine z_iconst hx hb dX9_isNoBus_1 rfl ?_
  refine lv_aload_n hx hb dX9_isNoBus_2 rfl (lv_at hl 0 rfl) ?_
  refine z_get hx hb hts hin9_ hown hK hP 0 rfl rfl 1 (by decide) (hts _ (List.mem_of_getElem? (i := 1) rfl)) rfl dX9_isNoBus_3 ?_
  refine z_get hx hb hts hin2_ hown hK hP 1 rfl rfl 1 (by decide) (hts _ (List.mem_of_getElem? (i := 2) rfl)) rfl dX9_isNoBus_6 ?_
  refine z_iconst hx hb dX9_isNoBus_9 rfl ?_
  refine z_isub hx hb (((b : Nat) : Int) - 1) rfl dX9_isNoBus_10 ?_
  refine z_cSi (As := [vI i, vI 0, vI (((b : Nat) : Int) - 1)]) (rest := []) ⟨hx, hb, hml, hown, hts⟩ hK hP hD hS hA [] [0, 1, 2, 3, 4] rfl rfl rfl (c_X9_isOutside l g i 0 (((b : Nat) : Int) - 1) (by first | assumption | omega | decide) (by first | assumption | omega | decide) (by first | assumption | omega | decide)) (va_cwS 3 hts gX9_isNoBus_X9_isOutside rfl rfl rfl (by decide +kernel) ⟨Nat.le_of_ble_eq_true rfl, Nat.le_of_ble_eq_true rfl⟩) (fun _ _ _ _ _ _ => trivial) (fun _ _ _ => trivial) rfl hl.1 (Nat.le_of_ble_eq_true rfl) rfl dX9_isNoBus_11 ⟨Nat.le_of_ble_eq_true rfl, Nat.le_of_ble_eq_true rfl⟩ (fun u_1 H locs hwu_1 hP hD hS => ?_)
  try dsimp only at hwu_1
  have hP : zP g [[dsk q d], [((d 1), .inr (2, [vI v, vI ((b : Nat) : Int), .ref (gx 0), .ref (gx 1), .ref (gx 2)]))], [((gx 0), .inl (g.2 0, 6, .inl (aI h)))], [((gx 1), .inl (g.2 0, 18, .inl (aI o)))], [((gx 2), .inl (g.2 0, 6, .inl (aI l_)))]] H := hP
  have hD : zD A [[dsk q d], [((d 1), .inr (2, [vI v, vI ((b : Nat) : Int), .ref (gx 0), .ref (gx 1), .ref (gx 2)]))], [((gx 0), .inl (g.2 0, 6, .inl (aI h)))], [((gx 1), .inl (g.2 0, 18, .inl (aI o)))], [((gx 2), .inl (g.2 0, 6, .inl (aI l_)))]] := hD
  refine z_toI (oU i 0 (((b : Nat) : Int) - 1)) rfl ?_
  have hf_2 := oU_s i 0 (((b : Nat) : Int) - 1)
  have hP : zP g [[dsk q d], (netW g (d 1) gx v b h o l_)] H := hP
  have hD : zD A [[dsk q d], (netW g (d 1) gx v b h o l_)] := hD
  exact z_reti () [0, 1] hx hb hr (nar_z (by first | decide | omega)) hlocks hK hP hD hS (rfl) trivial rfl rfl (rfl) (Nat.le_of_ble_eq_true rfl) (Nat.le_of_ble_eq_true rfl) dX9_isNoBus_14

set_option maxHeartbeats 4000000 in
set_option maxRecDepth 100000 in
theorem c_X9_askFault (l : Launch) (g : zG) (q : Nat) (d : Nat → Nat) (gx : Nat → Nat) (v : Int) (b : Nat) (h : Nat → Int) (o : Nat → Int) (l_ : Nat → Int) (p0 : Int) (p1 : Int) (p2 : Int) (p3 : Int) (s_ : Int) (i : Int) (f : Int) (z : Int) (hN : nok v b h o l_) (hs : -2147483648 ≤ s_ ∧ s_ < 2147483648) (hi : -2147483648 ≤ i ∧ i < 2147483648) (hf : -2147483648 ≤ f ∧ f < 2147483648) (hz : z = 0 ∨ z = 1) : zMet l g yX9_askFault wsX9_askFault 2 0 0 [.ref q, vI s_, vI i, vI f, vI z] zX0 [[dsk q d], (netW g (d 1) gx v b h o l_), [flw (d 9) p0 p1 p2 p3]] (qi g (fun (u_ : Int × Int × Int × Int) => (aAsk v b h o s_ i f z)) (fun (u_ : Int × Int × Int × Int) => ((aAsk v b h o s_ i f z) = 0 → u_.1 = (fP0 s_ v (zUp h o 0 i.toNat) (zUp h o 1 i.toNat) (zUp h o 2 i.toNat) f) ∧ u_.2.1 = (fP1 s_ v (zUp h o 0 i.toNat) (zUp h o 1 i.toNat) (zUp h o 2 i.toNat) f) ∧ u_.2.2.1 = (fP2 s_ v (zUp h o 0 i.toNat) (zUp h o 1 i.toNat) (zUp h o 2 i.toNat) f) ∧ u_.2.2.2 = (fBl s_ (zUp h o 0 i.toNat) (zUp h o 1 i.toNat) (zUp h o 2 i.toNat) f))) (fun (u_ : Int × Int × Int × Int) => [[dsk q d], (netW g (d 1) gx v b h o l_), [flw (d 9) u_.1 u_.2.1 u_.2.2.1 u_.2.2.2]])) := by
  obtain ⟨hn1, hn2, hn3, hn4, hn5, hn6, hn7⟩ := id hN
  refine z_ent (cc := cX9_askFault) (maxL := 5) (ret := (some .int)) (by decide) rfl (Nat.le_of_ble_eq_true rfl) ?_
  intro p e s m below meth c A ls hx hb hr hml hown hts hlocks hin0 hA hK hP hD hS hXX hl
  have hown : s.vm.findClass RX9 = some m.cls := hown
  have hin9_ : ∀ w ∈ wsX90, w ∈ wsX9_askFault := zw_in [42, 43, 44, 45, 46, 47, 48, 49, 50, 51, 52, 53] rfl
  have hl : lv_has ls 5 [(0, .ref q), (1, vI s_), (2, vI i), (3, vI f), (4, vI z)] := hl
  refine lv_aload_n hx hb dX9_askFault_0 rfl (lv_at hl 0 rfl) ?_
  refine lv_iload_n hx hb dX9_askFault_1 rfl (lv_at hl 2 rfl) ?_
  refine z_cVi (As := [vI i]) (rest := []) ⟨hx, hb, hml, hown, hts⟩ hK hP hD hS hA [0, 1] [2] rfl rfl rfl (c_X9_isNoBus l g q d gx v b h o l_ i (by omega) (by omega)) (cwV 1 hts gX9_askFault_X9_isNoBus rfl rfl rfl (by decide +kernel) ⟨Nat.le_of_ble_eq_true rfl, Nat.le_of_ble_eq_true rfl⟩) 9 0 rfl rfl rfl (fun _ _ _ _ _ _ => trivial) (fun _ _ _ => trivial) rfl hl.1 (Nat.le_of_ble_eq_true rfl) rfl dX9_askFault_2 ⟨Nat.le_of_ble_eq_true rfl, Nat.le_of_ble_eq_true rfl⟩ (fun u_1 H locs hwu_1 hP hD hS => ?_)
  try dsimp only at hwu_1
  have hP : zP g [[flw (d 9) p0 p1 p2 p3], [dsk q d], (netW g (d 1) gx v b h o l_)] H := hP
  have hD : zD A [[flw (d 9) p0 p1 p2 p3], [dsk q d], (netW g (d 1) gx v b h o l_)] := hD
  refine z_toI (oU i 0 ((b : Int) - 1)) rfl ?_
  have hf_2 := oU_s i 0 ((b : Int) - 1)
  refine z_if_eq (tgt := 11) hx hb (by omega) dX9_askFault_5 (by decide) (fun cq3 => ?_) (fun cq3 => ?_)
  · refine lv_iload_n hx hb dX9_askFault_11 rfl (lv_at hl 1 rfl) ?_
    refine z_cSi (As := [vI s_]) (rest := []) ⟨hx, hb, hml, hown, hts⟩ hK hP hD hS hA [] [0, 1, 2] rfl rfl rfl (c_X9_isNoSort l g s_ (by first | assumption | omega | decide)) (va_cwS 1 hts gX9_askFault_X9_isNoSort rfl rfl rfl (by decide +kernel) ⟨Nat.le_of_ble_eq_true rfl, Nat.le_of_ble_eq_true rfl⟩) (fun _ _ _ _ _ _ => trivial) (fun _ _ _ => trivial) rfl hl.1 (Nat.le_of_ble_eq_true rfl) rfl dX9_askFault_12 ⟨Nat.le_of_ble_eq_true rfl, Nat.le_of_ble_eq_true rfl⟩ (fun u_4 H locs hwu_4 hP hD hS => ?_)
    try dsimp only at hwu_4
    have hP : zP g [[flw (d 9) p0 p1 p2 p3], [dsk q d], (netW g (d 1) gx v b h o l_)] H := hP
    have hD : zD A [[flw (d 9) p0 p1 p2 p3], [dsk q d], (netW g (d 1) gx v b h o l_)] := hD
    refine z_toI (oU s_ 0 3) rfl ?_
    have hf_5 := oU_s s_ 0 3
    refine z_if_ne (tgt := 30) hx hb (by omega) dX9_askFault_15 (by decide) (fun cq6 => ?_) (fun cq6 => ?_)
    · refine z_ldc hx hb (-2000000002) hown (hts _ (List.mem_of_getElem? (i := 2) rfl)) rfl dX9_askFault_30 ?_
      have hA9 := aAsk_s v b h o s_ i f z
      have hA8 := fun q => aAsk_0 (v := v) (b := b) (h := h) (o := o) (s := s_) (i := i) (f := f) (z := z) q
      exact z_reti (p0, p1, p2, p3) [1, 2, 0] hx hb hr rfl hlocks hK hP hD hS (by omega) (fun q9 => False.elim (by have := hA8 q9; omega)) rfl rfl (rfl) (Nat.le_of_ble_eq_true rfl) (Nat.le_of_ble_eq_true rfl) dX9_askFault_32
    · refine lv_iload_n hx hb dX9_askFault_18 rfl (lv_at hl 3 rfl) ?_
      refine z_cSi (As := [vI f]) (rest := []) ⟨hx, hb, hml, hown, hts⟩ hK hP hD hS hA [] [0, 1, 2] rfl rfl rfl (c_X9_isNoOhms l g f (by first | assumption | omega | decide)) (va_cwS 1 hts gX9_askFault_X9_isNoOhms rfl rfl rfl (by decide +kernel) ⟨Nat.le_of_ble_eq_true rfl, Nat.le_of_ble_eq_true rfl⟩) (fun _ _ _ _ _ _ => trivial) (fun _ _ _ => trivial) rfl hl.1 (Nat.le_of_ble_eq_true rfl) rfl dX9_askFault_19 ⟨Nat.le_of_ble_eq_true rfl, Nat.le_of_ble_eq_true rfl⟩ (fun u_7 H locs hwu_7 hP hD hS => ?_)
      try dsimp only at hwu_7
      have hP : zP g [[flw (d 9) p0 p1 p2 p3], [dsk q d], (netW g (d 1) gx v b h o l_)] H := hP
      have hD : zD A [[flw (d 9) p0 p1 p2 p3], [dsk q d], (netW g (d 1) gx v b h o l_)] := hD
      refine z_toI (oU f 0 9) rfl ?_
      have hf_8 := oU_s f 0 9
      refine z_if_ne (tgt := 30) hx hb (by omega) dX9_askFault_22 (by decide) (fun cq9 => ?_) (fun cq9 => ?_)
      · refine z_ldc hx hb (-2000000002) hown (hts _ (List.mem_of_getElem? (i := 2) rfl)) rfl dX9_askFault_30 ?_
        have hA9 := aAsk_s v b h o s_ i f z
        have hA8 := fun q => aAsk_0 (v := v) (b := b) (h := h) (o := o) (s := s_) (i := i) (f := f) (z := z) q
        exact z_reti (p0, p1, p2, p3) [1, 2, 0] hx hb hr rfl hlocks hK hP hD hS (by omega) (fun q9 => False.elim (by have := hA8 q9; omega)) rfl rfl (rfl) (Nat.le_of_ble_eq_true rfl) (Nat.le_of_ble_eq_true rfl) dX9_askFault_32
      · refine lv_iload hx hb dX9_askFault_25 (lv_at hl 4 rfl) ?_
        refine z_if_eq (tgt := 33) hx hb (by omega) dX9_askFault_27 (by decide) (fun cq10 => ?_) (fun cq10 => ?_)
        · obtain ⟨j, rfl⟩ : ∃ j : Nat, i = (j : Int) := ⟨i.toNat, by omega⟩
          refine lv_aload_n hx hb dX9_askFault_33 rfl (lv_at hl 0 rfl) ?_
          refine z_get hx hb hts hin9_ hown hK hP 1 rfl rfl 9 (by decide) (hts _ (List.mem_of_getElem? (i := 3) rfl)) rfl dX9_askFault_34 ?_
          refine lv_aload_n hx hb dX9_askFault_37 rfl (lv_at hl 0 rfl) ?_
          refine z_get hx hb hts hin9_ hown hK hP 1 rfl rfl 1 (by decide) (hts _ (List.mem_of_getElem? (i := 4) rfl)) rfl dX9_askFault_38 ?_
          refine lv_iload_n hx hb dX9_askFault_41 rfl (lv_at hl 1 rfl) ?_
          refine lv_iload_n hx hb dX9_askFault_42 rfl (lv_at hl 2 rfl) ?_
          refine lv_iload_n hx hb dX9_askFault_43 rfl (lv_at hl 3 rfl) ?_
          refine z_cVi (As := [.ref (d 1), vI s_, vI ((j : Nat) : Int), vI f]) (rest := []) ⟨hx, hb, hml, hown, hts⟩ hK hP hD hS hA [0, 2] [1] rfl rfl rfl (c_X0_takeFault l g (d 9) p0 p1 p2 p3 (d 1) gx v b h o l_ s_ j f hN (by omega) (by omega) (by omega)) (cwV 4 hts gX9_askFault_X0_takeFault rfl rfl rfl (by decide +kernel) ⟨Nat.le_of_ble_eq_true rfl, Nat.le_of_ble_eq_true rfl⟩) 0 0 rfl rfl rfl (fun _ _ _ _ _ _ => trivial) (fun _ _ _ => trivial) rfl hl.1 (Nat.le_of_ble_eq_true rfl) rfl dX9_askFault_44 ⟨Nat.le_of_ble_eq_true rfl, Nat.le_of_ble_eq_true rfl⟩ (fun u_11 H locs hwu_11 hP hD hS => ?_)
          try dsimp only at hwu_11
          have hP : zP g [[dsk q d], [flw (d 9) (fP0 s_ v (zUp h o 0 j) (zUp h o 1 j) (zUp h o 2 j) f) (fP1 s_ v (zUp h o 0 j) (zUp h o 1 j) (zUp h o 2 j) f) (fP2 s_ v (zUp h o 0 j) (zUp h o 1 j) (zUp h o 2 j) f) (fBl s_ (zUp h o 0 j) (zUp h o 1 j) (zUp h o 2 j) f)], (netW g (d 1) gx v b h o l_)] H := hP
          have hD : zD A [[dsk q d], [flw (d 9) (fP0 s_ v (zUp h o 0 j) (zUp h o 1 j) (zUp h o 2 j) f) (fP1 s_ v (zUp h o 0 j) (zUp h o 1 j) (zUp h o 2 j) f) (fP2 s_ v (zUp h o 0 j) (zUp h o 1 j) (zUp h o 2 j) f) (fBl s_ (zUp h o 0 j) (zUp h o 1 j) (zUp h o 2 j) f)], (netW g (d 1) gx v b h o l_)] := hD
          refine z_toI (if 0 < (fBl s_ (zUp h o 0 j) (zUp h o 1 j) (zUp h o 2 j) f) then 1 else 0 : Int) rfl ?_
          have h1f := one_s (0 < (fBl s_ (zUp h o 0 j) (zUp h o 1 j) (zUp h o 2 j) f))
          refine z_toI (one (0 < (fBl s_ (zUp h o 0 j) (zUp h o 1 j) (zUp h o 2 j) f))) rfl ?_
          refine z_if_eq (tgt := 54) hx hb (by omega) dX9_askFault_47 (by decide) (fun cq12 => ?_) (fun cq12 => ?_)
          · refine z_ldc hx hb (-2000000003) hown (hts _ (List.mem_of_getElem? (i := 5) rfl)) rfl dX9_askFault_54 ?_
            have hA9 := aAsk_s v b h o s_ ((j : Nat) : Int) f z
            have hA8 := fun q => aAsk_0 (v := v) (b := b) (h := h) (o := o) (s := s_) (i := ((j : Nat) : Int)) (f := f) (z := z) q
            simp only [Int.toNat_natCast] at hA9
            exact z_reti ((fP0 s_ v (zUp h o 0 j) (zUp h o 1 j) (zUp h o 2 j) f), (fP1 s_ v (zUp h o 0 j) (zUp h o 1 j) (zUp h o 2 j) f), (fP2 s_ v (zUp h o 0 j) (zUp h o 1 j) (zUp h o 2 j) f), (fBl s_ (zUp h o 0 j) (zUp h o 1 j) (zUp h o 2 j) f)) [0, 2, 1] hx hb hr rfl hlocks hK hP hD hS (by omega) (fun _ => ⟨rfl, rfl, rfl, rfl⟩) rfl rfl (rfl) (Nat.le_of_ble_eq_true rfl) (Nat.le_of_ble_eq_true rfl) dX9_askFault_56
          · refine z_iconst hx hb dX9_askFault_50 rfl ?_
            refine lv_goto (tgt := 56) hx hb dX9_askFault_51 (by decide) ?_
            have hA9 := aAsk_s v b h o s_ ((j : Nat) : Int) f z
            have hA8 := fun q => aAsk_0 (v := v) (b := b) (h := h) (o := o) (s := s_) (i := ((j : Nat) : Int)) (f := f) (z := z) q
            simp only [Int.toNat_natCast] at hA9
            exact z_reti ((fP0 s_ v (zUp h o 0 j) (zUp h o 1 j) (zUp h o 2 j) f), (fP1 s_ v (zUp h o 0 j) (zUp h o 1 j) (zUp h o 2 j) f), (fP2 s_ v (zUp h o 0 j) (zUp h o 1 j) (zUp h o 2 j) f), (fBl s_ (zUp h o 0 j) (zUp h o 1 j) (zUp h o 2 j) f)) [0, 2, 1] hx hb hr rfl hlocks hK hP hD hS (by omega) (fun _ => ⟨rfl, rfl, rfl, rfl⟩) rfl rfl (rfl) (Nat.le_of_ble_eq_true rfl) (Nat.le_of_ble_eq_true rfl) dX9_askFault_56
        · refine z_ldc hx hb (-2000000002) hown (hts _ (List.mem_of_getElem? (i := 2) rfl)) rfl dX9_askFault_30 ?_
          have hA9 := aAsk_s v b h o s_ i f z
          have hA8 := fun q => aAsk_0 (v := v) (b := b) (h := h) (o := o) (s := s_) (i := i) (f := f) (z := z) q
          exact z_reti (p0, p1, p2, p3) [1, 2, 0] hx hb hr rfl hlocks hK hP hD hS (by omega) (fun q9 => False.elim (by have := hA8 q9; omega)) rfl rfl (rfl) (Nat.le_of_ble_eq_true rfl) (Nat.le_of_ble_eq_true rfl) dX9_askFault_32
  · refine z_ldc hx hb (-2000000001) hown (hts _ (List.mem_of_getElem? (i := 1) rfl)) rfl dX9_askFault_8 ?_
    have hA9 := aAsk_s v b h o s_ i f z
    have hA8 := fun q => aAsk_0 (v := v) (b := b) (h := h) (o := o) (s := s_) (i := i) (f := f) (z := z) q
    exact z_reti (p0, p1, p2, p3) [1, 2, 0] hx hb hr rfl hlocks hK hP hD hS (by omega) (fun q9 => False.elim (by have := hA8 q9; omega)) rfl rfl (rfl) (Nat.le_of_ble_eq_true rfl) (Nat.le_of_ble_eq_true rfl) dX9_askFault_10

set_option maxHeartbeats 4000000 in
set_option maxRecDepth 100000 in
theorem c_X9_bus (l : Launch) (g : zG) (q : Nat) (d : Nat → Nat) (gx : Nat → Nat) (v : Int) (b : Nat) (h : Nat → Int) (o : Nat → Int) (l_ : Nat → Int) (i : Int) (w : Int) (hN : nok v b h o l_) (hi : -2147483648 ≤ i ∧ i < 2147483648) (hw : -2147483648 ≤ w ∧ w < 2147483648) : zMet l g yX9_bus wsX9_bus 2 0 0 [.ref q, vI i, vI w] zX0 [[dsk q d], (netW g (d 1) gx v b h o l_)] (qi g (fun (_ : Unit) => (aBus v b h o l_ i w)) (fun (_ : Unit) => True) (fun (_ : Unit) => [[dsk q d], (netW g (d 1) gx v b h o l_)])) := by
  obtain ⟨hn1, hn2, hn3, hn4, hn5, hn6, hn7⟩ := id hN
  refine z_ent (cc := cX9_bus) (maxL := 3) (ret := (some .int)) (by decide) rfl (Nat.le_of_ble_eq_true rfl) ?_
  intro p e s m below meth c A ls hx hb hr hml hown hts hlocks hin0 hA hK hP hD hS hXX hl
  have hown : s.vm.findClass RX9 = some m.cls := hown
  have hin2_ : ∀ w ∈ wsX20, w ∈ wsX9_bus := zw_in [39, 40, 41, 42, 43] rfl
  have hin9_ : ∀ w ∈ wsX90, w ∈ wsX9_bus := zw_in [27, 28, 29, 30, 31, 32, 33, 34, 35, 36, 37, 38] rfl
  have hl : lv_has ls 3 [(0, .ref q), (1, vI i), (2, vI w)] := hl
  refine lv_aload_n hx hb dX9_bus_0 rfl (lv_at hl 0 rfl) ?_
  refine lv_iload_n hx hb dX9_bus_1 rfl (lv_at hl 1 rfl) ?_
  refine z_cVi (As := [vI i]) (rest := []) ⟨hx, hb, hml, hown, hts⟩ hK hP hD hS hA [0, 1] [] rfl rfl rfl (c_X9_isNoBus l g q d gx v b h o l_ i (by omega) (by omega)) (cwV 1 hts gX9_bus_X9_isNoBus rfl rfl rfl (by decide +kernel) ⟨Nat.le_of_ble_eq_true rfl, Nat.le_of_ble_eq_true rfl⟩) 9 0 rfl rfl rfl (fun _ _ _ _ _ _ => trivial) (fun _ _ _ => trivial) rfl hl.1 (Nat.le_of_ble_eq_true rfl) rfl dX9_bus_2 ⟨Nat.le_of_ble_eq_true rfl, Nat.le_of_ble_eq_true rfl⟩ (fun u_1 H locs hwu_1 hP hD hS => ?_)
  try dsimp only at hwu_1
  have hP : zP g [[dsk q d], (netW g (d 1) gx v b h o l_)] H := hP
  have hD : zD A [[dsk q d], (netW g (d 1) gx v b h o l_)] := hD
  refine z_toI (oU i 0 ((b : Int) - 1)) rfl ?_
  have hf_2 := oU_s i 0 ((b : Int) - 1)
  refine z_if_eq (tgt := 11) hx hb (by omega) dX9_bus_5 (by decide) (fun cq3 => ?_) (fun cq3 => ?_)
  · obtain ⟨j, rfl⟩ : ∃ j : Nat, i = (j : Int) := ⟨i.toNat, by omega⟩
    refine lv_iload_n hx hb dX9_bus_11 rfl (lv_at hl 2 rfl) ?_
    rcases (show w = 0 ∨ w = 1 ∨ w = 2 ∨ w = 3 ∨ w = 4 ∨ w = 5 ∨ w = 6 ∨ w = 7 ∨ w = 8 ∨ (w < 0 ∨ 8 < w) by omega) with hc_4 | hc_4 | hc_4 | hc_4 | hc_4 | hc_4 | hc_4 | hc_4 | hc_4 | hc_4
    · refine z_swIn hx hb 0 64 hc_4 (by decide) dX9_bus_12 (by decide) (by decide) rfl (by decide) ?_
      subst hc_4
      refine lv_aload_n hx hb dX9_bus_64 rfl (lv_at hl 0 rfl) ?_
      refine z_get hx hb hts hin9_ hown hK hP 0 rfl rfl 1 (by decide) (hts _ (List.mem_of_getElem? (i := 2) rfl)) rfl dX9_bus_65 ?_
      have hP : zP g [[dsk q d], [((d 1), .inr (2, [vI v, vI ((b : Nat) : Int), .ref (gx 0), .ref (gx 1), .ref (gx 2)]))], [((gx 0), .inl (g.2 0, 6, .inl (aI h)))], [((gx 1), .inl (g.2 0, 18, .inl (aI o)))], [((gx 2), .inl (g.2 0, 6, .inl (aI l_)))]] H := hP
      have hD : zD A [[dsk q d], [((d 1), .inr (2, [vI v, vI ((b : Nat) : Int), .ref (gx 0), .ref (gx 1), .ref (gx 2)]))], [((gx 0), .inl (g.2 0, 6, .inl (aI h)))], [((gx 1), .inl (g.2 0, 18, .inl (aI o)))], [((gx 2), .inl (g.2 0, 6, .inl (aI l_)))]] := hD
      refine z_get hx hb hts hin2_ hown hK hP 1 rfl rfl 2 (by decide) (hts _ (List.mem_of_getElem? (i := 3) rfl)) rfl dX9_bus_68 ?_
      refine lv_iload_n hx hb dX9_bus_71 rfl (lv_at hl 1 rfl) ?_
      refine z_iald hx hb hK hP 2 rfl j (by omega) (by omega) (by decide) dX9_bus_72 ?_
      have hP : zP g [[dsk q d], (netW g (d 1) gx v b h o l_)] H := hP
      have hD : zD A [[dsk q d], (netW g (d 1) gx v b h o l_)] := hD
      exact z_reti () [0, 1] hx hb hr rfl hlocks hK hP hD hS (by rw [aBus_in (by omega)]; rfl) trivial rfl rfl (rfl) (Nat.le_of_ble_eq_true rfl) (Nat.le_of_ble_eq_true rfl) dX9_bus_73
    · refine z_swIn hx hb 1 74 hc_4 (by decide) dX9_bus_12 (by decide) (by decide) rfl (by decide) ?_
      subst hc_4
      refine lv_aload_n hx hb dX9_bus_74 rfl (lv_at hl 0 rfl) ?_
      refine z_get hx hb hts hin9_ hown hK hP 0 rfl rfl 1 (by decide) (hts _ (List.mem_of_getElem? (i := 2) rfl)) rfl dX9_bus_75 ?_
      have hP : zP g [[dsk q d], [((d 1), .inr (2, [vI v, vI ((b : Nat) : Int), .ref (gx 0), .ref (gx 1), .ref (gx 2)]))], [((gx 0), .inl (g.2 0, 6, .inl (aI h)))], [((gx 1), .inl (g.2 0, 18, .inl (aI o)))], [((gx 2), .inl (g.2 0, 6, .inl (aI l_)))]] H := hP
      have hD : zD A [[dsk q d], [((d 1), .inr (2, [vI v, vI ((b : Nat) : Int), .ref (gx 0), .ref (gx 1), .ref (gx 2)]))], [((gx 0), .inl (g.2 0, 6, .inl (aI h)))], [((gx 1), .inl (g.2 0, 18, .inl (aI o)))], [((gx 2), .inl (g.2 0, 6, .inl (aI l_)))]] := hD
      refine z_get hx hb hts hin2_ hown hK hP 1 rfl rfl 3 (by decide) (hts _ (List.mem_of_getElem? (i := 4) rfl)) rfl dX9_bus_78 ?_
      refine lv_iload_n hx hb dX9_bus_81 rfl (lv_at hl 1 rfl) ?_
      refine z_iconst hx hb dX9_bus_82 rfl ?_
      refine z_imul hx hb (((j * 3) : Nat) : Int) (by omega) dX9_bus_83 ?_
      refine lv_iload_n hx hb dX9_bus_84 rfl (lv_at hl 2 rfl) ?_
      refine z_iadd hx hb ((((j * 3) + 1) : Nat) : Int) (by omega) dX9_bus_85 ?_
      refine z_iconst hx hb dX9_bus_86 rfl ?_
      refine z_isub hx hb (((((j * 3) + 1) : Nat) : Int) - 1) rfl dX9_bus_87 ?_
      refine z_toI (((j * 3 + 0) : Nat) : Int) (by omega) ?_
      refine z_iald hx hb hK hP 3 rfl (j * 3 + 0) (by omega) (by omega) (by decide) dX9_bus_88 ?_
      have hP : zP g [[dsk q d], (netW g (d 1) gx v b h o l_)] H := hP
      have hD : zD A [[dsk q d], (netW g (d 1) gx v b h o l_)] := hD
      exact z_reti () [0, 1] hx hb hr rfl hlocks hK hP hD hS (by rw [aBus_in (by omega)]; rfl) trivial rfl rfl (rfl) (Nat.le_of_ble_eq_true rfl) (Nat.le_of_ble_eq_true rfl) dX9_bus_89
    · refine z_swIn hx hb 2 74 hc_4 (by decide) dX9_bus_12 (by decide) (by decide) rfl (by decide) ?_
      subst hc_4
      refine lv_aload_n hx hb dX9_bus_74 rfl (lv_at hl 0 rfl) ?_
      refine z_get hx hb hts hin9_ hown hK hP 0 rfl rfl 1 (by decide) (hts _ (List.mem_of_getElem? (i := 2) rfl)) rfl dX9_bus_75 ?_
      have hP : zP g [[dsk q d], [((d 1), .inr (2, [vI v, vI ((b : Nat) : Int), .ref (gx 0), .ref (gx 1), .ref (gx 2)]))], [((gx 0), .inl (g.2 0, 6, .inl (aI h)))], [((gx 1), .inl (g.2 0, 18, .inl (aI o)))], [((gx 2), .inl (g.2 0, 6, .inl (aI l_)))]] H := hP
      have hD : zD A [[dsk q d], [((d 1), .inr (2, [vI v, vI ((b : Nat) : Int), .ref (gx 0), .ref (gx 1), .ref (gx 2)]))], [((gx 0), .inl (g.2 0, 6, .inl (aI h)))], [((gx 1), .inl (g.2 0, 18, .inl (aI o)))], [((gx 2), .inl (g.2 0, 6, .inl (aI l_)))]] := hD
      refine z_get hx hb hts hin2_ hown hK hP 1 rfl rfl 3 (by decide) (hts _ (List.mem_of_getElem? (i := 4) rfl)) rfl dX9_bus_78 ?_
      refine lv_iload_n hx hb dX9_bus_81 rfl (lv_at hl 1 rfl) ?_
      refine z_iconst hx hb dX9_bus_82 rfl ?_
      refine z_imul hx hb (((j * 3) : Nat) : Int) (by omega) dX9_bus_83 ?_
      refine lv_iload_n hx hb dX9_bus_84 rfl (lv_at hl 2 rfl) ?_
      refine z_iadd hx hb ((((j * 3) + 2) : Nat) : Int) (by omega) dX9_bus_85 ?_
      refine z_iconst hx hb dX9_bus_86 rfl ?_
      refine z_isub hx hb (((((j * 3) + 2) : Nat) : Int) - 1) rfl dX9_bus_87 ?_
      refine z_toI (((j * 3 + 1) : Nat) : Int) (by omega) ?_
      refine z_iald hx hb hK hP 3 rfl (j * 3 + 1) (by omega) (by omega) (by decide) dX9_bus_88 ?_
      have hP : zP g [[dsk q d], (netW g (d 1) gx v b h o l_)] H := hP
      have hD : zD A [[dsk q d], (netW g (d 1) gx v b h o l_)] := hD
      exact z_reti () [0, 1] hx hb hr rfl hlocks hK hP hD hS (by rw [aBus_in (by omega)]; rfl) trivial rfl rfl (rfl) (Nat.le_of_ble_eq_true rfl) (Nat.le_of_ble_eq_true rfl) dX9_bus_89
    · refine z_swIn hx hb 3 74 hc_4 (by decide) dX9_bus_12 (by decide) (by decide) rfl (by decide) ?_
      subst hc_4
      refine lv_aload_n hx hb dX9_bus_74 rfl (lv_at hl 0 rfl) ?_
      refine z_get hx hb hts hin9_ hown hK hP 0 rfl rfl 1 (by decide) (hts _ (List.mem_of_getElem? (i := 2) rfl)) rfl dX9_bus_75 ?_
      have hP : zP g [[dsk q d], [((d 1), .inr (2, [vI v, vI ((b : Nat) : Int), .ref (gx 0), .ref (gx 1), .ref (gx 2)]))], [((gx 0), .inl (g.2 0, 6, .inl (aI h)))], [((gx 1), .inl (g.2 0, 18, .inl (aI o)))], [((gx 2), .inl (g.2 0, 6, .inl (aI l_)))]] H := hP
      have hD : zD A [[dsk q d], [((d 1), .inr (2, [vI v, vI ((b : Nat) : Int), .ref (gx 0), .ref (gx 1), .ref (gx 2)]))], [((gx 0), .inl (g.2 0, 6, .inl (aI h)))], [((gx 1), .inl (g.2 0, 18, .inl (aI o)))], [((gx 2), .inl (g.2 0, 6, .inl (aI l_)))]] := hD
      refine z_get hx hb hts hin2_ hown hK hP 1 rfl rfl 3 (by decide) (hts _ (List.mem_of_getElem? (i := 4) rfl)) rfl dX9_bus_78 ?_
      refine lv_iload_n hx hb dX9_bus_81 rfl (lv_at hl 1 rfl) ?_
      refine z_iconst hx hb dX9_bus_82 rfl ?_
      refine z_imul hx hb (((j * 3) : Nat) : Int) (by omega) dX9_bus_83 ?_
      refine lv_iload_n hx hb dX9_bus_84 rfl (lv_at hl 2 rfl) ?_
      refine z_iadd hx hb ((((j * 3) + 3) : Nat) : Int) (by omega) dX9_bus_85 ?_
      refine z_iconst hx hb dX9_bus_86 rfl ?_
      refine z_isub hx hb (((((j * 3) + 3) : Nat) : Int) - 1) rfl dX9_bus_87 ?_
      refine z_toI (((j * 3 + 2) : Nat) : Int) (by omega) ?_
      refine z_iald hx hb hK hP 3 rfl (j * 3 + 2) (by omega) (by omega) (by decide) dX9_bus_88 ?_
      have hP : zP g [[dsk q d], (netW g (d 1) gx v b h o l_)] H := hP
      have hD : zD A [[dsk q d], (netW g (d 1) gx v b h o l_)] := hD
      exact z_reti () [0, 1] hx hb hr rfl hlocks hK hP hD hS (by rw [aBus_in (by omega)]; rfl) trivial rfl rfl (rfl) (Nat.le_of_ble_eq_true rfl) (Nat.le_of_ble_eq_true rfl) dX9_bus_89
    · refine z_swIn hx hb 4 90 hc_4 (by decide) dX9_bus_12 (by decide) (by decide) rfl (by decide) ?_
      subst hc_4
      refine lv_aload_n hx hb dX9_bus_90 rfl (lv_at hl 0 rfl) ?_
      refine z_get hx hb hts hin9_ hown hK hP 0 rfl rfl 1 (by decide) (hts _ (List.mem_of_getElem? (i := 2) rfl)) rfl dX9_bus_91 ?_
      have hP : zP g [[dsk q d], [((d 1), .inr (2, [vI v, vI ((b : Nat) : Int), .ref (gx 0), .ref (gx 1), .ref (gx 2)]))], [((gx 0), .inl (g.2 0, 6, .inl (aI h)))], [((gx 1), .inl (g.2 0, 18, .inl (aI o)))], [((gx 2), .inl (g.2 0, 6, .inl (aI l_)))]] H := hP
      have hD : zD A [[dsk q d], [((d 1), .inr (2, [vI v, vI ((b : Nat) : Int), .ref (gx 0), .ref (gx 1), .ref (gx 2)]))], [((gx 0), .inl (g.2 0, 6, .inl (aI h)))], [((gx 1), .inl (g.2 0, 18, .inl (aI o)))], [((gx 2), .inl (g.2 0, 6, .inl (aI l_)))]] := hD
      refine z_get hx hb hts hin2_ hown hK hP 1 rfl rfl 4 (by decide) (hts _ (List.mem_of_getElem? (i := 5) rfl)) rfl dX9_bus_94 ?_
      refine lv_iload_n hx hb dX9_bus_97 rfl (lv_at hl 1 rfl) ?_
      refine z_iald hx hb hK hP 4 rfl j (by omega) (by omega) (by decide) dX9_bus_98 ?_
      have hP : zP g [[dsk q d], (netW g (d 1) gx v b h o l_)] H := hP
      have hD : zD A [[dsk q d], (netW g (d 1) gx v b h o l_)] := hD
      exact z_reti () [0, 1] hx hb hr rfl hlocks hK hP hD hS (by rw [aBus_in (by omega)]; rfl) trivial rfl rfl (rfl) (Nat.le_of_ble_eq_true rfl) (Nat.le_of_ble_eq_true rfl) dX9_bus_99
    · refine z_swIn hx hb 5 100 hc_4 (by decide) dX9_bus_12 (by decide) (by decide) rfl (by decide) ?_
      subst hc_4
      refine lv_aload_n hx hb dX9_bus_100 rfl (lv_at hl 0 rfl) ?_
      refine z_get hx hb hts hin9_ hown hK hP 0 rfl rfl 1 (by decide) (hts _ (List.mem_of_getElem? (i := 2) rfl)) rfl dX9_bus_101 ?_
      refine lv_iload_n hx hb dX9_bus_104 rfl (lv_at hl 1 rfl) ?_
      refine lv_iload_n hx hb dX9_bus_105 rfl (lv_at hl 2 rfl) ?_
      refine z_iconst hx hb dX9_bus_106 rfl ?_
      refine z_isub hx hb 0 rfl dX9_bus_107 ?_
      refine z_cVi (As := [vI ((j : Nat) : Int), vI 0]) (rest := []) ⟨hx, hb, hml, hown, hts⟩ hK hP hD hS hA [1] [0] rfl rfl rfl (c_X2_ohmsUpTo l g (d 1) gx v b h o l_ j 0 hN (by omega) (by omega)) (cwV 2 hts gX9_bus_X2_ohmsUpTo rfl rfl rfl (by decide +kernel) ⟨Nat.le_of_ble_eq_true rfl, Nat.le_of_ble_eq_true rfl⟩) 2 0 rfl rfl rfl (fun _ _ _ _ _ _ => trivial) (fun _ _ _ => trivial) rfl hl.1 (Nat.le_of_ble_eq_true rfl) rfl dX9_bus_108 ⟨Nat.le_of_ble_eq_true rfl, Nat.le_of_ble_eq_true rfl⟩ (fun u_5 H locs hwu_5 hP hD hS => ?_)
      try dsimp only at hwu_5
      have hP : zP g [[dsk q d], (netW g (d 1) gx v b h o l_)] H := hP
      have hD : zD A [[dsk q d], (netW g (d 1) gx v b h o l_)] := hD
      refine z_toI (zUp h o 0 j) rfl ?_
      exact z_reti () [0, 1] hx hb hr rfl hlocks hK hP hD hS (by rw [aBus_in (by omega)]; rfl) trivial rfl rfl (rfl) (Nat.le_of_ble_eq_true rfl) (Nat.le_of_ble_eq_true rfl) dX9_bus_111
    · refine z_swIn hx hb 6 100 hc_4 (by decide) dX9_bus_12 (by decide) (by decide) rfl (by decide) ?_
      subst hc_4
      refine lv_aload_n hx hb dX9_bus_100 rfl (lv_at hl 0 rfl) ?_
      refine z_get hx hb hts hin9_ hown hK hP 0 rfl rfl 1 (by decide) (hts _ (List.mem_of_getElem? (i := 2) rfl)) rfl dX9_bus_101 ?_
      refine lv_iload_n hx hb dX9_bus_104 rfl (lv_at hl 1 rfl) ?_
      refine lv_iload_n hx hb dX9_bus_105 rfl (lv_at hl 2 rfl) ?_
      refine z_iconst hx hb dX9_bus_106 rfl ?_
      refine z_isub hx hb 1 rfl dX9_bus_107 ?_
      refine z_cVi (As := [vI ((j : Nat) : Int), vI 1]) (rest := []) ⟨hx, hb, hml, hown, hts⟩ hK hP hD hS hA [1] [0] rfl rfl rfl (c_X2_ohmsUpTo l g (d 1) gx v b h o l_ j 1 hN (by omega) (by omega)) (cwV 2 hts gX9_bus_X2_ohmsUpTo rfl rfl rfl (by decide +kernel) ⟨Nat.le_of_ble_eq_true rfl, Nat.le_of_ble_eq_true rfl⟩) 2 0 rfl rfl rfl (fun _ _ _ _ _ _ => trivial) (fun _ _ _ => trivial) rfl hl.1 (Nat.le_of_ble_eq_true rfl) rfl dX9_bus_108 ⟨Nat.le_of_ble_eq_true rfl, Nat.le_of_ble_eq_true rfl⟩ (fun u_6 H locs hwu_6 hP hD hS => ?_)
      try dsimp only at hwu_6
      have hP : zP g [[dsk q d], (netW g (d 1) gx v b h o l_)] H := hP
      have hD : zD A [[dsk q d], (netW g (d 1) gx v b h o l_)] := hD
      refine z_toI (zUp h o 1 j) rfl ?_
      exact z_reti () [0, 1] hx hb hr rfl hlocks hK hP hD hS (by rw [aBus_in (by omega)]; rfl) trivial rfl rfl (rfl) (Nat.le_of_ble_eq_true rfl) (Nat.le_of_ble_eq_true rfl) dX9_bus_111
    · refine z_swIn hx hb 7 100 hc_4 (by decide) dX9_bus_12 (by decide) (by decide) rfl (by decide) ?_
      subst hc_4
      refine lv_aload_n hx hb dX9_bus_100 rfl (lv_at hl 0 rfl) ?_
      refine z_get hx hb hts hin9_ hown hK hP 0 rfl rfl 1 (by decide) (hts _ (List.mem_of_getElem? (i := 2) rfl)) rfl dX9_bus_101 ?_
      refine lv_iload_n hx hb dX9_bus_104 rfl (lv_at hl 1 rfl) ?_
      refine lv_iload_n hx hb dX9_bus_105 rfl (lv_at hl 2 rfl) ?_
      refine z_iconst hx hb dX9_bus_106 rfl ?_
      refine z_isub hx hb 2 rfl dX9_bus_107 ?_
      refine z_cVi (As := [vI ((j : Nat) : Int), vI 2]) (rest := []) ⟨hx, hb, hml, hown, hts⟩ hK hP hD hS hA [1] [0] rfl rfl rfl (c_X2_ohmsUpTo l g (d 1) gx v b h o l_ j 2 hN (by omega) (by omega)) (cwV 2 hts gX9_bus_X2_ohmsUpTo rfl rfl rfl (by decide +kernel) ⟨Nat.le_of_ble_eq_true rfl, Nat.le_of_ble_eq_true rfl⟩) 2 0 rfl rfl rfl (fun _ _ _ _ _ _ => trivial) (fun _ _ _ => trivial) rfl hl.1 (Nat.le_of_ble_eq_true rfl) rfl dX9_bus_108 ⟨Nat.le_of_ble_eq_true rfl, Nat.le_of_ble_eq_true rfl⟩ (fun u_7 H locs hwu_7 hP hD hS => ?_)
      try dsimp only at hwu_7
      have hP : zP g [[dsk q d], (netW g (d 1) gx v b h o l_)] H := hP
      have hD : zD A [[dsk q d], (netW g (d 1) gx v b h o l_)] := hD
      refine z_toI (zUp h o 2 j) rfl ?_
      exact z_reti () [0, 1] hx hb hr rfl hlocks hK hP hD hS (by rw [aBus_in (by omega)]; rfl) trivial rfl rfl (rfl) (Nat.le_of_ble_eq_true rfl) (Nat.le_of_ble_eq_true rfl) dX9_bus_111
    · refine z_swIn hx hb 8 112 hc_4 (by decide) dX9_bus_12 (by decide) (by decide) rfl (by decide) ?_
      subst hc_4
      refine lv_aload_n hx hb dX9_bus_112 rfl (lv_at hl 0 rfl) ?_
      refine z_get hx hb hts hin9_ hown hK hP 0 rfl rfl 1 (by decide) (hts _ (List.mem_of_getElem? (i := 2) rfl)) rfl dX9_bus_113 ?_
      refine lv_iload_n hx hb dX9_bus_116 rfl (lv_at hl 1 rfl) ?_
      refine z_cVi (As := [vI ((j : Nat) : Int)]) (rest := []) ⟨hx, hb, hml, hown, hts⟩ hK hP hD hS hA [1] [0] rfl rfl rfl (c_X2_linesUpTo l g (d 1) gx v b h o l_ j hN (by omega)) (cwV 1 hts gX9_bus_X2_linesUpTo rfl rfl rfl (by decide +kernel) ⟨Nat.le_of_ble_eq_true rfl, Nat.le_of_ble_eq_true rfl⟩) 2 0 rfl rfl rfl (fun _ _ _ _ _ _ => trivial) (fun _ _ _ => trivial) rfl hl.1 (Nat.le_of_ble_eq_true rfl) rfl dX9_bus_117 ⟨Nat.le_of_ble_eq_true rfl, Nat.le_of_ble_eq_true rfl⟩ (fun u_8 H locs hwu_8 hP hD hS => ?_)
      try dsimp only at hwu_8
      have hP : zP g [[dsk q d], (netW g (d 1) gx v b h o l_)] H := hP
      have hD : zD A [[dsk q d], (netW g (d 1) gx v b h o l_)] := hD
      refine z_toI (((zL h 6 j) : Nat) : Int) rfl ?_
      exact z_reti () [0, 1] hx hb hr rfl hlocks hK hP hD hS (by rw [aBus_in (by omega)]; rfl) trivial rfl rfl (rfl) (Nat.le_of_ble_eq_true rfl) (Nat.le_of_ble_eq_true rfl) dX9_bus_120
    · refine z_swOut hx hb 121 (by omega) dX9_bus_12 hc_4 (by decide) ?_
      refine z_ldc hx hb (-2000000002) hown (hts _ (List.mem_of_getElem? (i := 6) rfl)) rfl dX9_bus_121 ?_
      exact z_reti () [0, 1] hx hb hr rfl hlocks hK hP hD hS ((aBus_out (by omega) (by omega)).symm) trivial rfl rfl (rfl) (Nat.le_of_ble_eq_true rfl) (Nat.le_of_ble_eq_true rfl) dX9_bus_123
  · refine z_ldc hx hb (-2000000001) hown (hts _ (List.mem_of_getElem? (i := 1) rfl)) rfl dX9_bus_8 ?_
    exact z_reti () [0, 1] hx hb hr rfl hlocks hK hP hD hS ((aBus_no (by omega)).symm) trivial rfl rfl (rfl) (Nat.le_of_ble_eq_true rfl) (Nat.le_of_ble_eq_true rfl) dX9_bus_10

set_option maxHeartbeats 4000000 in
set_option maxRecDepth 100000 in
theorem c_X9_phase_unk (l : Launch) (g : zG) (q : Nat) (d : Nat → Nat) (pp : Int) (a : Int) (b : Int) (c9 : Int) (e9 : Int) (r0 : -2147483648 ≤ pp ∧ pp < 2147483648) (r1 : -2147483648 ≤ a ∧ a < 2147483648) (r2 : -2147483648 ≤ b ∧ b < 2147483648) (r3 : -2147483648 ≤ c9 ∧ c9 < 2147483648) (r4 : -2147483648 ≤ e9 ∧ e9 < 2147483648) (hp : ¬ (0 ≤ pp ∧ pp ≤ 2)) : zMet l g yX9_phase wsX9_phase 2 0 0 [.ref q, vI pp, vI a, vI b, vI c9, vI e9] zX0 [[dsk q d]] (qi g (fun (_ : Unit) => (-2000000001)) (fun (_ : Unit) => True) (fun (_ : Unit) => [[dsk q d]])) := by
  refine z_ent (cc := cX9_phase) (maxL := 6) (ret := (some .int)) (by decide) rfl (Nat.le_of_ble_eq_true rfl) ?_
  intro p e s m below meth c A ls hx hb hr hml hown hts hlocks hin0 hA hK hP hD hS hXX hl
  have hown : s.vm.findClass RX9 = some m.cls := hown
  have hl : lv_has ls 6 [(0, .ref q), (1, vI pp), (2, vI a), (3, vI b), (4, vI c9), (5, vI e9)] := hl
  refine lv_iload_n hx hb dX9_phase_0 rfl (lv_at hl 1 rfl) ?_
  refine z_cSi (As := [vI pp]) (rest := []) ⟨hx, hb, hml, hown, hts⟩ hK hP hD hS hA [] [0] rfl rfl rfl (c_X9_isNoPhase l g pp (by first | assumption | omega | decide)) (va_cwS 1 hts gX9_phase_X9_isNoPhase rfl rfl rfl (by decide +kernel) ⟨Nat.le_of_ble_eq_true rfl, Nat.le_of_ble_eq_true rfl⟩) (fun _ _ _ _ _ _ => trivial) (fun _ _ _ => trivial) rfl hl.1 (Nat.le_of_ble_eq_true rfl) rfl dX9_phase_1 ⟨Nat.le_of_ble_eq_true rfl, Nat.le_of_ble_eq_true rfl⟩ (fun u_1 H locs hwu_1 hP hD hS => ?_)
  try dsimp only at hwu_1
  have hP : zP g [[dsk q d]] H := hP
  have hD : zD A [[dsk q d]] := hD
  refine z_toI (oU pp 0 2) rfl ?_
  have hf_2 := oU_s pp 0 2
  refine z_if_eq (tgt := 10) hx hb (by omega) dX9_phase_4 (by decide) (fun cq3 => False.elim (by omega)) (fun cq3 => ?_)
  refine z_ldc hx hb (-2000000001) hown (hts _ (List.mem_of_getElem? (i := 1) rfl)) rfl dX9_phase_7 ?_
  exact z_reti () [0] hx hb hr rfl hlocks hK hP hD hS (rfl) trivial rfl rfl (rfl) (Nat.le_of_ble_eq_true rfl) (Nat.le_of_ble_eq_true rfl) dX9_phase_9

set_option maxHeartbeats 4000000 in
set_option maxRecDepth 100000 in
theorem c_X9_phase_out (l : Launch) (g : zG) (q : Nat) (d : Nat → Nat) (pp : Int) (a : Int) (b : Int) (c9 : Int) (e9 : Int) (r0 : -2147483648 ≤ pp ∧ pp < 2147483648) (r1 : -2147483648 ≤ a ∧ a < 2147483648) (r2 : -2147483648 ≤ b ∧ b < 2147483648) (r3 : -2147483648 ≤ c9 ∧ c9 < 2147483648) (r4 : -2147483648 ≤ e9 ∧ e9 < 2147483648) (hp : 0 ≤ pp ∧ pp ≤ 2) (ho : ¬ ((-9999 ≤ a ∧ a ≤ 9999) ∧ (1 ≤ b ∧ b ≤ 9999) ∧ (-9999 ≤ c9 ∧ c9 ≤ 9999) ∧ (1 ≤ e9 ∧ e9 ≤ 9999))) : zMet l g yX9_phase wsX9_phase 2 0 0 [.ref q, vI pp, vI a, vI b, vI c9, vI e9] zX0 [[dsk q d]] (qi g (fun (_ : Unit) => (-2000000002)) (fun (_ : Unit) => True) (fun (_ : Unit) => [[dsk q d]])) := by
  refine z_ent (cc := cX9_phase) (maxL := 6) (ret := (some .int)) (by decide) rfl (Nat.le_of_ble_eq_true rfl) ?_
  intro p e s m below meth c A ls hx hb hr hml hown hts hlocks hin0 hA hK hP hD hS hXX hl
  have hown : s.vm.findClass RX9 = some m.cls := hown
  have hl : lv_has ls 6 [(0, .ref q), (1, vI pp), (2, vI a), (3, vI b), (4, vI c9), (5, vI e9)] := hl
  refine lv_iload_n hx hb dX9_phase_0 rfl (lv_at hl 1 rfl) ?_
  refine z_cSi (As := [vI pp]) (rest := []) ⟨hx, hb, hml, hown, hts⟩ hK hP hD hS hA [] [0] rfl rfl rfl (c_X9_isNoPhase l g pp (by first | assumption | omega | decide)) (va_cwS 1 hts gX9_phase_X9_isNoPhase rfl rfl rfl (by decide +kernel) ⟨Nat.le_of_ble_eq_true rfl, Nat.le_of_ble_eq_true rfl⟩) (fun _ _ _ _ _ _ => trivial) (fun _ _ _ => trivial) rfl hl.1 (Nat.le_of_ble_eq_true rfl) rfl dX9_phase_1 ⟨Nat.le_of_ble_eq_true rfl, Nat.le_of_ble_eq_true rfl⟩ (fun u_1 H locs hwu_1 hP hD hS => ?_)
  try dsimp only at hwu_1
  have hP : zP g [[dsk q d]] H := hP
  have hD : zD A [[dsk q d]] := hD
  refine z_toI (oU pp 0 2) rfl ?_
  have hf_2 := oU_s pp 0 2
  refine z_if_eq (tgt := 10) hx hb (by omega) dX9_phase_4 (by decide) (fun cq3 => ?_) (fun cq3 => False.elim (by omega))
  refine lv_iload_n hx hb dX9_phase_10 rfl (lv_at hl 2 rfl) ?_
  refine z_cSi (As := [vI a]) (rest := []) ⟨hx, hb, hml, hown, hts⟩ hK hP hD hS hA [] [0] rfl rfl rfl (c_X9_isNoWhole l g a (by first | assumption | omega | decide)) (va_cwS 1 hts gX9_phase_X9_isNoWhole rfl rfl rfl (by decide +kernel) ⟨Nat.le_of_ble_eq_true rfl, Nat.le_of_ble_eq_true rfl⟩) (fun _ _ _ _ _ _ => trivial) (fun _ _ _ => trivial) rfl hl.1 (Nat.le_of_ble_eq_true rfl) rfl dX9_phase_11 ⟨Nat.le_of_ble_eq_true rfl, Nat.le_of_ble_eq_true rfl⟩ (fun u_4 H locs hwu_4 hP hD hS => ?_)
  try dsimp only at hwu_4
  have hP : zP g [[dsk q d]] H := hP
  have hD : zD A [[dsk q d]] := hD
  refine z_toI (oU a (-9999) 9999) rfl ?_
  have hf_5 := oU_s a (-9999) 9999
  refine z_if_ne (tgt := 48) hx hb (by omega) dX9_phase_14 (by decide) (fun cq6 => ?_) (fun cq6 => ?_)
  · refine z_ldc hx hb (-2000000002) hown (hts _ (List.mem_of_getElem? (i := 2) rfl)) rfl dX9_phase_48 ?_
    exact z_reti () [0] hx hb hr rfl hlocks hK hP hD hS (rfl) trivial rfl rfl (rfl) (Nat.le_of_ble_eq_true rfl) (Nat.le_of_ble_eq_true rfl) dX9_phase_50
  · refine lv_iload_n hx hb dX9_phase_17 rfl (lv_at hl 3 rfl) ?_
    refine z_iconst hx hb dX9_phase_18 rfl ?_
    refine z_sipush hx hb 9999 dX9_phase_19 rfl ?_
    refine z_cSi (As := [vI b, vI 1, vI 9999]) (rest := []) ⟨hx, hb, hml, hown, hts⟩ hK hP hD hS hA [] [0] rfl rfl rfl (c_X9_isOutside l g b 1 9999 (by first | assumption | omega | decide) (by first | assumption | omega | decide) (by first | assumption | omega | decide)) (va_cwS 3 hts gX9_phase_X9_isOutside rfl rfl rfl (by decide +kernel) ⟨Nat.le_of_ble_eq_true rfl, Nat.le_of_ble_eq_true rfl⟩) (fun _ _ _ _ _ _ => trivial) (fun _ _ _ => trivial) rfl hl.1 (Nat.le_of_ble_eq_true rfl) rfl dX9_phase_22 ⟨Nat.le_of_ble_eq_true rfl, Nat.le_of_ble_eq_true rfl⟩ (fun u_7 H locs hwu_7 hP hD hS => ?_)
    try dsimp only at hwu_7
    have hP : zP g [[dsk q d]] H := hP
    have hD : zD A [[dsk q d]] := hD
    refine z_toI (oU b 1 9999) rfl ?_
    have hf_8 := oU_s b 1 9999
    refine z_if_ne (tgt := 48) hx hb (by omega) dX9_phase_25 (by decide) (fun cq9 => ?_) (fun cq9 => ?_)
    · refine z_ldc hx hb (-2000000002) hown (hts _ (List.mem_of_getElem? (i := 2) rfl)) rfl dX9_phase_48 ?_
      exact z_reti () [0] hx hb hr rfl hlocks hK hP hD hS (rfl) trivial rfl rfl (rfl) (Nat.le_of_ble_eq_true rfl) (Nat.le_of_ble_eq_true rfl) dX9_phase_50
    · refine lv_iload hx hb dX9_phase_28 (lv_at hl 4 rfl) ?_
      refine z_cSi (As := [vI c9]) (rest := []) ⟨hx, hb, hml, hown, hts⟩ hK hP hD hS hA [] [0] rfl rfl rfl (c_X9_isNoWhole l g c9 (by first | assumption | omega | decide)) (va_cwS 1 hts gX9_phase_X9_isNoWhole rfl rfl rfl (by decide +kernel) ⟨Nat.le_of_ble_eq_true rfl, Nat.le_of_ble_eq_true rfl⟩) (fun _ _ _ _ _ _ => trivial) (fun _ _ _ => trivial) rfl hl.1 (Nat.le_of_ble_eq_true rfl) rfl dX9_phase_30 ⟨Nat.le_of_ble_eq_true rfl, Nat.le_of_ble_eq_true rfl⟩ (fun u_10 H locs hwu_10 hP hD hS => ?_)
      try dsimp only at hwu_10
      have hP : zP g [[dsk q d]] H := hP
      have hD : zD A [[dsk q d]] := hD
      refine z_toI (oU c9 (-9999) 9999) rfl ?_
      have hf_11 := oU_s c9 (-9999) 9999
      refine z_if_ne (tgt := 48) hx hb (by omega) dX9_phase_33 (by decide) (fun cq12 => ?_) (fun cq12 => ?_)
      · refine z_ldc hx hb (-2000000002) hown (hts _ (List.mem_of_getElem? (i := 2) rfl)) rfl dX9_phase_48 ?_
        exact z_reti () [0] hx hb hr rfl hlocks hK hP hD hS (rfl) trivial rfl rfl (rfl) (Nat.le_of_ble_eq_true rfl) (Nat.le_of_ble_eq_true rfl) dX9_phase_50
      · refine lv_iload hx hb dX9_phase_36 (lv_at hl 5 rfl) ?_
        refine z_iconst hx hb dX9_phase_38 rfl ?_
        refine z_sipush hx hb 9999 dX9_phase_39 rfl ?_
        refine z_cSi (As := [vI e9, vI 1, vI 9999]) (rest := []) ⟨hx, hb, hml, hown, hts⟩ hK hP hD hS hA [] [0] rfl rfl rfl (c_X9_isOutside l g e9 1 9999 (by first | assumption | omega | decide) (by first | assumption | omega | decide) (by first | assumption | omega | decide)) (va_cwS 3 hts gX9_phase_X9_isOutside rfl rfl rfl (by decide +kernel) ⟨Nat.le_of_ble_eq_true rfl, Nat.le_of_ble_eq_true rfl⟩) (fun _ _ _ _ _ _ => trivial) (fun _ _ _ => trivial) rfl hl.1 (Nat.le_of_ble_eq_true rfl) rfl dX9_phase_42 ⟨Nat.le_of_ble_eq_true rfl, Nat.le_of_ble_eq_true rfl⟩ (fun u_13 H locs hwu_13 hP hD hS => ?_)
        try dsimp only at hwu_13
        have hP : zP g [[dsk q d]] H := hP
        have hD : zD A [[dsk q d]] := hD
        refine z_toI (oU e9 1 9999) rfl ?_
        have hf_14 := oU_s e9 1 9999
        refine z_if_eq (tgt := 51) hx hb (by omega) dX9_phase_45 (by decide) (fun cq15 => False.elim (by omega)) (fun cq15 => ?_)
        refine z_ldc hx hb (-2000000002) hown (hts _ (List.mem_of_getElem? (i := 2) rfl)) rfl dX9_phase_48 ?_
        exact z_reti () [0] hx hb hr rfl hlocks hK hP hD hS (rfl) trivial rfl rfl (rfl) (Nat.le_of_ble_eq_true rfl) (Nat.le_of_ble_eq_true rfl) dX9_phase_50

set_option maxHeartbeats 4000000 in
set_option maxRecDepth 100000 in
theorem c_X9_phase0 (l : Launch) (g : zG) (q : Nat) (d : Nat → Nat) (px : Nat → Nat) (t : Nat → FO) (e5 : Nat) (y : Nat → Nat) (X : Nat → Nat → Nat) (T : Nat → Nat → FO) (sz : Nat) (nx : Nat) (a : Int) (b : Int) (c9 : Int) (e9 : Int) (r1 : -2147483648 ≤ a ∧ a < 2147483648) (r2 : -2147483648 ≤ b ∧ b < 2147483648) (r3 : -2147483648 ≤ c9 ∧ c9 < 2147483648) (r4 : -2147483648 ≤ e9 ∧ e9 < 2147483648) (ho : (-9999 ≤ a ∧ a ≤ 9999) ∧ (1 ≤ b ∧ b ≤ 9999) ∧ (-9999 ≤ c9 ∧ c9 ≤ 9999) ∧ (1 ≤ e9 ∧ e9 ≤ 9999)) (ht : ∀ k, fok (t k)) (hsz : sz ≤ 8) (hnx : nx < 8) : zMet l g yX9_phase wsX9_phase 4 0 0 [.ref q, vI 0, vI a, vI b, vI c9, vI e9] zX0 [[dsk q d], (threeW g (d 3) px t), (noteW g (d 5) e5 y X T sz nx)] (qi g (fun (_ : Unit) => 1) (fun (_ : Unit) => True) (fun (_ : Unit) => [[dsk q d], (threeW g (d 3) px (lF [(fmk a b), (fmk c9 e9), (t 2), (t 3), (t 4), (t 5)])), (noteW g (d 5) e5 y X (upT T nx t) (min (sz + 1) 8) ((nx + 1) % 8))])) := by
  refine z_ent (cc := cX9_phase) (maxL := 6) (ret := (some .int)) (by decide) rfl (Nat.le_of_ble_eq_true rfl) ?_
  intro p e s m below meth c A ls hx hb hr hml hown hts hlocks hin0 hA hK hP hD hS hXX hl
  have hown : s.vm.findClass RX9 = some m.cls := hown
  have hin4_ : ∀ w ∈ wsX40, w ∈ wsX9_phase := zw_in [77, 78] rfl
  have hin8_ : ∀ w ∈ wsX80, w ∈ wsX9_phase := zw_in [76] rfl
  have hin9_ : ∀ w ∈ wsX90, w ∈ wsX9_phase := zw_in [64, 65, 66, 67, 68, 69, 70, 71, 72, 73, 74, 75] rfl
  have hl : lv_has ls 6 [(0, .ref q), (1, vI 0), (2, vI a), (3, vI b), (4, vI c9), (5, vI e9)] := hl
  refine lv_iload_n hx hb dX9_phase_0 rfl (lv_at hl 1 rfl) ?_
  refine z_cSi (As := [vI 0]) (rest := []) ⟨hx, hb, hml, hown, hts⟩ hK hP hD hS hA [] [0, 1, 2] rfl rfl rfl (c_X9_isNoPhase l g 0 (by first | assumption | omega | decide)) (va_cwS 1 hts gX9_phase_X9_isNoPhase rfl rfl rfl (by decide +kernel) ⟨Nat.le_of_ble_eq_true rfl, Nat.le_of_ble_eq_true rfl⟩) (fun _ _ _ _ _ _ => trivial) (fun _ _ _ => trivial) rfl hl.1 (Nat.le_of_ble_eq_true rfl) rfl dX9_phase_1 ⟨Nat.le_of_ble_eq_true rfl, Nat.le_of_ble_eq_true rfl⟩ (fun u_1 H locs hwu_1 hP hD hS => ?_)
  try dsimp only at hwu_1
  have hP : zP g [[dsk q d], (threeW g (d 3) px t), (noteW g (d 5) e5 y X T sz nx)] H := hP
  have hD : zD A [[dsk q d], (threeW g (d 3) px t), (noteW g (d 5) e5 y X T sz nx)] := hD
  refine z_toI (oU 0 0 2) rfl ?_
  have hf_2 := oU_s 0 0 2
  refine z_if_eq (tgt := 10) hx hb (by omega) dX9_phase_4 (by decide) (fun cq3 => ?_) (fun cq3 => False.elim (by omega))
  refine lv_iload_n hx hb dX9_phase_10 rfl (lv_at hl 2 rfl) ?_
  refine z_cSi (As := [vI a]) (rest := []) ⟨hx, hb, hml, hown, hts⟩ hK hP hD hS hA [] [0, 1, 2] rfl rfl rfl (c_X9_isNoWhole l g a (by first | assumption | omega | decide)) (va_cwS 1 hts gX9_phase_X9_isNoWhole rfl rfl rfl (by decide +kernel) ⟨Nat.le_of_ble_eq_true rfl, Nat.le_of_ble_eq_true rfl⟩) (fun _ _ _ _ _ _ => trivial) (fun _ _ _ => trivial) rfl hl.1 (Nat.le_of_ble_eq_true rfl) rfl dX9_phase_11 ⟨Nat.le_of_ble_eq_true rfl, Nat.le_of_ble_eq_true rfl⟩ (fun u_4 H locs hwu_4 hP hD hS => ?_)
  try dsimp only at hwu_4
  have hP : zP g [[dsk q d], (threeW g (d 3) px t), (noteW g (d 5) e5 y X T sz nx)] H := hP
  have hD : zD A [[dsk q d], (threeW g (d 3) px t), (noteW g (d 5) e5 y X T sz nx)] := hD
  refine z_toI (oU a (-9999) 9999) rfl ?_
  have hf_5 := oU_s a (-9999) 9999
  refine z_if_ne (tgt := 48) hx hb (by omega) dX9_phase_14 (by decide) (fun cq6 => False.elim (by omega)) (fun cq6 => ?_)
  refine lv_iload_n hx hb dX9_phase_17 rfl (lv_at hl 3 rfl) ?_
  refine z_iconst hx hb dX9_phase_18 rfl ?_
  refine z_sipush hx hb 9999 dX9_phase_19 rfl ?_
  refine z_cSi (As := [vI b, vI 1, vI 9999]) (rest := []) ⟨hx, hb, hml, hown, hts⟩ hK hP hD hS hA [] [0, 1, 2] rfl rfl rfl (c_X9_isOutside l g b 1 9999 (by first | assumption | omega | decide) (by first | assumption | omega | decide) (by first | assumption | omega | decide)) (va_cwS 3 hts gX9_phase_X9_isOutside rfl rfl rfl (by decide +kernel) ⟨Nat.le_of_ble_eq_true rfl, Nat.le_of_ble_eq_true rfl⟩) (fun _ _ _ _ _ _ => trivial) (fun _ _ _ => trivial) rfl hl.1 (Nat.le_of_ble_eq_true rfl) rfl dX9_phase_22 ⟨Nat.le_of_ble_eq_true rfl, Nat.le_of_ble_eq_true rfl⟩ (fun u_7 H locs hwu_7 hP hD hS => ?_)
  try dsimp only at hwu_7
  have hP : zP g [[dsk q d], (threeW g (d 3) px t), (noteW g (d 5) e5 y X T sz nx)] H := hP
  have hD : zD A [[dsk q d], (threeW g (d 3) px t), (noteW g (d 5) e5 y X T sz nx)] := hD
  refine z_toI (oU b 1 9999) rfl ?_
  have hf_8 := oU_s b 1 9999
  refine z_if_ne (tgt := 48) hx hb (by omega) dX9_phase_25 (by decide) (fun cq9 => False.elim (by omega)) (fun cq9 => ?_)
  refine lv_iload hx hb dX9_phase_28 (lv_at hl 4 rfl) ?_
  refine z_cSi (As := [vI c9]) (rest := []) ⟨hx, hb, hml, hown, hts⟩ hK hP hD hS hA [] [0, 1, 2] rfl rfl rfl (c_X9_isNoWhole l g c9 (by first | assumption | omega | decide)) (va_cwS 1 hts gX9_phase_X9_isNoWhole rfl rfl rfl (by decide +kernel) ⟨Nat.le_of_ble_eq_true rfl, Nat.le_of_ble_eq_true rfl⟩) (fun _ _ _ _ _ _ => trivial) (fun _ _ _ => trivial) rfl hl.1 (Nat.le_of_ble_eq_true rfl) rfl dX9_phase_30 ⟨Nat.le_of_ble_eq_true rfl, Nat.le_of_ble_eq_true rfl⟩ (fun u_10 H locs hwu_10 hP hD hS => ?_)
  try dsimp only at hwu_10
  have hP : zP g [[dsk q d], (threeW g (d 3) px t), (noteW g (d 5) e5 y X T sz nx)] H := hP
  have hD : zD A [[dsk q d], (threeW g (d 3) px t), (noteW g (d 5) e5 y X T sz nx)] := hD
  refine z_toI (oU c9 (-9999) 9999) rfl ?_
  have hf_11 := oU_s c9 (-9999) 9999
  refine z_if_ne (tgt := 48) hx hb (by omega) dX9_phase_33 (by decide) (fun cq12 => False.elim (by omega)) (fun cq12 => ?_)
  refine lv_iload hx hb dX9_phase_36 (lv_at hl 5 rfl) ?_
  refine z_iconst hx hb dX9_phase_38 rfl ?_
  refine z_sipush hx hb 9999 dX9_phase_39 rfl ?_
  refine z_cSi (As := [vI e9, vI 1, vI 9999]) (rest := []) ⟨hx, hb, hml, hown, hts⟩ hK hP hD hS hA [] [0, 1, 2] rfl rfl rfl (c_X9_isOutside l g e9 1 9999 (by first | assumption | omega | decide) (by first | assumption | omega | decide) (by first | assumption | omega | decide)) (va_cwS 3 hts gX9_phase_X9_isOutside rfl rfl rfl (by decide +kernel) ⟨Nat.le_of_ble_eq_true rfl, Nat.le_of_ble_eq_true rfl⟩) (fun _ _ _ _ _ _ => trivial) (fun _ _ _ => trivial) rfl hl.1 (Nat.le_of_ble_eq_true rfl) rfl dX9_phase_42 ⟨Nat.le_of_ble_eq_true rfl, Nat.le_of_ble_eq_true rfl⟩ (fun u_13 H locs hwu_13 hP hD hS => ?_)
  try dsimp only at hwu_13
  have hP : zP g [[dsk q d], (threeW g (d 3) px t), (noteW g (d 5) e5 y X T sz nx)] H := hP
  have hD : zD A [[dsk q d], (threeW g (d 3) px t), (noteW g (d 5) e5 y X T sz nx)] := hD
  refine z_toI (oU e9 1 9999) rfl ?_
  have hf_14 := oU_s e9 1 9999
  refine z_if_eq (tgt := 51) hx hb (by omega) dX9_phase_45 (by decide) (fun cq15 => ?_) (fun cq15 => False.elim (by omega))
  refine lv_aload_n hx hb dX9_phase_51 rfl (lv_at hl 0 rfl) ?_
  refine z_get hx hb hts hin9_ hown hK hP 0 rfl rfl 5 (by decide) (hts _ (List.mem_of_getElem? (i := 3) rfl)) rfl dX9_phase_52 ?_
  refine lv_aload_n hx hb dX9_phase_55 rfl (lv_at hl 0 rfl) ?_
  refine z_get hx hb hts hin9_ hown hK hP 0 rfl rfl 3 (by decide) (hts _ (List.mem_of_getElem? (i := 4) rfl)) rfl dX9_phase_56 ?_
  refine z_cVv (As := [.ref (d 3)]) (rest := []) ⟨hx, hb, hml, hown, hts⟩ hK hP hD hS hA [2, 1] [0] rfl rfl rfl (c_X3_add l g (d 5) e5 y X T sz nx (d 3) px t (by omega) (by omega) ht) (cwV 1 hts gX9_phase_X3_add rfl rfl rfl (by decide +kernel) ⟨Nat.le_of_ble_eq_true rfl, Nat.le_of_ble_eq_true rfl⟩) 3 0 rfl rfl rfl (fun _ _ _ _ _ _ => trivial) (fun _ _ _ => trivial) rfl hl.1 (Nat.le_of_ble_eq_true rfl) rfl dX9_phase_59 ⟨Nat.le_of_ble_eq_true rfl, Nat.le_of_ble_eq_true rfl⟩ (fun u_16 H locs hwu_16 hP hD hS => ?_)
  try dsimp only at hwu_16
  have hP : zP g [[dsk q d], (noteW g (d 5) e5 y X (upT T nx t) (min (sz + 1) 8) ((nx + 1) % 8)), (threeW g (d 3) px t)] H := hP
  have hD : zD A [[dsk q d], (noteW g (d 5) e5 y X (upT T nx t) (min (sz + 1) 8) ((nx + 1) % 8)), (threeW g (d 3) px t)] := hD
  have hP : zP g [[dsk q d], (threeW g (d 3) px t), (noteW g (d 5) e5 y X (upT T nx t) (min (sz + 1) 8) ((nx + 1) % 8))] H := zP_sub hP [0, 2, 1] rfl
  have hD : zD A [[dsk q d], (threeW g (d 3) px t), (noteW g (d 5) e5 y X (upT T nx t) (min (sz + 1) 8) ((nx + 1) % 8))] := zD_sub hD [0, 2, 1] rfl rfl
  have hP : zP g [[dsk q d], [((d 3), .inr (8, [.ref (px 0)]))], [((px 0), .inl (g.2 3, 3, .inr (.inr (.inr (.inr (rA [(px 1), (px 4), (px 7)]))))))], [((px 1), .inr (4, [.ref (px 2), .ref (px 3)]))], [fr (px 2) (t 0)], [fr (px 3) (t 1)], [((px 4), .inr (4, [.ref (px 5), .ref (px 6)]))], [fr (px 5) (t 2)], [fr (px 6) (t 3)], [((px 7), .inr (4, [.ref (px 8), .ref (px 9)]))], [fr (px 8) (t 4)], [fr (px 9) (t 5)], (noteW g (d 5) e5 y X (upT T nx t) (min (sz + 1) 8) ((nx + 1) % 8))] H := hP
  have hD : zD A [[dsk q d], [((d 3), .inr (8, [.ref (px 0)]))], [((px 0), .inl (g.2 3, 3, .inr (.inr (.inr (.inr (rA [(px 1), (px 4), (px 7)]))))))], [((px 1), .inr (4, [.ref (px 2), .ref (px 3)]))], [fr (px 2) (t 0)], [fr (px 3) (t 1)], [((px 4), .inr (4, [.ref (px 5), .ref (px 6)]))], [fr (px 5) (t 2)], [fr (px 6) (t 3)], [((px 7), .inr (4, [.ref (px 8), .ref (px 9)]))], [fr (px 8) (t 4)], [fr (px 9) (t 5)], (noteW g (d 5) e5 y X (upT T nx t) (min (sz + 1) 8) ((nx + 1) % 8))] := hD
  refine lv_aload_n hx hb dX9_phase_62 rfl (lv_at hl 0 rfl) ?_
  refine z_get hx hb hts hin9_ hown hK hP 0 rfl rfl 3 (by decide) (hts _ (List.mem_of_getElem? (i := 4) rfl)) rfl dX9_phase_63 ?_
  refine z_get hx hb hts hin8_ hown hK hP 1 rfl rfl 0 (by decide) (hts _ (List.mem_of_getElem? (i := 5) rfl)) rfl dX9_phase_66 ?_
  refine lv_iload_n hx hb dX9_phase_69 rfl (lv_at hl 1 rfl) ?_
  refine z_aald hx hb hK hP 2 3 rfl rfl 0 rfl (by decide) (by decide) (px 1) rfl dX9_phase_70 ?_
  refine z_get hx hb hts hin4_ hown hK hP 3 rfl rfl 0 (by decide) (hts _ (List.mem_of_getElem? (i := 6) rfl)) rfl dX9_phase_71 ?_
  refine lv_iload_n hx hb dX9_phase_74 rfl (lv_at hl 2 rfl) ?_
  refine z_i2l hx hb (by omega) dX9_phase_75 ?_
  refine lv_iload_n hx hb dX9_phase_76 rfl (lv_at hl 3 rfl) ?_
  refine z_i2l hx hb (by omega) dX9_phase_77 ?_
  refine z_cVv (As := [vL a, vL b]) (rest := []) ⟨hx, hb, hml, hown, hts⟩ hK hP hD hS hA [4] [0, 1, 2, 3, 5, 6, 7, 8, 9, 10, 11, 12] rfl rfl rfl (c_X1_become_ l g (px 2) (t 0) a b (by first | assumption | omega | decide) (by first | assumption | omega | decide)) (cwV 2 hts gX9_phase_X1_become_ rfl rfl rfl (by decide +kernel) ⟨Nat.le_of_ble_eq_true rfl, Nat.le_of_ble_eq_true rfl⟩) 1 0 rfl rfl rfl (fun _ _ _ _ _ _ => trivial) (fun _ _ _ => trivial) rfl hl.1 (Nat.le_of_ble_eq_true rfl) rfl dX9_phase_78 ⟨Nat.le_of_ble_eq_true rfl, Nat.le_of_ble_eq_true rfl⟩ (fun u_17 H locs hwu_17 hP hD hS => ?_)
  try dsimp only at hwu_17
  have hP : zP g [[dsk q d], [((d 3), .inr (8, [.ref (px 0)]))], [((px 0), .inl (g.2 3, 3, .inr (.inr (.inr (.inr (rA [(px 1), (px 4), (px 7)]))))))], [((px 1), .inr (4, [.ref (px 2), .ref (px 3)]))], [fr (px 3) (t 1)], [((px 4), .inr (4, [.ref (px 5), .ref (px 6)]))], [fr (px 5) (t 2)], [fr (px 6) (t 3)], [((px 7), .inr (4, [.ref (px 8), .ref (px 9)]))], [fr (px 8) (t 4)], [fr (px 9) (t 5)], (noteW g (d 5) e5 y X (upT T nx t) (min (sz + 1) 8) ((nx + 1) % 8)), [fr (px 2) (fmk a b)]] H := hP
  have hD : zD A [[dsk q d], [((d 3), .inr (8, [.ref (px 0)]))], [((px 0), .inl (g.2 3, 3, .inr (.inr (.inr (.inr (rA [(px 1), (px 4), (px 7)]))))))], [((px 1), .inr (4, [.ref (px 2), .ref (px 3)]))], [fr (px 3) (t 1)], [((px 4), .inr (4, [.ref (px 5), .ref (px 6)]))], [fr (px 5) (t 2)], [fr (px 6) (t 3)], [((px 7), .inr (4, [.ref (px 8), .ref (px 9)]))], [fr (px 8) (t 4)], [fr (px 9) (t 5)], (noteW g (d 5) e5 y X (upT T nx t) (min (sz + 1) 8) ((nx + 1) % 8)), [fr (px 2) (fmk a b)]] := hD
  have hP : zP g [[dsk q d], [((d 3), .inr (8, [.ref (px 0)]))], [((px 0), .inl (g.2 3, 3, .inr (.inr (.inr (.inr (rA [(px 1), (px 4), (px 7)]))))))], [((px 1), .inr (4, [.ref (px 2), .ref (px 3)]))], [fr (px 3) (t 1)], [((px 4), .inr (4, [.ref (px 5), .ref (px 6)]))], [fr (px 5) (t 2)], [fr (px 6) (t 3)], [((px 7), .inr (4, [.ref (px 8), .ref (px 9)]))], [fr (px 8) (t 4)], [fr (px 9) (t 5)], [fr (px 2) (fmk a b)], (noteW g (d 5) e5 y X (upT T nx t) (min (sz + 1) 8) ((nx + 1) % 8))] H := zP_sub hP [0, 1, 2, 3, 4, 5, 6, 7, 8, 9, 10, 12, 11] rfl
  have hD : zD A [[dsk q d], [((d 3), .inr (8, [.ref (px 0)]))], [((px 0), .inl (g.2 3, 3, .inr (.inr (.inr (.inr (rA [(px 1), (px 4), (px 7)]))))))], [((px 1), .inr (4, [.ref (px 2), .ref (px 3)]))], [fr (px 3) (t 1)], [((px 4), .inr (4, [.ref (px 5), .ref (px 6)]))], [fr (px 5) (t 2)], [fr (px 6) (t 3)], [((px 7), .inr (4, [.ref (px 8), .ref (px 9)]))], [fr (px 8) (t 4)], [fr (px 9) (t 5)], [fr (px 2) (fmk a b)], (noteW g (d 5) e5 y X (upT T nx t) (min (sz + 1) 8) ((nx + 1) % 8))] := zD_sub hD [0, 1, 2, 3, 4, 5, 6, 7, 8, 9, 10, 12, 11] rfl rfl
  refine lv_aload_n hx hb dX9_phase_81 rfl (lv_at hl 0 rfl) ?_
  refine z_get hx hb hts hin9_ hown hK hP 0 rfl rfl 3 (by decide) (hts _ (List.mem_of_getElem? (i := 4) rfl)) rfl dX9_phase_82 ?_
  refine z_get hx hb hts hin8_ hown hK hP 1 rfl rfl 0 (by decide) (hts _ (List.mem_of_getElem? (i := 5) rfl)) rfl dX9_phase_85 ?_
  refine lv_iload_n hx hb dX9_phase_88 rfl (lv_at hl 1 rfl) ?_
  refine z_aald hx hb hK hP 2 3 rfl rfl 0 rfl (by decide) (by decide) (px 1) rfl dX9_phase_89 ?_
  refine z_get hx hb hts hin4_ hown hK hP 3 rfl rfl 1 (by decide) (hts _ (List.mem_of_getElem? (i := 7) rfl)) rfl dX9_phase_90 ?_
  refine lv_iload hx hb dX9_phase_93 (lv_at hl 4 rfl) ?_
  refine z_i2l hx hb (by omega) dX9_phase_95 ?_
  refine lv_iload hx hb dX9_phase_96 (lv_at hl 5 rfl) ?_
  refine z_i2l hx hb (by omega) dX9_phase_98 ?_
  refine z_cVv (As := [vL c9, vL e9]) (rest := []) ⟨hx, hb, hml, hown, hts⟩ hK hP hD hS hA [4] [0, 1, 2, 3, 5, 6, 7, 8, 9, 10, 11, 12] rfl rfl rfl (c_X1_become_ l g (px 3) (t 1) c9 e9 (by first | assumption | omega | decide) (by first | assumption | omega | decide)) (cwV 2 hts gX9_phase_X1_become_ rfl rfl rfl (by decide +kernel) ⟨Nat.le_of_ble_eq_true rfl, Nat.le_of_ble_eq_true rfl⟩) 1 0 rfl rfl rfl (fun _ _ _ _ _ _ => trivial) (fun _ _ _ => trivial) rfl hl.1 (Nat.le_of_ble_eq_true rfl) rfl dX9_phase_99 ⟨Nat.le_of_ble_eq_true rfl, Nat.le_of_ble_eq_true rfl⟩ (fun u_18 H locs hwu_18 hP hD hS => ?_)
  try dsimp only at hwu_18
  have hP : zP g [[dsk q d], [((d 3), .inr (8, [.ref (px 0)]))], [((px 0), .inl (g.2 3, 3, .inr (.inr (.inr (.inr (rA [(px 1), (px 4), (px 7)]))))))], [((px 1), .inr (4, [.ref (px 2), .ref (px 3)]))], [((px 4), .inr (4, [.ref (px 5), .ref (px 6)]))], [fr (px 5) (t 2)], [fr (px 6) (t 3)], [((px 7), .inr (4, [.ref (px 8), .ref (px 9)]))], [fr (px 8) (t 4)], [fr (px 9) (t 5)], [fr (px 2) (fmk a b)], (noteW g (d 5) e5 y X (upT T nx t) (min (sz + 1) 8) ((nx + 1) % 8)), [fr (px 3) (fmk c9 e9)]] H := hP
  have hD : zD A [[dsk q d], [((d 3), .inr (8, [.ref (px 0)]))], [((px 0), .inl (g.2 3, 3, .inr (.inr (.inr (.inr (rA [(px 1), (px 4), (px 7)]))))))], [((px 1), .inr (4, [.ref (px 2), .ref (px 3)]))], [((px 4), .inr (4, [.ref (px 5), .ref (px 6)]))], [fr (px 5) (t 2)], [fr (px 6) (t 3)], [((px 7), .inr (4, [.ref (px 8), .ref (px 9)]))], [fr (px 8) (t 4)], [fr (px 9) (t 5)], [fr (px 2) (fmk a b)], (noteW g (d 5) e5 y X (upT T nx t) (min (sz + 1) 8) ((nx + 1) % 8)), [fr (px 3) (fmk c9 e9)]] := hD
  have hP : zP g [[dsk q d], [((d 3), .inr (8, [.ref (px 0)]))], [((px 0), .inl (g.2 3, 3, .inr (.inr (.inr (.inr (rA [(px 1), (px 4), (px 7)]))))))], [((px 1), .inr (4, [.ref (px 2), .ref (px 3)]))], [((px 4), .inr (4, [.ref (px 5), .ref (px 6)]))], [fr (px 5) (t 2)], [fr (px 6) (t 3)], [((px 7), .inr (4, [.ref (px 8), .ref (px 9)]))], [fr (px 8) (t 4)], [fr (px 9) (t 5)], [fr (px 2) (fmk a b)], [fr (px 3) (fmk c9 e9)], (noteW g (d 5) e5 y X (upT T nx t) (min (sz + 1) 8) ((nx + 1) % 8))] H := zP_sub hP [0, 1, 2, 3, 4, 5, 6, 7, 8, 9, 10, 12, 11] rfl
  have hD : zD A [[dsk q d], [((d 3), .inr (8, [.ref (px 0)]))], [((px 0), .inl (g.2 3, 3, .inr (.inr (.inr (.inr (rA [(px 1), (px 4), (px 7)]))))))], [((px 1), .inr (4, [.ref (px 2), .ref (px 3)]))], [((px 4), .inr (4, [.ref (px 5), .ref (px 6)]))], [fr (px 5) (t 2)], [fr (px 6) (t 3)], [((px 7), .inr (4, [.ref (px 8), .ref (px 9)]))], [fr (px 8) (t 4)], [fr (px 9) (t 5)], [fr (px 2) (fmk a b)], [fr (px 3) (fmk c9 e9)], (noteW g (d 5) e5 y X (upT T nx t) (min (sz + 1) 8) ((nx + 1) % 8))] := zD_sub hD [0, 1, 2, 3, 4, 5, 6, 7, 8, 9, 10, 12, 11] rfl rfl
  refine z_iconst hx hb dX9_phase_102 rfl ?_
  have hP : zP g [[dsk q d], [((d 3), .inr (8, [.ref (px 0)]))], [((px 0), .inl (g.2 3, 3, .inr (.inr (.inr (.inr (rA [(px 1), (px 4), (px 7)]))))))], [((px 1), .inr (4, [.ref (px 2), .ref (px 3)]))], [fr (px 2) (fmk a b)], [fr (px 3) (fmk c9 e9)], [((px 4), .inr (4, [.ref (px 5), .ref (px 6)]))], [fr (px 5) (t 2)], [fr (px 6) (t 3)], [((px 7), .inr (4, [.ref (px 8), .ref (px 9)]))], [fr (px 8) (t 4)], [fr (px 9) (t 5)], (noteW g (d 5) e5 y X (upT T nx t) (min (sz + 1) 8) ((nx + 1) % 8))] H := zP_sub hP [0, 1, 2, 3, 10, 11, 4, 5, 6, 7, 8, 9, 12] rfl
  have hD : zD A [[dsk q d], [((d 3), .inr (8, [.ref (px 0)]))], [((px 0), .inl (g.2 3, 3, .inr (.inr (.inr (.inr (rA [(px 1), (px 4), (px 7)]))))))], [((px 1), .inr (4, [.ref (px 2), .ref (px 3)]))], [fr (px 2) (fmk a b)], [fr (px 3) (fmk c9 e9)], [((px 4), .inr (4, [.ref (px 5), .ref (px 6)]))], [fr (px 5) (t 2)], [fr (px 6) (t 3)], [((px 7), .inr (4, [.ref (px 8), .ref (px 9)]))], [fr (px 8) (t 4)], [fr (px 9) (t 5)], (noteW g (d 5) e5 y X (upT T nx t) (min (sz + 1) 8) ((nx + 1) % 8))] := zD_sub hD [0, 1, 2, 3, 10, 11, 4, 5, 6, 7, 8, 9, 12] rfl rfl
  have hP : zP g [[dsk q d], (threeW g (d 3) px (lF [(fmk a b), (fmk c9 e9), (t 2), (t 3), (t 4), (t 5)])), (noteW g (d 5) e5 y X (upT T nx t) (min (sz + 1) 8) ((nx + 1) % 8))] H := hP
  have hD : zD A [[dsk q d], (threeW g (d 3) px (lF [(fmk a b), (fmk c9 e9), (t 2), (t 3), (t 4), (t 5)])), (noteW g (d 5) e5 y X (upT T nx t) (min (sz + 1) 8) ((nx + 1) % 8))] := hD
  exact z_reti () [0, 1, 2] hx hb hr rfl hlocks hK hP hD hS (rfl) trivial rfl rfl (rfl) (Nat.le_of_ble_eq_true rfl) (Nat.le_of_ble_eq_true rfl) dX9_phase_103

set_option maxHeartbeats 4000000 in
set_option maxRecDepth 100000 in
theorem c_X9_phase1 (l : Launch) (g : zG) (q : Nat) (d : Nat → Nat) (px : Nat → Nat) (t : Nat → FO) (e5 : Nat) (y : Nat → Nat) (X : Nat → Nat → Nat) (T : Nat → Nat → FO) (sz : Nat) (nx : Nat) (a : Int) (b : Int) (c9 : Int) (e9 : Int) (r1 : -2147483648 ≤ a ∧ a < 2147483648) (r2 : -2147483648 ≤ b ∧ b < 2147483648) (r3 : -2147483648 ≤ c9 ∧ c9 < 2147483648) (r4 : -2147483648 ≤ e9 ∧ e9 < 2147483648) (ho : (-9999 ≤ a ∧ a ≤ 9999) ∧ (1 ≤ b ∧ b ≤ 9999) ∧ (-9999 ≤ c9 ∧ c9 ≤ 9999) ∧ (1 ≤ e9 ∧ e9 ≤ 9999)) (ht : ∀ k, fok (t k)) (hsz : sz ≤ 8) (hnx : nx < 8) : zMet l g yX9_phase wsX9_phase 4 0 0 [.ref q, vI 1, vI a, vI b, vI c9, vI e9] zX0 [[dsk q d], (threeW g (d 3) px t), (noteW g (d 5) e5 y X T sz nx)] (qi g (fun (_ : Unit) => 1) (fun (_ : Unit) => True) (fun (_ : Unit) => [[dsk q d], (threeW g (d 3) px (lF [(t 0), (t 1), (fmk a b), (fmk c9 e9), (t 4), (t 5)])), (noteW g (d 5) e5 y X (upT T nx t) (min (sz + 1) 8) ((nx + 1) % 8))])) := by
  refine z_ent (cc := cX9_phase) (maxL := 6) (ret := (some .int)) (by decide) rfl (Nat.le_of_ble_eq_true rfl) ?_
  intro p e s m below meth c A ls hx hb hr hml hown hts hlocks hin0 hA hK hP hD hS hXX hl
  have hown : s.vm.findClass RX9 = some m.cls := hown
  have hin4_ : ∀ w ∈ wsX40, w ∈ wsX9_phase := zw_in [77, 78] rfl
  have hin8_ : ∀ w ∈ wsX80, w ∈ wsX9_phase := zw_in [76] rfl
  have hin9_ : ∀ w ∈ wsX90, w ∈ wsX9_phase := zw_in [64, 65, 66, 67, 68, 69, 70, 71, 72, 73, 74, 75] rfl
  have hl : lv_has ls 6 [(0, .ref q), (1, vI 1), (2, vI a), (3, vI b), (4, vI c9), (5, vI e9)] := hl
  refine lv_iload_n hx hb dX9_phase_0 rfl (lv_at hl 1 rfl) ?_
  refine z_cSi (As := [vI 1]) (rest := []) ⟨hx, hb, hml, hown, hts⟩ hK hP hD hS hA [] [0, 1, 2] rfl rfl rfl (c_X9_isNoPhase l g 1 (by first | assumption | omega | decide)) (va_cwS 1 hts gX9_phase_X9_isNoPhase rfl rfl rfl (by decide +kernel) ⟨Nat.le_of_ble_eq_true rfl, Nat.le_of_ble_eq_true rfl⟩) (fun _ _ _ _ _ _ => trivial) (fun _ _ _ => trivial) rfl hl.1 (Nat.le_of_ble_eq_true rfl) rfl dX9_phase_1 ⟨Nat.le_of_ble_eq_true rfl, Nat.le_of_ble_eq_true rfl⟩ (fun u_1 H locs hwu_1 hP hD hS => ?_)
  try dsimp only at hwu_1
  have hP : zP g [[dsk q d], (threeW g (d 3) px t), (noteW g (d 5) e5 y X T sz nx)] H := hP
  have hD : zD A [[dsk q d], (threeW g (d 3) px t), (noteW g (d 5) e5 y X T sz nx)] := hD
  refine z_toI (oU 1 0 2) rfl ?_
  have hf_2 := oU_s 1 0 2
  refine z_if_eq (tgt := 10) hx hb (by omega) dX9_phase_4 (by decide) (fun cq3 => ?_) (fun cq3 => False.elim (by omega))
  refine lv_iload_n hx hb dX9_phase_10 rfl (lv_at hl 2 rfl) ?_
  refine z_cSi (As := [vI a]) (rest := []) ⟨hx, hb, hml, hown, hts⟩ hK hP hD hS hA [] [0, 1, 2] rfl rfl rfl (c_X9_isNoWhole l g a (by first | assumption | omega | decide)) (va_cwS 1 hts gX9_phase_X9_isNoWhole rfl rfl rfl (by decide +kernel) ⟨Nat.le_of_ble_eq_true rfl, Nat.le_of_ble_eq_true rfl⟩) (fun _ _ _ _ _ _ => trivial) (fun _ _ _ => trivial) rfl hl.1 (Nat.le_of_ble_eq_true rfl) rfl dX9_phase_11 ⟨Nat.le_of_ble_eq_true rfl, Nat.le_of_ble_eq_true rfl⟩ (fun u_4 H locs hwu_4 hP hD hS => ?_)
  try dsimp only at hwu_4
  have hP : zP g [[dsk q d], (threeW g (d 3) px t), (noteW g (d 5) e5 y X T sz nx)] H := hP
  have hD : zD A [[dsk q d], (threeW g (d 3) px t), (noteW g (d 5) e5 y X T sz nx)] := hD
  refine z_toI (oU a (-9999) 9999) rfl ?_
  have hf_5 := oU_s a (-9999) 9999
  refine z_if_ne (tgt := 48) hx hb (by omega) dX9_phase_14 (by decide) (fun cq6 => False.elim (by omega)) (fun cq6 => ?_)
  refine lv_iload_n hx hb dX9_phase_17 rfl (lv_at hl 3 rfl) ?_
  refine z_iconst hx hb dX9_phase_18 rfl ?_
  refine z_sipush hx hb 9999 dX9_phase_19 rfl ?_
  refine z_cSi (As := [vI b, vI 1, vI 9999]) (rest := []) ⟨hx, hb, hml, hown, hts⟩ hK hP hD hS hA [] [0, 1, 2] rfl rfl rfl (c_X9_isOutside l g b 1 9999 (by first | assumption | omega | decide) (by first | assumption | omega | decide) (by first | assumption | omega | decide)) (va_cwS 3 hts gX9_phase_X9_isOutside rfl rfl rfl (by decide +kernel) ⟨Nat.le_of_ble_eq_true rfl, Nat.le_of_ble_eq_true rfl⟩) (fun _ _ _ _ _ _ => trivial) (fun _ _ _ => trivial) rfl hl.1 (Nat.le_of_ble_eq_true rfl) rfl dX9_phase_22 ⟨Nat.le_of_ble_eq_true rfl, Nat.le_of_ble_eq_true rfl⟩ (fun u_7 H locs hwu_7 hP hD hS => ?_)
  try dsimp only at hwu_7
  have hP : zP g [[dsk q d], (threeW g (d 3) px t), (noteW g (d 5) e5 y X T sz nx)] H := hP
  have hD : zD A [[dsk q d], (threeW g (d 3) px t), (noteW g (d 5) e5 y X T sz nx)] := hD
  refine z_toI (oU b 1 9999) rfl ?_
  have hf_8 := oU_s b 1 9999
  refine z_if_ne (tgt := 48) hx hb (by omega) dX9_phase_25 (by decide) (fun cq9 => False.elim (by omega)) (fun cq9 => ?_)
  refine lv_iload hx hb dX9_phase_28 (lv_at hl 4 rfl) ?_
  refine z_cSi (As := [vI c9]) (rest := []) ⟨hx, hb, hml, hown, hts⟩ hK hP hD hS hA [] [0, 1, 2] rfl rfl rfl (c_X9_isNoWhole l g c9 (by first | assumption | omega | decide)) (va_cwS 1 hts gX9_phase_X9_isNoWhole rfl rfl rfl (by decide +kernel) ⟨Nat.le_of_ble_eq_true rfl, Nat.le_of_ble_eq_true rfl⟩) (fun _ _ _ _ _ _ => trivial) (fun _ _ _ => trivial) rfl hl.1 (Nat.le_of_ble_eq_true rfl) rfl dX9_phase_30 ⟨Nat.le_of_ble_eq_true rfl, Nat.le_of_ble_eq_true rfl⟩ (fun u_10 H locs hwu_10 hP hD hS => ?_)
  try dsimp only at hwu_10
  have hP : zP g [[dsk q d], (threeW g (d 3) px t), (noteW g (d 5) e5 y X T sz nx)] H := hP
  have hD : zD A [[dsk q d], (threeW g (d 3) px t), (noteW g (d 5) e5 y X T sz nx)] := hD
  refine z_toI (oU c9 (-9999) 9999) rfl ?_
  have hf_11 := oU_s c9 (-9999) 9999
  refine z_if_ne (tgt := 48) hx hb (by omega) dX9_phase_33 (by decide) (fun cq12 => False.elim (by omega)) (fun cq12 => ?_)
  refine lv_iload hx hb dX9_phase_36 (lv_at hl 5 rfl) ?_
  refine z_iconst hx hb dX9_phase_38 rfl ?_
  refine z_sipush hx hb 9999 dX9_phase_39 rfl ?_
  refine z_cSi (As := [vI e9, vI 1, vI 9999]) (rest := []) ⟨hx, hb, hml, hown, hts⟩ hK hP hD hS hA [] [0, 1, 2] rfl rfl rfl (c_X9_isOutside l g e9 1 9999 (by first | assumption | omega | decide) (by first | assumption | omega | decide) (by first | assumption | omega | decide)) (va_cwS 3 hts gX9_phase_X9_isOutside rfl rfl rfl (by decide +kernel) ⟨Nat.le_of_ble_eq_true rfl, Nat.le_of_ble_eq_true rfl⟩) (fun _ _ _ _ _ _ => trivial) (fun _ _ _ => trivial) rfl hl.1 (Nat.le_of_ble_eq_true rfl) rfl dX9_phase_42 ⟨Nat.le_of_ble_eq_true rfl, Nat.le_of_ble_eq_true rfl⟩ (fun u_13 H locs hwu_13 hP hD hS => ?_)
  try dsimp only at hwu_13
  have hP : zP g [[dsk q d], (threeW g (d 3) px t), (noteW g (d 5) e5 y X T sz nx)] H := hP
  have hD : zD A [[dsk q d], (threeW g (d 3) px t), (noteW g (d 5) e5 y X T sz nx)] := hD
  refine z_toI (oU e9 1 9999) rfl ?_
  have hf_14 := oU_s e9 1 9999
  refine z_if_eq (tgt := 51) hx hb (by omega) dX9_phase_45 (by decide) (fun cq15 => ?_) (fun cq15 => False.elim (by omega))
  refine lv_aload_n hx hb dX9_phase_51 rfl (lv_at hl 0 rfl) ?_
  refine z_get hx hb hts hin9_ hown hK hP 0 rfl rfl 5 (by decide) (hts _ (List.mem_of_getElem? (i := 3) rfl)) rfl dX9_phase_52 ?_
  refine lv_aload_n hx hb dX9_phase_55 rfl (lv_at hl 0 rfl) ?_
  refine z_get hx hb hts hin9_ hown hK hP 0 rfl rfl 3 (by decide) (hts _ (List.mem_of_getElem? (i := 4) rfl)) rfl dX9_phase_56 ?_
  refine z_cVv (As := [.ref (d 3)]) (rest := []) ⟨hx, hb, hml, hown, hts⟩ hK hP hD hS hA [2, 1] [0] rfl rfl rfl (c_X3_add l g (d 5) e5 y X T sz nx (d 3) px t (by omega) (by omega) ht) (cwV 1 hts gX9_phase_X3_add rfl rfl rfl (by decide +kernel) ⟨Nat.le_of_ble_eq_true rfl, Nat.le_of_ble_eq_true rfl⟩) 3 0 rfl rfl rfl (fun _ _ _ _ _ _ => trivial) (fun _ _ _ => trivial) rfl hl.1 (Nat.le_of_ble_eq_true rfl) rfl dX9_phase_59 ⟨Nat.le_of_ble_eq_true rfl, Nat.le_of_ble_eq_true rfl⟩ (fun u_16 H locs hwu_16 hP hD hS => ?_)
  try dsimp only at hwu_16
  have hP : zP g [[dsk q d], (noteW g (d 5) e5 y X (upT T nx t) (min (sz + 1) 8) ((nx + 1) % 8)), (threeW g (d 3) px t)] H := hP
  have hD : zD A [[dsk q d], (noteW g (d 5) e5 y X (upT T nx t) (min (sz + 1) 8) ((nx + 1) % 8)), (threeW g (d 3) px t)] := hD
  have hP : zP g [[dsk q d], (threeW g (d 3) px t), (noteW g (d 5) e5 y X (upT T nx t) (min (sz + 1) 8) ((nx + 1) % 8))] H := zP_sub hP [0, 2, 1] rfl
  have hD : zD A [[dsk q d], (threeW g (d 3) px t), (noteW g (d 5) e5 y X (upT T nx t) (min (sz + 1) 8) ((nx + 1) % 8))] := zD_sub hD [0, 2, 1] rfl rfl
  have hP : zP g [[dsk q d], [((d 3), .inr (8, [.ref (px 0)]))], [((px 0), .inl (g.2 3, 3, .inr (.inr (.inr (.inr (rA [(px 1), (px 4), (px 7)]))))))], [((px 1), .inr (4, [.ref (px 2), .ref (px 3)]))], [fr (px 2) (t 0)], [fr (px 3) (t 1)], [((px 4), .inr (4, [.ref (px 5), .ref (px 6)]))], [fr (px 5) (t 2)], [fr (px 6) (t 3)], [((px 7), .inr (4, [.ref (px 8), .ref (px 9)]))], [fr (px 8) (t 4)], [fr (px 9) (t 5)], (noteW g (d 5) e5 y X (upT T nx t) (min (sz + 1) 8) ((nx + 1) % 8))] H := hP
  have hD : zD A [[dsk q d], [((d 3), .inr (8, [.ref (px 0)]))], [((px 0), .inl (g.2 3, 3, .inr (.inr (.inr (.inr (rA [(px 1), (px 4), (px 7)]))))))], [((px 1), .inr (4, [.ref (px 2), .ref (px 3)]))], [fr (px 2) (t 0)], [fr (px 3) (t 1)], [((px 4), .inr (4, [.ref (px 5), .ref (px 6)]))], [fr (px 5) (t 2)], [fr (px 6) (t 3)], [((px 7), .inr (4, [.ref (px 8), .ref (px 9)]))], [fr (px 8) (t 4)], [fr (px 9) (t 5)], (noteW g (d 5) e5 y X (upT T nx t) (min (sz + 1) 8) ((nx + 1) % 8))] := hD
  refine lv_aload_n hx hb dX9_phase_62 rfl (lv_at hl 0 rfl) ?_
  refine z_get hx hb hts hin9_ hown hK hP 0 rfl rfl 3 (by decide) (hts _ (List.mem_of_getElem? (i := 4) rfl)) rfl dX9_phase_63 ?_
  refine z_get hx hb hts hin8_ hown hK hP 1 rfl rfl 0 (by decide) (hts _ (List.mem_of_getElem? (i := 5) rfl)) rfl dX9_phase_66 ?_
  refine lv_iload_n hx hb dX9_phase_69 rfl (lv_at hl 1 rfl) ?_
  refine z_aald hx hb hK hP 2 3 rfl rfl 1 rfl (by decide) (by decide) (px 4) rfl dX9_phase_70 ?_
  refine z_get hx hb hts hin4_ hown hK hP 6 rfl rfl 0 (by decide) (hts _ (List.mem_of_getElem? (i := 6) rfl)) rfl dX9_phase_71 ?_
  refine lv_iload_n hx hb dX9_phase_74 rfl (lv_at hl 2 rfl) ?_
  refine z_i2l hx hb (by omega) dX9_phase_75 ?_
  refine lv_iload_n hx hb dX9_phase_76 rfl (lv_at hl 3 rfl) ?_
  refine z_i2l hx hb (by omega) dX9_phase_77 ?_
  refine z_cVv (As := [vL a, vL b]) (rest := []) ⟨hx, hb, hml, hown, hts⟩ hK hP hD hS hA [7] [0, 1, 2, 3, 4, 5, 6, 8, 9, 10, 11, 12] rfl rfl rfl (c_X1_become_ l g (px 5) (t 2) a b (by first | assumption | omega | decide) (by first | assumption | omega | decide)) (cwV 2 hts gX9_phase_X1_become_ rfl rfl rfl (by decide +kernel) ⟨Nat.le_of_ble_eq_true rfl, Nat.le_of_ble_eq_true rfl⟩) 1 0 rfl rfl rfl (fun _ _ _ _ _ _ => trivial) (fun _ _ _ => trivial) rfl hl.1 (Nat.le_of_ble_eq_true rfl) rfl dX9_phase_78 ⟨Nat.le_of_ble_eq_true rfl, Nat.le_of_ble_eq_true rfl⟩ (fun u_17 H locs hwu_17 hP hD hS => ?_)
  try dsimp only at hwu_17
  have hP : zP g [[dsk q d], [((d 3), .inr (8, [.ref (px 0)]))], [((px 0), .inl (g.2 3, 3, .inr (.inr (.inr (.inr (rA [(px 1), (px 4), (px 7)]))))))], [((px 1), .inr (4, [.ref (px 2), .ref (px 3)]))], [fr (px 2) (t 0)], [fr (px 3) (t 1)], [((px 4), .inr (4, [.ref (px 5), .ref (px 6)]))], [fr (px 6) (t 3)], [((px 7), .inr (4, [.ref (px 8), .ref (px 9)]))], [fr (px 8) (t 4)], [fr (px 9) (t 5)], (noteW g (d 5) e5 y X (upT T nx t) (min (sz + 1) 8) ((nx + 1) % 8)), [fr (px 5) (fmk a b)]] H := hP
  have hD : zD A [[dsk q d], [((d 3), .inr (8, [.ref (px 0)]))], [((px 0), .inl (g.2 3, 3, .inr (.inr (.inr (.inr (rA [(px 1), (px 4), (px 7)]))))))], [((px 1), .inr (4, [.ref (px 2), .ref (px 3)]))], [fr (px 2) (t 0)], [fr (px 3) (t 1)], [((px 4), .inr (4, [.ref (px 5), .ref (px 6)]))], [fr (px 6) (t 3)], [((px 7), .inr (4, [.ref (px 8), .ref (px 9)]))], [fr (px 8) (t 4)], [fr (px 9) (t 5)], (noteW g (d 5) e5 y X (upT T nx t) (min (sz + 1) 8) ((nx + 1) % 8)), [fr (px 5) (fmk a b)]] := hD
  have hP : zP g [[dsk q d], [((d 3), .inr (8, [.ref (px 0)]))], [((px 0), .inl (g.2 3, 3, .inr (.inr (.inr (.inr (rA [(px 1), (px 4), (px 7)]))))))], [((px 1), .inr (4, [.ref (px 2), .ref (px 3)]))], [fr (px 2) (t 0)], [fr (px 3) (t 1)], [((px 4), .inr (4, [.ref (px 5), .ref (px 6)]))], [fr (px 6) (t 3)], [((px 7), .inr (4, [.ref (px 8), .ref (px 9)]))], [fr (px 8) (t 4)], [fr (px 9) (t 5)], [fr (px 5) (fmk a b)], (noteW g (d 5) e5 y X (upT T nx t) (min (sz + 1) 8) ((nx + 1) % 8))] H := zP_sub hP [0, 1, 2, 3, 4, 5, 6, 7, 8, 9, 10, 12, 11] rfl
  have hD : zD A [[dsk q d], [((d 3), .inr (8, [.ref (px 0)]))], [((px 0), .inl (g.2 3, 3, .inr (.inr (.inr (.inr (rA [(px 1), (px 4), (px 7)]))))))], [((px 1), .inr (4, [.ref (px 2), .ref (px 3)]))], [fr (px 2) (t 0)], [fr (px 3) (t 1)], [((px 4), .inr (4, [.ref (px 5), .ref (px 6)]))], [fr (px 6) (t 3)], [((px 7), .inr (4, [.ref (px 8), .ref (px 9)]))], [fr (px 8) (t 4)], [fr (px 9) (t 5)], [fr (px 5) (fmk a b)], (noteW g (d 5) e5 y X (upT T nx t) (min (sz + 1) 8) ((nx + 1) % 8))] := zD_sub hD [0, 1, 2, 3, 4, 5, 6, 7, 8, 9, 10, 12, 11] rfl rfl
  refine lv_aload_n hx hb dX9_phase_81 rfl (lv_at hl 0 rfl) ?_
  refine z_get hx hb hts hin9_ hown hK hP 0 rfl rfl 3 (by decide) (hts _ (List.mem_of_getElem? (i := 4) rfl)) rfl dX9_phase_82 ?_
  refine z_get hx hb hts hin8_ hown hK hP 1 rfl rfl 0 (by decide) (hts _ (List.mem_of_getElem? (i := 5) rfl)) rfl dX9_phase_85 ?_
  refine lv_iload_n hx hb dX9_phase_88 rfl (lv_at hl 1 rfl) ?_
  refine z_aald hx hb hK hP 2 3 rfl rfl 1 rfl (by decide) (by decide) (px 4) rfl dX9_phase_89 ?_
  refine z_get hx hb hts hin4_ hown hK hP 6 rfl rfl 1 (by decide) (hts _ (List.mem_of_getElem? (i := 7) rfl)) rfl dX9_phase_90 ?_
  refine lv_iload hx hb dX9_phase_93 (lv_at hl 4 rfl) ?_
  refine z_i2l hx hb (by omega) dX9_phase_95 ?_
  refine lv_iload hx hb dX9_phase_96 (lv_at hl 5 rfl) ?_
  refine z_i2l hx hb (by omega) dX9_phase_98 ?_
  refine z_cVv (As := [vL c9, vL e9]) (rest := []) ⟨hx, hb, hml, hown, hts⟩ hK hP hD hS hA [7] [0, 1, 2, 3, 4, 5, 6, 8, 9, 10, 11, 12] rfl rfl rfl (c_X1_become_ l g (px 6) (t 3) c9 e9 (by first | assumption | omega | decide) (by first | assumption | omega | decide)) (cwV 2 hts gX9_phase_X1_become_ rfl rfl rfl (by decide +kernel) ⟨Nat.le_of_ble_eq_true rfl, Nat.le_of_ble_eq_true rfl⟩) 1 0 rfl rfl rfl (fun _ _ _ _ _ _ => trivial) (fun _ _ _ => trivial) rfl hl.1 (Nat.le_of_ble_eq_true rfl) rfl dX9_phase_99 ⟨Nat.le_of_ble_eq_true rfl, Nat.le_of_ble_eq_true rfl⟩ (fun u_18 H locs hwu_18 hP hD hS => ?_)
  try dsimp only at hwu_18
  have hP : zP g [[dsk q d], [((d 3), .inr (8, [.ref (px 0)]))], [((px 0), .inl (g.2 3, 3, .inr (.inr (.inr (.inr (rA [(px 1), (px 4), (px 7)]))))))], [((px 1), .inr (4, [.ref (px 2), .ref (px 3)]))], [fr (px 2) (t 0)], [fr (px 3) (t 1)], [((px 4), .inr (4, [.ref (px 5), .ref (px 6)]))], [((px 7), .inr (4, [.ref (px 8), .ref (px 9)]))], [fr (px 8) (t 4)], [fr (px 9) (t 5)], [fr (px 5) (fmk a b)], (noteW g (d 5) e5 y X (upT T nx t) (min (sz + 1) 8) ((nx + 1) % 8)), [fr (px 6) (fmk c9 e9)]] H := hP
  have hD : zD A [[dsk q d], [((d 3), .inr (8, [.ref (px 0)]))], [((px 0), .inl (g.2 3, 3, .inr (.inr (.inr (.inr (rA [(px 1), (px 4), (px 7)]))))))], [((px 1), .inr (4, [.ref (px 2), .ref (px 3)]))], [fr (px 2) (t 0)], [fr (px 3) (t 1)], [((px 4), .inr (4, [.ref (px 5), .ref (px 6)]))], [((px 7), .inr (4, [.ref (px 8), .ref (px 9)]))], [fr (px 8) (t 4)], [fr (px 9) (t 5)], [fr (px 5) (fmk a b)], (noteW g (d 5) e5 y X (upT T nx t) (min (sz + 1) 8) ((nx + 1) % 8)), [fr (px 6) (fmk c9 e9)]] := hD
  have hP : zP g [[dsk q d], [((d 3), .inr (8, [.ref (px 0)]))], [((px 0), .inl (g.2 3, 3, .inr (.inr (.inr (.inr (rA [(px 1), (px 4), (px 7)]))))))], [((px 1), .inr (4, [.ref (px 2), .ref (px 3)]))], [fr (px 2) (t 0)], [fr (px 3) (t 1)], [((px 4), .inr (4, [.ref (px 5), .ref (px 6)]))], [((px 7), .inr (4, [.ref (px 8), .ref (px 9)]))], [fr (px 8) (t 4)], [fr (px 9) (t 5)], [fr (px 5) (fmk a b)], [fr (px 6) (fmk c9 e9)], (noteW g (d 5) e5 y X (upT T nx t) (min (sz + 1) 8) ((nx + 1) % 8))] H := zP_sub hP [0, 1, 2, 3, 4, 5, 6, 7, 8, 9, 10, 12, 11] rfl
  have hD : zD A [[dsk q d], [((d 3), .inr (8, [.ref (px 0)]))], [((px 0), .inl (g.2 3, 3, .inr (.inr (.inr (.inr (rA [(px 1), (px 4), (px 7)]))))))], [((px 1), .inr (4, [.ref (px 2), .ref (px 3)]))], [fr (px 2) (t 0)], [fr (px 3) (t 1)], [((px 4), .inr (4, [.ref (px 5), .ref (px 6)]))], [((px 7), .inr (4, [.ref (px 8), .ref (px 9)]))], [fr (px 8) (t 4)], [fr (px 9) (t 5)], [fr (px 5) (fmk a b)], [fr (px 6) (fmk c9 e9)], (noteW g (d 5) e5 y X (upT T nx t) (min (sz + 1) 8) ((nx + 1) % 8))] := zD_sub hD [0, 1, 2, 3, 4, 5, 6, 7, 8, 9, 10, 12, 11] rfl rfl
  refine z_iconst hx hb dX9_phase_102 rfl ?_
  have hP : zP g [[dsk q d], [((d 3), .inr (8, [.ref (px 0)]))], [((px 0), .inl (g.2 3, 3, .inr (.inr (.inr (.inr (rA [(px 1), (px 4), (px 7)]))))))], [((px 1), .inr (4, [.ref (px 2), .ref (px 3)]))], [fr (px 2) (t 0)], [fr (px 3) (t 1)], [((px 4), .inr (4, [.ref (px 5), .ref (px 6)]))], [fr (px 5) (fmk a b)], [fr (px 6) (fmk c9 e9)], [((px 7), .inr (4, [.ref (px 8), .ref (px 9)]))], [fr (px 8) (t 4)], [fr (px 9) (t 5)], (noteW g (d 5) e5 y X (upT T nx t) (min (sz + 1) 8) ((nx + 1) % 8))] H := zP_sub hP [0, 1, 2, 3, 4, 5, 6, 10, 11, 7, 8, 9, 12] rfl
  have hD : zD A [[dsk q d], [((d 3), .inr (8, [.ref (px 0)]))], [((px 0), .inl (g.2 3, 3, .inr (.inr (.inr (.inr (rA [(px 1), (px 4), (px 7)]))))))], [((px 1), .inr (4, [.ref (px 2), .ref (px 3)]))], [fr (px 2) (t 0)], [fr (px 3) (t 1)], [((px 4), .inr (4, [.ref (px 5), .ref (px 6)]))], [fr (px 5) (fmk a b)], [fr (px 6) (fmk c9 e9)], [((px 7), .inr (4, [.ref (px 8), .ref (px 9)]))], [fr (px 8) (t 4)], [fr (px 9) (t 5)], (noteW g (d 5) e5 y X (upT T nx t) (min (sz + 1) 8) ((nx + 1) % 8))] := zD_sub hD [0, 1, 2, 3, 4, 5, 6, 10, 11, 7, 8, 9, 12] rfl rfl
  have hP : zP g [[dsk q d], (threeW g (d 3) px (lF [(t 0), (t 1), (fmk a b), (fmk c9 e9), (t 4), (t 5)])), (noteW g (d 5) e5 y X (upT T nx t) (min (sz + 1) 8) ((nx + 1) % 8))] H := hP
  have hD : zD A [[dsk q d], (threeW g (d 3) px (lF [(t 0), (t 1), (fmk a b), (fmk c9 e9), (t 4), (t 5)])), (noteW g (d 5) e5 y X (upT T nx t) (min (sz + 1) 8) ((nx + 1) % 8))] := hD
  exact z_reti () [0, 1, 2] hx hb hr rfl hlocks hK hP hD hS (rfl) trivial rfl rfl (rfl) (Nat.le_of_ble_eq_true rfl) (Nat.le_of_ble_eq_true rfl) dX9_phase_103

set_option maxHeartbeats 4000000 in
set_option maxRecDepth 100000 in
theorem c_X9_phase2 (l : Launch) (g : zG) (q : Nat) (d : Nat → Nat) (px : Nat → Nat) (t : Nat → FO) (e5 : Nat) (y : Nat → Nat) (X : Nat → Nat → Nat) (T : Nat → Nat → FO) (sz : Nat) (nx : Nat) (a : Int) (b : Int) (c9 : Int) (e9 : Int) (r1 : -2147483648 ≤ a ∧ a < 2147483648) (r2 : -2147483648 ≤ b ∧ b < 2147483648) (r3 : -2147483648 ≤ c9 ∧ c9 < 2147483648) (r4 : -2147483648 ≤ e9 ∧ e9 < 2147483648) (ho : (-9999 ≤ a ∧ a ≤ 9999) ∧ (1 ≤ b ∧ b ≤ 9999) ∧ (-9999 ≤ c9 ∧ c9 ≤ 9999) ∧ (1 ≤ e9 ∧ e9 ≤ 9999)) (ht : ∀ k, fok (t k)) (hsz : sz ≤ 8) (hnx : nx < 8) : zMet l g yX9_phase wsX9_phase 4 0 0 [.ref q, vI 2, vI a, vI b, vI c9, vI e9] zX0 [[dsk q d], (threeW g (d 3) px t), (noteW g (d 5) e5 y X T sz nx)] (qi g (fun (_ : Unit) => 1) (fun (_ : Unit) => True) (fun (_ : Unit) => [[dsk q d], (threeW g (d 3) px (lF [(t 0), (t 1), (t 2), (t 3), (fmk a b), (fmk c9 e9)])), (noteW g (d 5) e5 y X (upT T nx t) (min (sz + 1) 8) ((nx + 1) % 8))])) := by
  refine z_ent (cc := cX9_phase) (maxL := 6) (ret := (some .int)) (by decide) rfl (Nat.le_of_ble_eq_true rfl) ?_
  intro p e s m below meth c A ls hx hb hr hml hown hts hlocks hin0 hA hK hP hD hS hXX hl
  have hown : s.vm.findClass RX9 = some m.cls := hown
  have hin4_ : ∀ w ∈ wsX40, w ∈ wsX9_phase := zw_in [77, 78] rfl
  have hin8_ : ∀ w ∈ wsX80, w ∈ wsX9_phase := zw_in [76] rfl
  have hin9_ : ∀ w ∈ wsX90, w ∈ wsX9_phase := zw_in [64, 65, 66, 67, 68, 69, 70, 71, 72, 73, 74, 75] rfl
  have hl : lv_has ls 6 [(0, .ref q), (1, vI 2), (2, vI a), (3, vI b), (4, vI c9), (5, vI e9)] := hl
  refine lv_iload_n hx hb dX9_phase_0 rfl (lv_at hl 1 rfl) ?_
  refine z_cSi (As := [vI 2]) (rest := []) ⟨hx, hb, hml, hown, hts⟩ hK hP hD hS hA [] [0, 1, 2] rfl rfl rfl (c_X9_isNoPhase l g 2 (by first | assumption | omega | decide)) (va_cwS 1 hts gX9_phase_X9_isNoPhase rfl rfl rfl (by decide +kernel) ⟨Nat.le_of_ble_eq_true rfl, Nat.le_of_ble_eq_true rfl⟩) (fun _ _ _ _ _ _ => trivial) (fun _ _ _ => trivial) rfl hl.1 (Nat.le_of_ble_eq_true rfl) rfl dX9_phase_1 ⟨Nat.le_of_ble_eq_true rfl, Nat.le_of_ble_eq_true rfl⟩ (fun u_1 H locs hwu_1 hP hD hS => ?_)
  try dsimp only at hwu_1
  have hP : zP g [[dsk q d], (threeW g (d 3) px t), (noteW g (d 5) e5 y X T sz nx)] H := hP
  have hD : zD A [[dsk q d], (threeW g (d 3) px t), (noteW g (d 5) e5 y X T sz nx)] := hD
  refine z_toI (oU 2 0 2) rfl ?_
  have hf_2 := oU_s 2 0 2
  refine z_if_eq (tgt := 10) hx hb (by omega) dX9_phase_4 (by decide) (fun cq3 => ?_) (fun cq3 => False.elim (by omega))
  refine lv_iload_n hx hb dX9_phase_10 rfl (lv_at hl 2 rfl) ?_
  refine z_cSi (As := [vI a]) (rest := []) ⟨hx, hb, hml, hown, hts⟩ hK hP hD hS hA [] [0, 1, 2] rfl rfl rfl (c_X9_isNoWhole l g a (by first | assumption | omega | decide)) (va_cwS 1 hts gX9_phase_X9_isNoWhole rfl rfl rfl (by decide +kernel) ⟨Nat.le_of_ble_eq_true rfl, Nat.le_of_ble_eq_true rfl⟩) (fun _ _ _ _ _ _ => trivial) (fun _ _ _ => trivial) rfl hl.1 (Nat.le_of_ble_eq_true rfl) rfl dX9_phase_11 ⟨Nat.le_of_ble_eq_true rfl, Nat.le_of_ble_eq_true rfl⟩ (fun u_4 H locs hwu_4 hP hD hS => ?_)
  try dsimp only at hwu_4
  have hP : zP g [[dsk q d], (threeW g (d 3) px t), (noteW g (d 5) e5 y X T sz nx)] H := hP
  have hD : zD A [[dsk q d], (threeW g (d 3) px t), (noteW g (d 5) e5 y X T sz nx)] := hD
  refine z_toI (oU a (-9999) 9999) rfl ?_
  have hf_5 := oU_s a (-9999) 9999
  refine z_if_ne (tgt := 48) hx hb (by omega) dX9_phase_14 (by decide) (fun cq6 => False.elim (by omega)) (fun cq6 => ?_)
  refine lv_iload_n hx hb dX9_phase_17 rfl (lv_at hl 3 rfl) ?_
  refine z_iconst hx hb dX9_phase_18 rfl ?_
  refine z_sipush hx hb 9999 dX9_phase_19 rfl ?_
  refine z_cSi (As := [vI b, vI 1, vI 9999]) (rest := []) ⟨hx, hb, hml, hown, hts⟩ hK hP hD hS hA [] [0, 1, 2] rfl rfl rfl (c_X9_isOutside l g b 1 9999 (by first | assumption | omega | decide) (by first | assumption | omega | decide) (by first | assumption | omega | decide)) (va_cwS 3 hts gX9_phase_X9_isOutside rfl rfl rfl (by decide +kernel) ⟨Nat.le_of_ble_eq_true rfl, Nat.le_of_ble_eq_true rfl⟩) (fun _ _ _ _ _ _ => trivial) (fun _ _ _ => trivial) rfl hl.1 (Nat.le_of_ble_eq_true rfl) rfl dX9_phase_22 ⟨Nat.le_of_ble_eq_true rfl, Nat.le_of_ble_eq_true rfl⟩ (fun u_7 H locs hwu_7 hP hD hS => ?_)
  try dsimp only at hwu_7
  have hP : zP g [[dsk q d], (threeW g (d 3) px t), (noteW g (d 5) e5 y X T sz nx)] H := hP
  have hD : zD A [[dsk q d], (threeW g (d 3) px t), (noteW g (d 5) e5 y X T sz nx)] := hD
  refine z_toI (oU b 1 9999) rfl ?_
  have hf_8 := oU_s b 1 9999
  refine z_if_ne (tgt := 48) hx hb (by omega) dX9_phase_25 (by decide) (fun cq9 => False.elim (by omega)) (fun cq9 => ?_)
  refine lv_iload hx hb dX9_phase_28 (lv_at hl 4 rfl) ?_
  refine z_cSi (As := [vI c9]) (rest := []) ⟨hx, hb, hml, hown, hts⟩ hK hP hD hS hA [] [0, 1, 2] rfl rfl rfl (c_X9_isNoWhole l g c9 (by first | assumption | omega | decide)) (va_cwS 1 hts gX9_phase_X9_isNoWhole rfl rfl rfl (by decide +kernel) ⟨Nat.le_of_ble_eq_true rfl, Nat.le_of_ble_eq_true rfl⟩) (fun _ _ _ _ _ _ => trivial) (fun _ _ _ => trivial) rfl hl.1 (Nat.le_of_ble_eq_true rfl) rfl dX9_phase_30 ⟨Nat.le_of_ble_eq_true rfl, Nat.le_of_ble_eq_true rfl⟩ (fun u_10 H locs hwu_10 hP hD hS => ?_)
  try dsimp only at hwu_10
  have hP : zP g [[dsk q d], (threeW g (d 3) px t), (noteW g (d 5) e5 y X T sz nx)] H := hP
  have hD : zD A [[dsk q d], (threeW g (d 3) px t), (noteW g (d 5) e5 y X T sz nx)] := hD
  refine z_toI (oU c9 (-9999) 9999) rfl ?_
  have hf_11 := oU_s c9 (-9999) 9999
  refine z_if_ne (tgt := 48) hx hb (by omega) dX9_phase_33 (by decide) (fun cq12 => False.elim (by omega)) (fun cq12 => ?_)
  refine lv_iload hx hb dX9_phase_36 (lv_at hl 5 rfl) ?_
  refine z_iconst hx hb dX9_phase_38 rfl ?_
  refine z_sipush hx hb 9999 dX9_phase_39 rfl ?_
  refine z_cSi (As := [vI e9, vI 1, vI 9999]) (rest := []) ⟨hx, hb, hml, hown, hts⟩ hK hP hD hS hA [] [0, 1, 2] rfl rfl rfl (c_X9_isOutside l g e9 1 9999 (by first | assumption | omega | decide) (by first | assumption | omega | decide) (by first | assumption | omega | decide)) (va_cwS 3 hts gX9_phase_X9_isOutside rfl rfl rfl (by decide +kernel) ⟨Nat.le_of_ble_eq_true rfl, Nat.le_of_ble_eq_true rfl⟩) (fun _ _ _ _ _ _ => trivial) (fun _ _ _ => trivial) rfl hl.1 (Nat.le_of_ble_eq_true rfl) rfl dX9_phase_42 ⟨Nat.le_of_ble_eq_true rfl, Nat.le_of_ble_eq_true rfl⟩ (fun u_13 H locs hwu_13 hP hD hS => ?_)
  try dsimp only at hwu_13
  have hP : zP g [[dsk q d], (threeW g (d 3) px t), (noteW g (d 5) e5 y X T sz nx)] H := hP
  have hD : zD A [[dsk q d], (threeW g (d 3) px t), (noteW g (d 5) e5 y X T sz nx)] := hD
  refine z_toI (oU e9 1 9999) rfl ?_
  have hf_14 := oU_s e9 1 9999
  refine z_if_eq (tgt := 51) hx hb (by omega) dX9_phase_45 (by decide) (fun cq15 => ?_) (fun cq15 => False.elim (by omega))
  refine lv_aload_n hx hb dX9_phase_51 rfl (lv_at hl 0 rfl) ?_
  refine z_get hx hb hts hin9_ hown hK hP 0 rfl rfl 5 (by decide) (hts _ (List.mem_of_getElem? (i := 3) rfl)) rfl dX9_phase_52 ?_
  refine lv_aload_n hx hb dX9_phase_55 rfl (lv_at hl 0 rfl) ?_
  refine z_get hx hb hts hin9_ hown hK hP 0 rfl rfl 3 (by decide) (hts _ (List.mem_of_getElem? (i := 4) rfl)) rfl dX9_phase_56 ?_
  refine z_cVv (As := [.ref (d 3)]) (rest := []) ⟨hx, hb, hml, hown, hts⟩ hK hP hD hS hA [2, 1] [0] rfl rfl rfl (c_X3_add l g (d 5) e5 y X T sz nx (d 3) px t (by omega) (by omega) ht) (cwV 1 hts gX9_phase_X3_add rfl rfl rfl (by decide +kernel) ⟨Nat.le_of_ble_eq_true rfl, Nat.le_of_ble_eq_true rfl⟩) 3 0 rfl rfl rfl (fun _ _ _ _ _ _ => trivial) (fun _ _ _ => trivial) rfl hl.1 (Nat.le_of_ble_eq_true rfl) rfl dX9_phase_59 ⟨Nat.le_of_ble_eq_true rfl, Nat.le_of_ble_eq_true rfl⟩ (fun u_16 H locs hwu_16 hP hD hS => ?_)
  try dsimp only at hwu_16
  have hP : zP g [[dsk q d], (noteW g (d 5) e5 y X (upT T nx t) (min (sz + 1) 8) ((nx + 1) % 8)), (threeW g (d 3) px t)] H := hP
  have hD : zD A [[dsk q d], (noteW g (d 5) e5 y X (upT T nx t) (min (sz + 1) 8) ((nx + 1) % 8)), (threeW g (d 3) px t)] := hD
  have hP : zP g [[dsk q d], (threeW g (d 3) px t), (noteW g (d 5) e5 y X (upT T nx t) (min (sz + 1) 8) ((nx + 1) % 8))] H := zP_sub hP [0, 2, 1] rfl
  have hD : zD A [[dsk q d], (threeW g (d 3) px t), (noteW g (d 5) e5 y X (upT T nx t) (min (sz + 1) 8) ((nx + 1) % 8))] := zD_sub hD [0, 2, 1] rfl rfl
  have hP : zP g [[dsk q d], [((d 3), .inr (8, [.ref (px 0)]))], [((px 0), .inl (g.2 3, 3, .inr (.inr (.inr (.inr (rA [(px 1), (px 4), (px 7)]))))))], [((px 1), .inr (4, [.ref (px 2), .ref (px 3)]))], [fr (px 2) (t 0)], [fr (px 3) (t 1)], [((px 4), .inr (4, [.ref (px 5), .ref (px 6)]))], [fr (px 5) (t 2)], [fr (px 6) (t 3)], [((px 7), .inr (4, [.ref (px 8), .ref (px 9)]))], [fr (px 8) (t 4)], [fr (px 9) (t 5)], (noteW g (d 5) e5 y X (upT T nx t) (min (sz + 1) 8) ((nx + 1) % 8))] H := hP
  have hD : zD A [[dsk q d], [((d 3), .inr (8, [.ref (px 0)]))], [((px 0), .inl (g.2 3, 3, .inr (.inr (.inr (.inr (rA [(px 1), (px 4), (px 7)]))))))], [((px 1), .inr (4, [.ref (px 2), .ref (px 3)]))], [fr (px 2) (t 0)], [fr (px 3) (t 1)], [((px 4), .inr (4, [.ref (px 5), .ref (px 6)]))], [fr (px 5) (t 2)], [fr (px 6) (t 3)], [((px 7), .inr (4, [.ref (px 8), .ref (px 9)]))], [fr (px 8) (t 4)], [fr (px 9) (t 5)], (noteW g (d 5) e5 y X (upT T nx t) (min (sz + 1) 8) ((nx + 1) % 8))] := hD
  refine lv_aload_n hx hb dX9_phase_62 rfl (lv_at hl 0 rfl) ?_
  refine z_get hx hb hts hin9_ hown hK hP 0 rfl rfl 3 (by decide) (hts _ (List.mem_of_getElem? (i := 4) rfl)) rfl dX9_phase_63 ?_
  refine z_get hx hb hts hin8_ hown hK hP 1 rfl rfl 0 (by decide) (hts _ (List.mem_of_getElem? (i := 5) rfl)) rfl dX9_phase_66 ?_
  refine lv_iload_n hx hb dX9_phase_69 rfl (lv_at hl 1 rfl) ?_
  refine z_aald hx hb hK hP 2 3 rfl rfl 2 rfl (by decide) (by decide) (px 7) rfl dX9_phase_70 ?_
  refine z_get hx hb hts hin4_ hown hK hP 9 rfl rfl 0 (by decide) (hts _ (List.mem_of_getElem? (i := 6) rfl)) rfl dX9_phase_71 ?_
  refine lv_iload_n hx hb dX9_phase_74 rfl (lv_at hl 2 rfl) ?_
  refine z_i2l hx hb (by omega) dX9_phase_75 ?_
  refine lv_iload_n hx hb dX9_phase_76 rfl (lv_at hl 3 rfl) ?_
  refine z_i2l hx hb (by omega) dX9_phase_77 ?_
  refine z_cVv (As := [vL a, vL b]) (rest := []) ⟨hx, hb, hml, hown, hts⟩ hK hP hD hS hA [10] [0, 1, 2, 3, 4, 5, 6, 7, 8, 9, 11, 12] rfl rfl rfl (c_X1_become_ l g (px 8) (t 4) a b (by first | assumption | omega | decide) (by first | assumption | omega | decide)) (cwV 2 hts gX9_phase_X1_become_ rfl rfl rfl (by decide +kernel) ⟨Nat.le_of_ble_eq_true rfl, Nat.le_of_ble_eq_true rfl⟩) 1 0 rfl rfl rfl (fun _ _ _ _ _ _ => trivial) (fun _ _ _ => trivial) rfl hl.1 (Nat.le_of_ble_eq_true rfl) rfl dX9_phase_78 ⟨Nat.le_of_ble_eq_true rfl, Nat.le_of_ble_eq_true rfl⟩ (fun u_17 H locs hwu_17 hP hD hS => ?_)
  try dsimp only at hwu_17
  have hP : zP g [[dsk q d], [((d 3), .inr (8, [.ref (px 0)]))], [((px 0), .inl (g.2 3, 3, .inr (.inr (.inr (.inr (rA [(px 1), (px 4), (px 7)]))))))], [((px 1), .inr (4, [.ref (px 2), .ref (px 3)]))], [fr (px 2) (t 0)], [fr (px 3) (t 1)], [((px 4), .inr (4, [.ref (px 5), .ref (px 6)]))], [fr (px 5) (t 2)], [fr (px 6) (t 3)], [((px 7), .inr (4, [.ref (px 8), .ref (px 9)]))], [fr (px 9) (t 5)], (noteW g (d 5) e5 y X (upT T nx t) (min (sz + 1) 8) ((nx + 1) % 8)), [fr (px 8) (fmk a b)]] H := hP
  have hD : zD A [[dsk q d], [((d 3), .inr (8, [.ref (px 0)]))], [((px 0), .inl (g.2 3, 3, .inr (.inr (.inr (.inr (rA [(px 1), (px 4), (px 7)]))))))], [((px 1), .inr (4, [.ref (px 2), .ref (px 3)]))], [fr (px 2) (t 0)], [fr (px 3) (t 1)], [((px 4), .inr (4, [.ref (px 5), .ref (px 6)]))], [fr (px 5) (t 2)], [fr (px 6) (t 3)], [((px 7), .inr (4, [.ref (px 8), .ref (px 9)]))], [fr (px 9) (t 5)], (noteW g (d 5) e5 y X (upT T nx t) (min (sz + 1) 8) ((nx + 1) % 8)), [fr (px 8) (fmk a b)]] := hD
  have hP : zP g [[dsk q d], [((d 3), .inr (8, [.ref (px 0)]))], [((px 0), .inl (g.2 3, 3, .inr (.inr (.inr (.inr (rA [(px 1), (px 4), (px 7)]))))))], [((px 1), .inr (4, [.ref (px 2), .ref (px 3)]))], [fr (px 2) (t 0)], [fr (px 3) (t 1)], [((px 4), .inr (4, [.ref (px 5), .ref (px 6)]))], [fr (px 5) (t 2)], [fr (px 6) (t 3)], [((px 7), .inr (4, [.ref (px 8), .ref (px 9)]))], [fr (px 9) (t 5)], [fr (px 8) (fmk a b)], (noteW g (d 5) e5 y X (upT T nx t) (min (sz + 1) 8) ((nx + 1) % 8))] H := zP_sub hP [0, 1, 2, 3, 4, 5, 6, 7, 8, 9, 10, 12, 11] rfl
  have hD : zD A [[dsk q d], [((d 3), .inr (8, [.ref (px 0)]))], [((px 0), .inl (g.2 3, 3, .inr (.inr (.inr (.inr (rA [(px 1), (px 4), (px 7)]))))))], [((px 1), .inr (4, [.ref (px 2), .ref (px 3)]))], [fr (px 2) (t 0)], [fr (px 3) (t 1)], [((px 4), .inr (4, [.ref (px 5), .ref (px 6)]))], [fr (px 5) (t 2)], [fr (px 6) (t 3)], [((px 7), .inr (4, [.ref (px 8), .ref (px 9)]))], [fr (px 9) (t 5)], [fr (px 8) (fmk a b)], (noteW g (d 5) e5 y X (upT T nx t) (min (sz + 1) 8) ((nx + 1) % 8))] := zD_sub hD [0, 1, 2, 3, 4, 5, 6, 7, 8, 9, 10, 12, 11] rfl rfl
  refine lv_aload_n hx hb dX9_phase_81 rfl (lv_at hl 0 rfl) ?_
  refine z_get hx hb hts hin9_ hown hK hP 0 rfl rfl 3 (by decide) (hts _ (List.mem_of_getElem? (i := 4) rfl)) rfl dX9_phase_82 ?_
  refine z_get hx hb hts hin8_ hown hK hP 1 rfl rfl 0 (by decide) (hts _ (List.mem_of_getElem? (i := 5) rfl)) rfl dX9_phase_85 ?_
  refine lv_iload_n hx hb dX9_phase_88 rfl (lv_at hl 1 rfl) ?_
  refine z_aald hx hb hK hP 2 3 rfl rfl 2 rfl (by decide) (by decide) (px 7) rfl dX9_phase_89 ?_
  refine z_get hx hb hts hin4_ hown hK hP 9 rfl rfl 1 (by decide) (hts _ (List.mem_of_getElem? (i := 7) rfl)) rfl dX9_phase_90 ?_
  refine lv_iload hx hb dX9_phase_93 (lv_at hl 4 rfl) ?_
  refine z_i2l hx hb (by omega) dX9_phase_95 ?_
  refine lv_iload hx hb dX9_phase_96 (lv_at hl 5 rfl) ?_
  refine z_i2l hx hb (by omega) dX9_phase_98 ?_
  refine z_cVv (As := [vL c9, vL e9]) (rest := []) ⟨hx, hb, hml, hown, hts⟩ hK hP hD hS hA [10] [0, 1, 2, 3, 4, 5, 6, 7, 8, 9, 11, 12] rfl rfl rfl (c_X1_become_ l g (px 9) (t 5) c9 e9 (by first | assumption | omega | decide) (by first | assumption | omega | decide)) (cwV 2 hts gX9_phase_X1_become_ rfl rfl rfl (by decide +kernel) ⟨Nat.le_of_ble_eq_true rfl, Nat.le_of_ble_eq_true rfl⟩) 1 0 rfl rfl rfl (fun _ _ _ _ _ _ => trivial) (fun _ _ _ => trivial) rfl hl.1 (Nat.le_of_ble_eq_true rfl) rfl dX9_phase_99 ⟨Nat.le_of_ble_eq_true rfl, Nat.le_of_ble_eq_true rfl⟩ (fun u_18 H locs hwu_18 hP hD hS => ?_)
  try dsimp only at hwu_18
  have hP : zP g [[dsk q d], [((d 3), .inr (8, [.ref (px 0)]))], [((px 0), .inl (g.2 3, 3, .inr (.inr (.inr (.inr (rA [(px 1), (px 4), (px 7)]))))))], [((px 1), .inr (4, [.ref (px 2), .ref (px 3)]))], [fr (px 2) (t 0)], [fr (px 3) (t 1)], [((px 4), .inr (4, [.ref (px 5), .ref (px 6)]))], [fr (px 5) (t 2)], [fr (px 6) (t 3)], [((px 7), .inr (4, [.ref (px 8), .ref (px 9)]))], [fr (px 8) (fmk a b)], (noteW g (d 5) e5 y X (upT T nx t) (min (sz + 1) 8) ((nx + 1) % 8)), [fr (px 9) (fmk c9 e9)]] H := hP
  have hD : zD A [[dsk q d], [((d 3), .inr (8, [.ref (px 0)]))], [((px 0), .inl (g.2 3, 3, .inr (.inr (.inr (.inr (rA [(px 1), (px 4), (px 7)]))))))], [((px 1), .inr (4, [.ref (px 2), .ref (px 3)]))], [fr (px 2) (t 0)], [fr (px 3) (t 1)], [((px 4), .inr (4, [.ref (px 5), .ref (px 6)]))], [fr (px 5) (t 2)], [fr (px 6) (t 3)], [((px 7), .inr (4, [.ref (px 8), .ref (px 9)]))], [fr (px 8) (fmk a b)], (noteW g (d 5) e5 y X (upT T nx t) (min (sz + 1) 8) ((nx + 1) % 8)), [fr (px 9) (fmk c9 e9)]] := hD
  have hP : zP g [[dsk q d], [((d 3), .inr (8, [.ref (px 0)]))], [((px 0), .inl (g.2 3, 3, .inr (.inr (.inr (.inr (rA [(px 1), (px 4), (px 7)]))))))], [((px 1), .inr (4, [.ref (px 2), .ref (px 3)]))], [fr (px 2) (t 0)], [fr (px 3) (t 1)], [((px 4), .inr (4, [.ref (px 5), .ref (px 6)]))], [fr (px 5) (t 2)], [fr (px 6) (t 3)], [((px 7), .inr (4, [.ref (px 8), .ref (px 9)]))], [fr (px 8) (fmk a b)], [fr (px 9) (fmk c9 e9)], (noteW g (d 5) e5 y X (upT T nx t) (min (sz + 1) 8) ((nx + 1) % 8))] H := zP_sub hP [0, 1, 2, 3, 4, 5, 6, 7, 8, 9, 10, 12, 11] rfl
  have hD : zD A [[dsk q d], [((d 3), .inr (8, [.ref (px 0)]))], [((px 0), .inl (g.2 3, 3, .inr (.inr (.inr (.inr (rA [(px 1), (px 4), (px 7)]))))))], [((px 1), .inr (4, [.ref (px 2), .ref (px 3)]))], [fr (px 2) (t 0)], [fr (px 3) (t 1)], [((px 4), .inr (4, [.ref (px 5), .ref (px 6)]))], [fr (px 5) (t 2)], [fr (px 6) (t 3)], [((px 7), .inr (4, [.ref (px 8), .ref (px 9)]))], [fr (px 8) (fmk a b)], [fr (px 9) (fmk c9 e9)], (noteW g (d 5) e5 y X (upT T nx t) (min (sz + 1) 8) ((nx + 1) % 8))] := zD_sub hD [0, 1, 2, 3, 4, 5, 6, 7, 8, 9, 10, 12, 11] rfl rfl
  refine z_iconst hx hb dX9_phase_102 rfl ?_
  have hP : zP g [[dsk q d], (threeW g (d 3) px (lF [(t 0), (t 1), (t 2), (t 3), (fmk a b), (fmk c9 e9)])), (noteW g (d 5) e5 y X (upT T nx t) (min (sz + 1) 8) ((nx + 1) % 8))] H := hP
  have hD : zD A [[dsk q d], (threeW g (d 3) px (lF [(t 0), (t 1), (t 2), (t 3), (fmk a b), (fmk c9 e9)])), (noteW g (d 5) e5 y X (upT T nx t) (min (sz + 1) 8) ((nx + 1) % 8))] := hD
  exact z_reti () [0, 1, 2] hx hb hr rfl hlocks hK hP hD hS (rfl) trivial rfl rfl (rfl) (Nat.le_of_ble_eq_true rfl) (Nat.le_of_ble_eq_true rfl) dX9_phase_103

set_option maxHeartbeats 4000000 in
set_option maxRecDepth 100000 in
theorem c_X9_turn (l : Launch) (g : zG) (q : Nat) (d : Nat → Nat) (px : Nat → Nat) (t : Nat → FO) (e5 : Nat) (y : Nat → Nat) (X : Nat → Nat → Nat) (T : Nat → Nat → FO) (sz : Nat) (nx : Nat) (ht : ∀ k, fok (t k)) (hsz : sz ≤ 8) (hnx : nx < 8) : zMet l g yX9_turn wsX9_turn 4 0 0 [.ref q] zX0 [[dsk q d], (threeW g (d 3) px t), (noteW g (d 5) e5 y X T sz nx)] (qi g (fun (_ : Unit) => 1) (fun (_ : Unit) => True) (fun (_ : Unit) => [[dsk q d], (threeW g (d 3) (lA [(px 0), (px 4), (px 5), (px 6), (px 7), (px 8), (px 9), (px 1), (px 2), (px 3)]) (lF [(t 2), (t 3), (t 4), (t 5), (t 0), (t 1)])), (noteW g (d 5) e5 y X (upT T nx t) (min (sz + 1) 8) ((nx + 1) % 8))])) := by
  refine z_ent (cc := cX9_turn) (maxL := 1) (ret := (some .int)) (by decide) rfl (Nat.le_of_ble_eq_true rfl) ?_
  intro p e s m below meth c A ls hx hb hr hml hown hts hlocks hin0 hA hK hP hD hS hXX hl
  have hown : s.vm.findClass RX9 = some m.cls := hown
  have hin9_ : ∀ w ∈ wsX90, w ∈ wsX9_turn := zw_in [40, 41, 42, 43, 44, 45, 46, 47, 48, 49, 50, 51] rfl
  have hl : lv_has ls 1 [(0, .ref q)] := hl
  refine lv_aload_n hx hb dX9_turn_0 rfl (lv_at hl 0 rfl) ?_
  refine z_get hx hb hts hin9_ hown hK hP 0 rfl rfl 5 (by decide) (hts _ (List.mem_of_getElem? (i := 1) rfl)) rfl dX9_turn_1 ?_
  refine lv_aload_n hx hb dX9_turn_4 rfl (lv_at hl 0 rfl) ?_
  refine z_get hx hb hts hin9_ hown hK hP 0 rfl rfl 3 (by decide) (hts _ (List.mem_of_getElem? (i := 2) rfl)) rfl dX9_turn_5 ?_
  refine z_cVv (As := [.ref (d 3)]) (rest := []) ⟨hx, hb, hml, hown, hts⟩ hK hP hD hS hA [2, 1] [0] rfl rfl rfl (c_X3_add l g (d 5) e5 y X T sz nx (d 3) px t (by omega) (by omega) ht) (cwV 1 hts gX9_turn_X3_add rfl rfl rfl (by decide +kernel) ⟨Nat.le_of_ble_eq_true rfl, Nat.le_of_ble_eq_true rfl⟩) 3 0 rfl rfl rfl (fun _ _ _ _ _ _ => trivial) (fun _ _ _ => trivial) rfl hl.1 (Nat.le_of_ble_eq_true rfl) rfl dX9_turn_8 ⟨Nat.le_of_ble_eq_true rfl, Nat.le_of_ble_eq_true rfl⟩ (fun u_1 H locs hwu_1 hP hD hS => ?_)
  try dsimp only at hwu_1
  have hP : zP g [[dsk q d], (noteW g (d 5) e5 y X (upT T nx t) (min (sz + 1) 8) ((nx + 1) % 8)), (threeW g (d 3) px t)] H := hP
  have hD : zD A [[dsk q d], (noteW g (d 5) e5 y X (upT T nx t) (min (sz + 1) 8) ((nx + 1) % 8)), (threeW g (d 3) px t)] := hD
  refine lv_aload_n hx hb dX9_turn_11 rfl (lv_at hl 0 rfl) ?_
  refine z_get hx hb hts hin9_ hown hK hP 0 rfl rfl 3 (by decide) (hts _ (List.mem_of_getElem? (i := 2) rfl)) rfl dX9_turn_12 ?_
  refine z_cVv (As := []) (rest := []) ⟨hx, hb, hml, hown, hts⟩ hK hP hD hS hA [2] [0, 1] rfl rfl rfl (c_X8_rotate l g (d 3) px t ) (cwV 0 hts gX9_turn_X8_rotate rfl rfl rfl (by decide +kernel) ⟨Nat.le_of_ble_eq_true rfl, Nat.le_of_ble_eq_true rfl⟩) 8 0 rfl rfl rfl (fun _ _ _ _ _ _ => trivial) (fun _ _ _ => trivial) rfl hl.1 (Nat.le_of_ble_eq_true rfl) rfl dX9_turn_15 ⟨Nat.le_of_ble_eq_true rfl, Nat.le_of_ble_eq_true rfl⟩ (fun u_2 H locs hwu_2 hP hD hS => ?_)
  try dsimp only at hwu_2
  have hP : zP g [[dsk q d], (noteW g (d 5) e5 y X (upT T nx t) (min (sz + 1) 8) ((nx + 1) % 8)), (threeW g (d 3) (lA [(px 0), (px 4), (px 5), (px 6), (px 7), (px 8), (px 9), (px 1), (px 2), (px 3)]) (lF [(t 2), (t 3), (t 4), (t 5), (t 0), (t 1)]))] H := hP
  have hD : zD A [[dsk q d], (noteW g (d 5) e5 y X (upT T nx t) (min (sz + 1) 8) ((nx + 1) % 8)), (threeW g (d 3) (lA [(px 0), (px 4), (px 5), (px 6), (px 7), (px 8), (px 9), (px 1), (px 2), (px 3)]) (lF [(t 2), (t 3), (t 4), (t 5), (t 0), (t 1)]))] := hD
  refine z_iconst hx hb dX9_turn_18 rfl ?_
  exact z_reti () [0, 2, 1] hx hb hr rfl hlocks hK hP hD hS (rfl) trivial rfl rfl (rfl) (Nat.le_of_ble_eq_true rfl) (Nat.le_of_ble_eq_true rfl) dX9_turn_19

set_option maxHeartbeats 4000000 in
set_option maxRecDepth 100000 in
theorem c_X9_takeResult_over (l : Launch) (g : zG) (q : Nat) (d : Nat → Nat) (rx : Nat → Nat) (u : Nat → FO) (hu : ∀ k, fok (u k)) (ho : tOv u = 1) : zMet l g yX9_takeResult wsX9_takeResult 2 0 0 [.ref q] zX0 [[dsk q d], (threeW g (d 4) rx u)] (qi g (fun (_ : Unit) => (-2000000004)) (fun (_ : Unit) => True) (fun (_ : Unit) => [[dsk q d], (threeW g (d 4) rx u)])) := by
  refine z_ent (cc := cX9_takeResult) (maxL := 1) (ret := (some .int)) (by decide) rfl (Nat.le_of_ble_eq_true rfl) ?_
  intro p e s m below meth c A ls hx hb hr hml hown hts hlocks hin0 hA hK hP hD hS hXX hl
  have hown : s.vm.findClass RX9 = some m.cls := hown
  have hin9_ : ∀ w ∈ wsX90, w ∈ wsX9_takeResult := zw_in [48, 49, 50, 51, 52, 53, 54, 55, 56, 57, 58, 59] rfl
  have hl : lv_has ls 1 [(0, .ref q)] := hl
  refine lv_aload_n hx hb dX9_takeResult_0 rfl (lv_at hl 0 rfl) ?_
  refine z_get hx hb hts hin9_ hown hK hP 0 rfl rfl 4 (by decide) (hts _ (List.mem_of_getElem? (i := 1) rfl)) rfl dX9_takeResult_1 ?_
  refine z_cVi (As := []) (rest := []) ⟨hx, hb, hml, hown, hts⟩ hK hP hD hS hA [1] [0] rfl rfl rfl (c_X8_isOver l g (d 4) rx u hu) (cwV 0 hts gX9_takeResult_X8_isOver rfl rfl rfl (by decide +kernel) ⟨Nat.le_of_ble_eq_true rfl, Nat.le_of_ble_eq_true rfl⟩) 8 0 rfl rfl rfl (fun _ _ _ _ _ _ => trivial) (fun _ _ _ => trivial) rfl hl.1 (Nat.le_of_ble_eq_true rfl) rfl dX9_takeResult_4 ⟨Nat.le_of_ble_eq_true rfl, Nat.le_of_ble_eq_true rfl⟩ (fun u_1 H locs hwu_1 hP hD hS => ?_)
  try dsimp only at hwu_1
  have hP : zP g [[dsk q d], (threeW g (d 4) rx u)] H := hP
  have hD : zD A [[dsk q d], (threeW g (d 4) rx u)] := hD
  refine z_toI (tOv u) rfl ?_
  refine z_if_eq (tgt := 13) hx hb (by omega) dX9_takeResult_7 (by decide) (fun cq2 => False.elim (by omega)) (fun cq2 => ?_)
  refine z_ldc hx hb (-2000000004) hown (hts _ (List.mem_of_getElem? (i := 2) rfl)) rfl dX9_takeResult_10 ?_
  exact z_reti () [0, 1] hx hb hr rfl hlocks hK hP hD hS (rfl) trivial rfl rfl (rfl) (Nat.le_of_ble_eq_true rfl) (Nat.le_of_ble_eq_true rfl) dX9_takeResult_12

set_option maxHeartbeats 4000000 in
set_option maxRecDepth 100000 in
theorem c_X9_takeResult (l : Launch) (g : zG) (q : Nat) (d : Nat → Nat) (px : Nat → Nat) (t : Nat → FO) (rx : Nat → Nat) (u : Nat → FO) (e5 : Nat) (y : Nat → Nat) (X : Nat → Nat → Nat) (T : Nat → Nat → FO) (sz : Nat) (nx : Nat) (ht : ∀ k, fok (t k)) (hu : ∀ k, fok (u k)) (ho : tOv u = 0) (hsz : sz ≤ 8) (hnx : nx < 8) : zMet l g yX9_takeResult wsX9_takeResult 4 0 0 [.ref q] zX0 [[dsk q d], (threeW g (d 3) px t), (threeW g (d 4) rx u), (noteW g (d 5) e5 y X T sz nx)] (qi g (fun (_ : Unit) => 1) (fun (_ : Unit) => True) (fun (_ : Unit) => [[dsk q d], (threeW g (d 3) px u), (threeW g (d 4) rx u), (noteW g (d 5) e5 y X (upT T nx t) (min (sz + 1) 8) ((nx + 1) % 8))])) := by
  refine z_ent (cc := cX9_takeResult) (maxL := 1) (ret := (some .int)) (by decide) rfl (Nat.le_of_ble_eq_true rfl) ?_
  intro p e s m below meth c A ls hx hb hr hml hown hts hlocks hin0 hA hK hP hD hS hXX hl
  have hown : s.vm.findClass RX9 = some m.cls := hown
  have hin9_ : ∀ w ∈ wsX90, w ∈ wsX9_takeResult := zw_in [48, 49, 50, 51, 52, 53, 54, 55, 56, 57, 58, 59] rfl
  have hl : lv_has ls 1 [(0, .ref q)] := hl
  refine lv_aload_n hx hb dX9_takeResult_0 rfl (lv_at hl 0 rfl) ?_
  refine z_get hx hb hts hin9_ hown hK hP 0 rfl rfl 4 (by decide) (hts _ (List.mem_of_getElem? (i := 1) rfl)) rfl dX9_takeResult_1 ?_
  refine z_cVi (As := []) (rest := []) ⟨hx, hb, hml, hown, hts⟩ hK hP hD hS hA [2] [0, 1, 3] rfl rfl rfl (c_X8_isOver l g (d 4) rx u hu) (cwV 0 hts gX9_takeResult_X8_isOver rfl rfl rfl (by decide +kernel) ⟨Nat.le_of_ble_eq_true rfl, Nat.le_of_ble_eq_true rfl⟩) 8 0 rfl rfl rfl (fun _ _ _ _ _ _ => trivial) (fun _ _ _ => trivial) rfl hl.1 (Nat.le_of_ble_eq_true rfl) rfl dX9_takeResult_4 ⟨Nat.le_of_ble_eq_true rfl, Nat.le_of_ble_eq_true rfl⟩ (fun u_1 H locs hwu_1 hP hD hS => ?_)
  try dsimp only at hwu_1
  have hP : zP g [[dsk q d], (threeW g (d 3) px t), (noteW g (d 5) e5 y X T sz nx), (threeW g (d 4) rx u)] H := hP
  have hD : zD A [[dsk q d], (threeW g (d 3) px t), (noteW g (d 5) e5 y X T sz nx), (threeW g (d 4) rx u)] := hD
  refine z_toI (tOv u) rfl ?_
  refine z_if_eq (tgt := 13) hx hb (by omega) dX9_takeResult_7 (by decide) (fun cq2 => ?_) (fun cq2 => False.elim (by omega))
  refine lv_aload_n hx hb dX9_takeResult_13 rfl (lv_at hl 0 rfl) ?_
  refine z_get hx hb hts hin9_ hown hK hP 0 rfl rfl 5 (by decide) (hts _ (List.mem_of_getElem? (i := 3) rfl)) rfl dX9_takeResult_14 ?_
  refine lv_aload_n hx hb dX9_takeResult_17 rfl (lv_at hl 0 rfl) ?_
  refine z_get hx hb hts hin9_ hown hK hP 0 rfl rfl 3 (by decide) (hts _ (List.mem_of_getElem? (i := 4) rfl)) rfl dX9_takeResult_18 ?_
  refine z_cVv (As := [.ref (d 3)]) (rest := []) ⟨hx, hb, hml, hown, hts⟩ hK hP hD hS hA [2, 1] [0, 3] rfl rfl rfl (c_X3_add l g (d 5) e5 y X T sz nx (d 3) px t (by omega) (by omega) ht) (cwV 1 hts gX9_takeResult_X3_add rfl rfl rfl (by decide +kernel) ⟨Nat.le_of_ble_eq_true rfl, Nat.le_of_ble_eq_true rfl⟩) 3 0 rfl rfl rfl (fun _ _ _ _ _ _ => trivial) (fun _ _ _ => trivial) rfl hl.1 (Nat.le_of_ble_eq_true rfl) rfl dX9_takeResult_21 ⟨Nat.le_of_ble_eq_true rfl, Nat.le_of_ble_eq_true rfl⟩ (fun u_3 H locs hwu_3 hP hD hS => ?_)
  try dsimp only at hwu_3
  have hP : zP g [[dsk q d], (threeW g (d 4) rx u), (noteW g (d 5) e5 y X (upT T nx t) (min (sz + 1) 8) ((nx + 1) % 8)), (threeW g (d 3) px t)] H := hP
  have hD : zD A [[dsk q d], (threeW g (d 4) rx u), (noteW g (d 5) e5 y X (upT T nx t) (min (sz + 1) 8) ((nx + 1) % 8)), (threeW g (d 3) px t)] := hD
  refine lv_aload_n hx hb dX9_takeResult_24 rfl (lv_at hl 0 rfl) ?_
  refine z_get hx hb hts hin9_ hown hK hP 0 rfl rfl 3 (by decide) (hts _ (List.mem_of_getElem? (i := 4) rfl)) rfl dX9_takeResult_25 ?_
  refine lv_aload_n hx hb dX9_takeResult_28 rfl (lv_at hl 0 rfl) ?_
  refine z_get hx hb hts hin9_ hown hK hP 0 rfl rfl 4 (by decide) (hts _ (List.mem_of_getElem? (i := 1) rfl)) rfl dX9_takeResult_29 ?_
  refine z_cVv (As := [.ref (d 4)]) (rest := []) ⟨hx, hb, hml, hown, hts⟩ hK hP hD hS hA [3, 1] [0, 2] rfl rfl rfl (c_X8_become l g (d 3) px t (d 4) rx u hu) (cwV 1 hts gX9_takeResult_X8_become rfl rfl rfl (by decide +kernel) ⟨Nat.le_of_ble_eq_true rfl, Nat.le_of_ble_eq_true rfl⟩) 8 0 rfl rfl rfl (fun _ _ _ _ _ _ => trivial) (fun _ _ _ => trivial) rfl hl.1 (Nat.le_of_ble_eq_true rfl) rfl dX9_takeResult_32 ⟨Nat.le_of_ble_eq_true rfl, Nat.le_of_ble_eq_true rfl⟩ (fun u_4 H locs hwu_4 hP hD hS => ?_)
  try dsimp only at hwu_4
  have hP : zP g [[dsk q d], (noteW g (d 5) e5 y X (upT T nx t) (min (sz + 1) 8) ((nx + 1) % 8)), (threeW g (d 3) px u), (threeW g (d 4) rx u)] H := hP
  have hD : zD A [[dsk q d], (noteW g (d 5) e5 y X (upT T nx t) (min (sz + 1) 8) ((nx + 1) % 8)), (threeW g (d 3) px u), (threeW g (d 4) rx u)] := hD
  refine z_iconst hx hb dX9_takeResult_35 rfl ?_
  exact z_reti () [0, 2, 3, 1] hx hb hr rfl hlocks hK hP hD hS (rfl) trivial rfl rfl (rfl) (Nat.le_of_ble_eq_true rfl) (Nat.le_of_ble_eq_true rfl) dX9_takeResult_36

set_option maxHeartbeats 4000000 in
set_option maxRecDepth 100000 in
theorem c_X9_split_over (l : Launch) (g : zG) (q : Nat) (d : Nat → Nat) (px : Nat → Nat) (t : Nat → FO) (rx : Nat → Nat) (u : Nat → FO) (cx_ : Nat → Nat) (w_ : Nat → FO) (tr : Nat) (ht : ∀ k, fok (t k)) (ho : tOv (thT (mixT t 0 0 1 2 2 1)) = 1) : zMet l g yX9_split wsX9_split 6 0 0 [.ref q] (zXP "SPLIT_TURNS" tr tnS) [[dsk q d], (threeW g (d 3) px t), (threeW g (d 4) rx u), (recW g (d 8) cx_ w_)] (qi g (fun (w2 : Nat → FO) => (-2000000004)) (fun (w2 : Nat → FO) => True) (fun (w2 : Nat → FO) => [[dsk q d], (threeW g (d 3) px t), (threeW g (d 4) rx (thT (mixT t 0 0 1 2 2 1))), (recW g (d 8) cx_ w2)])) := by
  refine z_ent (cc := cX9_split) (maxL := 2) (ret := (some .int)) (by decide) rfl (Nat.le_of_ble_eq_true rfl) ?_
  intro p e s m below meth c A ls hx hb hr hml hown hts hlocks hin0 hA hK hP hD hS hXX hl
  have hown : s.vm.findClass RX9 = some m.cls := hown
  have hin8_ : ∀ w ∈ wsX80, w ∈ wsX9_split := zw_in [118] rfl
  have hin9_ : ∀ w ∈ wsX90, w ∈ wsX9_split := zw_in [106, 107, 108, 109, 110, 111, 112, 113, 114, 115, 116, 117] rfl
  have hl : lv_has ls 2 [(0, .ref q)] := hl
  refine lv_aload_n hx hb dX9_split_0 rfl (lv_at hl 0 rfl) ?_
  refine z_get hx hb hts hin9_ hown hK hP 0 rfl rfl 8 (by decide) (hts _ (List.mem_of_getElem? (i := 1) rfl)) rfl dX9_split_1 ?_
  refine lv_aload_n hx hb dX9_split_4 rfl (lv_at hl 0 rfl) ?_
  refine z_get hx hb hts hin9_ hown hK hP 0 rfl rfl 3 (by decide) (hts _ (List.mem_of_getElem? (i := 2) rfl)) rfl dX9_split_5 ?_
  refine va_gets hx hb hXX.1 hS hown (hts _ (List.mem_of_getElem? (i := 3) rfl)) (fun _ h => h) dX9_split_8 ?_
  refine lv_aload_n hx hb dX9_split_11 rfl (lv_at hl 0 rfl) ?_
  refine z_get hx hb hts hin9_ hown hK hP 0 rfl rfl 4 (by decide) (hts _ (List.mem_of_getElem? (i := 4) rfl)) rfl dX9_split_12 ?_
  refine z_xVv (As := [.ref (d 3), .ref tr, .ref (d 4)]) (rest := []) ⟨hx, hb, hml, hown, hts⟩ hK hP hD hS hA [3, 1, 2] [0] rfl rfl rfl (c_X5_combineAllS l g (d 8) cx_ w_ (d 3) px t (d 4) rx u tr ht) (cwV 3 hts gX9_split_X5_combineAll rfl rfl rfl (by decide +kernel) ⟨Nat.le_of_ble_eq_true rfl, Nat.le_of_ble_eq_true rfl⟩) 5 0 rfl rfl rfl zXT_b (zXT_s hXX.2 hS) rfl hl.1 (Nat.le_of_ble_eq_true rfl) rfl dX9_split_15 ⟨Nat.le_of_ble_eq_true rfl, Nat.le_of_ble_eq_true rfl⟩ (fun u_1 H locs hwu_1 hP hD hS => ?_)
  obtain ⟨t2_2, rfl⟩ : ∃ z_, z_ = u_1 := ⟨_, rfl⟩
  try dsimp only at hwu_1
  have hP : zP g [[dsk q d], (recW g (d 8) cx_ t2_2), (threeW g (d 3) px t), (threeW g (d 4) rx (mixT t 0 0 1 2 2 1))] H := hP
  have hD : zD A [[dsk q d], (recW g (d 8) cx_ t2_2), (threeW g (d 3) px t), (threeW g (d 4) rx (mixT t 0 0 1 2 2 1))] := hD
  have hP : zP g [[dsk q d], (threeW g (d 4) rx (mixT t 0 0 1 2 2 1)), (recW g (d 8) cx_ t2_2), (threeW g (d 3) px t)] H := zP_sub hP [0, 3, 1, 2] rfl
  have hD : zD A [[dsk q d], (threeW g (d 4) rx (mixT t 0 0 1 2 2 1)), (recW g (d 8) cx_ t2_2), (threeW g (d 3) px t)] := zD_sub hD [0, 3, 1, 2] rfl rfl
  have hP : zP g [[dsk q d], [((d 4), .inr (8, [.ref (rx 0)]))], [((rx 0), .inl (g.2 3, 3, .inr (.inr (.inr (.inr (rA [(rx 1), (rx 4), (rx 7)]))))))], [((rx 1), .inr (4, [.ref (rx 2), .ref (rx 3)]))], [fr (rx 2) ((mixT t 0 0 1 2 2 1) 0)], [fr (rx 3) ((mixT t 0 0 1 2 2 1) 1)], [((rx 4), .inr (4, [.ref (rx 5), .ref (rx 6)]))], [fr (rx 5) ((mixT t 0 0 1 2 2 1) 2)], [fr (rx 6) ((mixT t 0 0 1 2 2 1) 3)], [((rx 7), .inr (4, [.ref (rx 8), .ref (rx 9)]))], [fr (rx 8) ((mixT t 0 0 1 2 2 1) 4)], [fr (rx 9) ((mixT t 0 0 1 2 2 1) 5)], (recW g (d 8) cx_ t2_2), (threeW g (d 3) px t)] H := hP
  have hD : zD A [[dsk q d], [((d 4), .inr (8, [.ref (rx 0)]))], [((rx 0), .inl (g.2 3, 3, .inr (.inr (.inr (.inr (rA [(rx 1), (rx 4), (rx 7)]))))))], [((rx 1), .inr (4, [.ref (rx 2), .ref (rx 3)]))], [fr (rx 2) ((mixT t 0 0 1 2 2 1) 0)], [fr (rx 3) ((mixT t 0 0 1 2 2 1) 1)], [((rx 4), .inr (4, [.ref (rx 5), .ref (rx 6)]))], [fr (rx 5) ((mixT t 0 0 1 2 2 1) 2)], [fr (rx 6) ((mixT t 0 0 1 2 2 1) 3)], [((rx 7), .inr (4, [.ref (rx 8), .ref (rx 9)]))], [fr (rx 8) ((mixT t 0 0 1 2 2 1) 4)], [fr (rx 9) ((mixT t 0 0 1 2 2 1) 5)], (recW g (d 8) cx_ t2_2), (threeW g (d 3) px t)] := hD
  refine z_iconst hx hb dX9_split_18 rfl ?_
  refine lv_istore_n (lv' := [(1, vI 0), (0, .ref q)]) hx hb dX9_split_19 rfl hl (by decide) rfl (fun ls hl => ?_)
  refine lv_iload_n hx hb dX9_split_20 rfl (lv_at hl 0 rfl) ?_
  refine z_iconst hx hb dX9_split_21 rfl ?_
  refine z_icmp_ge (tgt := 43) hx hb (by decide) (by decide) dX9_split_22 (by decide) (fun cq3 => False.elim (by omega)) (fun cq3 => ?_)
  refine lv_aload_n hx hb dX9_split_25 rfl (lv_at hl 1 rfl) ?_
  refine z_get hx hb hts hin9_ hown hK hP 0 rfl rfl 4 (by decide) (hts _ (List.mem_of_getElem? (i := 4) rfl)) rfl dX9_split_26 ?_
  refine z_get hx hb hts hin8_ hown hK hP 1 rfl rfl 0 (by decide) (hts _ (List.mem_of_getElem? (i := 5) rfl)) rfl dX9_split_29 ?_
  refine lv_iload_n hx hb dX9_split_32 rfl (lv_at hl 0 rfl) ?_
  refine z_aald hx hb hK hP 2 3 rfl rfl 0 rfl (by decide) (by decide) (rx 1) rfl dX9_split_33 ?_
  refine z_cVv (As := []) (rest := []) ⟨hx, hb, hml, hown, hts⟩ hK hP hD hS hA [3, 4, 5] [0, 1, 2, 6, 7, 8, 9, 10, 11, 12, 13] rfl rfl rfl (c_X4_divideByThree l g (rx 1) (rx 2) (rx 3) ((mixT t 0 0 1 2 2 1) 0) ((mixT t 0 0 1 2 2 1) 1) ((fok_mixT ht 0 0 1 2 2 1) _) ((fok_mixT ht 0 0 1 2 2 1) _)) (cwV 0 hts gX9_split_X4_divideByThree rfl rfl rfl (by decide +kernel) ⟨Nat.le_of_ble_eq_true rfl, Nat.le_of_ble_eq_true rfl⟩) 4 0 rfl rfl rfl (fun _ _ _ _ _ _ => trivial) (fun _ _ _ => trivial) rfl hl.1 (Nat.le_of_ble_eq_true rfl) rfl dX9_split_34 ⟨Nat.le_of_ble_eq_true rfl, Nat.le_of_ble_eq_true rfl⟩ (fun u_4 H locs hwu_4 hP hD hS => ?_)
  try dsimp only at hwu_4
  have hP : zP g [[dsk q d], [((d 4), .inr (8, [.ref (rx 0)]))], [((rx 0), .inl (g.2 3, 3, .inr (.inr (.inr (.inr (rA [(rx 1), (rx 4), (rx 7)]))))))], [((rx 4), .inr (4, [.ref (rx 5), .ref (rx 6)]))], [fr (rx 5) ((mixT t 0 0 1 2 2 1) 2)], [fr (rx 6) ((mixT t 0 0 1 2 2 1) 3)], [((rx 7), .inr (4, [.ref (rx 8), .ref (rx 9)]))], [fr (rx 8) ((mixT t 0 0 1 2 2 1) 4)], [fr (rx 9) ((mixT t 0 0 1 2 2 1) 5)], (recW g (d 8) cx_ t2_2), (threeW g (d 3) px t), [((rx 1), .inr (4, [.ref (rx 2), .ref (rx 3)]))], [fr (rx 2) (fthird ((mixT t 0 0 1 2 2 1) 0))], [fr (rx 3) (fthird ((mixT t 0 0 1 2 2 1) 1))]] H := hP
  have hD : zD A [[dsk q d], [((d 4), .inr (8, [.ref (rx 0)]))], [((rx 0), .inl (g.2 3, 3, .inr (.inr (.inr (.inr (rA [(rx 1), (rx 4), (rx 7)]))))))], [((rx 4), .inr (4, [.ref (rx 5), .ref (rx 6)]))], [fr (rx 5) ((mixT t 0 0 1 2 2 1) 2)], [fr (rx 6) ((mixT t 0 0 1 2 2 1) 3)], [((rx 7), .inr (4, [.ref (rx 8), .ref (rx 9)]))], [fr (rx 8) ((mixT t 0 0 1 2 2 1) 4)], [fr (rx 9) ((mixT t 0 0 1 2 2 1) 5)], (recW g (d 8) cx_ t2_2), (threeW g (d 3) px t), [((rx 1), .inr (4, [.ref (rx 2), .ref (rx 3)]))], [fr (rx 2) (fthird ((mixT t 0 0 1 2 2 1) 0))], [fr (rx 3) (fthird ((mixT t 0 0 1 2 2 1) 1))]] := hD
  have hP : zP g [[dsk q d], [((d 4), .inr (8, [.ref (rx 0)]))], [((rx 0), .inl (g.2 3, 3, .inr (.inr (.inr (.inr (rA [(rx 1), (rx 4), (rx 7)]))))))], [((rx 4), .inr (4, [.ref (rx 5), .ref (rx 6)]))], [fr (rx 5) ((mixT t 0 0 1 2 2 1) 2)], [fr (rx 6) ((mixT t 0 0 1 2 2 1) 3)], [((rx 7), .inr (4, [.ref (rx 8), .ref (rx 9)]))], [fr (rx 8) ((mixT t 0 0 1 2 2 1) 4)], [fr (rx 9) ((mixT t 0 0 1 2 2 1) 5)], [((rx 1), .inr (4, [.ref (rx 2), .ref (rx 3)]))], [fr (rx 2) (fthird ((mixT t 0 0 1 2 2 1) 0))], [fr (rx 3) (fthird ((mixT t 0 0 1 2 2 1) 1))], (recW g (d 8) cx_ t2_2), (threeW g (d 3) px t)] H := zP_sub hP [0, 1, 2, 3, 4, 5, 6, 7, 8, 11, 12, 13, 9, 10] rfl
  have hD : zD A [[dsk q d], [((d 4), .inr (8, [.ref (rx 0)]))], [((rx 0), .inl (g.2 3, 3, .inr (.inr (.inr (.inr (rA [(rx 1), (rx 4), (rx 7)]))))))], [((rx 4), .inr (4, [.ref (rx 5), .ref (rx 6)]))], [fr (rx 5) ((mixT t 0 0 1 2 2 1) 2)], [fr (rx 6) ((mixT t 0 0 1 2 2 1) 3)], [((rx 7), .inr (4, [.ref (rx 8), .ref (rx 9)]))], [fr (rx 8) ((mixT t 0 0 1 2 2 1) 4)], [fr (rx 9) ((mixT t 0 0 1 2 2 1) 5)], [((rx 1), .inr (4, [.ref (rx 2), .ref (rx 3)]))], [fr (rx 2) (fthird ((mixT t 0 0 1 2 2 1) 0))], [fr (rx 3) (fthird ((mixT t 0 0 1 2 2 1) 1))], (recW g (d 8) cx_ t2_2), (threeW g (d 3) px t)] := zD_sub hD [0, 1, 2, 3, 4, 5, 6, 7, 8, 11, 12, 13, 9, 10] rfl rfl
  refine z_iinc hx hb 1 (lv' := [(1, vI 1), (0, .ref q)]) dX9_split_37 hl (k := 0) rfl (rfl) (by decide) rfl (fun ls hl => ?_)
  refine lv_goto (tgt := 20) hx hb dX9_split_40 (by decide) ?_
  refine lv_iload_n hx hb dX9_split_20 rfl (lv_at hl 0 rfl) ?_
  refine z_iconst hx hb dX9_split_21 rfl ?_
  refine z_icmp_ge (tgt := 43) hx hb (by decide) (by decide) dX9_split_22 (by decide) (fun cq5 => False.elim (by omega)) (fun cq5 => ?_)
  refine lv_aload_n hx hb dX9_split_25 rfl (lv_at hl 1 rfl) ?_
  refine z_get hx hb hts hin9_ hown hK hP 0 rfl rfl 4 (by decide) (hts _ (List.mem_of_getElem? (i := 4) rfl)) rfl dX9_split_26 ?_
  refine z_get hx hb hts hin8_ hown hK hP 1 rfl rfl 0 (by decide) (hts _ (List.mem_of_getElem? (i := 5) rfl)) rfl dX9_split_29 ?_
  refine lv_iload_n hx hb dX9_split_32 rfl (lv_at hl 0 rfl) ?_
  refine z_aald hx hb hK hP 2 3 rfl rfl 1 rfl (by decide) (by decide) (rx 4) rfl dX9_split_33 ?_
  refine z_cVv (As := []) (rest := []) ⟨hx, hb, hml, hown, hts⟩ hK hP hD hS hA [3, 4, 5] [0, 1, 2, 6, 7, 8, 9, 10, 11, 12, 13] rfl rfl rfl (c_X4_divideByThree l g (rx 4) (rx 5) (rx 6) ((mixT t 0 0 1 2 2 1) 2) ((mixT t 0 0 1 2 2 1) 3) ((fok_mixT ht 0 0 1 2 2 1) _) ((fok_mixT ht 0 0 1 2 2 1) _)) (cwV 0 hts gX9_split_X4_divideByThree rfl rfl rfl (by decide +kernel) ⟨Nat.le_of_ble_eq_true rfl, Nat.le_of_ble_eq_true rfl⟩) 4 0 rfl rfl rfl (fun _ _ _ _ _ _ => trivial) (fun _ _ _ => trivial) rfl hl.1 (Nat.le_of_ble_eq_true rfl) rfl dX9_split_34 ⟨Nat.le_of_ble_eq_true rfl, Nat.le_of_ble_eq_true rfl⟩ (fun u_6 H locs hwu_6 hP hD hS => ?_)
  try dsimp only at hwu_6
  have hP : zP g [[dsk q d], [((d 4), .inr (8, [.ref (rx 0)]))], [((rx 0), .inl (g.2 3, 3, .inr (.inr (.inr (.inr (rA [(rx 1), (rx 4), (rx 7)]))))))], [((rx 7), .inr (4, [.ref (rx 8), .ref (rx 9)]))], [fr (rx 8) ((mixT t 0 0 1 2 2 1) 4)], [fr (rx 9) ((mixT t 0 0 1 2 2 1) 5)], [((rx 1), .inr (4, [.ref (rx 2), .ref (rx 3)]))], [fr (rx 2) (fthird ((mixT t 0 0 1 2 2 1) 0))], [fr (rx 3) (fthird ((mixT t 0 0 1 2 2 1) 1))], (recW g (d 8) cx_ t2_2), (threeW g (d 3) px t), [((rx 4), .inr (4, [.ref (rx 5), .ref (rx 6)]))], [fr (rx 5) (fthird ((mixT t 0 0 1 2 2 1) 2))], [fr (rx 6) (fthird ((mixT t 0 0 1 2 2 1) 3))]] H := hP
  have hD : zD A [[dsk q d], [((d 4), .inr (8, [.ref (rx 0)]))], [((rx 0), .inl (g.2 3, 3, .inr (.inr (.inr (.inr (rA [(rx 1), (rx 4), (rx 7)]))))))], [((rx 7), .inr (4, [.ref (rx 8), .ref (rx 9)]))], [fr (rx 8) ((mixT t 0 0 1 2 2 1) 4)], [fr (rx 9) ((mixT t 0 0 1 2 2 1) 5)], [((rx 1), .inr (4, [.ref (rx 2), .ref (rx 3)]))], [fr (rx 2) (fthird ((mixT t 0 0 1 2 2 1) 0))], [fr (rx 3) (fthird ((mixT t 0 0 1 2 2 1) 1))], (recW g (d 8) cx_ t2_2), (threeW g (d 3) px t), [((rx 4), .inr (4, [.ref (rx 5), .ref (rx 6)]))], [fr (rx 5) (fthird ((mixT t 0 0 1 2 2 1) 2))], [fr (rx 6) (fthird ((mixT t 0 0 1 2 2 1) 3))]] := hD
  have hP : zP g [[dsk q d], [((d 4), .inr (8, [.ref (rx 0)]))], [((rx 0), .inl (g.2 3, 3, .inr (.inr (.inr (.inr (rA [(rx 1), (rx 4), (rx 7)]))))))], [((rx 7), .inr (4, [.ref (rx 8), .ref (rx 9)]))], [fr (rx 8) ((mixT t 0 0 1 2 2 1) 4)], [fr (rx 9) ((mixT t 0 0 1 2 2 1) 5)], [((rx 1), .inr (4, [.ref (rx 2), .ref (rx 3)]))], [fr (rx 2) (fthird ((mixT t 0 0 1 2 2 1) 0))], [fr (rx 3) (fthird ((mixT t 0 0 1 2 2 1) 1))], [((rx 4), .inr (4, [.ref (rx 5), .ref (rx 6)]))], [fr (rx 5) (fthird ((mixT t 0 0 1 2 2 1) 2))], [fr (rx 6) (fthird ((mixT t 0 0 1 2 2 1) 3))], (recW g (d 8) cx_ t2_2), (threeW g (d 3) px t)] H := zP_sub hP [0, 1, 2, 3, 4, 5, 6, 7, 8, 11, 12, 13, 9, 10] rfl
  have hD : zD A [[dsk q d], [((d 4), .inr (8, [.ref (rx 0)]))], [((rx 0), .inl (g.2 3, 3, .inr (.inr (.inr (.inr (rA [(rx 1), (rx 4), (rx 7)]))))))], [((rx 7), .inr (4, [.ref (rx 8), .ref (rx 9)]))], [fr (rx 8) ((mixT t 0 0 1 2 2 1) 4)], [fr (rx 9) ((mixT t 0 0 1 2 2 1) 5)], [((rx 1), .inr (4, [.ref (rx 2), .ref (rx 3)]))], [fr (rx 2) (fthird ((mixT t 0 0 1 2 2 1) 0))], [fr (rx 3) (fthird ((mixT t 0 0 1 2 2 1) 1))], [((rx 4), .inr (4, [.ref (rx 5), .ref (rx 6)]))], [fr (rx 5) (fthird ((mixT t 0 0 1 2 2 1) 2))], [fr (rx 6) (fthird ((mixT t 0 0 1 2 2 1) 3))], (recW g (d 8) cx_ t2_2), (threeW g (d 3) px t)] := zD_sub hD [0, 1, 2, 3, 4, 5, 6, 7, 8, 11, 12, 13, 9, 10] rfl rfl
  refine z_iinc hx hb 2 (lv' := [(1, vI 2), (0, .ref q)]) dX9_split_37 hl (k := 0) rfl (rfl) (by decide) rfl (fun ls hl => ?_)
  refine lv_goto (tgt := 20) hx hb dX9_split_40 (by decide) ?_
  refine lv_iload_n hx hb dX9_split_20 rfl (lv_at hl 0 rfl) ?_
  refine z_iconst hx hb dX9_split_21 rfl ?_
  refine z_icmp_ge (tgt := 43) hx hb (by decide) (by decide) dX9_split_22 (by decide) (fun cq7 => False.elim (by omega)) (fun cq7 => ?_)
  refine lv_aload_n hx hb dX9_split_25 rfl (lv_at hl 1 rfl) ?_
  refine z_get hx hb hts hin9_ hown hK hP 0 rfl rfl 4 (by decide) (hts _ (List.mem_of_getElem? (i := 4) rfl)) rfl dX9_split_26 ?_
  refine z_get hx hb hts hin8_ hown hK hP 1 rfl rfl 0 (by decide) (hts _ (List.mem_of_getElem? (i := 5) rfl)) rfl dX9_split_29 ?_
  refine lv_iload_n hx hb dX9_split_32 rfl (lv_at hl 0 rfl) ?_
  refine z_aald hx hb hK hP 2 3 rfl rfl 2 rfl (by decide) (by decide) (rx 7) rfl dX9_split_33 ?_
  refine z_cVv (As := []) (rest := []) ⟨hx, hb, hml, hown, hts⟩ hK hP hD hS hA [3, 4, 5] [0, 1, 2, 6, 7, 8, 9, 10, 11, 12, 13] rfl rfl rfl (c_X4_divideByThree l g (rx 7) (rx 8) (rx 9) ((mixT t 0 0 1 2 2 1) 4) ((mixT t 0 0 1 2 2 1) 5) ((fok_mixT ht 0 0 1 2 2 1) _) ((fok_mixT ht 0 0 1 2 2 1) _)) (cwV 0 hts gX9_split_X4_divideByThree rfl rfl rfl (by decide +kernel) ⟨Nat.le_of_ble_eq_true rfl, Nat.le_of_ble_eq_true rfl⟩) 4 0 rfl rfl rfl (fun _ _ _ _ _ _ => trivial) (fun _ _ _ => trivial) rfl hl.1 (Nat.le_of_ble_eq_true rfl) rfl dX9_split_34 ⟨Nat.le_of_ble_eq_true rfl, Nat.le_of_ble_eq_true rfl⟩ (fun u_8 H locs hwu_8 hP hD hS => ?_)
  try dsimp only at hwu_8
  have hP : zP g [[dsk q d], [((d 4), .inr (8, [.ref (rx 0)]))], [((rx 0), .inl (g.2 3, 3, .inr (.inr (.inr (.inr (rA [(rx 1), (rx 4), (rx 7)]))))))], [((rx 1), .inr (4, [.ref (rx 2), .ref (rx 3)]))], [fr (rx 2) (fthird ((mixT t 0 0 1 2 2 1) 0))], [fr (rx 3) (fthird ((mixT t 0 0 1 2 2 1) 1))], [((rx 4), .inr (4, [.ref (rx 5), .ref (rx 6)]))], [fr (rx 5) (fthird ((mixT t 0 0 1 2 2 1) 2))], [fr (rx 6) (fthird ((mixT t 0 0 1 2 2 1) 3))], (recW g (d 8) cx_ t2_2), (threeW g (d 3) px t), [((rx 7), .inr (4, [.ref (rx 8), .ref (rx 9)]))], [fr (rx 8) (fthird ((mixT t 0 0 1 2 2 1) 4))], [fr (rx 9) (fthird ((mixT t 0 0 1 2 2 1) 5))]] H := hP
  have hD : zD A [[dsk q d], [((d 4), .inr (8, [.ref (rx 0)]))], [((rx 0), .inl (g.2 3, 3, .inr (.inr (.inr (.inr (rA [(rx 1), (rx 4), (rx 7)]))))))], [((rx 1), .inr (4, [.ref (rx 2), .ref (rx 3)]))], [fr (rx 2) (fthird ((mixT t 0 0 1 2 2 1) 0))], [fr (rx 3) (fthird ((mixT t 0 0 1 2 2 1) 1))], [((rx 4), .inr (4, [.ref (rx 5), .ref (rx 6)]))], [fr (rx 5) (fthird ((mixT t 0 0 1 2 2 1) 2))], [fr (rx 6) (fthird ((mixT t 0 0 1 2 2 1) 3))], (recW g (d 8) cx_ t2_2), (threeW g (d 3) px t), [((rx 7), .inr (4, [.ref (rx 8), .ref (rx 9)]))], [fr (rx 8) (fthird ((mixT t 0 0 1 2 2 1) 4))], [fr (rx 9) (fthird ((mixT t 0 0 1 2 2 1) 5))]] := hD
  have hP : zP g [[dsk q d], [((d 4), .inr (8, [.ref (rx 0)]))], [((rx 0), .inl (g.2 3, 3, .inr (.inr (.inr (.inr (rA [(rx 1), (rx 4), (rx 7)]))))))], [((rx 1), .inr (4, [.ref (rx 2), .ref (rx 3)]))], [fr (rx 2) (fthird ((mixT t 0 0 1 2 2 1) 0))], [fr (rx 3) (fthird ((mixT t 0 0 1 2 2 1) 1))], [((rx 4), .inr (4, [.ref (rx 5), .ref (rx 6)]))], [fr (rx 5) (fthird ((mixT t 0 0 1 2 2 1) 2))], [fr (rx 6) (fthird ((mixT t 0 0 1 2 2 1) 3))], [((rx 7), .inr (4, [.ref (rx 8), .ref (rx 9)]))], [fr (rx 8) (fthird ((mixT t 0 0 1 2 2 1) 4))], [fr (rx 9) (fthird ((mixT t 0 0 1 2 2 1) 5))], (recW g (d 8) cx_ t2_2), (threeW g (d 3) px t)] H := zP_sub hP [0, 1, 2, 3, 4, 5, 6, 7, 8, 11, 12, 13, 9, 10] rfl
  have hD : zD A [[dsk q d], [((d 4), .inr (8, [.ref (rx 0)]))], [((rx 0), .inl (g.2 3, 3, .inr (.inr (.inr (.inr (rA [(rx 1), (rx 4), (rx 7)]))))))], [((rx 1), .inr (4, [.ref (rx 2), .ref (rx 3)]))], [fr (rx 2) (fthird ((mixT t 0 0 1 2 2 1) 0))], [fr (rx 3) (fthird ((mixT t 0 0 1 2 2 1) 1))], [((rx 4), .inr (4, [.ref (rx 5), .ref (rx 6)]))], [fr (rx 5) (fthird ((mixT t 0 0 1 2 2 1) 2))], [fr (rx 6) (fthird ((mixT t 0 0 1 2 2 1) 3))], [((rx 7), .inr (4, [.ref (rx 8), .ref (rx 9)]))], [fr (rx 8) (fthird ((mixT t 0 0 1 2 2 1) 4))], [fr (rx 9) (fthird ((mixT t 0 0 1 2 2 1) 5))], (recW g (d 8) cx_ t2_2), (threeW g (d 3) px t)] := zD_sub hD [0, 1, 2, 3, 4, 5, 6, 7, 8, 11, 12, 13, 9, 10] rfl rfl
  refine z_iinc hx hb 3 (lv' := [(1, vI 3), (0, .ref q)]) dX9_split_37 hl (k := 0) rfl (rfl) (by decide) rfl (fun ls hl => ?_)
  refine lv_goto (tgt := 20) hx hb dX9_split_40 (by decide) ?_
  refine lv_iload_n hx hb dX9_split_20 rfl (lv_at hl 0 rfl) ?_
  refine z_iconst hx hb dX9_split_21 rfl ?_
  refine z_icmp_ge (tgt := 43) hx hb (by decide) (by decide) dX9_split_22 (by decide) (fun cq9 => ?_) (fun cq9 => False.elim (by omega))
  have hP : zP g [[dsk q d], (threeW g (d 4) rx (lF [(fthird ((mixT t 0 0 1 2 2 1) 0)), (fthird ((mixT t 0 0 1 2 2 1) 1)), (fthird ((mixT t 0 0 1 2 2 1) 2)), (fthird ((mixT t 0 0 1 2 2 1) 3)), (fthird ((mixT t 0 0 1 2 2 1) 4)), (fthird ((mixT t 0 0 1 2 2 1) 5))])), (recW g (d 8) cx_ t2_2), (threeW g (d 3) px t)] H := hP
  have hD : zD A [[dsk q d], (threeW g (d 4) rx (lF [(fthird ((mixT t 0 0 1 2 2 1) 0)), (fthird ((mixT t 0 0 1 2 2 1) 1)), (fthird ((mixT t 0 0 1 2 2 1) 2)), (fthird ((mixT t 0 0 1 2 2 1) 3)), (fthird ((mixT t 0 0 1 2 2 1) 4)), (fthird ((mixT t 0 0 1 2 2 1) 5))])), (recW g (d 8) cx_ t2_2), (threeW g (d 3) px t)] := hD
  refine lv_aload_n hx hb dX9_split_43 rfl (lv_at hl 1 rfl) ?_
  refine z_cVi (As := []) (rest := []) ⟨hx, hb, hml, hown, hts⟩ hK hP hD hS hA [0, 1] [2, 3] rfl rfl rfl (c_X9_takeResult_over l g q d rx (lF [(fthird ((mixT t 0 0 1 2 2 1) 0)), (fthird ((mixT t 0 0 1 2 2 1) 1)), (fthird ((mixT t 0 0 1 2 2 1) 2)), (fthird ((mixT t 0 0 1 2 2 1) 3)), (fthird ((mixT t 0 0 1 2 2 1) 4)), (fthird ((mixT t 0 0 1 2 2 1) 5))]) (fok_thT (fok_mixT ht 0 0 1 2 2 1)) ho) (cwV 0 hts gX9_split_X9_takeResult rfl rfl rfl (by decide +kernel) ⟨Nat.le_of_ble_eq_true rfl, Nat.le_of_ble_eq_true rfl⟩) 9 0 rfl rfl rfl (fun _ _ _ _ _ _ => trivial) (fun _ _ _ => trivial) rfl hl.1 (Nat.le_of_ble_eq_true rfl) rfl dX9_split_44 ⟨Nat.le_of_ble_eq_true rfl, Nat.le_of_ble_eq_true rfl⟩ (fun u_10 H locs hwu_10 hP hD hS => ?_)
  try dsimp only at hwu_10
  have hP : zP g [(recW g (d 8) cx_ t2_2), (threeW g (d 3) px t), [dsk q d], (threeW g (d 4) rx (lF [(fthird ((mixT t 0 0 1 2 2 1) 0)), (fthird ((mixT t 0 0 1 2 2 1) 1)), (fthird ((mixT t 0 0 1 2 2 1) 2)), (fthird ((mixT t 0 0 1 2 2 1) 3)), (fthird ((mixT t 0 0 1 2 2 1) 4)), (fthird ((mixT t 0 0 1 2 2 1) 5))]))] H := hP
  have hD : zD A [(recW g (d 8) cx_ t2_2), (threeW g (d 3) px t), [dsk q d], (threeW g (d 4) rx (lF [(fthird ((mixT t 0 0 1 2 2 1) 0)), (fthird ((mixT t 0 0 1 2 2 1) 1)), (fthird ((mixT t 0 0 1 2 2 1) 2)), (fthird ((mixT t 0 0 1 2 2 1) 3)), (fthird ((mixT t 0 0 1 2 2 1) 4)), (fthird ((mixT t 0 0 1 2 2 1) 5))]))] := hD
  have hP : zP g [[dsk q d], (recW g (d 8) cx_ t2_2), (threeW g (d 3) px t), (threeW g (d 4) rx (lF [(fthird ((mixT t 0 0 1 2 2 1) 0)), (fthird ((mixT t 0 0 1 2 2 1) 1)), (fthird ((mixT t 0 0 1 2 2 1) 2)), (fthird ((mixT t 0 0 1 2 2 1) 3)), (fthird ((mixT t 0 0 1 2 2 1) 4)), (fthird ((mixT t 0 0 1 2 2 1) 5))]))] H := zP_sub hP [2, 0, 1, 3] rfl
  have hD : zD A [[dsk q d], (recW g (d 8) cx_ t2_2), (threeW g (d 3) px t), (threeW g (d 4) rx (lF [(fthird ((mixT t 0 0 1 2 2 1) 0)), (fthird ((mixT t 0 0 1 2 2 1) 1)), (fthird ((mixT t 0 0 1 2 2 1) 2)), (fthird ((mixT t 0 0 1 2 2 1) 3)), (fthird ((mixT t 0 0 1 2 2 1) 4)), (fthird ((mixT t 0 0 1 2 2 1) 5))]))] := zD_sub hD [2, 0, 1, 3] rfl rfl
  refine z_toI (-2000000004) rfl ?_
  exact z_reti t2_2 [0, 2, 3, 1] hx hb hr rfl hlocks hK hP hD hS (rfl) trivial rfl rfl (rfl) (Nat.le_of_ble_eq_true rfl) (Nat.le_of_ble_eq_true rfl) dX9_split_47

set_option maxHeartbeats 4000000 in
set_option maxRecDepth 100000 in
theorem c_X9_split (l : Launch) (g : zG) (q : Nat) (d : Nat → Nat) (px : Nat → Nat) (t : Nat → FO) (rx : Nat → Nat) (u : Nat → FO) (cx_ : Nat → Nat) (w_ : Nat → FO) (e5 : Nat) (y : Nat → Nat) (X : Nat → Nat → Nat) (T : Nat → Nat → FO) (sz : Nat) (nx : Nat) (tr : Nat) (ht : ∀ k, fok (t k)) (ho : tOv (thT (mixT t 0 0 1 2 2 1)) = 0) (hsz : sz ≤ 8) (hnx : nx < 8) : zMet l g yX9_split wsX9_split 6 0 0 [.ref q] (zXP "SPLIT_TURNS" tr tnS) [[dsk q d], (threeW g (d 3) px t), (threeW g (d 4) rx u), (recW g (d 8) cx_ w_), (noteW g (d 5) e5 y X T sz nx)] (qi g (fun (w2 : Nat → FO) => 1) (fun (w2 : Nat → FO) => True) (fun (w2 : Nat → FO) => [[dsk q d], (threeW g (d 3) px (thT (mixT t 0 0 1 2 2 1))), (threeW g (d 4) rx (thT (mixT t 0 0 1 2 2 1))), (recW g (d 8) cx_ w2), (noteW g (d 5) e5 y X (upT T nx t) (min (sz + 1) 8) ((nx + 1) % 8))])) := by
  refine z_ent (cc := cX9_split) (maxL := 2) (ret := (some .int)) (by decide) rfl (Nat.le_of_ble_eq_true rfl) ?_
  intro p e s m below meth c A ls hx hb hr hml hown hts hlocks hin0 hA hK hP hD hS hXX hl
  have hown : s.vm.findClass RX9 = some m.cls := hown
  have hin8_ : ∀ w ∈ wsX80, w ∈ wsX9_split := zw_in [118] rfl
  have hin9_ : ∀ w ∈ wsX90, w ∈ wsX9_split := zw_in [106, 107, 108, 109, 110, 111, 112, 113, 114, 115, 116, 117] rfl
  have hl : lv_has ls 2 [(0, .ref q)] := hl
  refine lv_aload_n hx hb dX9_split_0 rfl (lv_at hl 0 rfl) ?_
  refine z_get hx hb hts hin9_ hown hK hP 0 rfl rfl 8 (by decide) (hts _ (List.mem_of_getElem? (i := 1) rfl)) rfl dX9_split_1 ?_
  refine lv_aload_n hx hb dX9_split_4 rfl (lv_at hl 0 rfl) ?_
  refine z_get hx hb hts hin9_ hown hK hP 0 rfl rfl 3 (by decide) (hts _ (List.mem_of_getElem? (i := 2) rfl)) rfl dX9_split_5 ?_
  refine va_gets hx hb hXX.1 hS hown (hts _ (List.mem_of_getElem? (i := 3) rfl)) (fun _ h => h) dX9_split_8 ?_
  refine lv_aload_n hx hb dX9_split_11 rfl (lv_at hl 0 rfl) ?_
  refine z_get hx hb hts hin9_ hown hK hP 0 rfl rfl 4 (by decide) (hts _ (List.mem_of_getElem? (i := 4) rfl)) rfl dX9_split_12 ?_
  refine z_xVv (As := [.ref (d 3), .ref tr, .ref (d 4)]) (rest := []) ⟨hx, hb, hml, hown, hts⟩ hK hP hD hS hA [3, 1, 2] [0, 4] rfl rfl rfl (c_X5_combineAllS l g (d 8) cx_ w_ (d 3) px t (d 4) rx u tr ht) (cwV 3 hts gX9_split_X5_combineAll rfl rfl rfl (by decide +kernel) ⟨Nat.le_of_ble_eq_true rfl, Nat.le_of_ble_eq_true rfl⟩) 5 0 rfl rfl rfl zXT_b (zXT_s hXX.2 hS) rfl hl.1 (Nat.le_of_ble_eq_true rfl) rfl dX9_split_15 ⟨Nat.le_of_ble_eq_true rfl, Nat.le_of_ble_eq_true rfl⟩ (fun u_1 H locs hwu_1 hP hD hS => ?_)
  obtain ⟨t2_2, rfl⟩ : ∃ z_, z_ = u_1 := ⟨_, rfl⟩
  try dsimp only at hwu_1
  have hP : zP g [[dsk q d], (noteW g (d 5) e5 y X T sz nx), (recW g (d 8) cx_ t2_2), (threeW g (d 3) px t), (threeW g (d 4) rx (mixT t 0 0 1 2 2 1))] H := hP
  have hD : zD A [[dsk q d], (noteW g (d 5) e5 y X T sz nx), (recW g (d 8) cx_ t2_2), (threeW g (d 3) px t), (threeW g (d 4) rx (mixT t 0 0 1 2 2 1))] := hD
  have hP : zP g [[dsk q d], (threeW g (d 4) rx (mixT t 0 0 1 2 2 1)), (noteW g (d 5) e5 y X T sz nx), (recW g (d 8) cx_ t2_2), (threeW g (d 3) px t)] H := zP_sub hP [0, 4, 1, 2, 3] rfl
  have hD : zD A [[dsk q d], (threeW g (d 4) rx (mixT t 0 0 1 2 2 1)), (noteW g (d 5) e5 y X T sz nx), (recW g (d 8) cx_ t2_2), (threeW g (d 3) px t)] := zD_sub hD [0, 4, 1, 2, 3] rfl rfl
  have hP : zP g [[dsk q d], [((d 4), .inr (8, [.ref (rx 0)]))], [((rx 0), .inl (g.2 3, 3, .inr (.inr (.inr (.inr (rA [(rx 1), (rx 4), (rx 7)]))))))], [((rx 1), .inr (4, [.ref (rx 2), .ref (rx 3)]))], [fr (rx 2) ((mixT t 0 0 1 2 2 1) 0)], [fr (rx 3) ((mixT t 0 0 1 2 2 1) 1)], [((rx 4), .inr (4, [.ref (rx 5), .ref (rx 6)]))], [fr (rx 5) ((mixT t 0 0 1 2 2 1) 2)], [fr (rx 6) ((mixT t 0 0 1 2 2 1) 3)], [((rx 7), .inr (4, [.ref (rx 8), .ref (rx 9)]))], [fr (rx 8) ((mixT t 0 0 1 2 2 1) 4)], [fr (rx 9) ((mixT t 0 0 1 2 2 1) 5)], (noteW g (d 5) e5 y X T sz nx), (recW g (d 8) cx_ t2_2), (threeW g (d 3) px t)] H := hP
  have hD : zD A [[dsk q d], [((d 4), .inr (8, [.ref (rx 0)]))], [((rx 0), .inl (g.2 3, 3, .inr (.inr (.inr (.inr (rA [(rx 1), (rx 4), (rx 7)]))))))], [((rx 1), .inr (4, [.ref (rx 2), .ref (rx 3)]))], [fr (rx 2) ((mixT t 0 0 1 2 2 1) 0)], [fr (rx 3) ((mixT t 0 0 1 2 2 1) 1)], [((rx 4), .inr (4, [.ref (rx 5), .ref (rx 6)]))], [fr (rx 5) ((mixT t 0 0 1 2 2 1) 2)], [fr (rx 6) ((mixT t 0 0 1 2 2 1) 3)], [((rx 7), .inr (4, [.ref (rx 8), .ref (rx 9)]))], [fr (rx 8) ((mixT t 0 0 1 2 2 1) 4)], [fr (rx 9) ((mixT t 0 0 1 2 2 1) 5)], (noteW g (d 5) e5 y X T sz nx), (recW g (d 8) cx_ t2_2), (threeW g (d 3) px t)] := hD
  refine z_iconst hx hb dX9_split_18 rfl ?_
  refine lv_istore_n (lv' := [(1, vI 0), (0, .ref q)]) hx hb dX9_split_19 rfl hl (by decide) rfl (fun ls hl => ?_)
  refine lv_iload_n hx hb dX9_split_20 rfl (lv_at hl 0 rfl) ?_
  refine z_iconst hx hb dX9_split_21 rfl ?_
  refine z_icmp_ge (tgt := 43) hx hb (by decide) (by decide) dX9_split_22 (by decide) (fun cq3 => False.elim (by omega)) (fun cq3 => ?_)
  refine lv_aload_n hx hb dX9_split_25 rfl (lv_at hl 1 rfl) ?_
  refine z_get hx hb hts hin9_ hown hK hP 0 rfl rfl 4 (by decide) (hts _ (List.mem_of_getElem? (i := 4) rfl)) rfl dX9_split_26 ?_
  refine z_get hx hb hts hin8_ hown hK hP 1 rfl rfl 0 (by decide) (hts _ (List.mem_of_getElem? (i := 5) rfl)) rfl dX9_split_29 ?_
  refine lv_iload_n hx hb dX9_split_32 rfl (lv_at hl 0 rfl) ?_
  refine z_aald hx hb hK hP 2 3 rfl rfl 0 rfl (by decide) (by decide) (rx 1) rfl dX9_split_33 ?_
  refine z_cVv (As := []) (rest := []) ⟨hx, hb, hml, hown, hts⟩ hK hP hD hS hA [3, 4, 5] [0, 1, 2, 6, 7, 8, 9, 10, 11, 12, 13, 14] rfl rfl rfl (c_X4_divideByThree l g (rx 1) (rx 2) (rx 3) ((mixT t 0 0 1 2 2 1) 0) ((mixT t 0 0 1 2 2 1) 1) ((fok_mixT ht 0 0 1 2 2 1) _) ((fok_mixT ht 0 0 1 2 2 1) _)) (cwV 0 hts gX9_split_X4_divideByThree rfl rfl rfl (by decide +kernel) ⟨Nat.le_of_ble_eq_true rfl, Nat.le_of_ble_eq_true rfl⟩) 4 0 rfl rfl rfl (fun _ _ _ _ _ _ => trivial) (fun _ _ _ => trivial) rfl hl.1 (Nat.le_of_ble_eq_true rfl) rfl dX9_split_34 ⟨Nat.le_of_ble_eq_true rfl, Nat.le_of_ble_eq_true rfl⟩ (fun u_4 H locs hwu_4 hP hD hS => ?_)
  try dsimp only at hwu_4
  have hP : zP g [[dsk q d], [((d 4), .inr (8, [.ref (rx 0)]))], [((rx 0), .inl (g.2 3, 3, .inr (.inr (.inr (.inr (rA [(rx 1), (rx 4), (rx 7)]))))))], [((rx 4), .inr (4, [.ref (rx 5), .ref (rx 6)]))], [fr (rx 5) ((mixT t 0 0 1 2 2 1) 2)], [fr (rx 6) ((mixT t 0 0 1 2 2 1) 3)], [((rx 7), .inr (4, [.ref (rx 8), .ref (rx 9)]))], [fr (rx 8) ((mixT t 0 0 1 2 2 1) 4)], [fr (rx 9) ((mixT t 0 0 1 2 2 1) 5)], (noteW g (d 5) e5 y X T sz nx), (recW g (d 8) cx_ t2_2), (threeW g (d 3) px t), [((rx 1), .inr (4, [.ref (rx 2), .ref (rx 3)]))], [fr (rx 2) (fthird ((mixT t 0 0 1 2 2 1) 0))], [fr (rx 3) (fthird ((mixT t 0 0 1 2 2 1) 1))]] H := hP
  have hD : zD A [[dsk q d], [((d 4), .inr (8, [.ref (rx 0)]))], [((rx 0), .inl (g.2 3, 3, .inr (.inr (.inr (.inr (rA [(rx 1), (rx 4), (rx 7)]))))))], [((rx 4), .inr (4, [.ref (rx 5), .ref (rx 6)]))], [fr (rx 5) ((mixT t 0 0 1 2 2 1) 2)], [fr (rx 6) ((mixT t 0 0 1 2 2 1) 3)], [((rx 7), .inr (4, [.ref (rx 8), .ref (rx 9)]))], [fr (rx 8) ((mixT t 0 0 1 2 2 1) 4)], [fr (rx 9) ((mixT t 0 0 1 2 2 1) 5)], (noteW g (d 5) e5 y X T sz nx), (recW g (d 8) cx_ t2_2), (threeW g (d 3) px t), [((rx 1), .inr (4, [.ref (rx 2), .ref (rx 3)]))], [fr (rx 2) (fthird ((mixT t 0 0 1 2 2 1) 0))], [fr (rx 3) (fthird ((mixT t 0 0 1 2 2 1) 1))]] := hD
  have hP : zP g [[dsk q d], [((d 4), .inr (8, [.ref (rx 0)]))], [((rx 0), .inl (g.2 3, 3, .inr (.inr (.inr (.inr (rA [(rx 1), (rx 4), (rx 7)]))))))], [((rx 4), .inr (4, [.ref (rx 5), .ref (rx 6)]))], [fr (rx 5) ((mixT t 0 0 1 2 2 1) 2)], [fr (rx 6) ((mixT t 0 0 1 2 2 1) 3)], [((rx 7), .inr (4, [.ref (rx 8), .ref (rx 9)]))], [fr (rx 8) ((mixT t 0 0 1 2 2 1) 4)], [fr (rx 9) ((mixT t 0 0 1 2 2 1) 5)], [((rx 1), .inr (4, [.ref (rx 2), .ref (rx 3)]))], [fr (rx 2) (fthird ((mixT t 0 0 1 2 2 1) 0))], [fr (rx 3) (fthird ((mixT t 0 0 1 2 2 1) 1))], (noteW g (d 5) e5 y X T sz nx), (recW g (d 8) cx_ t2_2), (threeW g (d 3) px t)] H := zP_sub hP [0, 1, 2, 3, 4, 5, 6, 7, 8, 12, 13, 14, 9, 10, 11] rfl
  have hD : zD A [[dsk q d], [((d 4), .inr (8, [.ref (rx 0)]))], [((rx 0), .inl (g.2 3, 3, .inr (.inr (.inr (.inr (rA [(rx 1), (rx 4), (rx 7)]))))))], [((rx 4), .inr (4, [.ref (rx 5), .ref (rx 6)]))], [fr (rx 5) ((mixT t 0 0 1 2 2 1) 2)], [fr (rx 6) ((mixT t 0 0 1 2 2 1) 3)], [((rx 7), .inr (4, [.ref (rx 8), .ref (rx 9)]))], [fr (rx 8) ((mixT t 0 0 1 2 2 1) 4)], [fr (rx 9) ((mixT t 0 0 1 2 2 1) 5)], [((rx 1), .inr (4, [.ref (rx 2), .ref (rx 3)]))], [fr (rx 2) (fthird ((mixT t 0 0 1 2 2 1) 0))], [fr (rx 3) (fthird ((mixT t 0 0 1 2 2 1) 1))], (noteW g (d 5) e5 y X T sz nx), (recW g (d 8) cx_ t2_2), (threeW g (d 3) px t)] := zD_sub hD [0, 1, 2, 3, 4, 5, 6, 7, 8, 12, 13, 14, 9, 10, 11] rfl rfl
  refine z_iinc hx hb 1 (lv' := [(1, vI 1), (0, .ref q)]) dX9_split_37 hl (k := 0) rfl (rfl) (by decide) rfl (fun ls hl => ?_)
  refine lv_goto (tgt := 20) hx hb dX9_split_40 (by decide) ?_
  refine lv_iload_n hx hb dX9_split_20 rfl (lv_at hl 0 rfl) ?_
  refine z_iconst hx hb dX9_split_21 rfl ?_
  refine z_icmp_ge (tgt := 43) hx hb (by decide) (by decide) dX9_split_22 (by decide) (fun cq5 => False.elim (by omega)) (fun cq5 => ?_)
  refine lv_aload_n hx hb dX9_split_25 rfl (lv_at hl 1 rfl) ?_
  refine z_get hx hb hts hin9_ hown hK hP 0 rfl rfl 4 (by decide) (hts _ (List.mem_of_getElem? (i := 4) rfl)) rfl dX9_split_26 ?_
  refine z_get hx hb hts hin8_ hown hK hP 1 rfl rfl 0 (by decide) (hts _ (List.mem_of_getElem? (i := 5) rfl)) rfl dX9_split_29 ?_
  refine lv_iload_n hx hb dX9_split_32 rfl (lv_at hl 0 rfl) ?_
  refine z_aald hx hb hK hP 2 3 rfl rfl 1 rfl (by decide) (by decide) (rx 4) rfl dX9_split_33 ?_
  refine z_cVv (As := []) (rest := []) ⟨hx, hb, hml, hown, hts⟩ hK hP hD hS hA [3, 4, 5] [0, 1, 2, 6, 7, 8, 9, 10, 11, 12, 13, 14] rfl rfl rfl (c_X4_divideByThree l g (rx 4) (rx 5) (rx 6) ((mixT t 0 0 1 2 2 1) 2) ((mixT t 0 0 1 2 2 1) 3) ((fok_mixT ht 0 0 1 2 2 1) _) ((fok_mixT ht 0 0 1 2 2 1) _)) (cwV 0 hts gX9_split_X4_divideByThree rfl rfl rfl (by decide +kernel) ⟨Nat.le_of_ble_eq_true rfl, Nat.le_of_ble_eq_true rfl⟩) 4 0 rfl rfl rfl (fun _ _ _ _ _ _ => trivial) (fun _ _ _ => trivial) rfl hl.1 (Nat.le_of_ble_eq_true rfl) rfl dX9_split_34 ⟨Nat.le_of_ble_eq_true rfl, Nat.le_of_ble_eq_true rfl⟩ (fun u_6 H locs hwu_6 hP hD hS => ?_)
  try dsimp only at hwu_6
  have hP : zP g [[dsk q d], [((d 4), .inr (8, [.ref (rx 0)]))], [((rx 0), .inl (g.2 3, 3, .inr (.inr (.inr (.inr (rA [(rx 1), (rx 4), (rx 7)]))))))], [((rx 7), .inr (4, [.ref (rx 8), .ref (rx 9)]))], [fr (rx 8) ((mixT t 0 0 1 2 2 1) 4)], [fr (rx 9) ((mixT t 0 0 1 2 2 1) 5)], [((rx 1), .inr (4, [.ref (rx 2), .ref (rx 3)]))], [fr (rx 2) (fthird ((mixT t 0 0 1 2 2 1) 0))], [fr (rx 3) (fthird ((mixT t 0 0 1 2 2 1) 1))], (noteW g (d 5) e5 y X T sz nx), (recW g (d 8) cx_ t2_2), (threeW g (d 3) px t), [((rx 4), .inr (4, [.ref (rx 5), .ref (rx 6)]))], [fr (rx 5) (fthird ((mixT t 0 0 1 2 2 1) 2))], [fr (rx 6) (fthird ((mixT t 0 0 1 2 2 1) 3))]] H := hP
  have hD : zD A [[dsk q d], [((d 4), .inr (8, [.ref (rx 0)]))], [((rx 0), .inl (g.2 3, 3, .inr (.inr (.inr (.inr (rA [(rx 1), (rx 4), (rx 7)]))))))], [((rx 7), .inr (4, [.ref (rx 8), .ref (rx 9)]))], [fr (rx 8) ((mixT t 0 0 1 2 2 1) 4)], [fr (rx 9) ((mixT t 0 0 1 2 2 1) 5)], [((rx 1), .inr (4, [.ref (rx 2), .ref (rx 3)]))], [fr (rx 2) (fthird ((mixT t 0 0 1 2 2 1) 0))], [fr (rx 3) (fthird ((mixT t 0 0 1 2 2 1) 1))], (noteW g (d 5) e5 y X T sz nx), (recW g (d 8) cx_ t2_2), (threeW g (d 3) px t), [((rx 4), .inr (4, [.ref (rx 5), .ref (rx 6)]))], [fr (rx 5) (fthird ((mixT t 0 0 1 2 2 1) 2))], [fr (rx 6) (fthird ((mixT t 0 0 1 2 2 1) 3))]] := hD
  have hP : zP g [[dsk q d], [((d 4), .inr (8, [.ref (rx 0)]))], [((rx 0), .inl (g.2 3, 3, .inr (.inr (.inr (.inr (rA [(rx 1), (rx 4), (rx 7)]))))))], [((rx 7), .inr (4, [.ref (rx 8), .ref (rx 9)]))], [fr (rx 8) ((mixT t 0 0 1 2 2 1) 4)], [fr (rx 9) ((mixT t 0 0 1 2 2 1) 5)], [((rx 1), .inr (4, [.ref (rx 2), .ref (rx 3)]))], [fr (rx 2) (fthird ((mixT t 0 0 1 2 2 1) 0))], [fr (rx 3) (fthird ((mixT t 0 0 1 2 2 1) 1))], [((rx 4), .inr (4, [.ref (rx 5), .ref (rx 6)]))], [fr (rx 5) (fthird ((mixT t 0 0 1 2 2 1) 2))], [fr (rx 6) (fthird ((mixT t 0 0 1 2 2 1) 3))], (noteW g (d 5) e5 y X T sz nx), (recW g (d 8) cx_ t2_2), (threeW g (d 3) px t)] H := zP_sub hP [0, 1, 2, 3, 4, 5, 6, 7, 8, 12, 13, 14, 9, 10, 11] rfl
  have hD : zD A [[dsk q d], [((d 4), .inr (8, [.ref (rx 0)]))], [((rx 0), .inl (g.2 3, 3, .inr (.inr (.inr (.inr (rA [(rx 1), (rx 4), (rx 7)]))))))], [((rx 7), .inr (4, [.ref (rx 8), .ref (rx 9)]))], [fr (rx 8) ((mixT t 0 0 1 2 2 1) 4)], [fr (rx 9) ((mixT t 0 0 1 2 2 1) 5)], [((rx 1), .inr (4, [.ref (rx 2), .ref (rx 3)]))], [fr (rx 2) (fthird ((mixT t 0 0 1 2 2 1) 0))], [fr (rx 3) (fthird ((mixT t 0 0 1 2 2 1) 1))], [((rx 4), .inr (4, [.ref (rx 5), .ref (rx 6)]))], [fr (rx 5) (fthird ((mixT t 0 0 1 2 2 1) 2))], [fr (rx 6) (fthird ((mixT t 0 0 1 2 2 1) 3))], (noteW g (d 5) e5 y X T sz nx), (recW g (d 8) cx_ t2_2), (threeW g (d 3) px t)] := zD_sub hD [0, 1, 2, 3, 4, 5, 6, 7, 8, 12, 13, 14, 9, 10, 11] rfl rfl
  refine z_iinc hx hb 2 (lv' := [(1, vI 2), (0, .ref q)]) dX9_split_37 hl (k := 0) rfl (rfl) (by decide) rfl (fun ls hl => ?_)
  refine lv_goto (tgt := 20) hx hb dX9_split_40 (by decide) ?_
  refine lv_iload_n hx hb dX9_split_20 rfl (lv_at hl 0 rfl) ?_
  refine z_iconst hx hb dX9_split_21 rfl ?_
  refine z_icmp_ge (tgt := 43) hx hb (by decide) (by decide) dX9_split_22 (by decide) (fun cq7 => False.elim (by omega)) (fun cq7 => ?_)
  refine lv_aload_n hx hb dX9_split_25 rfl (lv_at hl 1 rfl) ?_
  refine z_get hx hb hts hin9_ hown hK hP 0 rfl rfl 4 (by decide) (hts _ (List.mem_of_getElem? (i := 4) rfl)) rfl dX9_split_26 ?_
  refine z_get hx hb hts hin8_ hown hK hP 1 rfl rfl 0 (by decide) (hts _ (List.mem_of_getElem? (i := 5) rfl)) rfl dX9_split_29 ?_
  refine lv_iload_n hx hb dX9_split_32 rfl (lv_at hl 0 rfl) ?_
  refine z_aald hx hb hK hP 2 3 rfl rfl 2 rfl (by decide) (by decide) (rx 7) rfl dX9_split_33 ?_
  refine z_cVv (As := []) (rest := []) ⟨hx, hb, hml, hown, hts⟩ hK hP hD hS hA [3, 4, 5] [0, 1, 2, 6, 7, 8, 9, 10, 11, 12, 13, 14] rfl rfl rfl (c_X4_divideByThree l g (rx 7) (rx 8) (rx 9) ((mixT t 0 0 1 2 2 1) 4) ((mixT t 0 0 1 2 2 1) 5) ((fok_mixT ht 0 0 1 2 2 1) _) ((fok_mixT ht 0 0 1 2 2 1) _)) (cwV 0 hts gX9_split_X4_divideByThree rfl rfl rfl (by decide +kernel) ⟨Nat.le_of_ble_eq_true rfl, Nat.le_of_ble_eq_true rfl⟩) 4 0 rfl rfl rfl (fun _ _ _ _ _ _ => trivial) (fun _ _ _ => trivial) rfl hl.1 (Nat.le_of_ble_eq_true rfl) rfl dX9_split_34 ⟨Nat.le_of_ble_eq_true rfl, Nat.le_of_ble_eq_true rfl⟩ (fun u_8 H locs hwu_8 hP hD hS => ?_)
  try dsimp only at hwu_8
  have hP : zP g [[dsk q d], [((d 4), .inr (8, [.ref (rx 0)]))], [((rx 0), .inl (g.2 3, 3, .inr (.inr (.inr (.inr (rA [(rx 1), (rx 4), (rx 7)]))))))], [((rx 1), .inr (4, [.ref (rx 2), .ref (rx 3)]))], [fr (rx 2) (fthird ((mixT t 0 0 1 2 2 1) 0))], [fr (rx 3) (fthird ((mixT t 0 0 1 2 2 1) 1))], [((rx 4), .inr (4, [.ref (rx 5), .ref (rx 6)]))], [fr (rx 5) (fthird ((mixT t 0 0 1 2 2 1) 2))], [fr (rx 6) (fthird ((mixT t 0 0 1 2 2 1) 3))], (noteW g (d 5) e5 y X T sz nx), (recW g (d 8) cx_ t2_2), (threeW g (d 3) px t), [((rx 7), .inr (4, [.ref (rx 8), .ref (rx 9)]))], [fr (rx 8) (fthird ((mixT t 0 0 1 2 2 1) 4))], [fr (rx 9) (fthird ((mixT t 0 0 1 2 2 1) 5))]] H := hP
  have hD : zD A [[dsk q d], [((d 4), .inr (8, [.ref (rx 0)]))], [((rx 0), .inl (g.2 3, 3, .inr (.inr (.inr (.inr (rA [(rx 1), (rx 4), (rx 7)]))))))], [((rx 1), .inr (4, [.ref (rx 2), .ref (rx 3)]))], [fr (rx 2) (fthird ((mixT t 0 0 1 2 2 1) 0))], [fr (rx 3) (fthird ((mixT t 0 0 1 2 2 1) 1))], [((rx 4), .inr (4, [.ref (rx 5), .ref (rx 6)]))], [fr (rx 5) (fthird ((mixT t 0 0 1 2 2 1) 2))], [fr (rx 6) (fthird ((mixT t 0 0 1 2 2 1) 3))], (noteW g (d 5) e5 y X T sz nx), (recW g (d 8) cx_ t2_2), (threeW g (d 3) px t), [((rx 7), .inr (4, [.ref (rx 8), .ref (rx 9)]))], [fr (rx 8) (fthird ((mixT t 0 0 1 2 2 1) 4))], [fr (rx 9) (fthird ((mixT t 0 0 1 2 2 1) 5))]] := hD
  have hP : zP g [[dsk q d], [((d 4), .inr (8, [.ref (rx 0)]))], [((rx 0), .inl (g.2 3, 3, .inr (.inr (.inr (.inr (rA [(rx 1), (rx 4), (rx 7)]))))))], [((rx 1), .inr (4, [.ref (rx 2), .ref (rx 3)]))], [fr (rx 2) (fthird ((mixT t 0 0 1 2 2 1) 0))], [fr (rx 3) (fthird ((mixT t 0 0 1 2 2 1) 1))], [((rx 4), .inr (4, [.ref (rx 5), .ref (rx 6)]))], [fr (rx 5) (fthird ((mixT t 0 0 1 2 2 1) 2))], [fr (rx 6) (fthird ((mixT t 0 0 1 2 2 1) 3))], [((rx 7), .inr (4, [.ref (rx 8), .ref (rx 9)]))], [fr (rx 8) (fthird ((mixT t 0 0 1 2 2 1) 4))], [fr (rx 9) (fthird ((mixT t 0 0 1 2 2 1) 5))], (noteW g (d 5) e5 y X T sz nx), (recW g (d 8) cx_ t2_2), (threeW g (d 3) px t)] H := zP_sub hP [0, 1, 2, 3, 4, 5, 6, 7, 8, 12, 13, 14, 9, 10, 11] rfl
  have hD : zD A [[dsk q d], [((d 4), .inr (8, [.ref (rx 0)]))], [((rx 0), .inl (g.2 3, 3, .inr (.inr (.inr (.inr (rA [(rx 1), (rx 4), (rx 7)]))))))], [((rx 1), .inr (4, [.ref (rx 2), .ref (rx 3)]))], [fr (rx 2) (fthird ((mixT t 0 0 1 2 2 1) 0))], [fr (rx 3) (fthird ((mixT t 0 0 1 2 2 1) 1))], [((rx 4), .inr (4, [.ref (rx 5), .ref (rx 6)]))], [fr (rx 5) (fthird ((mixT t 0 0 1 2 2 1) 2))], [fr (rx 6) (fthird ((mixT t 0 0 1 2 2 1) 3))], [((rx 7), .inr (4, [.ref (rx 8), .ref (rx 9)]))], [fr (rx 8) (fthird ((mixT t 0 0 1 2 2 1) 4))], [fr (rx 9) (fthird ((mixT t 0 0 1 2 2 1) 5))], (noteW g (d 5) e5 y X T sz nx), (recW g (d 8) cx_ t2_2), (threeW g (d 3) px t)] := zD_sub hD [0, 1, 2, 3, 4, 5, 6, 7, 8, 12, 13, 14, 9, 10, 11] rfl rfl
  refine z_iinc hx hb 3 (lv' := [(1, vI 3), (0, .ref q)]) dX9_split_37 hl (k := 0) rfl (rfl) (by decide) rfl (fun ls hl => ?_)
  refine lv_goto (tgt := 20) hx hb dX9_split_40 (by decide) ?_
  refine lv_iload_n hx hb dX9_split_20 rfl (lv_at hl 0 rfl) ?_
  refine z_iconst hx hb dX9_split_21 rfl ?_
  refine z_icmp_ge (tgt := 43) hx hb (by decide) (by decide) dX9_split_22 (by decide) (fun cq9 => ?_) (fun cq9 => False.elim (by omega))
  have hP : zP g [[dsk q d], (threeW g (d 4) rx (lF [(fthird ((mixT t 0 0 1 2 2 1) 0)), (fthird ((mixT t 0 0 1 2 2 1) 1)), (fthird ((mixT t 0 0 1 2 2 1) 2)), (fthird ((mixT t 0 0 1 2 2 1) 3)), (fthird ((mixT t 0 0 1 2 2 1) 4)), (fthird ((mixT t 0 0 1 2 2 1) 5))])), (noteW g (d 5) e5 y X T sz nx), (recW g (d 8) cx_ t2_2), (threeW g (d 3) px t)] H := hP
  have hD : zD A [[dsk q d], (threeW g (d 4) rx (lF [(fthird ((mixT t 0 0 1 2 2 1) 0)), (fthird ((mixT t 0 0 1 2 2 1) 1)), (fthird ((mixT t 0 0 1 2 2 1) 2)), (fthird ((mixT t 0 0 1 2 2 1) 3)), (fthird ((mixT t 0 0 1 2 2 1) 4)), (fthird ((mixT t 0 0 1 2 2 1) 5))])), (noteW g (d 5) e5 y X T sz nx), (recW g (d 8) cx_ t2_2), (threeW g (d 3) px t)] := hD
  refine lv_aload_n hx hb dX9_split_43 rfl (lv_at hl 1 rfl) ?_
  refine z_cVi (As := []) (rest := []) ⟨hx, hb, hml, hown, hts⟩ hK hP hD hS hA [0, 4, 1, 2] [3] rfl rfl rfl (c_X9_takeResult l g q d px t rx (lF [(fthird ((mixT t 0 0 1 2 2 1) 0)), (fthird ((mixT t 0 0 1 2 2 1) 1)), (fthird ((mixT t 0 0 1 2 2 1) 2)), (fthird ((mixT t 0 0 1 2 2 1) 3)), (fthird ((mixT t 0 0 1 2 2 1) 4)), (fthird ((mixT t 0 0 1 2 2 1) 5))]) e5 y X T sz nx ht (fok_thT (fok_mixT ht 0 0 1 2 2 1)) ho (by omega) (by omega)) (cwV 0 hts gX9_split_X9_takeResult rfl rfl rfl (by decide +kernel) ⟨Nat.le_of_ble_eq_true rfl, Nat.le_of_ble_eq_true rfl⟩) 9 0 rfl rfl rfl (fun _ _ _ _ _ _ => trivial) (fun _ _ _ => trivial) rfl hl.1 (Nat.le_of_ble_eq_true rfl) rfl dX9_split_44 ⟨Nat.le_of_ble_eq_true rfl, Nat.le_of_ble_eq_true rfl⟩ (fun u_10 H locs hwu_10 hP hD hS => ?_)
  try dsimp only at hwu_10
  have hP : zP g [(recW g (d 8) cx_ t2_2), [dsk q d], (threeW g (d 3) px (lF [(fthird ((mixT t 0 0 1 2 2 1) 0)), (fthird ((mixT t 0 0 1 2 2 1) 1)), (fthird ((mixT t 0 0 1 2 2 1) 2)), (fthird ((mixT t 0 0 1 2 2 1) 3)), (fthird ((mixT t 0 0 1 2 2 1) 4)), (fthird ((mixT t 0 0 1 2 2 1) 5))])), (threeW g (d 4) rx (lF [(fthird ((mixT t 0 0 1 2 2 1) 0)), (fthird ((mixT t 0 0 1 2 2 1) 1)), (fthird ((mixT t 0 0 1 2 2 1) 2)), (fthird ((mixT t 0 0 1 2 2 1) 3)), (fthird ((mixT t 0 0 1 2 2 1) 4)), (fthird ((mixT t 0 0 1 2 2 1) 5))])), (noteW g (d 5) e5 y X (upT T nx t) (min (sz + 1) 8) ((nx + 1) % 8))] H := hP
  have hD : zD A [(recW g (d 8) cx_ t2_2), [dsk q d], (threeW g (d 3) px (lF [(fthird ((mixT t 0 0 1 2 2 1) 0)), (fthird ((mixT t 0 0 1 2 2 1) 1)), (fthird ((mixT t 0 0 1 2 2 1) 2)), (fthird ((mixT t 0 0 1 2 2 1) 3)), (fthird ((mixT t 0 0 1 2 2 1) 4)), (fthird ((mixT t 0 0 1 2 2 1) 5))])), (threeW g (d 4) rx (lF [(fthird ((mixT t 0 0 1 2 2 1) 0)), (fthird ((mixT t 0 0 1 2 2 1) 1)), (fthird ((mixT t 0 0 1 2 2 1) 2)), (fthird ((mixT t 0 0 1 2 2 1) 3)), (fthird ((mixT t 0 0 1 2 2 1) 4)), (fthird ((mixT t 0 0 1 2 2 1) 5))])), (noteW g (d 5) e5 y X (upT T nx t) (min (sz + 1) 8) ((nx + 1) % 8))] := hD
  have hP : zP g [[dsk q d], (recW g (d 8) cx_ t2_2), (threeW g (d 3) px (lF [(fthird ((mixT t 0 0 1 2 2 1) 0)), (fthird ((mixT t 0 0 1 2 2 1) 1)), (fthird ((mixT t 0 0 1 2 2 1) 2)), (fthird ((mixT t 0 0 1 2 2 1) 3)), (fthird ((mixT t 0 0 1 2 2 1) 4)), (fthird ((mixT t 0 0 1 2 2 1) 5))])), (threeW g (d 4) rx (lF [(fthird ((mixT t 0 0 1 2 2 1) 0)), (fthird ((mixT t 0 0 1 2 2 1) 1)), (fthird ((mixT t 0 0 1 2 2 1) 2)), (fthird ((mixT t 0 0 1 2 2 1) 3)), (fthird ((mixT t 0 0 1 2 2 1) 4)), (fthird ((mixT t 0 0 1 2 2 1) 5))])), (noteW g (d 5) e5 y X (upT T nx t) (min (sz + 1) 8) ((nx + 1) % 8))] H := zP_sub hP [1, 0, 2, 3, 4] rfl
  have hD : zD A [[dsk q d], (recW g (d 8) cx_ t2_2), (threeW g (d 3) px (lF [(fthird ((mixT t 0 0 1 2 2 1) 0)), (fthird ((mixT t 0 0 1 2 2 1) 1)), (fthird ((mixT t 0 0 1 2 2 1) 2)), (fthird ((mixT t 0 0 1 2 2 1) 3)), (fthird ((mixT t 0 0 1 2 2 1) 4)), (fthird ((mixT t 0 0 1 2 2 1) 5))])), (threeW g (d 4) rx (lF [(fthird ((mixT t 0 0 1 2 2 1) 0)), (fthird ((mixT t 0 0 1 2 2 1) 1)), (fthird ((mixT t 0 0 1 2 2 1) 2)), (fthird ((mixT t 0 0 1 2 2 1) 3)), (fthird ((mixT t 0 0 1 2 2 1) 4)), (fthird ((mixT t 0 0 1 2 2 1) 5))])), (noteW g (d 5) e5 y X (upT T nx t) (min (sz + 1) 8) ((nx + 1) % 8))] := zD_sub hD [1, 0, 2, 3, 4] rfl rfl
  refine z_toI 1 rfl ?_
  exact z_reti t2_2 [0, 2, 3, 1, 4] hx hb hr rfl hlocks hK hP hD hS (rfl) trivial rfl rfl (rfl) (Nat.le_of_ble_eq_true rfl) (Nat.le_of_ble_eq_true rfl) dX9_split_47

set_option maxHeartbeats 4000000 in
set_option maxRecDepth 100000 in
theorem c_X9_join_over (l : Launch) (g : zG) (q : Nat) (d : Nat → Nat) (px : Nat → Nat) (t : Nat → FO) (rx : Nat → Nat) (u : Nat → FO) (cx_ : Nat → Nat) (w_ : Nat → FO) (tr : Nat) (ht : ∀ k, fok (t k)) (ho : tOv (mixT t 0 0 2 1 1 2) = 1) : zMet l g yX9_join wsX9_join 6 0 0 [.ref q] (zXP "JOIN_TURNS" tr tnJ) [[dsk q d], (threeW g (d 3) px t), (threeW g (d 4) rx u), (recW g (d 8) cx_ w_)] (qi g (fun (w2 : Nat → FO) => (-2000000004)) (fun (w2 : Nat → FO) => True) (fun (w2 : Nat → FO) => [[dsk q d], (threeW g (d 3) px t), (threeW g (d 4) rx (mixT t 0 0 2 1 1 2)), (recW g (d 8) cx_ w2)])) := by
  refine z_ent (cc := cX9_join) (maxL := 1) (ret := (some .int)) (by decide) rfl (Nat.le_of_ble_eq_true rfl) ?_
  intro p e s m below meth c A ls hx hb hr hml hown hts hlocks hin0 hA hK hP hD hS hXX hl
  have hown : s.vm.findClass RX9 = some m.cls := hown
  have hin9_ : ∀ w ∈ wsX90, w ∈ wsX9_join := zw_in [96, 97, 98, 99, 100, 101, 102, 103, 104, 105, 106, 107] rfl
  have hl : lv_has ls 1 [(0, .ref q)] := hl
  refine lv_aload_n hx hb dX9_join_0 rfl (lv_at hl 0 rfl) ?_
  refine z_get hx hb hts hin9_ hown hK hP 0 rfl rfl 8 (by decide) (hts _ (List.mem_of_getElem? (i := 1) rfl)) rfl dX9_join_1 ?_
  refine lv_aload_n hx hb dX9_join_4 rfl (lv_at hl 0 rfl) ?_
  refine z_get hx hb hts hin9_ hown hK hP 0 rfl rfl 3 (by decide) (hts _ (List.mem_of_getElem? (i := 2) rfl)) rfl dX9_join_5 ?_
  refine va_gets hx hb hXX.1 hS hown (hts _ (List.mem_of_getElem? (i := 3) rfl)) (fun _ h => h) dX9_join_8 ?_
  refine lv_aload_n hx hb dX9_join_11 rfl (lv_at hl 0 rfl) ?_
  refine z_get hx hb hts hin9_ hown hK hP 0 rfl rfl 4 (by decide) (hts _ (List.mem_of_getElem? (i := 4) rfl)) rfl dX9_join_12 ?_
  refine z_xVv (As := [.ref (d 3), .ref tr, .ref (d 4)]) (rest := []) ⟨hx, hb, hml, hown, hts⟩ hK hP hD hS hA [3, 1, 2] [0] rfl rfl rfl (c_X5_combineAllJ l g (d 8) cx_ w_ (d 3) px t (d 4) rx u tr ht) (cwV 3 hts gX9_join_X5_combineAll rfl rfl rfl (by decide +kernel) ⟨Nat.le_of_ble_eq_true rfl, Nat.le_of_ble_eq_true rfl⟩) 5 0 rfl rfl rfl zXT_b (zXT_s hXX.2 hS) rfl hl.1 (Nat.le_of_ble_eq_true rfl) rfl dX9_join_15 ⟨Nat.le_of_ble_eq_true rfl, Nat.le_of_ble_eq_true rfl⟩ (fun u_1 H locs hwu_1 hP hD hS => ?_)
  obtain ⟨t2_2, rfl⟩ : ∃ z_, z_ = u_1 := ⟨_, rfl⟩
  try dsimp only at hwu_1
  have hP : zP g [[dsk q d], (recW g (d 8) cx_ t2_2), (threeW g (d 3) px t), (threeW g (d 4) rx (mixT t 0 0 2 1 1 2))] H := hP
  have hD : zD A [[dsk q d], (recW g (d 8) cx_ t2_2), (threeW g (d 3) px t), (threeW g (d 4) rx (mixT t 0 0 2 1 1 2))] := hD
  refine lv_aload_n hx hb dX9_join_18 rfl (lv_at hl 0 rfl) ?_
  refine z_cVi (As := []) (rest := []) ⟨hx, hb, hml, hown, hts⟩ hK hP hD hS hA [0, 3] [1, 2] rfl rfl rfl (c_X9_takeResult_over l g q d rx (mixT t 0 0 2 1 1 2) (fok_mixT ht 0 0 2 1 1 2) ho) (cwV 0 hts gX9_join_X9_takeResult rfl rfl rfl (by decide +kernel) ⟨Nat.le_of_ble_eq_true rfl, Nat.le_of_ble_eq_true rfl⟩) 9 0 rfl rfl rfl (fun _ _ _ _ _ _ => trivial) (fun _ _ _ => trivial) rfl hl.1 (Nat.le_of_ble_eq_true rfl) rfl dX9_join_19 ⟨Nat.le_of_ble_eq_true rfl, Nat.le_of_ble_eq_true rfl⟩ (fun u_3 H locs hwu_3 hP hD hS => ?_)
  try dsimp only at hwu_3
  have hP : zP g [(recW g (d 8) cx_ t2_2), (threeW g (d 3) px t), [dsk q d], (threeW g (d 4) rx (mixT t 0 0 2 1 1 2))] H := hP
  have hD : zD A [(recW g (d 8) cx_ t2_2), (threeW g (d 3) px t), [dsk q d], (threeW g (d 4) rx (mixT t 0 0 2 1 1 2))] := hD
  have hP : zP g [[dsk q d], (recW g (d 8) cx_ t2_2), (threeW g (d 3) px t), (threeW g (d 4) rx (mixT t 0 0 2 1 1 2))] H := zP_sub hP [2, 0, 1, 3] rfl
  have hD : zD A [[dsk q d], (recW g (d 8) cx_ t2_2), (threeW g (d 3) px t), (threeW g (d 4) rx (mixT t 0 0 2 1 1 2))] := zD_sub hD [2, 0, 1, 3] rfl rfl
  refine z_toI (-2000000004) rfl ?_
  exact z_reti t2_2 [0, 2, 3, 1] hx hb hr rfl hlocks hK hP hD hS (rfl) trivial rfl rfl (rfl) (Nat.le_of_ble_eq_true rfl) (Nat.le_of_ble_eq_true rfl) dX9_join_22

set_option maxHeartbeats 4000000 in
set_option maxRecDepth 100000 in
theorem c_X9_join (l : Launch) (g : zG) (q : Nat) (d : Nat → Nat) (px : Nat → Nat) (t : Nat → FO) (rx : Nat → Nat) (u : Nat → FO) (cx_ : Nat → Nat) (w_ : Nat → FO) (e5 : Nat) (y : Nat → Nat) (X : Nat → Nat → Nat) (T : Nat → Nat → FO) (sz : Nat) (nx : Nat) (tr : Nat) (ht : ∀ k, fok (t k)) (ho : tOv (mixT t 0 0 2 1 1 2) = 0) (hsz : sz ≤ 8) (hnx : nx < 8) : zMet l g yX9_join wsX9_join 6 0 0 [.ref q] (zXP "JOIN_TURNS" tr tnJ) [[dsk q d], (threeW g (d 3) px t), (threeW g (d 4) rx u), (recW g (d 8) cx_ w_), (noteW g (d 5) e5 y X T sz nx)] (qi g (fun (w2 : Nat → FO) => 1) (fun (w2 : Nat → FO) => True) (fun (w2 : Nat → FO) => [[dsk q d], (threeW g (d 3) px (mixT t 0 0 2 1 1 2)), (threeW g (d 4) rx (mixT t 0 0 2 1 1 2)), (recW g (d 8) cx_ w2), (noteW g (d 5) e5 y X (upT T nx t) (min (sz + 1) 8) ((nx + 1) % 8))])) := by
  refine z_ent (cc := cX9_join) (maxL := 1) (ret := (some .int)) (by decide) rfl (Nat.le_of_ble_eq_true rfl) ?_
  intro p e s m below meth c A ls hx hb hr hml hown hts hlocks hin0 hA hK hP hD hS hXX hl
  have hown : s.vm.findClass RX9 = some m.cls := hown
  have hin9_ : ∀ w ∈ wsX90, w ∈ wsX9_join := zw_in [96, 97, 98, 99, 100, 101, 102, 103, 104, 105, 106, 107] rfl
  have hl : lv_has ls 1 [(0, .ref q)] := hl
  refine lv_aload_n hx hb dX9_join_0 rfl (lv_at hl 0 rfl) ?_
  refine z_get hx hb hts hin9_ hown hK hP 0 rfl rfl 8 (by decide) (hts _ (List.mem_of_getElem? (i := 1) rfl)) rfl dX9_join_1 ?_
  refine lv_aload_n hx hb dX9_join_4 rfl (lv_at hl 0 rfl) ?_
  refine z_get hx hb hts hin9_ hown hK hP 0 rfl rfl 3 (by decide) (hts _ (List.mem_of_getElem? (i := 2) rfl)) rfl dX9_join_5 ?_
  refine va_gets hx hb hXX.1 hS hown (hts _ (List.mem_of_getElem? (i := 3) rfl)) (fun _ h => h) dX9_join_8 ?_
  refine lv_aload_n hx hb dX9_join_11 rfl (lv_at hl 0 rfl) ?_
  refine z_get hx hb hts hin9_ hown hK hP 0 rfl rfl 4 (by decide) (hts _ (List.mem_of_getElem? (i := 4) rfl)) rfl dX9_join_12 ?_
  refine z_xVv (As := [.ref (d 3), .ref tr, .ref (d 4)]) (rest := []) ⟨hx, hb, hml, hown, hts⟩ hK hP hD hS hA [3, 1, 2] [0, 4] rfl rfl rfl (c_X5_combineAllJ l g (d 8) cx_ w_ (d 3) px t (d 4) rx u tr ht) (cwV 3 hts gX9_join_X5_combineAll rfl rfl rfl (by decide +kernel) ⟨Nat.le_of_ble_eq_true rfl, Nat.le_of_ble_eq_true rfl⟩) 5 0 rfl rfl rfl zXT_b (zXT_s hXX.2 hS) rfl hl.1 (Nat.le_of_ble_eq_true rfl) rfl dX9_join_15 ⟨Nat.le_of_ble_eq_true rfl, Nat.le_of_ble_eq_true rfl⟩ (fun u_1 H locs hwu_1 hP hD hS => ?_)
  obtain ⟨t2_2, rfl⟩ : ∃ z_, z_ = u_1 := ⟨_, rfl⟩
  try dsimp only at hwu_1
  have hP : zP g [[dsk q d], (noteW g (d 5) e5 y X T sz nx), (recW g (d 8) cx_ t2_2), (threeW g (d 3) px t), (threeW g (d 4) rx (mixT t 0 0 2 1 1 2))] H := hP
  have hD : zD A [[dsk q d], (noteW g (d 5) e5 y X T sz nx), (recW g (d 8) cx_ t2_2), (threeW g (d 3) px t), (threeW g (d 4) rx (mixT t 0 0 2 1 1 2))] := hD
  refine lv_aload_n hx hb dX9_join_18 rfl (lv_at hl 0 rfl) ?_
  refine z_cVi (As := []) (rest := []) ⟨hx, hb, hml, hown, hts⟩ hK hP hD hS hA [0, 3, 4, 1] [2] rfl rfl rfl (c_X9_takeResult l g q d px t rx (mixT t 0 0 2 1 1 2) e5 y X T sz nx ht (fok_mixT ht 0 0 2 1 1 2) ho (by omega) (by omega)) (cwV 0 hts gX9_join_X9_takeResult rfl rfl rfl (by decide +kernel) ⟨Nat.le_of_ble_eq_true rfl, Nat.le_of_ble_eq_true rfl⟩) 9 0 rfl rfl rfl (fun _ _ _ _ _ _ => trivial) (fun _ _ _ => trivial) rfl hl.1 (Nat.le_of_ble_eq_true rfl) rfl dX9_join_19 ⟨Nat.le_of_ble_eq_true rfl, Nat.le_of_ble_eq_true rfl⟩ (fun u_3 H locs hwu_3 hP hD hS => ?_)
  try dsimp only at hwu_3
  have hP : zP g [(recW g (d 8) cx_ t2_2), [dsk q d], (threeW g (d 3) px (mixT t 0 0 2 1 1 2)), (threeW g (d 4) rx (mixT t 0 0 2 1 1 2)), (noteW g (d 5) e5 y X (upT T nx t) (min (sz + 1) 8) ((nx + 1) % 8))] H := hP
  have hD : zD A [(recW g (d 8) cx_ t2_2), [dsk q d], (threeW g (d 3) px (mixT t 0 0 2 1 1 2)), (threeW g (d 4) rx (mixT t 0 0 2 1 1 2)), (noteW g (d 5) e5 y X (upT T nx t) (min (sz + 1) 8) ((nx + 1) % 8))] := hD
  have hP : zP g [[dsk q d], (recW g (d 8) cx_ t2_2), (threeW g (d 3) px (mixT t 0 0 2 1 1 2)), (threeW g (d 4) rx (mixT t 0 0 2 1 1 2)), (noteW g (d 5) e5 y X (upT T nx t) (min (sz + 1) 8) ((nx + 1) % 8))] H := zP_sub hP [1, 0, 2, 3, 4] rfl
  have hD : zD A [[dsk q d], (recW g (d 8) cx_ t2_2), (threeW g (d 3) px (mixT t 0 0 2 1 1 2)), (threeW g (d 4) rx (mixT t 0 0 2 1 1 2)), (noteW g (d 5) e5 y X (upT T nx t) (min (sz + 1) 8) ((nx + 1) % 8))] := zD_sub hD [1, 0, 2, 3, 4] rfl rfl
  refine z_toI 1 rfl ?_
  exact z_reti t2_2 [0, 2, 3, 1, 4] hx hb hr rfl hlocks hK hP hD hS (rfl) trivial rfl rfl (rfl) (Nat.le_of_ble_eq_true rfl) (Nat.le_of_ble_eq_true rfl) dX9_join_22
