set_option maxHeartbeats 4000000 in
set_option maxRecDepth 100000 in
theorem c_X9_sag (l : Launch) (g : zG) (q : Nat) (d : Nat → Nat) (gx : Nat → Nat) (v : Int) (b : Nat) (h : Nat → Int) (o : Nat → Int) (l_ : Nat → Int) (p0 : Int) (p1 : Int) (p2 : Int) (p3 : Int) (g0 : Int) (g1 : Int) (g2 : Int) (g3 : Int) (s_ : Int) (i : Int) (f : Int) (pw : Int) (hN : nok v b h o l_) (hs : -2147483648 ≤ s_ ∧ s_ < 2147483648) (hi : -2147483648 ≤ i ∧ i < 2147483648) (hf : -2147483648 ≤ f ∧ f < 2147483648) (hp : -2147483648 ≤ pw ∧ pw < 2147483648) : zMet l g yX9_sag wsX9_sag 4 0 0 [.ref q, vI s_, vI i, vI f, vI pw] zX0 [[dsk q d], (netW g (d 1) gx v b h o l_), [flw (d 9) p0 p1 p2 p3], [flw (d 10) g0 g1 g2 g3]] (qi g (fun (u_ : Int × Int × Int × Int × Int × Int × Int × Int) => (aSag v b h o s_ i f pw)) (fun (u_ : Int × Int × Int × Int × Int × Int × Int × Int) => True) (fun (u_ : Int × Int × Int × Int × Int × Int × Int × Int) => [[dsk q d], (netW g (d 1) gx v b h o l_), [flw (d 9) u_.1 u_.2.1 u_.2.2.1 u_.2.2.2.1], [flw (d 10) u_.2.2.2.2.1 u_.2.2.2.2.2.1 u_.2.2.2.2.2.2.1 u_.2.2.2.2.2.2.2]])) := by
  obtain ⟨hn1, hn2, hn3, hn4, hn5, hn6, hn7⟩ := id hN
  refine z_ent (cc := cX9_sag) (maxL := 8) (ret := (some .int)) (by decide) rfl (Nat.le_of_ble_eq_true rfl) ?_
  intro p e s m below meth c A ls hx hb hr hml hown hts hlocks hin0 hA hK hP hD hS hXX hl
  have hown : s.vm.findClass RX9 = some m.cls := hown
  have hin2_ : ∀ w ∈ wsX20, w ∈ wsX9_sag := zw_in [93, 94, 95, 96, 97] rfl
  have hin9_ : ∀ w ∈ wsX90, w ∈ wsX9_sag := zw_in [81, 82, 83, 84, 85, 86, 87, 88, 89, 90, 91, 92] rfl
  have hl : lv_has ls 8 [(0, .ref q), (1, vI s_), (2, vI i), (3, vI f), (4, vI pw)] := hl
  refine lv_aload_n hx hb dX9_sag_0 rfl (lv_at hl 0 rfl) ?_
  refine lv_iload_n hx hb dX9_sag_1 rfl (lv_at hl 1 rfl) ?_
  refine lv_iload_n hx hb dX9_sag_2 rfl (lv_at hl 2 rfl) ?_
  refine lv_iload_n hx hb dX9_sag_3 rfl (lv_at hl 3 rfl) ?_
  refine lv_iload hx hb dX9_sag_4 (lv_at hl 4 rfl) ?_
  refine z_iconst hx hb dX9_sag_6 rfl ?_
  refine z_bipush hx hb 100 dX9_sag_7 rfl ?_
  refine z_cSi (As := [vI pw, vI 0, vI 100]) (rest := [vI f, vI i, vI s_, .ref q]) ⟨hx, hb, hml, hown, hts⟩ hK hP hD hS hA [] [0, 1, 2, 3] rfl rfl rfl (c_X9_isOutside l g pw 0 100 (by omega) (by omega) (by omega)) (va_cwS 3 hts gX9_sag_X9_isOutside rfl rfl rfl (by decide +kernel) ⟨Nat.le_of_ble_eq_true rfl, Nat.le_of_ble_eq_true rfl⟩) (fun _ _ _ _ _ _ => trivial) (fun _ _ _ => trivial) rfl hl.1 (Nat.le_of_ble_eq_true rfl) rfl dX9_sag_9 ⟨Nat.le_of_ble_eq_true rfl, Nat.le_of_ble_eq_true rfl⟩ (fun u_1 H locs hwu_1 hP hD hS => ?_)
  try dsimp only at hwu_1
  have hP : zP g [[dsk q d], (netW g (d 1) gx v b h o l_), [flw (d 9) p0 p1 p2 p3], [flw (d 10) g0 g1 g2 g3]] H := hP
  have hD : zD A [[dsk q d], (netW g (d 1) gx v b h o l_), [flw (d 9) p0 p1 p2 p3], [flw (d 10) g0 g1 g2 g3]] := hD
  have hP : zP g [[dsk q d], [flw (d 9) p0 p1 p2 p3], [flw (d 10) g0 g1 g2 g3], (netW g (d 1) gx v b h o l_)] H := zP_sub hP [0, 2, 3, 1] rfl
  have hD : zD A [[dsk q d], [flw (d 9) p0 p1 p2 p3], [flw (d 10) g0 g1 g2 g3], (netW g (d 1) gx v b h o l_)] := zD_sub hD [0, 2, 3, 1] rfl rfl
  refine z_toI (oU pw 0 100) rfl ?_
  have hf_2 := oU_s pw 0 100
  refine z_cVi (As := [vI s_, vI i, vI f, vI (oU pw 0 100)]) (rest := []) ⟨hx, hb, hml, hown, hts⟩ hK hP hD hS hA [0, 3, 1] [2] rfl rfl rfl (c_X9_askFault l g q d gx v b h o l_ p0 p1 p2 p3 s_ i f (oU pw 0 100) hN (by omega) (by omega) (by omega) (by omega)) (cwV 4 hts gX9_sag_X9_askFault rfl rfl rfl (by decide +kernel) ⟨Nat.le_of_ble_eq_true rfl, Nat.le_of_ble_eq_true rfl⟩) 9 0 rfl rfl rfl (fun _ _ _ _ _ _ => trivial) (fun _ _ _ => trivial) rfl hl.1 (Nat.le_of_ble_eq_true rfl) rfl dX9_sag_12 ⟨Nat.le_of_ble_eq_true rfl, Nat.le_of_ble_eq_true rfl⟩ (fun u_3 H locs hwu_3 hP hD hS => ?_)
  obtain ⟨r0_4, r1_5, r2_6, r3_7⟩ := u_3
  try dsimp only at hwu_3
  have hP : zP g [[flw (d 10) g0 g1 g2 g3], [dsk q d], (netW g (d 1) gx v b h o l_), [flw (d 9) r0_4 r1_5 r2_6 r3_7]] H := hP
  have hD : zD A [[flw (d 10) g0 g1 g2 g3], [dsk q d], (netW g (d 1) gx v b h o l_), [flw (d 9) r0_4 r1_5 r2_6 r3_7]] := hD
  have hP : zP g [[flw (d 10) g0 g1 g2 g3], [dsk q d], [flw (d 9) r0_4 r1_5 r2_6 r3_7], (netW g (d 1) gx v b h o l_)] H := zP_sub hP [0, 1, 3, 2] rfl
  have hD : zD A [[flw (d 10) g0 g1 g2 g3], [dsk q d], [flw (d 9) r0_4 r1_5 r2_6 r3_7], (netW g (d 1) gx v b h o l_)] := zD_sub hD [0, 1, 3, 2] rfl rfl
  refine z_toI (aAsk v b h o s_ i f (oU pw 0 100)) rfl ?_
  have hf_8 := aAsk_rng v b h o s_ i f (oU pw 0 100)
  refine lv_istore (lv' := [(5, vI (aAsk v b h o s_ i f (oU pw 0 100))), (0, .ref q), (1, vI s_), (2, vI i), (3, vI f), (4, vI pw)]) hx hb dX9_sag_15 hl (by decide) rfl (fun ls hl => ?_)
  refine lv_iload hx hb dX9_sag_17 (lv_at hl 0 rfl) ?_
  refine z_if_eq (tgt := 25) hx hb (by omega) dX9_sag_19 (by decide) (fun cq9 => ?_) (fun cq9 => ?_)
  · have hq9 : (aAsk v b h o s_ i f (oU pw 0 100)) = 0 := by omega
    have hq0 := aAsk_0 hq9
    obtain ⟨f90, f91, f92, f93⟩ := hwu_3 hq9
    subst f90 f91 f92 f93
    have hP : zP g [[flw (d 10) g0 g1 g2 g3], [dsk q d], [flw (d 9) (cP0 v h o s_ i.toNat f) (cP1 v h o s_ i.toNat f) (cP2 v h o s_ i.toNat f) (cB h o s_ i.toNat f)], (netW g (d 1) gx v b h o l_)] H := hP
    have hD : zD A [[flw (d 10) g0 g1 g2 g3], [dsk q d], [flw (d 9) (cP0 v h o s_ i.toNat f) (cP1 v h o s_ i.toNat f) (cP2 v h o s_ i.toNat f) (cB h o s_ i.toNat f)], (netW g (d 1) gx v b h o l_)] := hD
    have hbd := cur_bd hN s_ (i := i.toNat) (by omega) (f := f) (by omega)
    have hb3 := hbd.2.2.2
    have hb4 : 0 < (cB h o s_ i.toNat f) := hq0.2.2.2.2
    have hp9 := hq0.2.2.2.1
    have hp8 := oU_s pw 0 100
    refine z_iconst hx hb dX9_sag_25 rfl ?_
    refine lv_istore (lv' := [(6, vI 0), (5, vI (aAsk v b h o s_ i f (oU pw 0 100))), (0, .ref q), (1, vI s_), (2, vI i), (3, vI f), (4, vI pw)]) hx hb dX9_sag_26 hl (by decide) rfl (fun ls hl => ?_)
    refine z_iconst hx hb dX9_sag_28 rfl ?_
    refine lv_istore (lv' := [(7, vI 0), (6, vI 0), (5, vI (aAsk v b h o s_ i f (oU pw 0 100))), (0, .ref q), (1, vI s_), (2, vI i), (3, vI f), (4, vI pw)]) hx hb dX9_sag_29 hl (by decide) rfl (fun ls hl => ?_)
    have loop31 : ∀ (N : Nat) (k : Nat) (acc : Nat) (y0 : Int) (y1 : Int) (y2 : Int) (y3 : Int) (H : Heap) (locs : List Loc) (ls : Array Slot), k ≤ b → acc = sgB (sgI v h o s_ i.toNat f pw) k → (b - k) < N → zP g [[flw (d 10) y0 y1 y2 y3], [dsk q d], [flw (d 9) (cP0 v h o s_ i.toNat f) (cP1 v h o s_ i.toNat f) (cP2 v h o s_ i.toNat f) (cB h o s_ i.toNat f)], (netW g (d 1) gx v b h o l_)] H → zD A [[flw (d 10) y0 y1 y2 y3], [dsk q d], [flw (d 9) (cP0 v h o s_ i.toNat f) (cP1 v h o s_ i.toNat f) (cP2 v h o s_ i.toNat f) (cB h o s_ i.toNat f)], (netW g (d 1) gx v b h o l_)] → va_S A s.heap H locs → lv_has ls 8 [(5, vI (aAsk v b h o s_ i f (oU pw 0 100))), (0, .ref q), (1, vI s_), (2, vI i), (3, vI f), (4, vI pw), (6, vI ((acc : Nat) : Int)), (7, vI ((k : Nat) : Int))] → W p l e (zRm 4 0 0) s m ([.ref q, vI s_, vI i, vI f, vI pw] : List Value).toArray below meth c H locs (0) (0) (MQ below ((qi g (fun (u_ : Int × Int × Int × Int × Int × Int × Int × Int) => (aSag v b h o s_ i f pw)) (fun (u_ : Int × Int × Int × Int × Int × Int × Int × Int) => True) (fun (u_ : Int × Int × Int × Int × Int × Int × Int × Int) => [[dsk q d], (netW g (d 1) gx v b h o l_), [flw (d 9) u_.1 u_.2.1 u_.2.2.1 u_.2.2.2.1], [flw (d 10) u_.2.2.2.2.1 u_.2.2.2.2.2.1 u_.2.2.2.2.2.2.1 u_.2.2.2.2.2.2.2]])) A) ([.ref q, vI s_, vI i, vI f, vI pw] : List Value).toArray s 0 0 A) (F0 m 31 ls []) := by
      intro N
      induction N with
      | zero => intro k acc y0 y1 y2 y3 H locs ls hk ha hm; exact absurd hm (Nat.not_lt_zero _)
      | succ N ih31 =>
        intro k acc y0 y1 y2 y3 H locs ls hk ha hm hP hD hS hl
        have hac : acc < 64 := by rw [ha]; exact sgB_lt _ (by omega)
        refine lv_iload hx hb dX9_sag_31 (lv_at hl 7 rfl) ?_
        refine lv_aload_n hx hb dX9_sag_33 rfl (lv_at hl 1 rfl) ?_
        refine z_get hx hb hts hin9_ hown hK hP 1 rfl rfl 1 (by decide) (hts _ (List.mem_of_getElem? (i := 1) rfl)) rfl dX9_sag_34 ?_
        have hP : zP g [[flw (d 10) y0 y1 y2 y3], [dsk q d], [flw (d 9) (cP0 v h o s_ i.toNat f) (cP1 v h o s_ i.toNat f) (cP2 v h o s_ i.toNat f) (cB h o s_ i.toNat f)], [((d 1), .inr (2, [vI v, vI ((b : Nat) : Int), .ref (gx 0), .ref (gx 1), .ref (gx 2)]))], [((gx 0), .inl (g.2 0, 6, .inl (aI h)))], [((gx 1), .inl (g.2 0, 18, .inl (aI o)))], [((gx 2), .inl (g.2 0, 6, .inl (aI l_)))]] H := hP
        have hD : zD A [[flw (d 10) y0 y1 y2 y3], [dsk q d], [flw (d 9) (cP0 v h o s_ i.toNat f) (cP1 v h o s_ i.toNat f) (cP2 v h o s_ i.toNat f) (cB h o s_ i.toNat f)], [((d 1), .inr (2, [vI v, vI ((b : Nat) : Int), .ref (gx 0), .ref (gx 1), .ref (gx 2)]))], [((gx 0), .inl (g.2 0, 6, .inl (aI h)))], [((gx 1), .inl (g.2 0, 18, .inl (aI o)))], [((gx 2), .inl (g.2 0, 6, .inl (aI l_)))]] := hD
        refine z_get hx hb hts hin2_ hown hK hP 3 rfl rfl 1 (by decide) (hts _ (List.mem_of_getElem? (i := 2) rfl)) rfl dX9_sag_37 ?_
        have hP : zP g [[flw (d 10) y0 y1 y2 y3], [dsk q d], [flw (d 9) (cP0 v h o s_ i.toNat f) (cP1 v h o s_ i.toNat f) (cP2 v h o s_ i.toNat f) (cB h o s_ i.toNat f)], (netW g (d 1) gx v b h o l_)] H := hP
        have hD : zD A [[flw (d 10) y0 y1 y2 y3], [dsk q d], [flw (d 9) (cP0 v h o s_ i.toNat f) (cP1 v h o s_ i.toNat f) (cP2 v h o s_ i.toNat f) (cB h o s_ i.toNat f)], (netW g (d 1) gx v b h o l_)] := hD
        refine z_icmp_ge (tgt := 104) hx hb (by omega) (by omega) dX9_sag_40 (by decide) (fun cq10 => ?_) (fun cq10 => ?_)
        · refine lv_iload hx hb dX9_sag_104 (lv_at hl 6 rfl) ?_
          exact z_reti ((cP0 v h o s_ i.toNat f), (cP1 v h o s_ i.toNat f), (cP2 v h o s_ i.toNat f), (cB h o s_ i.toNat f), y0, y1, y2, y3) [1, 3, 2, 0] hx hb hr rfl hlocks hK hP hD hS (by rw [ha, (show k = b by omega)]; unfold aSag; rw [if_pos hq9]) trivial rfl rfl (rfl) (Nat.le_of_ble_eq_true rfl) (Nat.le_of_ble_eq_true rfl) dX9_sag_106
        · refine lv_aload_n hx hb dX9_sag_43 rfl (lv_at hl 1 rfl) ?_
          refine z_get hx hb hts hin9_ hown hK hP 1 rfl rfl 10 (by decide) (hts _ (List.mem_of_getElem? (i := 3) rfl)) rfl dX9_sag_44 ?_
          refine lv_aload_n hx hb dX9_sag_47 rfl (lv_at hl 1 rfl) ?_
          refine z_get hx hb hts hin9_ hown hK hP 1 rfl rfl 1 (by decide) (hts _ (List.mem_of_getElem? (i := 1) rfl)) rfl dX9_sag_48 ?_
          refine lv_aload_n hx hb dX9_sag_51 rfl (lv_at hl 1 rfl) ?_
          refine z_get hx hb hts hin9_ hown hK hP 1 rfl rfl 9 (by decide) (hts _ (List.mem_of_getElem? (i := 4) rfl)) rfl dX9_sag_52 ?_
          refine lv_aload_n hx hb dX9_sag_55 rfl (lv_at hl 1 rfl) ?_
          refine z_get hx hb hts hin9_ hown hK hP 1 rfl rfl 1 (by decide) (hts _ (List.mem_of_getElem? (i := 1) rfl)) rfl dX9_sag_56 ?_
          have hm6 := zM_lt (h := h) hn5 12 k i.toNat (by omega) (by omega)
          refine lv_iload hx hb dX9_sag_59 (lv_at hl 7 rfl) ?_
          refine lv_iload_n hx hb dX9_sag_61 rfl (lv_at hl 3 rfl) ?_
          refine z_toI ((i.toNat : Nat) : Int) (by omega) ?_
          refine z_cVi (As := [vI ((k : Nat) : Int), vI ((i.toNat : Nat) : Int)]) (rest := [.ref (d 9), .ref (d 1), .ref (d 10)]) ⟨hx, hb, hml, hown, hts⟩ hK hP hD hS hA [3] [0, 1, 2] rfl rfl rfl (c_X2_meetingOf l g (d 1) gx v b h o l_ k i.toNat hN (by omega) (by omega)) (cwV 2 hts gX9_sag_X2_meetingOf rfl rfl rfl (by decide +kernel) ⟨Nat.le_of_ble_eq_true rfl, Nat.le_of_ble_eq_true rfl⟩) 2 0 rfl rfl rfl (fun _ _ _ _ _ _ => trivial) (fun _ _ _ => trivial) rfl hl.1 (Nat.le_of_ble_eq_true rfl) rfl dX9_sag_62 ⟨Nat.le_of_ble_eq_true rfl, Nat.le_of_ble_eq_true rfl⟩ (fun u_11 H locs hwu_11 hP hD hS => ?_)
          try dsimp only at hwu_11
          have hP : zP g [[flw (d 10) y0 y1 y2 y3], [dsk q d], [flw (d 9) (cP0 v h o s_ i.toNat f) (cP1 v h o s_ i.toNat f) (cP2 v h o s_ i.toNat f) (cB h o s_ i.toNat f)], (netW g (d 1) gx v b h o l_)] H := hP
          have hD : zD A [[flw (d 10) y0 y1 y2 y3], [dsk q d], [flw (d 9) (cP0 v h o s_ i.toNat f) (cP1 v h o s_ i.toNat f) (cP2 v h o s_ i.toNat f) (cB h o s_ i.toNat f)], (netW g (d 1) gx v b h o l_)] := hD
          refine z_toI (((zM h 12 k i.toNat) : Nat) : Int) rfl ?_
          refine z_cVv (As := [.ref (d 1), .ref (d 9), vI (((zM h 12 k i.toNat) : Nat) : Int)]) (rest := []) ⟨hx, hb, hml, hown, hts⟩ hK hP hD hS hA [0, 3, 2] [1] rfl rfl rfl (c_X0_becomeVoltage l g (d 10) y0 y1 y2 y3 (d 1) gx v b h o l_ (d 9) (cP0 v h o s_ i.toNat f) (cP1 v h o s_ i.toNat f) (cP2 v h o s_ i.toNat f) (cB h o s_ i.toNat f) (zM h 12 k i.toNat) hN (by omega)) (cwV 3 hts gX9_sag_X0_becomeVoltage rfl rfl rfl (by decide +kernel) ⟨Nat.le_of_ble_eq_true rfl, Nat.le_of_ble_eq_true rfl⟩) 0 0 rfl rfl rfl (fun _ _ _ _ _ _ => trivial) (fun _ _ _ => trivial) rfl hl.1 (Nat.le_of_ble_eq_true rfl) rfl dX9_sag_65 ⟨Nat.le_of_ble_eq_true rfl, Nat.le_of_ble_eq_true rfl⟩ (fun u_12 H locs hwu_12 hP hD hS => ?_)
          try dsimp only at hwu_12
          have hP : zP g [[dsk q d], [flw (d 10) ((-(zUp h o 0 (zM h 12 k i.toNat))) * (cP0 v h o s_ i.toNat f)) (v * (cB h o s_ i.toNat f) - (zUp h o 1 (zM h 12 k i.toNat)) * (cP1 v h o s_ i.toNat f)) ((-(zUp h o 2 (zM h 12 k i.toNat))) * (cP2 v h o s_ i.toNat f)) (cB h o s_ i.toNat f)], (netW g (d 1) gx v b h o l_), [flw (d 9) (cP0 v h o s_ i.toNat f) (cP1 v h o s_ i.toNat f) (cP2 v h o s_ i.toNat f) (cB h o s_ i.toNat f)]] H := hP
          have hD : zD A [[dsk q d], [flw (d 10) ((-(zUp h o 0 (zM h 12 k i.toNat))) * (cP0 v h o s_ i.toNat f)) (v * (cB h o s_ i.toNat f) - (zUp h o 1 (zM h 12 k i.toNat)) * (cP1 v h o s_ i.toNat f)) ((-(zUp h o 2 (zM h 12 k i.toNat))) * (cP2 v h o s_ i.toNat f)) (cB h o s_ i.toNat f)], (netW g (d 1) gx v b h o l_), [flw (d 9) (cP0 v h o s_ i.toNat f) (cP1 v h o s_ i.toNat f) (cP2 v h o s_ i.toNat f) (cB h o s_ i.toNat f)]] := hD
          have hP : zP g [[dsk q d], [flw (d 10) ((-(zUp h o 0 (zM h 12 k i.toNat))) * (cP0 v h o s_ i.toNat f)) (v * (cB h o s_ i.toNat f) - (zUp h o 1 (zM h 12 k i.toNat)) * (cP1 v h o s_ i.toNat f)) ((-(zUp h o 2 (zM h 12 k i.toNat))) * (cP2 v h o s_ i.toNat f)) (cB h o s_ i.toNat f)], [flw (d 9) (cP0 v h o s_ i.toNat f) (cP1 v h o s_ i.toNat f) (cP2 v h o s_ i.toNat f) (cB h o s_ i.toNat f)], (netW g (d 1) gx v b h o l_)] H := zP_sub hP [0, 1, 3, 2] rfl
          have hD : zD A [[dsk q d], [flw (d 10) ((-(zUp h o 0 (zM h 12 k i.toNat))) * (cP0 v h o s_ i.toNat f)) (v * (cB h o s_ i.toNat f) - (zUp h o 1 (zM h 12 k i.toNat)) * (cP1 v h o s_ i.toNat f)) ((-(zUp h o 2 (zM h 12 k i.toNat))) * (cP2 v h o s_ i.toNat f)) (cB h o s_ i.toNat f)], [flw (d 9) (cP0 v h o s_ i.toNat f) (cP1 v h o s_ i.toNat f) (cP2 v h o s_ i.toNat f) (cB h o s_ i.toNat f)], (netW g (d 1) gx v b h o l_)] := zD_sub hD [0, 1, 3, 2] rfl rfl
          have hP : zP g [[dsk q d], [flw (d 10) (vP0 v h o s_ i.toNat f (zM h 12 k i.toNat)) (vP1 v h o s_ i.toNat f (zM h 12 k i.toNat)) (vP2 v h o s_ i.toNat f (zM h 12 k i.toNat)) (cB h o s_ i.toNat f)], [flw (d 9) (cP0 v h o s_ i.toNat f) (cP1 v h o s_ i.toNat f) (cP2 v h o s_ i.toNat f) (cB h o s_ i.toNat f)], (netW g (d 1) gx v b h o l_)] H := hP
          have hD : zD A [[dsk q d], [flw (d 10) (vP0 v h o s_ i.toNat f (zM h 12 k i.toNat)) (vP1 v h o s_ i.toNat f (zM h 12 k i.toNat)) (vP2 v h o s_ i.toNat f (zM h 12 k i.toNat)) (cB h o s_ i.toNat f)], [flw (d 9) (cP0 v h o s_ i.toNat f) (cP1 v h o s_ i.toNat f) (cP2 v h o s_ i.toNat f) (cB h o s_ i.toNat f)], (netW g (d 1) gx v b h o l_)] := hD
          have hvb := vlt_bd hN s_ (i := i.toNat) (c := (zM h 12 k i.toNat)) (by omega) hm6 (f := f) (by omega)
          refine lv_aload_n hx hb dX9_sag_68 rfl (lv_at hl 1 rfl) ?_
          refine z_get hx hb hts hin9_ hown hK hP 0 rfl rfl 10 (by decide) (hts _ (List.mem_of_getElem? (i := 3) rfl)) rfl dX9_sag_69 ?_
          refine lv_aload_n hx hb dX9_sag_72 rfl (lv_at hl 1 rfl) ?_
          refine z_get hx hb hts hin9_ hown hK hP 0 rfl rfl 1 (by decide) (hts _ (List.mem_of_getElem? (i := 1) rfl)) rfl dX9_sag_73 ?_
          have hP : zP g [[dsk q d], [flw (d 10) (vP0 v h o s_ i.toNat f (zM h 12 k i.toNat)) (vP1 v h o s_ i.toNat f (zM h 12 k i.toNat)) (vP2 v h o s_ i.toNat f (zM h 12 k i.toNat)) (cB h o s_ i.toNat f)], [flw (d 9) (cP0 v h o s_ i.toNat f) (cP1 v h o s_ i.toNat f) (cP2 v h o s_ i.toNat f) (cB h o s_ i.toNat f)], [((d 1), .inr (2, [vI v, vI ((b : Nat) : Int), .ref (gx 0), .ref (gx 1), .ref (gx 2)]))], [((gx 0), .inl (g.2 0, 6, .inl (aI h)))], [((gx 1), .inl (g.2 0, 18, .inl (aI o)))], [((gx 2), .inl (g.2 0, 6, .inl (aI l_)))]] H := hP
          have hD : zD A [[dsk q d], [flw (d 10) (vP0 v h o s_ i.toNat f (zM h 12 k i.toNat)) (vP1 v h o s_ i.toNat f (zM h 12 k i.toNat)) (vP2 v h o s_ i.toNat f (zM h 12 k i.toNat)) (cB h o s_ i.toNat f)], [flw (d 9) (cP0 v h o s_ i.toNat f) (cP1 v h o s_ i.toNat f) (cP2 v h o s_ i.toNat f) (cB h o s_ i.toNat f)], [((d 1), .inr (2, [vI v, vI ((b : Nat) : Int), .ref (gx 0), .ref (gx 1), .ref (gx 2)]))], [((gx 0), .inl (g.2 0, 6, .inl (aI h)))], [((gx 1), .inl (g.2 0, 18, .inl (aI o)))], [((gx 2), .inl (g.2 0, 6, .inl (aI l_)))]] := hD
          refine z_get hx hb hts hin2_ hown hK hP 3 rfl rfl 0 (by decide) (hts _ (List.mem_of_getElem? (i := 5) rfl)) rfl dX9_sag_76 ?_
          have hP : zP g [[dsk q d], [flw (d 10) (vP0 v h o s_ i.toNat f (zM h 12 k i.toNat)) (vP1 v h o s_ i.toNat f (zM h 12 k i.toNat)) (vP2 v h o s_ i.toNat f (zM h 12 k i.toNat)) (cB h o s_ i.toNat f)], [flw (d 9) (cP0 v h o s_ i.toNat f) (cP1 v h o s_ i.toNat f) (cP2 v h o s_ i.toNat f) (cB h o s_ i.toNat f)], (netW g (d 1) gx v b h o l_)] H := hP
          have hD : zD A [[dsk q d], [flw (d 10) (vP0 v h o s_ i.toNat f (zM h 12 k i.toNat)) (vP1 v h o s_ i.toNat f (zM h 12 k i.toNat)) (vP2 v h o s_ i.toNat f (zM h 12 k i.toNat)) (cB h o s_ i.toNat f)], [flw (d 9) (cP0 v h o s_ i.toNat f) (cP1 v h o s_ i.toNat f) (cP2 v h o s_ i.toNat f) (cB h o s_ i.toNat f)], (netW g (d 1) gx v b h o l_)] := hD
          refine z_i2l hx hb (by omega) dX9_sag_79 ?_
          refine lv_iload hx hb dX9_sag_80 (lv_at hl 5 rfl) ?_
          refine z_i2l hx hb (by omega) dX9_sag_82 ?_
          refine z_cVi (As := [vL v, vL pw]) (rest := []) ⟨hx, hb, hml, hown, hts⟩ hK hP hD hS hA [1] [0, 2, 3] rfl rfl rfl (c_X0_sagsBelow l g (d 10) (vP0 v h o s_ i.toNat f (zM h 12 k i.toNat)) (vP1 v h o s_ i.toNat f (zM h 12 k i.toNat)) (vP2 v h o s_ i.toNat f (zM h 12 k i.toNat)) (cB h o s_ i.toNat f) v pw hvb (by omega) (by omega)) (cwV 2 hts gX9_sag_X0_sagsBelow rfl rfl rfl (by decide +kernel) ⟨Nat.le_of_ble_eq_true rfl, Nat.le_of_ble_eq_true rfl⟩) 0 0 rfl rfl rfl (fun _ _ _ _ _ _ => trivial) (fun _ _ _ => trivial) rfl hl.1 (Nat.le_of_ble_eq_true rfl) rfl dX9_sag_83 ⟨Nat.le_of_ble_eq_true rfl, Nat.le_of_ble_eq_true rfl⟩ (fun u_13 H locs hwu_13 hP hD hS => ?_)
          try dsimp only at hwu_13
          have hP : zP g [[dsk q d], [flw (d 9) (cP0 v h o s_ i.toNat f) (cP1 v h o s_ i.toNat f) (cP2 v h o s_ i.toNat f) (cB h o s_ i.toNat f)], (netW g (d 1) gx v b h o l_), [flw (d 10) (vP0 v h o s_ i.toNat f (zM h 12 k i.toNat)) (vP1 v h o s_ i.toNat f (zM h 12 k i.toNat)) (vP2 v h o s_ i.toNat f (zM h 12 k i.toNat)) (cB h o s_ i.toNat f)]] H := hP
          have hD : zD A [[dsk q d], [flw (d 9) (cP0 v h o s_ i.toNat f) (cP1 v h o s_ i.toNat f) (cP2 v h o s_ i.toNat f) (cB h o s_ i.toNat f)], (netW g (d 1) gx v b h o l_), [flw (d 10) (vP0 v h o s_ i.toNat f (zM h 12 k i.toNat)) (vP1 v h o s_ i.toNat f (zM h 12 k i.toNat)) (vP2 v h o s_ i.toNat f (zM h 12 k i.toNat)) (cB h o s_ i.toNat f)]] := hD
          have hP : zP g [[dsk q d], [flw (d 9) (cP0 v h o s_ i.toNat f) (cP1 v h o s_ i.toNat f) (cP2 v h o s_ i.toNat f) (cB h o s_ i.toNat f)], [flw (d 10) (vP0 v h o s_ i.toNat f (zM h 12 k i.toNat)) (vP1 v h o s_ i.toNat f (zM h 12 k i.toNat)) (vP2 v h o s_ i.toNat f (zM h 12 k i.toNat)) (cB h o s_ i.toNat f)], (netW g (d 1) gx v b h o l_)] H := zP_sub hP [0, 1, 3, 2] rfl
          have hD : zD A [[dsk q d], [flw (d 9) (cP0 v h o s_ i.toNat f) (cP1 v h o s_ i.toNat f) (cP2 v h o s_ i.toNat f) (cB h o s_ i.toNat f)], [flw (d 10) (vP0 v h o s_ i.toNat f (zM h 12 k i.toNat)) (vP1 v h o s_ i.toNat f (zM h 12 k i.toNat)) (vP2 v h o s_ i.toNat f (zM h 12 k i.toNat)) (cB h o s_ i.toNat f)], (netW g (d 1) gx v b h o l_)] := zD_sub hD [0, 1, 3, 2] rfl rfl
          refine z_toI (if (min (flN (vP0 v h o s_ i.toNat f (zM h 12 k i.toNat)) (vP1 v h o s_ i.toNat f (zM h 12 k i.toNat)) (vP2 v h o s_ i.toNat f (zM h 12 k i.toNat)) 0) (min (flN (vP0 v h o s_ i.toNat f (zM h 12 k i.toNat)) (vP1 v h o s_ i.toNat f (zM h 12 k i.toNat)) (vP2 v h o s_ i.toNat f (zM h 12 k i.toNat)) 1) (flN (vP0 v h o s_ i.toNat f (zM h 12 k i.toNat)) (vP1 v h o s_ i.toNat f (zM h 12 k i.toNat)) (vP2 v h o s_ i.toNat f (zM h 12 k i.toNat)) 2))) * 10000 < v * v * pw * pw * (cB h o s_ i.toNat f) * (cB h o s_ i.toNat f) then 1 else 0 : Int) rfl ?_
          refine z_toI (sgI v h o s_ i.toNat f pw k) rfl ?_
          have hs01 := sgI_01 v h o s_ i.toNat f pw k
          refine z_if_eq (tgt := 98) hx hb (by omega) dX9_sag_86 (by decide) (fun cq14 => ?_) (fun cq14 => ?_)
          · refine z_iinc hx hb (((k + 1) : Nat) : Int) (lv' := [(7, vI (((k + 1) : Nat) : Int)), (5, vI (aAsk v b h o s_ i f (oU pw 0 100))), (0, .ref q), (1, vI s_), (2, vI i), (3, vI f), (4, vI pw), (6, vI ((acc : Nat) : Int))]) dX9_sag_98 hl (k := 7) rfl (by omega) (by decide) rfl (fun ls hl => ?_)
            refine lv_goto (tgt := 31) hx hb dX9_sag_101 (by decide) ?_
            exact ih31 (k + 1) acc (vP0 v h o s_ i.toNat f (zM h 12 k i.toNat)) (vP1 v h o s_ i.toNat f (zM h 12 k i.toNat)) (vP2 v h o s_ i.toNat f (zM h 12 k i.toNat)) (cB h o s_ i.toNat f) _ _ _ (by omega) (by rw [sgB_n (p := (sgI v h o s_ i.toNat f pw)) (by omega), ha]) (by omega) (zP_sub hP [2, 0, 1, 3] rfl) (zD_sub hD [2, 0, 1, 3] rfl rfl) hS (lv_sub hl [1, 2, 3, 4, 5, 6, 7, 0] rfl)
          · refine lv_iload hx hb dX9_sag_89 (lv_at hl 6 rfl) ?_
            refine z_iconst hx hb dX9_sag_91 rfl ?_
            refine lv_iload hx hb dX9_sag_92 (lv_at hl 7 rfl) ?_
            refine z_shl1 hx hb (k := k) (by omega) dX9_sag_94 ?_
            refine z_orN hx hb (a := acc) (b := 2 ^ k) hac (p2_lt (by omega)) dX9_sag_95 ?_
            refine lv_istore (lv' := [(6, vI (((acc ||| 2 ^ k) : Nat) : Int)), (5, vI (aAsk v b h o s_ i f (oU pw 0 100))), (0, .ref q), (1, vI s_), (2, vI i), (3, vI f), (4, vI pw), (7, vI ((k : Nat) : Int))]) hx hb dX9_sag_96 hl (by decide) rfl (fun ls hl => ?_)
            refine z_iinc hx hb (((k + 1) : Nat) : Int) (lv' := [(7, vI (((k + 1) : Nat) : Int)), (6, vI (((acc ||| 2 ^ k) : Nat) : Int)), (5, vI (aAsk v b h o s_ i f (oU pw 0 100))), (0, .ref q), (1, vI s_), (2, vI i), (3, vI f), (4, vI pw)]) dX9_sag_98 hl (k := 7) rfl (by omega) (by decide) rfl (fun ls hl => ?_)
            refine lv_goto (tgt := 31) hx hb dX9_sag_101 (by decide) ?_
            exact ih31 (k + 1) (acc ||| 2 ^ k) (vP0 v h o s_ i.toNat f (zM h 12 k i.toNat)) (vP1 v h o s_ i.toNat f (zM h 12 k i.toNat)) (vP2 v h o s_ i.toNat f (zM h 12 k i.toNat)) (cB h o s_ i.toNat f) _ _ _ (by omega) (by rw [sgB_y (p := (sgI v h o s_ i.toNat f pw)) (by omega), ha]) (by omega) (zP_sub hP [2, 0, 1, 3] rfl) (zD_sub hD [2, 0, 1, 3] rfl rfl) hS (lv_sub hl [2, 3, 4, 5, 6, 7, 1, 0] rfl)
    exact loop31 _ 0 0 _ _ _ _ _ _ _ (Nat.zero_le _) rfl (Nat.lt_succ_self _) hP hD hS (lv_sub hl [2, 3, 4, 5, 6, 7, 1, 0] rfl)
  · refine lv_iload hx hb dX9_sag_22 (lv_at hl 0 rfl) ?_
    exact z_reti (r0_4, r1_5, r2_6, r3_7, g0, g1, g2, g3) [1, 3, 2, 0] hx hb hr rfl hlocks hK hP hD hS (by unfold aSag; rw [if_neg (by assumption)]) trivial rfl rfl (rfl) (Nat.le_of_ble_eq_true rfl) (Nat.le_of_ble_eq_true rfl) dX9_sag_24

set_option maxHeartbeats 4000000 in
set_option maxRecDepth 100000 in
theorem c_X9_trips (l : Launch) (g : zG) (q : Nat) (d : Nat → Nat) (gx : Nat → Nat) (v : Int) (b : Nat) (h : Nat → Int) (o : Nat → Int) (l_ : Nat → Int) (p0 : Int) (p1 : Int) (p2 : Int) (p3 : Int) (s_ : Int) (i : Int) (f : Int) (hN : nok v b h o l_) (hs : -2147483648 ≤ s_ ∧ s_ < 2147483648) (hi : -2147483648 ≤ i ∧ i < 2147483648) (hf : -2147483648 ≤ f ∧ f < 2147483648) : zMet l g yX9_trips wsX9_trips 4 0 0 [.ref q, vI s_, vI i, vI f] zX0 [[dsk q d], (netW g (d 1) gx v b h o l_), [flw (d 9) p0 p1 p2 p3]] (qi g (fun (u_ : Int × Int × Int × Int) => (aTrp v b h o l_ s_ i f)) (fun (u_ : Int × Int × Int × Int) => True) (fun (u_ : Int × Int × Int × Int) => [[dsk q d], (netW g (d 1) gx v b h o l_), [flw (d 9) u_.1 u_.2.1 u_.2.2.1 u_.2.2.2]])) := by
  obtain ⟨hn1, hn2, hn3, hn4, hn5, hn6, hn7⟩ := id hN
  refine z_ent (cc := cX9_trips) (maxL := 8) (ret := (some .int)) (by decide) rfl (Nat.le_of_ble_eq_true rfl) ?_
  intro p e s m below meth c A ls hx hb hr hml hown hts hlocks hin0 hA hK hP hD hS hXX hl
  have hown : s.vm.findClass RX9 = some m.cls := hown
  have hin2_ : ∀ w ∈ wsX20, w ∈ wsX9_trips := zw_in [84, 85, 86, 87, 88] rfl
  have hin9_ : ∀ w ∈ wsX90, w ∈ wsX9_trips := zw_in [72, 73, 74, 75, 76, 77, 78, 79, 80, 81, 82, 83] rfl
  have hl : lv_has ls 8 [(0, .ref q), (1, vI s_), (2, vI i), (3, vI f)] := hl
  refine lv_aload_n hx hb dX9_trips_0 rfl (lv_at hl 0 rfl) ?_
  refine lv_iload_n hx hb dX9_trips_1 rfl (lv_at hl 1 rfl) ?_
  refine lv_iload_n hx hb dX9_trips_2 rfl (lv_at hl 2 rfl) ?_
  refine lv_iload_n hx hb dX9_trips_3 rfl (lv_at hl 3 rfl) ?_
  refine z_iconst hx hb dX9_trips_4 rfl ?_
  refine z_cVi (As := [vI s_, vI i, vI f, vI 0]) (rest := []) ⟨hx, hb, hml, hown, hts⟩ hK hP hD hS hA [0, 1, 2] [] rfl rfl rfl (c_X9_askFault l g q d gx v b h o l_ p0 p1 p2 p3 s_ i f 0 hN (by omega) (by omega) (by omega) (Or.inl rfl)) (cwV 4 hts gX9_trips_X9_askFault rfl rfl rfl (by decide +kernel) ⟨Nat.le_of_ble_eq_true rfl, Nat.le_of_ble_eq_true rfl⟩) 9 0 rfl rfl rfl (fun _ _ _ _ _ _ => trivial) (fun _ _ _ => trivial) rfl hl.1 (Nat.le_of_ble_eq_true rfl) rfl dX9_trips_5 ⟨Nat.le_of_ble_eq_true rfl, Nat.le_of_ble_eq_true rfl⟩ (fun u_1 H locs hwu_1 hP hD hS => ?_)
  obtain ⟨r0_2, r1_3, r2_4, r3_5⟩ := u_1
  try dsimp only at hwu_1
  have hP : zP g [[dsk q d], (netW g (d 1) gx v b h o l_), [flw (d 9) r0_2 r1_3 r2_4 r3_5]] H := hP
  have hD : zD A [[dsk q d], (netW g (d 1) gx v b h o l_), [flw (d 9) r0_2 r1_3 r2_4 r3_5]] := hD
  have hP : zP g [[dsk q d], [flw (d 9) r0_2 r1_3 r2_4 r3_5], (netW g (d 1) gx v b h o l_)] H := zP_sub hP [0, 2, 1] rfl
  have hD : zD A [[dsk q d], [flw (d 9) r0_2 r1_3 r2_4 r3_5], (netW g (d 1) gx v b h o l_)] := zD_sub hD [0, 2, 1] rfl rfl
  refine z_toI (aAsk v b h o s_ i f 0) rfl ?_
  have hf_6 := aAsk_rng v b h o s_ i f 0
  refine lv_istore (lv' := [(4, vI (aAsk v b h o s_ i f 0)), (0, .ref q), (1, vI s_), (2, vI i), (3, vI f)]) hx hb dX9_trips_8 hl (by decide) rfl (fun ls hl => ?_)
  refine lv_iload hx hb dX9_trips_10 (lv_at hl 0 rfl) ?_
  refine z_if_eq (tgt := 18) hx hb (by omega) dX9_trips_12 (by decide) (fun cq7 => ?_) (fun cq7 => ?_)
  · have hq9 : (aAsk v b h o s_ i f 0) = 0 := by omega
    have hq0 := aAsk_0 hq9
    obtain ⟨f90, f91, f92, f93⟩ := hwu_1 hq9
    subst f90 f91 f92 f93
    have hP : zP g [[dsk q d], [flw (d 9) (cP0 v h o s_ i.toNat f) (cP1 v h o s_ i.toNat f) (cP2 v h o s_ i.toNat f) (cB h o s_ i.toNat f)], (netW g (d 1) gx v b h o l_)] H := hP
    have hD : zD A [[dsk q d], [flw (d 9) (cP0 v h o s_ i.toNat f) (cP1 v h o s_ i.toNat f) (cP2 v h o s_ i.toNat f) (cB h o s_ i.toNat f)], (netW g (d 1) gx v b h o l_)] := hD
    have hbd := cur_bd hN s_ (i := i.toNat) (by omega) (f := f) (by omega)
    have hb3 := hbd.2.2.2
    have hb4 : 0 < (cB h o s_ i.toNat f) := hq0.2.2.2.2
    refine z_iconst hx hb dX9_trips_18 rfl ?_
    refine lv_istore (lv' := [(5, vI 0), (4, vI (aAsk v b h o s_ i f 0)), (0, .ref q), (1, vI s_), (2, vI i), (3, vI f)]) hx hb dX9_trips_19 hl (by decide) rfl (fun ls hl => ?_)
    refine z_iconst hx hb dX9_trips_21 rfl ?_
    refine lv_istore (lv' := [(6, vI 0), (5, vI 0), (4, vI (aAsk v b h o s_ i f 0)), (0, .ref q), (1, vI s_), (2, vI i), (3, vI f)]) hx hb dX9_trips_22 hl (by decide) rfl (fun ls hl => ?_)
    refine lv_iload_n hx hb dX9_trips_24 rfl (lv_at hl 5 rfl) ?_
    refine z_toI ((i.toNat : Nat) : Int) (by omega) ?_
    refine lv_istore (lv' := [(7, vI ((i.toNat : Nat) : Int)), (6, vI 0), (5, vI 0), (4, vI (aAsk v b h o s_ i f 0)), (0, .ref q), (1, vI s_), (2, vI i), (3, vI f)]) hx hb dX9_trips_25 hl (by decide) rfl (fun ls hl => ?_)
    have loop27 : ∀ (N : Nat) (k : Nat) (acc : Nat) (w : Nat) (H : Heap) (locs : List Loc) (ls : Array Slot), k + w ≤ 6 → w < 6 → acc < 64 → (trB h (trI v h o l_ s_ i.toNat f) 6 i.toNat 0) = trB h (trI v h o l_ s_ i.toNat f) (6 - k) w acc → (6 - k) < N → zP g [[dsk q d], [flw (d 9) (cP0 v h o s_ i.toNat f) (cP1 v h o s_ i.toNat f) (cP2 v h o s_ i.toNat f) (cB h o s_ i.toNat f)], (netW g (d 1) gx v b h o l_)] H → zD A [[dsk q d], [flw (d 9) (cP0 v h o s_ i.toNat f) (cP1 v h o s_ i.toNat f) (cP2 v h o s_ i.toNat f) (cB h o s_ i.toNat f)], (netW g (d 1) gx v b h o l_)] → va_S A s.heap H locs → lv_has ls 8 [(4, vI (aAsk v b h o s_ i f 0)), (0, .ref q), (1, vI s_), (2, vI i), (3, vI f), (5, vI ((acc : Nat) : Int)), (6, vI ((k : Nat) : Int)), (7, vI ((w : Nat) : Int))] → W p l e (zRm 4 0 0) s m ([.ref q, vI s_, vI i, vI f] : List Value).toArray below meth c H locs (0) (0) (MQ below ((qi g (fun (u_ : Int × Int × Int × Int) => (aTrp v b h o l_ s_ i f)) (fun (u_ : Int × Int × Int × Int) => True) (fun (u_ : Int × Int × Int × Int) => [[dsk q d], (netW g (d 1) gx v b h o l_), [flw (d 9) u_.1 u_.2.1 u_.2.2.1 u_.2.2.2]])) A) ([.ref q, vI s_, vI i, vI f] : List Value).toArray s 0 0 A) (F0 m 27 ls []) := by
      intro N
      induction N with
      | zero => intro k acc w H locs ls hk hw hac ha hm; exact absurd hm (Nat.not_lt_zero _)
      | succ N ih27 =>
        intro k acc w H locs ls hk hw hac ha hm hP hD hS hl
        refine lv_iload hx hb dX9_trips_27 (lv_at hl 6 rfl) ?_
        refine z_bipush hx hb 6 dX9_trips_29 rfl ?_
        refine z_icmp_ge (tgt := 100) hx hb (by omega) (by decide) dX9_trips_31 (by decide) (fun cq8 => ?_) (fun cq8 => ?_)
        · refine lv_iload hx hb dX9_trips_100 (lv_at hl 5 rfl) ?_
          exact z_reti ((cP0 v h o s_ i.toNat f), (cP1 v h o s_ i.toNat f), (cP2 v h o s_ i.toNat f), (cB h o s_ i.toNat f)) [0, 2, 1] hx hb hr rfl hlocks hK hP hD hS (by unfold aTrp; rw [if_pos hq9, ha, (show w = 0 by omega), trB_0]) trivial rfl rfl (rfl) (Nat.le_of_ble_eq_true rfl) (Nat.le_of_ble_eq_true rfl) dX9_trips_102
        · refine lv_iload hx hb dX9_trips_34 (lv_at hl 7 rfl) ?_
          refine z_if_le (tgt := 100) hx hb (by omega) dX9_trips_36 (by decide) (fun cq9 => ?_) (fun cq9 => ?_)
          · refine lv_iload hx hb dX9_trips_100 (lv_at hl 5 rfl) ?_
            exact z_reti ((cP0 v h o s_ i.toNat f), (cP1 v h o s_ i.toNat f), (cP2 v h o s_ i.toNat f), (cB h o s_ i.toNat f)) [0, 2, 1] hx hb hr rfl hlocks hK hP hD hS (by unfold aTrp; rw [if_pos hq9, ha, (show w = 0 by omega), trB_0]) trivial rfl rfl (rfl) (Nat.le_of_ble_eq_true rfl) (Nat.le_of_ble_eq_true rfl) dX9_trips_102
          · have hl9 := hn7 w
            have htn := fun q => trI_n (v := v) (h := h) (o := o) (k := l_) (s := s_) (i := i.toNat) (f := f) (w := w) q
            refine lv_aload_n hx hb dX9_trips_39 rfl (lv_at hl 1 rfl) ?_
            refine z_get hx hb hts hin9_ hown hK hP 0 rfl rfl 1 (by decide) (hts _ (List.mem_of_getElem? (i := 1) rfl)) rfl dX9_trips_40 ?_
            have hP : zP g [[dsk q d], [flw (d 9) (cP0 v h o s_ i.toNat f) (cP1 v h o s_ i.toNat f) (cP2 v h o s_ i.toNat f) (cB h o s_ i.toNat f)], [((d 1), .inr (2, [vI v, vI ((b : Nat) : Int), .ref (gx 0), .ref (gx 1), .ref (gx 2)]))], [((gx 0), .inl (g.2 0, 6, .inl (aI h)))], [((gx 1), .inl (g.2 0, 18, .inl (aI o)))], [((gx 2), .inl (g.2 0, 6, .inl (aI l_)))]] H := hP
            have hD : zD A [[dsk q d], [flw (d 9) (cP0 v h o s_ i.toNat f) (cP1 v h o s_ i.toNat f) (cP2 v h o s_ i.toNat f) (cB h o s_ i.toNat f)], [((d 1), .inr (2, [vI v, vI ((b : Nat) : Int), .ref (gx 0), .ref (gx 1), .ref (gx 2)]))], [((gx 0), .inl (g.2 0, 6, .inl (aI h)))], [((gx 1), .inl (g.2 0, 18, .inl (aI o)))], [((gx 2), .inl (g.2 0, 6, .inl (aI l_)))]] := hD
            refine z_get hx hb hts hin2_ hown hK hP 2 rfl rfl 4 (by decide) (hts _ (List.mem_of_getElem? (i := 2) rfl)) rfl dX9_trips_43 ?_
            refine lv_iload hx hb dX9_trips_46 (lv_at hl 7 rfl) ?_
            refine z_iald hx hb hK hP 5 rfl w (by omega) (by omega) (by decide) dX9_trips_48 ?_
            have hP : zP g [[dsk q d], [flw (d 9) (cP0 v h o s_ i.toNat f) (cP1 v h o s_ i.toNat f) (cP2 v h o s_ i.toNat f) (cB h o s_ i.toNat f)], (netW g (d 1) gx v b h o l_)] H := hP
            have hD : zD A [[dsk q d], [flw (d 9) (cP0 v h o s_ i.toNat f) (cP1 v h o s_ i.toNat f) (cP2 v h o s_ i.toNat f) (cB h o s_ i.toNat f)], (netW g (d 1) gx v b h o l_)] := hD
            refine z_if_le (tgt := 82) hx hb (by omega) dX9_trips_49 (by decide) (fun cq10 => ?_) (fun cq10 => ?_)
            · refine z_iinc hx hb (((k + 1) : Nat) : Int) (lv' := [(6, vI (((k + 1) : Nat) : Int)), (4, vI (aAsk v b h o s_ i f 0)), (0, .ref q), (1, vI s_), (2, vI i), (3, vI f), (5, vI ((acc : Nat) : Int)), (7, vI ((w : Nat) : Int))]) dX9_trips_82 hl (k := 6) rfl (by omega) (by decide) rfl (fun ls hl => ?_)
              refine lv_aload_n hx hb dX9_trips_85 rfl (lv_at hl 2 rfl) ?_
              refine z_get hx hb hts hin9_ hown hK hP 0 rfl rfl 1 (by decide) (hts _ (List.mem_of_getElem? (i := 1) rfl)) rfl dX9_trips_86 ?_
              have hP : zP g [[dsk q d], [flw (d 9) (cP0 v h o s_ i.toNat f) (cP1 v h o s_ i.toNat f) (cP2 v h o s_ i.toNat f) (cB h o s_ i.toNat f)], [((d 1), .inr (2, [vI v, vI ((b : Nat) : Int), .ref (gx 0), .ref (gx 1), .ref (gx 2)]))], [((gx 0), .inl (g.2 0, 6, .inl (aI h)))], [((gx 1), .inl (g.2 0, 18, .inl (aI o)))], [((gx 2), .inl (g.2 0, 6, .inl (aI l_)))]] H := hP
              have hD : zD A [[dsk q d], [flw (d 9) (cP0 v h o s_ i.toNat f) (cP1 v h o s_ i.toNat f) (cP2 v h o s_ i.toNat f) (cB h o s_ i.toNat f)], [((d 1), .inr (2, [vI v, vI ((b : Nat) : Int), .ref (gx 0), .ref (gx 1), .ref (gx 2)]))], [((gx 0), .inl (g.2 0, 6, .inl (aI h)))], [((gx 1), .inl (g.2 0, 18, .inl (aI o)))], [((gx 2), .inl (g.2 0, 6, .inl (aI l_)))]] := hD
              refine z_get hx hb hts hin2_ hown hK hP 2 rfl rfl 2 (by decide) (hts _ (List.mem_of_getElem? (i := 4) rfl)) rfl dX9_trips_89 ?_
              refine lv_iload hx hb dX9_trips_92 (lv_at hl 7 rfl) ?_
              refine z_iald hx hb hK hP 3 rfl w (by omega) (by omega) (by decide) dX9_trips_94 ?_
              have hP : zP g [[dsk q d], [flw (d 9) (cP0 v h o s_ i.toNat f) (cP1 v h o s_ i.toNat f) (cP2 v h o s_ i.toNat f) (cB h o s_ i.toNat f)], (netW g (d 1) gx v b h o l_)] H := hP
              have hD : zD A [[dsk q d], [flw (d 9) (cP0 v h o s_ i.toNat f) (cP1 v h o s_ i.toNat f) (cP2 v h o s_ i.toNat f) (cB h o s_ i.toNat f)], (netW g (d 1) gx v b h o l_)] := hD
              have hhw := hn5 w (by omega) hw
              refine z_toI (((h w).toNat : Nat) : Int) (by omega) ?_
              refine lv_istore (lv' := [(7, vI (((h w).toNat : Nat) : Int)), (6, vI (((k + 1) : Nat) : Int)), (4, vI (aAsk v b h o s_ i f 0)), (0, .ref q), (1, vI s_), (2, vI i), (3, vI f), (5, vI ((acc : Nat) : Int))]) hx hb dX9_trips_95 hl (by decide) rfl (fun ls hl => ?_)
              refine lv_goto (tgt := 27) hx hb dX9_trips_97 (by decide) ?_
              exact ih27 (k + 1) acc (h w).toNat _ _ _ (by omega) (by omega) hac (by rw [ha, trB_n (p := (trI v h o l_ s_ i.toNat f)) (by omega) (by omega) (by omega)]; congr 1) (by omega) hP hD hS (lv_sub hl [2, 3, 4, 5, 6, 7, 1, 0] rfl)
            · refine lv_aload_n hx hb dX9_trips_52 rfl (lv_at hl 1 rfl) ?_
              refine z_get hx hb hts hin9_ hown hK hP 0 rfl rfl 9 (by decide) (hts _ (List.mem_of_getElem? (i := 3) rfl)) rfl dX9_trips_53 ?_
              refine lv_aload_n hx hb dX9_trips_56 rfl (lv_at hl 1 rfl) ?_
              refine z_get hx hb hts hin9_ hown hK hP 0 rfl rfl 1 (by decide) (hts _ (List.mem_of_getElem? (i := 1) rfl)) rfl dX9_trips_57 ?_
              have hP : zP g [[dsk q d], [flw (d 9) (cP0 v h o s_ i.toNat f) (cP1 v h o s_ i.toNat f) (cP2 v h o s_ i.toNat f) (cB h o s_ i.toNat f)], [((d 1), .inr (2, [vI v, vI ((b : Nat) : Int), .ref (gx 0), .ref (gx 1), .ref (gx 2)]))], [((gx 0), .inl (g.2 0, 6, .inl (aI h)))], [((gx 1), .inl (g.2 0, 18, .inl (aI o)))], [((gx 2), .inl (g.2 0, 6, .inl (aI l_)))]] H := hP
              have hD : zD A [[dsk q d], [flw (d 9) (cP0 v h o s_ i.toNat f) (cP1 v h o s_ i.toNat f) (cP2 v h o s_ i.toNat f) (cB h o s_ i.toNat f)], [((d 1), .inr (2, [vI v, vI ((b : Nat) : Int), .ref (gx 0), .ref (gx 1), .ref (gx 2)]))], [((gx 0), .inl (g.2 0, 6, .inl (aI h)))], [((gx 1), .inl (g.2 0, 18, .inl (aI o)))], [((gx 2), .inl (g.2 0, 6, .inl (aI l_)))]] := hD
              refine z_get hx hb hts hin2_ hown hK hP 2 rfl rfl 4 (by decide) (hts _ (List.mem_of_getElem? (i := 2) rfl)) rfl dX9_trips_60 ?_
              refine lv_iload hx hb dX9_trips_63 (lv_at hl 7 rfl) ?_
              refine z_iald hx hb hK hP 5 rfl w (by omega) (by omega) (by decide) dX9_trips_65 ?_
              have hP : zP g [[dsk q d], [flw (d 9) (cP0 v h o s_ i.toNat f) (cP1 v h o s_ i.toNat f) (cP2 v h o s_ i.toNat f) (cB h o s_ i.toNat f)], (netW g (d 1) gx v b h o l_)] H := hP
              have hD : zD A [[dsk q d], [flw (d 9) (cP0 v h o s_ i.toNat f) (cP1 v h o s_ i.toNat f) (cP2 v h o s_ i.toNat f) (cB h o s_ i.toNat f)], (netW g (d 1) gx v b h o l_)] := hD
              refine z_i2l hx hb (by omega) dX9_trips_66 ?_
              refine z_cVi (As := [vL (l_ w)]) (rest := []) ⟨hx, hb, hml, hown, hts⟩ hK hP hD hS hA [1] [0, 2] rfl rfl rfl (c_X0_exceeds l g (d 9) (cP0 v h o s_ i.toNat f) (cP1 v h o s_ i.toNat f) (cP2 v h o s_ i.toNat f) (cB h o s_ i.toNat f) (l_ w) (flbd_mono hbd (by decide)) (by omega)) (cwV 1 hts gX9_trips_X0_exceeds rfl rfl rfl (by decide +kernel) ⟨Nat.le_of_ble_eq_true rfl, Nat.le_of_ble_eq_true rfl⟩) 0 0 rfl rfl rfl (fun _ _ _ _ _ _ => trivial) (fun _ _ _ => trivial) rfl hl.1 (Nat.le_of_ble_eq_true rfl) rfl dX9_trips_67 ⟨Nat.le_of_ble_eq_true rfl, Nat.le_of_ble_eq_true rfl⟩ (fun u_11 H locs hwu_11 hP hD hS => ?_)
              try dsimp only at hwu_11
              have hP : zP g [[dsk q d], (netW g (d 1) gx v b h o l_), [flw (d 9) (cP0 v h o s_ i.toNat f) (cP1 v h o s_ i.toNat f) (cP2 v h o s_ i.toNat f) (cB h o s_ i.toNat f)]] H := hP
              have hD : zD A [[dsk q d], (netW g (d 1) gx v b h o l_), [flw (d 9) (cP0 v h o s_ i.toNat f) (cP1 v h o s_ i.toNat f) (cP2 v h o s_ i.toNat f) (cB h o s_ i.toNat f)]] := hD
              have hP : zP g [[dsk q d], [flw (d 9) (cP0 v h o s_ i.toNat f) (cP1 v h o s_ i.toNat f) (cP2 v h o s_ i.toNat f) (cB h o s_ i.toNat f)], (netW g (d 1) gx v b h o l_)] H := zP_sub hP [0, 2, 1] rfl
              have hD : zD A [[dsk q d], [flw (d 9) (cP0 v h o s_ i.toNat f) (cP1 v h o s_ i.toNat f) (cP2 v h o s_ i.toNat f) (cB h o s_ i.toNat f)], (netW g (d 1) gx v b h o l_)] := zD_sub hD [0, 2, 1] rfl rfl
              refine z_toI (if (l_ w) * (l_ w) * (cB h o s_ i.toNat f) * (cB h o s_ i.toNat f) < (max (flN (cP0 v h o s_ i.toNat f) (cP1 v h o s_ i.toNat f) (cP2 v h o s_ i.toNat f) 0) (max (flN (cP0 v h o s_ i.toNat f) (cP1 v h o s_ i.toNat f) (cP2 v h o s_ i.toNat f) 1) (flN (cP0 v h o s_ i.toNat f) (cP1 v h o s_ i.toNat f) (cP2 v h o s_ i.toNat f) 2))) then 1 else 0 : Int) rfl ?_
              refine z_toI (trI v h o l_ s_ i.toNat f w) (trI_q (by omega)).symm ?_
              have ht01 := trI_01 v h o l_ s_ i.toNat f w
              refine z_if_eq (tgt := 82) hx hb (by omega) dX9_trips_70 (by decide) (fun cq12 => ?_) (fun cq12 => ?_)
              · refine z_iinc hx hb (((k + 1) : Nat) : Int) (lv' := [(6, vI (((k + 1) : Nat) : Int)), (4, vI (aAsk v b h o s_ i f 0)), (0, .ref q), (1, vI s_), (2, vI i), (3, vI f), (5, vI ((acc : Nat) : Int)), (7, vI ((w : Nat) : Int))]) dX9_trips_82 hl (k := 6) rfl (by omega) (by decide) rfl (fun ls hl => ?_)
                refine lv_aload_n hx hb dX9_trips_85 rfl (lv_at hl 2 rfl) ?_
                refine z_get hx hb hts hin9_ hown hK hP 0 rfl rfl 1 (by decide) (hts _ (List.mem_of_getElem? (i := 1) rfl)) rfl dX9_trips_86 ?_
                have hP : zP g [[dsk q d], [flw (d 9) (cP0 v h o s_ i.toNat f) (cP1 v h o s_ i.toNat f) (cP2 v h o s_ i.toNat f) (cB h o s_ i.toNat f)], [((d 1), .inr (2, [vI v, vI ((b : Nat) : Int), .ref (gx 0), .ref (gx 1), .ref (gx 2)]))], [((gx 0), .inl (g.2 0, 6, .inl (aI h)))], [((gx 1), .inl (g.2 0, 18, .inl (aI o)))], [((gx 2), .inl (g.2 0, 6, .inl (aI l_)))]] H := hP
                have hD : zD A [[dsk q d], [flw (d 9) (cP0 v h o s_ i.toNat f) (cP1 v h o s_ i.toNat f) (cP2 v h o s_ i.toNat f) (cB h o s_ i.toNat f)], [((d 1), .inr (2, [vI v, vI ((b : Nat) : Int), .ref (gx 0), .ref (gx 1), .ref (gx 2)]))], [((gx 0), .inl (g.2 0, 6, .inl (aI h)))], [((gx 1), .inl (g.2 0, 18, .inl (aI o)))], [((gx 2), .inl (g.2 0, 6, .inl (aI l_)))]] := hD
                refine z_get hx hb hts hin2_ hown hK hP 2 rfl rfl 2 (by decide) (hts _ (List.mem_of_getElem? (i := 4) rfl)) rfl dX9_trips_89 ?_
                refine lv_iload hx hb dX9_trips_92 (lv_at hl 7 rfl) ?_
                refine z_iald hx hb hK hP 3 rfl w (by omega) (by omega) (by decide) dX9_trips_94 ?_
                have hP : zP g [[dsk q d], [flw (d 9) (cP0 v h o s_ i.toNat f) (cP1 v h o s_ i.toNat f) (cP2 v h o s_ i.toNat f) (cB h o s_ i.toNat f)], (netW g (d 1) gx v b h o l_)] H := hP
                have hD : zD A [[dsk q d], [flw (d 9) (cP0 v h o s_ i.toNat f) (cP1 v h o s_ i.toNat f) (cP2 v h o s_ i.toNat f) (cB h o s_ i.toNat f)], (netW g (d 1) gx v b h o l_)] := hD
                have hhw := hn5 w (by omega) hw
                refine z_toI (((h w).toNat : Nat) : Int) (by omega) ?_
                refine lv_istore (lv' := [(7, vI (((h w).toNat : Nat) : Int)), (6, vI (((k + 1) : Nat) : Int)), (4, vI (aAsk v b h o s_ i f 0)), (0, .ref q), (1, vI s_), (2, vI i), (3, vI f), (5, vI ((acc : Nat) : Int))]) hx hb dX9_trips_95 hl (by decide) rfl (fun ls hl => ?_)
                refine lv_goto (tgt := 27) hx hb dX9_trips_97 (by decide) ?_
                exact ih27 (k + 1) acc (h w).toNat _ _ _ (by omega) (by omega) hac (by rw [ha, trB_n (p := (trI v h o l_ s_ i.toNat f)) (by omega) (by omega) (by omega)]; congr 1) (by omega) hP hD hS (lv_sub hl [2, 3, 4, 5, 6, 7, 1, 0] rfl)
              · refine lv_iload hx hb dX9_trips_73 (lv_at hl 5 rfl) ?_
                refine z_iconst hx hb dX9_trips_75 rfl ?_
                refine lv_iload hx hb dX9_trips_76 (lv_at hl 7 rfl) ?_
                refine z_shl1 hx hb (k := w) (by omega) dX9_trips_78 ?_
                refine z_orN hx hb (a := acc) (b := 2 ^ w) hac (p2_lt (by omega)) dX9_trips_79 ?_
                refine lv_istore (lv' := [(5, vI (((acc ||| 2 ^ w) : Nat) : Int)), (4, vI (aAsk v b h o s_ i f 0)), (0, .ref q), (1, vI s_), (2, vI i), (3, vI f), (6, vI ((k : Nat) : Int)), (7, vI ((w : Nat) : Int))]) hx hb dX9_trips_80 hl (by decide) rfl (fun ls hl => ?_)
                refine z_iinc hx hb (((k + 1) : Nat) : Int) (lv' := [(6, vI (((k + 1) : Nat) : Int)), (5, vI (((acc ||| 2 ^ w) : Nat) : Int)), (4, vI (aAsk v b h o s_ i f 0)), (0, .ref q), (1, vI s_), (2, vI i), (3, vI f), (7, vI ((w : Nat) : Int))]) dX9_trips_82 hl (k := 6) rfl (by omega) (by decide) rfl (fun ls hl => ?_)
                refine lv_aload_n hx hb dX9_trips_85 rfl (lv_at hl 3 rfl) ?_
                refine z_get hx hb hts hin9_ hown hK hP 0 rfl rfl 1 (by decide) (hts _ (List.mem_of_getElem? (i := 1) rfl)) rfl dX9_trips_86 ?_
                have hP : zP g [[dsk q d], [flw (d 9) (cP0 v h o s_ i.toNat f) (cP1 v h o s_ i.toNat f) (cP2 v h o s_ i.toNat f) (cB h o s_ i.toNat f)], [((d 1), .inr (2, [vI v, vI ((b : Nat) : Int), .ref (gx 0), .ref (gx 1), .ref (gx 2)]))], [((gx 0), .inl (g.2 0, 6, .inl (aI h)))], [((gx 1), .inl (g.2 0, 18, .inl (aI o)))], [((gx 2), .inl (g.2 0, 6, .inl (aI l_)))]] H := hP
                have hD : zD A [[dsk q d], [flw (d 9) (cP0 v h o s_ i.toNat f) (cP1 v h o s_ i.toNat f) (cP2 v h o s_ i.toNat f) (cB h o s_ i.toNat f)], [((d 1), .inr (2, [vI v, vI ((b : Nat) : Int), .ref (gx 0), .ref (gx 1), .ref (gx 2)]))], [((gx 0), .inl (g.2 0, 6, .inl (aI h)))], [((gx 1), .inl (g.2 0, 18, .inl (aI o)))], [((gx 2), .inl (g.2 0, 6, .inl (aI l_)))]] := hD
                refine z_get hx hb hts hin2_ hown hK hP 2 rfl rfl 2 (by decide) (hts _ (List.mem_of_getElem? (i := 4) rfl)) rfl dX9_trips_89 ?_
                refine lv_iload hx hb dX9_trips_92 (lv_at hl 7 rfl) ?_
                refine z_iald hx hb hK hP 3 rfl w (by omega) (by omega) (by decide) dX9_trips_94 ?_
                have hP : zP g [[dsk q d], [flw (d 9) (cP0 v h o s_ i.toNat f) (cP1 v h o s_ i.toNat f) (cP2 v h o s_ i.toNat f) (cB h o s_ i.toNat f)], (netW g (d 1) gx v b h o l_)] H := hP
                have hD : zD A [[dsk q d], [flw (d 9) (cP0 v h o s_ i.toNat f) (cP1 v h o s_ i.toNat f) (cP2 v h o s_ i.toNat f) (cB h o s_ i.toNat f)], (netW g (d 1) gx v b h o l_)] := hD
                have hhw := hn5 w (by omega) hw
                refine z_toI (((h w).toNat : Nat) : Int) (by omega) ?_
                refine lv_istore (lv' := [(7, vI (((h w).toNat : Nat) : Int)), (6, vI (((k + 1) : Nat) : Int)), (5, vI (((acc ||| 2 ^ w) : Nat) : Int)), (4, vI (aAsk v b h o s_ i f 0)), (0, .ref q), (1, vI s_), (2, vI i), (3, vI f)]) hx hb dX9_trips_95 hl (by decide) rfl (fun ls hl => ?_)
                refine lv_goto (tgt := 27) hx hb dX9_trips_97 (by decide) ?_
                exact ih27 (k + 1) (acc ||| 2 ^ w) (h w).toNat _ _ _ (by omega) (by omega) (or_lt hac (p2_lt hw)) (by rw [ha, trB_y (p := (trI v h o l_ s_ i.toNat f)) (by omega) (by omega) (by omega)]; congr 1) (by omega) hP hD hS (lv_sub hl [3, 4, 5, 6, 7, 2, 1, 0] rfl)
    exact loop27 _ 0 0 i.toNat _ _ _ (by omega) (by omega) (by decide) rfl (Nat.lt_succ_self _) hP hD hS (lv_sub hl [3, 4, 5, 6, 7, 2, 1, 0] rfl)
  · refine lv_iload hx hb dX9_trips_15 (lv_at hl 0 rfl) ?_
    exact z_reti (r0_2, r1_3, r2_4, r3_5) [0, 2, 1] hx hb hr rfl hlocks hK hP hD hS (by unfold aTrp; rw [if_neg (by assumption)]) trivial rfl rfl (rfl) (Nat.le_of_ble_eq_true rfl) (Nat.le_of_ble_eq_true rfl) dX9_trips_17
