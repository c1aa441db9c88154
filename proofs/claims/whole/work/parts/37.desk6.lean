set_option maxHeartbeats 4000000 in
set_option maxRecDepth 100000 in
theorem c_X9_worst (l : Launch) (g : zG) (q : Nat) (d : Nat → Nat) (gx : Nat → Nat) (v : Int) (b : Nat) (h : Nat → Int) (o : Nat → Int) (l_ : Nat → Int) (p0 : Int) (p1 : Int) (p2 : Int) (p3 : Int) (s_ : Int) (f : Int) (hN : nok v b h o l_) (hs : -2147483648 ≤ s_ ∧ s_ < 2147483648) (hf : -2147483648 ≤ f ∧ f < 2147483648) : zMet l g yX9_worst wsX9_worst 3 0 0 [.ref q, vI s_, vI f] zX0 [[dsk q d], (netW g (d 1) gx v b h o l_), [flw (d 9) p0 p1 p2 p3]] (qi g (fun (u_ : Int × Int × Int × Int) => (aWst v b h o s_ f)) (fun (u_ : Int × Int × Int × Int) => True) (fun (u_ : Int × Int × Int × Int) => [[dsk q d], (netW g (d 1) gx v b h o l_), [flw (d 9) u_.1 u_.2.1 u_.2.2.1 u_.2.2.2]])) := by
  obtain ⟨hn1, hn2, hn3, hn4, hn5, hn6, hn7⟩ := id hN
  refine z_ent (cc := cX9_worst) (maxL := 13) (ret := (some .int)) (by decide) rfl (Nat.le_of_ble_eq_true rfl) ?_
  intro p e s m below meth c A ls hx hb hr hml hown hts hlocks hin0 hA hK hP hD hS hXX hl
  have hown : s.vm.findClass RX9 = some m.cls := hown
  have hin0_ : ∀ w ∈ wsX00, w ∈ wsX9_worst := zw_in [74, 75, 76, 77] rfl
  have hin2_ : ∀ w ∈ wsX20, w ∈ wsX9_worst := zw_in [69, 70, 71, 72, 73] rfl
  have hin9_ : ∀ w ∈ wsX90, w ∈ wsX9_worst := zw_in [57, 58, 59, 60, 61, 62, 63, 64, 65, 66, 67, 68] rfl
  have hl : lv_has ls 13 [(0, .ref q), (1, vI s_), (2, vI f)] := hl
  refine lv_iload_n hx hb dX9_worst_0 rfl (lv_at hl 1 rfl) ?_
  refine z_cSi (As := [vI s_]) (rest := []) ⟨hx, hb, hml, hown, hts⟩ hK hP hD hS hA [] [0, 1, 2] rfl rfl rfl (c_X9_isNoSort l g s_ (by first | assumption | omega | decide)) (va_cwS 1 hts gX9_worst_X9_isNoSort rfl rfl rfl (by decide +kernel) ⟨Nat.le_of_ble_eq_true rfl, Nat.le_of_ble_eq_true rfl⟩) (fun _ _ _ _ _ _ => trivial) (fun _ _ _ => trivial) rfl hl.1 (Nat.le_of_ble_eq_true rfl) rfl dX9_worst_1 ⟨Nat.le_of_ble_eq_true rfl, Nat.le_of_ble_eq_true rfl⟩ (fun u_1 H locs hwu_1 hP hD hS => ?_)
  try dsimp only at hwu_1
  have hP : zP g [[dsk q d], (netW g (d 1) gx v b h o l_), [flw (d 9) p0 p1 p2 p3]] H := hP
  have hD : zD A [[dsk q d], (netW g (d 1) gx v b h o l_), [flw (d 9) p0 p1 p2 p3]] := hD
  have hP : zP g [[dsk q d], [flw (d 9) p0 p1 p2 p3], (netW g (d 1) gx v b h o l_)] H := zP_sub hP [0, 2, 1] rfl
  have hD : zD A [[dsk q d], [flw (d 9) p0 p1 p2 p3], (netW g (d 1) gx v b h o l_)] := zD_sub hD [0, 2, 1] rfl rfl
  refine z_toI (oU s_ 0 3) rfl ?_
  have hf_2 := oU_s s_ 0 3
  refine z_if_ne (tgt := 14) hx hb (by omega) dX9_worst_4 (by decide) (fun cq3 => ?_) (fun cq3 => ?_)
  · refine z_ldc hx hb (-2000000002) hown (hts _ (List.mem_of_getElem? (i := 1) rfl)) rfl dX9_worst_14 ?_
    exact z_reti (p0, p1, p2, p3) [0, 2, 1] hx hb hr rfl hlocks hK hP hD hS (by unfold aWst; rw [if_neg (by omega)]) trivial rfl rfl (rfl) (Nat.le_of_ble_eq_true rfl) (Nat.le_of_ble_eq_true rfl) dX9_worst_16
  · refine lv_iload_n hx hb dX9_worst_7 rfl (lv_at hl 2 rfl) ?_
    refine z_cSi (As := [vI f]) (rest := []) ⟨hx, hb, hml, hown, hts⟩ hK hP hD hS hA [] [0, 1, 2] rfl rfl rfl (c_X9_isNoOhms l g f (by first | assumption | omega | decide)) (va_cwS 1 hts gX9_worst_X9_isNoOhms rfl rfl rfl (by decide +kernel) ⟨Nat.le_of_ble_eq_true rfl, Nat.le_of_ble_eq_true rfl⟩) (fun _ _ _ _ _ _ => trivial) (fun _ _ _ => trivial) rfl hl.1 (Nat.le_of_ble_eq_true rfl) rfl dX9_worst_8 ⟨Nat.le_of_ble_eq_true rfl, Nat.le_of_ble_eq_true rfl⟩ (fun u_4 H locs hwu_4 hP hD hS => ?_)
    try dsimp only at hwu_4
    have hP : zP g [[dsk q d], [flw (d 9) p0 p1 p2 p3], (netW g (d 1) gx v b h o l_)] H := hP
    have hD : zD A [[dsk q d], [flw (d 9) p0 p1 p2 p3], (netW g (d 1) gx v b h o l_)] := hD
    refine z_toI (oU f 0 9) rfl ?_
    have hf_5 := oU_s f 0 9
    refine z_if_eq (tgt := 17) hx hb (by omega) dX9_worst_11 (by decide) (fun cq6 => ?_) (fun cq6 => ?_)
    · refine z_iconst hx hb dX9_worst_17 rfl ?_
      refine lv_istore_n (lv' := [(3, vI (-1)), (0, .ref q), (1, vI s_), (2, vI f)]) hx hb dX9_worst_18 rfl hl (by decide) rfl (fun ls hl => ?_)
      refine z_lconst hx hb 0 dX9_worst_19 rfl ?_
      refine lv_lstore (lv' := [(4, vL 0), (3, vI (-1)), (0, .ref q), (1, vI s_), (2, vI f)]) hx hb dX9_worst_20 hl (by decide) rfl (fun ls hl => ?_)
      refine z_lconst hx hb 1 dX9_worst_22 rfl ?_
      refine lv_lstore (lv' := [(6, vL 1), (4, vL 0), (3, vI (-1)), (0, .ref q), (1, vI s_), (2, vI f)]) hx hb dX9_worst_23 hl (by decide) rfl (fun ls hl => ?_)
      refine z_iconst hx hb dX9_worst_25 rfl ?_
      refine lv_istore (lv' := [(8, vI 0), (6, vL 1), (4, vL 0), (3, vI (-1)), (0, .ref q), (1, vI s_), (2, vI f)]) hx hb dX9_worst_26 hl (by decide) rfl (fun ls hl => ?_)
      have loop28 : ∀ (N : Nat) (k : Nat) (x0 : Int) (x1 : Int) (x2 : Int) (y0 : Int) (y1 : Int) (y2 : Int) (y3 : Int) (H : Heap) (locs : List Loc) (ls : Array Slot), k ≤ b → (x0, x1, x2) = wsT v h o s_ f k → (b - k) < N → zP g [[dsk q d], [flw (d 9) y0 y1 y2 y3], (netW g (d 1) gx v b h o l_)] H → zD A [[dsk q d], [flw (d 9) y0 y1 y2 y3], (netW g (d 1) gx v b h o l_)] → va_S A s.heap H locs → lv_has ls 13 [(0, .ref q), (1, vI s_), (2, vI f), (3, vI x0), (4, vL x1), (6, vL x2), (8, vI ((k : Nat) : Int))] → W p l e (zRm 3 0 0) s m ([.ref q, vI s_, vI f] : List Value).toArray below meth c H locs (0) (0) (MQ below ((qi g (fun (u_ : Int × Int × Int × Int) => (aWst v b h o s_ f)) (fun (u_ : Int × Int × Int × Int) => True) (fun (u_ : Int × Int × Int × Int) => [[dsk q d], (netW g (d 1) gx v b h o l_), [flw (d 9) u_.1 u_.2.1 u_.2.2.1 u_.2.2.2]])) A) ([.ref q, vI s_, vI f] : List Value).toArray s 0 0 A) (F0 m 28 ls []) := by
        intro N
        induction N with
        | zero => intro k x0 x1 x2 y0 y1 y2 y3 H locs ls hk hv hm; exact absurd hm (Nat.not_lt_zero _)
        | succ N ih28 =>
          intro k x0 x1 x2 y0 y1 y2 y3 H locs ls hk hv hm hP hD hS hl
          have hx3 := wsT_bd hN s_ (f := f) (by omega) k (by omega)
          rw [← hv] at hx3
          dsimp only at hx3
          refine lv_iload hx hb dX9_worst_28 (lv_at hl 6 rfl) ?_
          refine lv_aload_n hx hb dX9_worst_30 rfl (lv_at hl 0 rfl) ?_
          refine z_get hx hb hts hin9_ hown hK hP 0 rfl rfl 1 (by decide) (hts _ (List.mem_of_getElem? (i := 2) rfl)) rfl dX9_worst_31 ?_
          have hP : zP g [[dsk q d], [flw (d 9) y0 y1 y2 y3], [((d 1), .inr (2, [vI v, vI ((b : Nat) : Int), .ref (gx 0), .ref (gx 1), .ref (gx 2)]))], [((gx 0), .inl (g.2 0, 6, .inl (aI h)))], [((gx 1), .inl (g.2 0, 18, .inl (aI o)))], [((gx 2), .inl (g.2 0, 6, .inl (aI l_)))]] H := hP
          have hD : zD A [[dsk q d], [flw (d 9) y0 y1 y2 y3], [((d 1), .inr (2, [vI v, vI ((b : Nat) : Int), .ref (gx 0), .ref (gx 1), .ref (gx 2)]))], [((gx 0), .inl (g.2 0, 6, .inl (aI h)))], [((gx 1), .inl (g.2 0, 18, .inl (aI o)))], [((gx 2), .inl (g.2 0, 6, .inl (aI l_)))]] := hD
          refine z_get hx hb hts hin2_ hown hK hP 2 rfl rfl 1 (by decide) (hts _ (List.mem_of_getElem? (i := 3) rfl)) rfl dX9_worst_34 ?_
          have hP : zP g [[dsk q d], [flw (d 9) y0 y1 y2 y3], (netW g (d 1) gx v b h o l_)] H := hP
          have hD : zD A [[dsk q d], [flw (d 9) y0 y1 y2 y3], (netW g (d 1) gx v b h o l_)] := hD
          refine z_icmp_ge (tgt := 120) hx hb (by omega) (by omega) dX9_worst_37 (by decide) (fun cq7 => ?_) (fun cq7 => ?_)
          · refine lv_iload_n hx hb dX9_worst_120 rfl (lv_at hl 3 rfl) ?_
            exact z_reti (y0, y1, y2, y3) [0, 2, 1] hx hb hr rfl hlocks hK hP hD hS (wst_e hv (by omega) (by omega)) trivial rfl rfl (rfl) (Nat.le_of_ble_eq_true rfl) (Nat.le_of_ble_eq_true rfl) dX9_worst_121
          · refine lv_aload_n hx hb dX9_worst_40 rfl (lv_at hl 0 rfl) ?_
            refine z_get hx hb hts hin9_ hown hK hP 0 rfl rfl 9 (by decide) (hts _ (List.mem_of_getElem? (i := 4) rfl)) rfl dX9_worst_41 ?_
            refine lv_aload_n hx hb dX9_worst_44 rfl (lv_at hl 0 rfl) ?_
            refine z_get hx hb hts hin9_ hown hK hP 0 rfl rfl 1 (by decide) (hts _ (List.mem_of_getElem? (i := 2) rfl)) rfl dX9_worst_45 ?_
            refine lv_iload_n hx hb dX9_worst_48 rfl (lv_at hl 1 rfl) ?_
            refine lv_iload hx hb dX9_worst_49 (lv_at hl 6 rfl) ?_
            refine lv_iload_n hx hb dX9_worst_51 rfl (lv_at hl 2 rfl) ?_
            refine z_cVi (As := [.ref (d 1), vI s_, vI ((k : Nat) : Int), vI f]) (rest := []) ⟨hx, hb, hml, hown, hts⟩ hK hP hD hS hA [1, 2] [0] rfl rfl rfl (c_X0_takeFault l g (d 9) y0 y1 y2 y3 (d 1) gx v b h o l_ s_ k f hN (by omega) (by omega) (by omega)) (cwV 4 hts gX9_worst_X0_takeFault rfl rfl rfl (by decide +kernel) ⟨Nat.le_of_ble_eq_true rfl, Nat.le_of_ble_eq_true rfl⟩) 0 0 rfl rfl rfl (fun _ _ _ _ _ _ => trivial) (fun _ _ _ => trivial) rfl hl.1 (Nat.le_of_ble_eq_true rfl) rfl dX9_worst_52 ⟨Nat.le_of_ble_eq_true rfl, Nat.le_of_ble_eq_true rfl⟩ (fun u_8 H locs hwu_8 hP hD hS => ?_)
            try dsimp only at hwu_8
            have hP : zP g [[dsk q d], [flw (d 9) (fP0 s_ v (zUp h o 0 k) (zUp h o 1 k) (zUp h o 2 k) f) (fP1 s_ v (zUp h o 0 k) (zUp h o 1 k) (zUp h o 2 k) f) (fP2 s_ v (zUp h o 0 k) (zUp h o 1 k) (zUp h o 2 k) f) (fBl s_ (zUp h o 0 k) (zUp h o 1 k) (zUp h o 2 k) f)], (netW g (d 1) gx v b h o l_)] H := hP
            have hD : zD A [[dsk q d], [flw (d 9) (fP0 s_ v (zUp h o 0 k) (zUp h o 1 k) (zUp h o 2 k) f) (fP1 s_ v (zUp h o 0 k) (zUp h o 1 k) (zUp h o 2 k) f) (fP2 s_ v (zUp h o 0 k) (zUp h o 1 k) (zUp h o 2 k) f) (fBl s_ (zUp h o 0 k) (zUp h o 1 k) (zUp h o 2 k) f)], (netW g (d 1) gx v b h o l_)] := hD
            refine z_toI (if 0 < (fBl s_ (zUp h o 0 k) (zUp h o 1 k) (zUp h o 2 k) f) then 1 else 0 : Int) rfl ?_
            have hP : zP g [[dsk q d], [flw (d 9) (cP0 v h o s_ k f) (cP1 v h o s_ k f) (cP2 v h o s_ k f) (cB h o s_ k f)], (netW g (d 1) gx v b h o l_)] H := hP
            have hD : zD A [[dsk q d], [flw (d 9) (cP0 v h o s_ k f) (cP1 v h o s_ k f) (cP2 v h o s_ k f) (cB h o s_ k f)], (netW g (d 1) gx v b h o l_)] := hD
            have hbd := cur_bd hN s_ (i := k) (by omega) (f := f) (by omega)
            have hg9 := gNm_bd hN s_ (i := k) (by omega) (f := f) (by omega)
            have hcc := sq_bd hbd.2.2.2
            have h1f := one_s (0 < (cB h o s_ k f))
            refine z_toI (one (0 < (cB h o s_ k f))) rfl ?_
            refine z_if_eq (tgt := 114) hx hb (by omega) dX9_worst_55 (by decide) (fun cq9 => ?_) (fun cq9 => ?_)
            · refine z_iinc hx hb (((k + 1) : Nat) : Int) (lv' := [(8, vI (((k + 1) : Nat) : Int)), (0, .ref q), (1, vI s_), (2, vI f), (3, vI x0), (4, vL x1), (6, vL x2)]) dX9_worst_114 hl (k := 6) rfl (by omega) (by decide) rfl (fun ls hl => ?_)
              refine lv_goto (tgt := 28) hx hb dX9_worst_117 (by decide) ?_
              exact ih28 (k + 1) x0 x1 x2 (cP0 v h o s_ k f) (cP1 v h o s_ k f) (cP2 v h o s_ k f) (cB h o s_ k f) _ _ _ (by omega) (by rw [wsT_n (by omega)]; exact hv) (by omega) hP hD hS (lv_sub hl [1, 2, 3, 4, 5, 6, 0] rfl)
            · refine lv_aload_n hx hb dX9_worst_58 rfl (lv_at hl 0 rfl) ?_
              refine z_get hx hb hts hin9_ hown hK hP 0 rfl rfl 9 (by decide) (hts _ (List.mem_of_getElem? (i := 4) rfl)) rfl dX9_worst_59 ?_
              refine z_cVl (As := []) (rest := []) ⟨hx, hb, hml, hown, hts⟩ hK hP hD hS hA [1] [0, 2] rfl rfl rfl (c_X0_greatestNorm l g (d 9) (cP0 v h o s_ k f) (cP1 v h o s_ k f) (cP2 v h o s_ k f) (cB h o s_ k f) (flbd_mono hbd (by decide))) (cwV 0 hts gX9_worst_X0_greatestNorm rfl rfl rfl (by decide +kernel) ⟨Nat.le_of_ble_eq_true rfl, Nat.le_of_ble_eq_true rfl⟩) 0 0 rfl rfl rfl (fun _ _ _ _ _ _ => trivial) (fun _ _ _ => trivial) rfl hl.1 (Nat.le_of_ble_eq_true rfl) rfl dX9_worst_62 ⟨Nat.le_of_ble_eq_true rfl, Nat.le_of_ble_eq_true rfl⟩ (fun u_10 H locs hwu_10 hP hD hS => ?_)
              try dsimp only at hwu_10
              have hP : zP g [[dsk q d], (netW g (d 1) gx v b h o l_), [flw (d 9) (cP0 v h o s_ k f) (cP1 v h o s_ k f) (cP2 v h o s_ k f) (cB h o s_ k f)]] H := hP
              have hD : zD A [[dsk q d], (netW g (d 1) gx v b h o l_), [flw (d 9) (cP0 v h o s_ k f) (cP1 v h o s_ k f) (cP2 v h o s_ k f) (cB h o s_ k f)]] := hD
              have hP : zP g [[dsk q d], [flw (d 9) (cP0 v h o s_ k f) (cP1 v h o s_ k f) (cP2 v h o s_ k f) (cB h o s_ k f)], (netW g (d 1) gx v b h o l_)] H := zP_sub hP [0, 2, 1] rfl
              have hD : zD A [[dsk q d], [flw (d 9) (cP0 v h o s_ k f) (cP1 v h o s_ k f) (cP2 v h o s_ k f) (cB h o s_ k f)], (netW g (d 1) gx v b h o l_)] := zD_sub hD [0, 2, 1] rfl rfl
              refine z_toL (max (flN (cP0 v h o s_ k f) (cP1 v h o s_ k f) (cP2 v h o s_ k f) 0) (max (flN (cP0 v h o s_ k f) (cP1 v h o s_ k f) (cP2 v h o s_ k f) 1) (flN (cP0 v h o s_ k f) (cP1 v h o s_ k f) (cP2 v h o s_ k f) 2))) rfl ?_
              refine z_toL (gNm v h o s_ k f) rfl ?_
              refine lv_lstore (lv' := [(9, vL (gNm v h o s_ k f)), (0, .ref q), (1, vI s_), (2, vI f), (3, vI x0), (4, vL x1), (6, vL x2), (8, vI ((k : Nat) : Int))]) hx hb dX9_worst_65 hl (by decide) rfl (fun ls hl => ?_)
              refine lv_aload_n hx hb dX9_worst_67 rfl (lv_at hl 1 rfl) ?_
              refine z_get hx hb hts hin9_ hown hK hP 0 rfl rfl 9 (by decide) (hts _ (List.mem_of_getElem? (i := 4) rfl)) rfl dX9_worst_68 ?_
              refine z_get hx hb hts hin0_ hown hK hP 1 rfl rfl 3 (by decide) (hts _ (List.mem_of_getElem? (i := 5) rfl)) rfl dX9_worst_71 ?_
              refine lv_aload_n hx hb dX9_worst_74 rfl (lv_at hl 1 rfl) ?_
              refine z_get hx hb hts hin9_ hown hK hP 0 rfl rfl 9 (by decide) (hts _ (List.mem_of_getElem? (i := 4) rfl)) rfl dX9_worst_75 ?_
              refine z_get hx hb hts hin0_ hown hK hP 1 rfl rfl 3 (by decide) (hts _ (List.mem_of_getElem? (i := 5) rfl)) rfl dX9_worst_78 ?_
              refine z_lmul hx hb ((cB h o s_ k f) * (cB h o s_ k f)) rfl dX9_worst_81 ?_
              refine z_toL ((cB h o s_ k f) * (cB h o s_ k f)) rfl ?_
              refine lv_lstore (lv' := [(11, vL ((cB h o s_ k f) * (cB h o s_ k f))), (9, vL (gNm v h o s_ k f)), (0, .ref q), (1, vI s_), (2, vI f), (3, vI x0), (4, vL x1), (6, vL x2), (8, vI ((k : Nat) : Int))]) hx hb dX9_worst_82 hl (by decide) rfl (fun ls hl => ?_)
              refine lv_iload_n hx hb dX9_worst_84 rfl (lv_at hl 5 rfl) ?_
              refine z_iconst hx hb dX9_worst_85 rfl ?_
              refine z_icmp_eq (tgt := 103) hx hb (by omega) (by decide) dX9_worst_86 (by decide) (fun cq11 => ?_) (fun cq11 => ?_)
              · refine lv_iload hx hb dX9_worst_103 (lv_at hl 8 rfl) ?_
                refine lv_istore_n (lv' := [(3, vI ((k : Nat) : Int)), (11, vL ((cB h o s_ k f) * (cB h o s_ k f))), (9, vL (gNm v h o s_ k f)), (0, .ref q), (1, vI s_), (2, vI f), (4, vL x1), (6, vL x2), (8, vI ((k : Nat) : Int))]) hx hb dX9_worst_105 rfl hl (by decide) rfl (fun ls hl => ?_)
                refine lv_lload hx hb dX9_worst_106 (lv_at hl 2 rfl) ?_
                refine lv_lstore (lv' := [(4, vL (gNm v h o s_ k f)), (3, vI ((k : Nat) : Int)), (11, vL ((cB h o s_ k f) * (cB h o s_ k f))), (9, vL (gNm v h o s_ k f)), (0, .ref q), (1, vI s_), (2, vI f), (6, vL x2), (8, vI ((k : Nat) : Int))]) hx hb dX9_worst_108 hl (by decide) rfl (fun ls hl => ?_)
                refine lv_lload hx hb dX9_worst_110 (lv_at hl 2 rfl) ?_
                refine lv_lstore (lv' := [(6, vL ((cB h o s_ k f) * (cB h o s_ k f))), (4, vL (gNm v h o s_ k f)), (3, vI ((k : Nat) : Int)), (11, vL ((cB h o s_ k f) * (cB h o s_ k f))), (9, vL (gNm v h o s_ k f)), (0, .ref q), (1, vI s_), (2, vI f), (8, vI ((k : Nat) : Int))]) hx hb dX9_worst_112 hl (by decide) rfl (fun ls hl => ?_)
                refine z_iinc hx hb (((k + 1) : Nat) : Int) (lv' := [(8, vI (((k + 1) : Nat) : Int)), (6, vL ((cB h o s_ k f) * (cB h o s_ k f))), (4, vL (gNm v h o s_ k f)), (3, vI ((k : Nat) : Int)), (11, vL ((cB h o s_ k f) * (cB h o s_ k f))), (9, vL (gNm v h o s_ k f)), (0, .ref q), (1, vI s_), (2, vI f)]) dX9_worst_114 hl (k := 8) rfl (by omega) (by decide) rfl (fun ls hl => ?_)
                refine lv_goto (tgt := 28) hx hb dX9_worst_117 (by decide) ?_
                exact ih28 (k + 1) ((k : Nat) : Int) (gNm v h o s_ k f) ((cB h o s_ k f) * (cB h o s_ k f)) (cP0 v h o s_ k f) (cP1 v h o s_ k f) (cP2 v h o s_ k f) (cB h o s_ k f) _ _ _ (by omega) (by rw [wsT_y (by omega) (by rw [← hv]; exact Or.inl (by assumption))]) (by omega) hP hD hS (lv_sub hl [6, 7, 8, 3, 2, 1, 0] rfl)
              · refine lv_lload hx hb dX9_worst_89 (lv_at hl 1 rfl) ?_
                refine lv_lload hx hb dX9_worst_91 (lv_at hl 7 rfl) ?_
                refine z_lmul hx hb ((gNm v h o s_ k f) * x2) rfl dX9_worst_93 ?_
                refine lv_lload hx hb dX9_worst_94 (lv_at hl 6 rfl) ?_
                refine lv_lload hx hb dX9_worst_96 (lv_at hl 0 rfl) ?_
                refine z_lmul hx hb (x1 * ((cB h o s_ k f) * (cB h o s_ k f))) rfl dX9_worst_98 ?_
                refine z_lcmp_le (tgt := 114) hx hb (ws_rng hg9 hx3.2.2) (ws_rng hx3.2.1 hcc) dX9_worst_99 dX9_worst_100 (by decide) (fun cq12 => ?_) (fun cq12 => ?_)
                · refine z_iinc hx hb (((k + 1) : Nat) : Int) (lv' := [(8, vI (((k + 1) : Nat) : Int)), (11, vL ((cB h o s_ k f) * (cB h o s_ k f))), (9, vL (gNm v h o s_ k f)), (0, .ref q), (1, vI s_), (2, vI f), (3, vI x0), (4, vL x1), (6, vL x2)]) dX9_worst_114 hl (k := 8) rfl (by omega) (by decide) rfl (fun ls hl => ?_)
                  refine lv_goto (tgt := 28) hx hb dX9_worst_117 (by decide) ?_
                  exact ih28 (k + 1) x0 x1 x2 (cP0 v h o s_ k f) (cP1 v h o s_ k f) (cP2 v h o s_ k f) (cB h o s_ k f) _ _ _ (by omega) (by rw [wsT_l (by rw [← hv]; exact (by assumption)) (by rw [← hv]; dsimp only; omega)]; exact hv) (by omega) hP hD hS (lv_sub hl [3, 4, 5, 6, 7, 8, 0] rfl)
                · refine lv_iload hx hb dX9_worst_103 (lv_at hl 8 rfl) ?_
                  refine lv_istore_n (lv' := [(3, vI ((k : Nat) : Int)), (11, vL ((cB h o s_ k f) * (cB h o s_ k f))), (9, vL (gNm v h o s_ k f)), (0, .ref q), (1, vI s_), (2, vI f), (4, vL x1), (6, vL x2), (8, vI ((k : Nat) : Int))]) hx hb dX9_worst_105 rfl hl (by decide) rfl (fun ls hl => ?_)
                  refine lv_lload hx hb dX9_worst_106 (lv_at hl 2 rfl) ?_
                  refine lv_lstore (lv' := [(4, vL (gNm v h o s_ k f)), (3, vI ((k : Nat) : Int)), (11, vL ((cB h o s_ k f) * (cB h o s_ k f))), (9, vL (gNm v h o s_ k f)), (0, .ref q), (1, vI s_), (2, vI f), (6, vL x2), (8, vI ((k : Nat) : Int))]) hx hb dX9_worst_108 hl (by decide) rfl (fun ls hl => ?_)
                  refine lv_lload hx hb dX9_worst_110 (lv_at hl 2 rfl) ?_
                  refine lv_lstore (lv' := [(6, vL ((cB h o s_ k f) * (cB h o s_ k f))), (4, vL (gNm v h o s_ k f)), (3, vI ((k : Nat) : Int)), (11, vL ((cB h o s_ k f) * (cB h o s_ k f))), (9, vL (gNm v h o s_ k f)), (0, .ref q), (1, vI s_), (2, vI f), (8, vI ((k : Nat) : Int))]) hx hb dX9_worst_112 hl (by decide) rfl (fun ls hl => ?_)
                  refine z_iinc hx hb (((k + 1) : Nat) : Int) (lv' := [(8, vI (((k + 1) : Nat) : Int)), (6, vL ((cB h o s_ k f) * (cB h o s_ k f))), (4, vL (gNm v h o s_ k f)), (3, vI ((k : Nat) : Int)), (11, vL ((cB h o s_ k f) * (cB h o s_ k f))), (9, vL (gNm v h o s_ k f)), (0, .ref q), (1, vI s_), (2, vI f)]) dX9_worst_114 hl (k := 8) rfl (by omega) (by decide) rfl (fun ls hl => ?_)
                  refine lv_goto (tgt := 28) hx hb dX9_worst_117 (by decide) ?_
                  exact ih28 (k + 1) ((k : Nat) : Int) (gNm v h o s_ k f) ((cB h o s_ k f) * (cB h o s_ k f)) (cP0 v h o s_ k f) (cP1 v h o s_ k f) (cP2 v h o s_ k f) (cB h o s_ k f) _ _ _ (by omega) (by rw [wsT_y (by omega) (by rw [← hv]; exact Or.inr (by dsimp only; omega))]) (by omega) hP hD hS (lv_sub hl [6, 7, 8, 3, 2, 1, 0] rfl)
      exact loop28 _ 0 (-1) 0 1 p0 p1 p2 p3 _ _ _ (Nat.zero_le _) rfl (Nat.lt_succ_self _) hP hD hS (lv_sub hl [4, 5, 6, 3, 2, 1, 0] rfl)
    · refine z_ldc hx hb (-2000000002) hown (hts _ (List.mem_of_getElem? (i := 1) rfl)) rfl dX9_worst_14 ?_
      exact z_reti (p0, p1, p2, p3) [0, 2, 1] hx hb hr rfl hlocks hK hP hD hS (by unfold aWst; rw [if_neg (by omega)]) trivial rfl rfl (rfl) (Nat.le_of_ble_eq_true rfl) (Nat.le_of_ble_eq_true rfl) dX9_worst_16

set_option maxHeartbeats 4000000 in
set_option maxRecDepth 100000 in
theorem c_X9_match (l : Launch) (g : zG) (q : Nat) (d : Nat → Nat) (gx : Nat → Nat) (v : Int) (b : Nat) (h : Nat → Int) (o : Nat → Int) (l_ : Nat → Int) (px : Nat → Nat) (t : Nat → FO) (p0 : Int) (p1 : Int) (p2 : Int) (p3 : Int) (w : Int) (hN : nok v b h o l_) (ht : ∀ k, fok (t k)) (hw : -2147483648 ≤ w ∧ w < 2147483648) : zMet l g yX9_match wsX9_match 2 0 0 [.ref q, vI w] zX0 [[dsk q d], (netW g (d 1) gx v b h o l_), (threeW g (d 3) px t), [flw (d 9) p0 p1 p2 p3]] (qi g (fun (u_ : Int × Int × Int × Int) => (aMat v b h o t w)) (fun (u_ : Int × Int × Int × Int) => True) (fun (u_ : Int × Int × Int × Int) => [[dsk q d], (netW g (d 1) gx v b h o l_), (threeW g (d 3) px t), [flw (d 9) u_.1 u_.2.1 u_.2.2.1 u_.2.2.2]])) := by
  obtain ⟨hn1, hn2, hn3, hn4, hn5, hn6, hn7⟩ := id hN
  refine z_ent (cc := cX9_match) (maxL := 7) (ret := (some .int)) (by decide) rfl (Nat.le_of_ble_eq_true rfl) ?_
  intro p e s m below meth c A ls hx hb hr hml hown hts hlocks hin0 hA hK hP hD hS hXX hl
  have hown : s.vm.findClass RX9 = some m.cls := hown
  have hin2_ : ∀ w ∈ wsX20, w ∈ wsX9_match := zw_in [64, 65, 66, 67, 68] rfl
  have hin9_ : ∀ w ∈ wsX90, w ∈ wsX9_match := zw_in [52, 53, 54, 55, 56, 57, 58, 59, 60, 61, 62, 63] rfl
  have hl : lv_has ls 7 [(0, .ref q), (1, vI w)] := hl
  refine lv_iload_n hx hb dX9_match_0 rfl (lv_at hl 1 rfl) ?_
  refine z_iconst hx hb dX9_match_1 rfl ?_
  refine z_iconst hx hb dX9_match_2 rfl ?_
  refine z_cSi (As := [vI w, vI 0, vI 1]) (rest := []) ⟨hx, hb, hml, hown, hts⟩ hK hP hD hS hA [] [0, 1, 2, 3] rfl rfl rfl (c_X9_isOutside l g w 0 1 (by omega) (by omega) (by omega)) (va_cwS 3 hts gX9_match_X9_isOutside rfl rfl rfl (by decide +kernel) ⟨Nat.le_of_ble_eq_true rfl, Nat.le_of_ble_eq_true rfl⟩) (fun _ _ _ _ _ _ => trivial) (fun _ _ _ => trivial) rfl hl.1 (Nat.le_of_ble_eq_true rfl) rfl dX9_match_3 ⟨Nat.le_of_ble_eq_true rfl, Nat.le_of_ble_eq_true rfl⟩ (fun u_1 H locs hwu_1 hP hD hS => ?_)
  try dsimp only at hwu_1
  have hP : zP g [[dsk q d], (netW g (d 1) gx v b h o l_), (threeW g (d 3) px t), [flw (d 9) p0 p1 p2 p3]] H := hP
  have hD : zD A [[dsk q d], (netW g (d 1) gx v b h o l_), (threeW g (d 3) px t), [flw (d 9) p0 p1 p2 p3]] := hD
  have hP : zP g [[dsk q d], [flw (d 9) p0 p1 p2 p3], (netW g (d 1) gx v b h o l_), (threeW g (d 3) px t)] H := zP_sub hP [0, 3, 1, 2] rfl
  have hD : zD A [[dsk q d], [flw (d 9) p0 p1 p2 p3], (netW g (d 1) gx v b h o l_), (threeW g (d 3) px t)] := zD_sub hD [0, 3, 1, 2] rfl rfl
  refine z_toI (oU w 0 1) rfl ?_
  have hf_2 := oU_s w 0 1
  refine z_if_eq (tgt := 12) hx hb (by omega) dX9_match_6 (by decide) (fun cq3 => ?_) (fun cq3 => ?_)
  · refine z_iconst hx hb dX9_match_12 rfl ?_
    refine lv_istore_n (lv' := [(2, vI 0), (0, .ref q), (1, vI w)]) hx hb dX9_match_13 rfl hl (by decide) rfl (fun ls hl => ?_)
    refine z_iconst hx hb dX9_match_14 rfl ?_
    refine lv_istore_n (lv' := [(3, vI (-1)), (2, vI 0), (0, .ref q), (1, vI w)]) hx hb dX9_match_15 rfl hl (by decide) rfl (fun ls hl => ?_)
    refine z_iconst hx hb dX9_match_16 rfl ?_
    refine lv_istore (lv' := [(4, vI 0), (3, vI (-1)), (2, vI 0), (0, .ref q), (1, vI w)]) hx hb dX9_match_17 hl (by decide) rfl (fun ls hl => ?_)
    have loop19 : ∀ (N : Nat) (ks : Nat) (c1 : Int) (e1 : Int) (ya0 : Int) (ya1 : Int) (ya2 : Int) (ya3 : Int) (H : Heap) (locs : List Loc) (ls : Array Slot), ks ≤ 4 → (c1, e1) = mK v b h o t ks → -1 ≤ e1 ∧ e1 ≤ 99999 → (4 - ks) < N → zP g [[dsk q d], [flw (d 9) ya0 ya1 ya2 ya3], (netW g (d 1) gx v b h o l_), (threeW g (d 3) px t)] H → zD A [[dsk q d], [flw (d 9) ya0 ya1 ya2 ya3], (netW g (d 1) gx v b h o l_), (threeW g (d 3) px t)] → va_S A s.heap H locs → lv_has ls 7 [(0, .ref q), (1, vI w), (2, vI c1), (3, vI e1), (4, vI ((ks : Nat) : Int))] → W p l e (zRm 2 0 0) s m ([.ref q, vI w] : List Value).toArray below meth c H locs (0) (0) (MQ below ((qi g (fun (u_ : Int × Int × Int × Int) => (aMat v b h o t w)) (fun (u_ : Int × Int × Int × Int) => True) (fun (u_ : Int × Int × Int × Int) => [[dsk q d], (netW g (d 1) gx v b h o l_), (threeW g (d 3) px t), [flw (d 9) u_.1 u_.2.1 u_.2.2.1 u_.2.2.2]])) A) ([.ref q, vI w] : List Value).toArray s 0 0 A) (F0 m 19 ls []) := by
      intro N
      induction N with
      | zero => intro ks c1 e1 ya0 ya1 ya2 ya3 H locs ls hk1 hv1 he1 hm; exact absurd hm (Nat.not_lt_zero _)
      | succ N ih19 =>
        intro ks c1 e1 ya0 ya1 ya2 ya3 H locs ls hk1 hv1 he1 hm hP hD hS hl
        refine lv_iload hx hb dX9_match_19 (lv_at hl 4 rfl) ?_
        refine z_iconst hx hb dX9_match_21 rfl ?_
        refine z_icmp_ge (tgt := 130) hx hb (by omega) (by decide) dX9_match_22 (by decide) (fun cq4 => ?_) (fun cq4 => ?_)
        · have j139 : W p l e (zRm 2 0 0) s m ([.ref q, vI w] : List Value).toArray below meth c H locs (0) (0) (MQ below ((qi g (fun (u_ : Int × Int × Int × Int) => (aMat v b h o t w)) (fun (u_ : Int × Int × Int × Int) => True) (fun (u_ : Int × Int × Int × Int) => [[dsk q d], (netW g (d 1) gx v b h o l_), (threeW g (d 3) px t), [flw (d 9) u_.1 u_.2.1 u_.2.2.1 u_.2.2.2]])) A) ([.ref q, vI w] : List Value).toArray s 0 0 A) (F0 m 139 ls [vI (if w = 0 then c1 else e1)]) := by
            exact z_reti (ya0, ya1, ya2, ya3) [0, 2, 3, 1] hx hb hr rfl hlocks hK hP hD hS (mat_e hv1 (by omega) (by omega)) trivial rfl rfl (rfl) (Nat.le_of_ble_eq_true rfl) (Nat.le_of_ble_eq_true rfl) dX9_match_139
          refine lv_iload_n hx hb dX9_match_130 rfl (lv_at hl 1 rfl) ?_
          refine z_if_ne (tgt := 138) hx hb (by omega) dX9_match_131 (by decide) (fun cq5 => ?_) (fun cq5 => ?_)
          · refine lv_iload_n hx hb dX9_match_138 rfl (lv_at hl 3 rfl) ?_
            refine z_toI (if w = 0 then c1 else e1) (by split <;> omega) ?_
            exact j139
          · refine lv_iload_n hx hb dX9_match_134 rfl (lv_at hl 2 rfl) ?_
            refine lv_goto (tgt := 139) hx hb dX9_match_135 (by decide) ?_
            refine z_toI (if w = 0 then c1 else e1) (by split <;> omega) ?_
            exact j139
        · refine z_iconst hx hb dX9_match_25 rfl ?_
          refine lv_istore (lv' := [(5, vI 0), (0, .ref q), (1, vI w), (2, vI c1), (3, vI e1), (4, vI ((ks : Nat) : Int))]) hx hb dX9_match_26 hl (by decide) rfl (fun ls hl => ?_)
          have loop28 : ∀ (N : Nat) (ki : Nat) (c2 : Int) (e2 : Int) (yb0 : Int) (yb1 : Int) (yb2 : Int) (yb3 : Int) (H : Heap) (locs : List Loc) (ls : Array Slot), ki ≤ b → (c2, e2) = mJ v h o t ks ki (mK v b h o t ks) → -1 ≤ e2 ∧ e2 ≤ 99999 → (b - ki) < N → zP g [[dsk q d], [flw (d 9) yb0 yb1 yb2 yb3], (netW g (d 1) gx v b h o l_), (threeW g (d 3) px t)] H → zD A [[dsk q d], [flw (d 9) yb0 yb1 yb2 yb3], (netW g (d 1) gx v b h o l_), (threeW g (d 3) px t)] → va_S A s.heap H locs → lv_has ls 7 [(0, .ref q), (1, vI w), (4, vI ((ks : Nat) : Int)), (2, vI c2), (3, vI e2), (5, vI ((ki : Nat) : Int))] → W p l e (zRm 2 0 0) s m ([.ref q, vI w] : List Value).toArray below meth c H locs (0) (0) (MQ below ((qi g (fun (u_ : Int × Int × Int × Int) => (aMat v b h o t w)) (fun (u_ : Int × Int × Int × Int) => True) (fun (u_ : Int × Int × Int × Int) => [[dsk q d], (netW g (d 1) gx v b h o l_), (threeW g (d 3) px t), [flw (d 9) u_.1 u_.2.1 u_.2.2.1 u_.2.2.2]])) A) ([.ref q, vI w] : List Value).toArray s 0 0 A) (F0 m 28 ls []) := by
            intro N
            induction N with
            | zero => intro ki c2 e2 yb0 yb1 yb2 yb3 H locs ls hk2 hv2 he2 hm; exact absurd hm (Nat.not_lt_zero _)
            | succ N ih28 =>
              intro ki c2 e2 yb0 yb1 yb2 yb3 H locs ls hk2 hv2 he2 hm hP hD hS hl
              refine lv_iload hx hb dX9_match_28 (lv_at hl 5 rfl) ?_
              refine lv_aload_n hx hb dX9_match_30 rfl (lv_at hl 0 rfl) ?_
              refine z_get hx hb hts hin9_ hown hK hP 0 rfl rfl 1 (by decide) (hts _ (List.mem_of_getElem? (i := 2) rfl)) rfl dX9_match_31 ?_
              have hP : zP g [[dsk q d], [flw (d 9) yb0 yb1 yb2 yb3], [((d 1), .inr (2, [vI v, vI ((b : Nat) : Int), .ref (gx 0), .ref (gx 1), .ref (gx 2)]))], [((gx 0), .inl (g.2 0, 6, .inl (aI h)))], [((gx 1), .inl (g.2 0, 18, .inl (aI o)))], [((gx 2), .inl (g.2 0, 6, .inl (aI l_)))], (threeW g (d 3) px t)] H := hP
              have hD : zD A [[dsk q d], [flw (d 9) yb0 yb1 yb2 yb3], [((d 1), .inr (2, [vI v, vI ((b : Nat) : Int), .ref (gx 0), .ref (gx 1), .ref (gx 2)]))], [((gx 0), .inl (g.2 0, 6, .inl (aI h)))], [((gx 1), .inl (g.2 0, 18, .inl (aI o)))], [((gx 2), .inl (g.2 0, 6, .inl (aI l_)))], (threeW g (d 3) px t)] := hD
              refine z_get hx hb hts hin2_ hown hK hP 2 rfl rfl 1 (by decide) (hts _ (List.mem_of_getElem? (i := 3) rfl)) rfl dX9_match_34 ?_
              have hP : zP g [[dsk q d], [flw (d 9) yb0 yb1 yb2 yb3], (netW g (d 1) gx v b h o l_), (threeW g (d 3) px t)] H := hP
              have hD : zD A [[dsk q d], [flw (d 9) yb0 yb1 yb2 yb3], (netW g (d 1) gx v b h o l_), (threeW g (d 3) px t)] := hD
              refine z_icmp_ge (tgt := 124) hx hb (by omega) (by omega) dX9_match_37 (by decide) (fun cq6 => ?_) (fun cq6 => ?_)
              · refine z_iinc hx hb (((ks + 1) : Nat) : Int) (lv' := [(4, vI (((ks + 1) : Nat) : Int)), (0, .ref q), (1, vI w), (2, vI c2), (3, vI e2), (5, vI ((ki : Nat) : Int))]) dX9_match_124 hl (k := 2) rfl (by omega) (by decide) rfl (fun ls hl => ?_)
                refine lv_goto (tgt := 19) hx hb dX9_match_127 (by decide) ?_
                exact ih19 (ks + 1) c2 e2 yb0 yb1 yb2 yb3 _ _ _ (by omega) (mK_s hv2 (by omega)) he2 (by omega) hP hD hS (lv_sub hl [1, 2, 3, 4, 0] rfl)
              · refine z_iconst hx hb dX9_match_40 rfl ?_
                refine lv_istore (lv' := [(6, vI 0), (0, .ref q), (1, vI w), (4, vI ((ks : Nat) : Int)), (2, vI c2), (3, vI e2), (5, vI ((ki : Nat) : Int))]) hx hb dX9_match_41 hl (by decide) rfl (fun ls hl => ?_)
                have loop43 : ∀ (N : Nat) (kf : Nat) (c3 : Int) (e3 : Int) (yc0 : Int) (yc1 : Int) (yc2 : Int) (yc3 : Int) (H : Heap) (locs : List Loc) (ls : Array Slot), kf ≤ 10 → (c3, e3) = mI v h o t ks ki kf (mJ v h o t ks ki (mK v b h o t ks)) → -1 ≤ e3 ∧ e3 ≤ 99999 → (10 - kf) < N → zP g [[dsk q d], [flw (d 9) yc0 yc1 yc2 yc3], (netW g (d 1) gx v b h o l_), (threeW g (d 3) px t)] H → zD A [[dsk q d], [flw (d 9) yc0 yc1 yc2 yc3], (netW g (d 1) gx v b h o l_), (threeW g (d 3) px t)] → va_S A s.heap H locs → lv_has ls 7 [(0, .ref q), (1, vI w), (4, vI ((ks : Nat) : Int)), (5, vI ((ki : Nat) : Int)), (2, vI c3), (3, vI e3), (6, vI ((kf : Nat) : Int))] → W p l e (zRm 2 0 0) s m ([.ref q, vI w] : List Value).toArray below meth c H locs (0) (0) (MQ below ((qi g (fun (u_ : Int × Int × Int × Int) => (aMat v b h o t w)) (fun (u_ : Int × Int × Int × Int) => True) (fun (u_ : Int × Int × Int × Int) => [[dsk q d], (netW g (d 1) gx v b h o l_), (threeW g (d 3) px t), [flw (d 9) u_.1 u_.2.1 u_.2.2.1 u_.2.2.2]])) A) ([.ref q, vI w] : List Value).toArray s 0 0 A) (F0 m 43 ls []) := by
                  intro N
                  induction N with
                  | zero => intro kf c3 e3 yc0 yc1 yc2 yc3 H locs ls hk3 hv3 he3 hm; exact absurd hm (Nat.not_lt_zero _)
                  | succ N ih43 =>
                    intro kf c3 e3 yc0 yc1 yc2 yc3 H locs ls hk3 hv3 he3 hm hP hD hS hl
                    refine lv_iload hx hb dX9_match_43 (lv_at hl 6 rfl) ?_
                    refine z_bipush hx hb 9 dX9_match_45 rfl ?_
                    refine z_icmp_gt (tgt := 118) hx hb (by omega) (by decide) dX9_match_47 (by decide) (fun cq7 => ?_) (fun cq7 => ?_)
                    · refine z_iinc hx hb (((ki + 1) : Nat) : Int) (lv' := [(5, vI (((ki + 1) : Nat) : Int)), (0, .ref q), (1, vI w), (4, vI ((ks : Nat) : Int)), (2, vI c3), (3, vI e3), (6, vI ((kf : Nat) : Int))]) dX9_match_118 hl (k := 3) rfl (by omega) (by decide) rfl (fun ls hl => ?_)
                      refine lv_goto (tgt := 28) hx hb dX9_match_121 (by decide) ?_
                      exact ih28 (ki + 1) c3 e3 yc0 yc1 yc2 yc3 _ _ _ (by omega) (mJ_s hv3 (by omega)) he3 (by omega) hP hD hS (lv_sub hl [1, 2, 3, 4, 5, 0] rfl)
                    · refine lv_aload_n hx hb dX9_match_50 rfl (lv_at hl 0 rfl) ?_
                      refine z_get hx hb hts hin9_ hown hK hP 0 rfl rfl 9 (by decide) (hts _ (List.mem_of_getElem? (i := 4) rfl)) rfl dX9_match_51 ?_
                      refine lv_aload_n hx hb dX9_match_54 rfl (lv_at hl 0 rfl) ?_
                      refine z_get hx hb hts hin9_ hown hK hP 0 rfl rfl 1 (by decide) (hts _ (List.mem_of_getElem? (i := 2) rfl)) rfl dX9_match_55 ?_
                      refine lv_iload hx hb dX9_match_58 (lv_at hl 2 rfl) ?_
                      refine lv_iload hx hb dX9_match_60 (lv_at hl 3 rfl) ?_
                      refine lv_iload hx hb dX9_match_62 (lv_at hl 6 rfl) ?_
                      refine z_cVi (As := [.ref (d 1), vI ((ks : Nat) : Int), vI ((ki : Nat) : Int), vI ((kf : Nat) : Int)]) (rest := []) ⟨hx, hb, hml, hown, hts⟩ hK hP hD hS hA [1, 2] [0, 3] rfl rfl rfl (c_X0_takeFault l g (d 9) yc0 yc1 yc2 yc3 (d 1) gx v b h o l_ ((ks : Nat) : Int) ki ((kf : Nat) : Int) hN (by omega) (by omega) (by omega)) (cwV 4 hts gX9_match_X0_takeFault rfl rfl rfl (by decide +kernel) ⟨Nat.le_of_ble_eq_true rfl, Nat.le_of_ble_eq_true rfl⟩) 0 0 rfl rfl rfl (fun _ _ _ _ _ _ => trivial) (fun _ _ _ => trivial) rfl hl.1 (Nat.le_of_ble_eq_true rfl) rfl dX9_match_64 ⟨Nat.le_of_ble_eq_true rfl, Nat.le_of_ble_eq_true rfl⟩ (fun u_8 H locs hwu_8 hP hD hS => ?_)
                      try dsimp only at hwu_8
                      have hP : zP g [[dsk q d], (threeW g (d 3) px t), [flw (d 9) (fP0 ((ks : Nat) : Int) v (zUp h o 0 ki) (zUp h o 1 ki) (zUp h o 2 ki) ((kf : Nat) : Int)) (fP1 ((ks : Nat) : Int) v (zUp h o 0 ki) (zUp h o 1 ki) (zUp h o 2 ki) ((kf : Nat) : Int)) (fP2 ((ks : Nat) : Int) v (zUp h o 0 ki) (zUp h o 1 ki) (zUp h o 2 ki) ((kf : Nat) : Int)) (fBl ((ks : Nat) : Int) (zUp h o 0 ki) (zUp h o 1 ki) (zUp h o 2 ki) ((kf : Nat) : Int))], (netW g (d 1) gx v b h o l_)] H := hP
                      have hD : zD A [[dsk q d], (threeW g (d 3) px t), [flw (d 9) (fP0 ((ks : Nat) : Int) v (zUp h o 0 ki) (zUp h o 1 ki) (zUp h o 2 ki) ((kf : Nat) : Int)) (fP1 ((ks : Nat) : Int) v (zUp h o 0 ki) (zUp h o 1 ki) (zUp h o 2 ki) ((kf : Nat) : Int)) (fP2 ((ks : Nat) : Int) v (zUp h o 0 ki) (zUp h o 1 ki) (zUp h o 2 ki) ((kf : Nat) : Int)) (fBl ((ks : Nat) : Int) (zUp h o 0 ki) (zUp h o 1 ki) (zUp h o 2 ki) ((kf : Nat) : Int))], (netW g (d 1) gx v b h o l_)] := hD
                      have hP : zP g [[dsk q d], [flw (d 9) (fP0 ((ks : Nat) : Int) v (zUp h o 0 ki) (zUp h o 1 ki) (zUp h o 2 ki) ((kf : Nat) : Int)) (fP1 ((ks : Nat) : Int) v (zUp h o 0 ki) (zUp h o 1 ki) (zUp h o 2 ki) ((kf : Nat) : Int)) (fP2 ((ks : Nat) : Int) v (zUp h o 0 ki) (zUp h o 1 ki) (zUp h o 2 ki) ((kf : Nat) : Int)) (fBl ((ks : Nat) : Int) (zUp h o 0 ki) (zUp h o 1 ki) (zUp h o 2 ki) ((kf : Nat) : Int))], (threeW g (d 3) px t), (netW g (d 1) gx v b h o l_)] H := zP_sub hP [0, 2, 1, 3] rfl
                      have hD : zD A [[dsk q d], [flw (d 9) (fP0 ((ks : Nat) : Int) v (zUp h o 0 ki) (zUp h o 1 ki) (zUp h o 2 ki) ((kf : Nat) : Int)) (fP1 ((ks : Nat) : Int) v (zUp h o 0 ki) (zUp h o 1 ki) (zUp h o 2 ki) ((kf : Nat) : Int)) (fP2 ((ks : Nat) : Int) v (zUp h o 0 ki) (zUp h o 1 ki) (zUp h o 2 ki) ((kf : Nat) : Int)) (fBl ((ks : Nat) : Int) (zUp h o 0 ki) (zUp h o 1 ki) (zUp h o 2 ki) ((kf : Nat) : Int))], (threeW g (d 3) px t), (netW g (d 1) gx v b h o l_)] := zD_sub hD [0, 2, 1, 3] rfl rfl
                      refine z_toI (if 0 < (fBl ((ks : Nat) : Int) (zUp h o 0 ki) (zUp h o 1 ki) (zUp h o 2 ki) ((kf : Nat) : Int)) then 1 else 0 : Int) rfl ?_
                      have hP : zP g [[dsk q d], [flw (d 9) (cP0 v h o (ks : Int) ki (kf : Int)) (cP1 v h o (ks : Int) ki (kf : Int)) (cP2 v h o (ks : Int) ki (kf : Int)) (cB h o (ks : Int) ki (kf : Int))], (threeW g (d 3) px t), (netW g (d 1) gx v b h o l_)] H := hP
                      have hD : zD A [[dsk q d], [flw (d 9) (cP0 v h o (ks : Int) ki (kf : Int)) (cP1 v h o (ks : Int) ki (kf : Int)) (cP2 v h o (ks : Int) ki (kf : Int)) (cB h o (ks : Int) ki (kf : Int))], (threeW g (d 3) px t), (netW g (d 1) gx v b h o l_)] := hD
                      have hbd := cur_bd hN (ks : Int) (i := ki) (by omega) (f := (kf : Int)) (by omega)
                      have h1f := one_s (0 < (cB h o (ks : Int) ki (kf : Int)))
                      refine z_toI (one (0 < (cB h o (ks : Int) ki (kf : Int)))) rfl ?_
                      refine z_if_eq (tgt := 112) hx hb (by omega) dX9_match_67 (by decide) (fun cq9 => ?_) (fun cq9 => ?_)
                      · refine z_iinc hx hb (((kf + 1) : Nat) : Int) (lv' := [(6, vI (((kf + 1) : Nat) : Int)), (0, .ref q), (1, vI w), (4, vI ((ks : Nat) : Int)), (5, vI ((ki : Nat) : Int)), (2, vI c3), (3, vI e3)]) dX9_match_112 hl (k := 6) rfl (by omega) (by decide) rfl (fun ls hl => ?_)
                        refine lv_goto (tgt := 43) hx hb dX9_match_115 (by decide) ?_
                        exact ih43 (kf + 1) c3 e3 (cP0 v h o (ks : Int) ki (kf : Int)) (cP1 v h o (ks : Int) ki (kf : Int)) (cP2 v h o (ks : Int) ki (kf : Int)) (cB h o (ks : Int) ki (kf : Int)) _ _ _ (by omega) (mI_n hv3 (mHit_n (by omega))) he3 (by omega) (zP_sub hP [0, 1, 3, 2] rfl) (zD_sub hD [0, 1, 3, 2] rfl rfl) hS (lv_sub hl [1, 2, 3, 4, 5, 6, 0] rfl)
                      · refine lv_aload_n hx hb dX9_match_70 rfl (lv_at hl 0 rfl) ?_
                        refine z_get hx hb hts hin9_ hown hK hP 0 rfl rfl 9 (by decide) (hts _ (List.mem_of_getElem? (i := 4) rfl)) rfl dX9_match_71 ?_
                        refine lv_aload_n hx hb dX9_match_74 rfl (lv_at hl 0 rfl) ?_
                        refine z_get hx hb hts hin9_ hown hK hP 0 rfl rfl 3 (by decide) (hts _ (List.mem_of_getElem? (i := 5) rfl)) rfl dX9_match_75 ?_
                        refine z_cVi (As := [.ref (d 3)]) (rest := []) ⟨hx, hb, hml, hown, hts⟩ hK hP hD hS hA [1, 2] [0, 3] rfl rfl rfl (c_X0_isAs l g (d 9) (cP0 v h o (ks : Int) ki (kf : Int)) (cP1 v h o (ks : Int) ki (kf : Int)) (cP2 v h o (ks : Int) ki (kf : Int)) (cB h o (ks : Int) ki (kf : Int)) (d 3) px t (flbd_mono hbd (by decide)) ht) (cwV 1 hts gX9_match_X0_isAs rfl rfl rfl (by decide +kernel) ⟨Nat.le_of_ble_eq_true rfl, Nat.le_of_ble_eq_true rfl⟩) 0 0 rfl rfl rfl (fun _ _ _ _ _ _ => trivial) (fun _ _ _ => trivial) rfl hl.1 (Nat.le_of_ble_eq_true rfl) rfl dX9_match_78 ⟨Nat.le_of_ble_eq_true rfl, Nat.le_of_ble_eq_true rfl⟩ (fun u_10 H locs hwu_10 hP hD hS => ?_)
                        try dsimp only at hwu_10
                        have hP : zP g [[dsk q d], (netW g (d 1) gx v b h o l_), [flw (d 9) (cP0 v h o (ks : Int) ki (kf : Int)) (cP1 v h o (ks : Int) ki (kf : Int)) (cP2 v h o (ks : Int) ki (kf : Int)) (cB h o (ks : Int) ki (kf : Int))], (threeW g (d 3) px t)] H := hP
                        have hD : zD A [[dsk q d], (netW g (d 1) gx v b h o l_), [flw (d 9) (cP0 v h o (ks : Int) ki (kf : Int)) (cP1 v h o (ks : Int) ki (kf : Int)) (cP2 v h o (ks : Int) ki (kf : Int)) (cB h o (ks : Int) ki (kf : Int))], (threeW g (d 3) px t)] := hD
                        have hP : zP g [[dsk q d], [flw (d 9) (cP0 v h o (ks : Int) ki (kf : Int)) (cP1 v h o (ks : Int) ki (kf : Int)) (cP2 v h o (ks : Int) ki (kf : Int)) (cB h o (ks : Int) ki (kf : Int))], (netW g (d 1) gx v b h o l_), (threeW g (d 3) px t)] H := zP_sub hP [0, 2, 1, 3] rfl
                        have hD : zD A [[dsk q d], [flw (d 9) (cP0 v h o (ks : Int) ki (kf : Int)) (cP1 v h o (ks : Int) ki (kf : Int)) (cP2 v h o (ks : Int) ki (kf : Int)) (cB h o (ks : Int) ki (kf : Int))], (netW g (d 1) gx v b h o l_), (threeW g (d 3) px t)] := zD_sub hD [0, 2, 1, 3] rfl rfl
                        refine z_toI (flEq (cP0 v h o (ks : Int) ki (kf : Int)) (cP1 v h o (ks : Int) ki (kf : Int)) (cP2 v h o (ks : Int) ki (kf : Int)) (cB h o (ks : Int) ki (kf : Int)) t) rfl ?_
                        have hfe := flEq_01 (cP0 v h o (ks : Int) ki (kf : Int)) (cP1 v h o (ks : Int) ki (kf : Int)) (cP2 v h o (ks : Int) ki (kf : Int)) (cB h o (ks : Int) ki (kf : Int)) t
                        refine z_if_eq (tgt := 112) hx hb (by omega) dX9_match_81 (by decide) (fun cq11 => ?_) (fun cq11 => ?_)
                        · refine z_iinc hx hb (((kf + 1) : Nat) : Int) (lv' := [(6, vI (((kf + 1) : Nat) : Int)), (0, .ref q), (1, vI w), (4, vI ((ks : Nat) : Int)), (5, vI ((ki : Nat) : Int)), (2, vI c3), (3, vI e3)]) dX9_match_112 hl (k := 6) rfl (by omega) (by decide) rfl (fun ls hl => ?_)
                          refine lv_goto (tgt := 43) hx hb dX9_match_115 (by decide) ?_
                          exact ih43 (kf + 1) c3 e3 (cP0 v h o (ks : Int) ki (kf : Int)) (cP1 v h o (ks : Int) ki (kf : Int)) (cP2 v h o (ks : Int) ki (kf : Int)) (cB h o (ks : Int) ki (kf : Int)) _ _ _ (by omega) (mI_n hv3 (mHit_m (by omega))) he3 (by omega) hP hD hS (lv_sub hl [1, 2, 3, 4, 5, 6, 0] rfl)
                        · obtain ⟨x_12, hx_12⟩ : ∃ y : Int, y = (c3 + 1) := ⟨_, rfl⟩
                          refine z_iinc hx hb x_12 (lv' := [(2, vI x_12), (0, .ref q), (1, vI w), (4, vI ((ks : Nat) : Int)), (5, vI ((ki : Nat) : Int)), (3, vI e3), (6, vI ((kf : Nat) : Int))]) dX9_match_84 hl (k := 4) rfl (hx_12.symm) (by decide) rfl (fun ls hl => ?_)
                          have j111 : W p l e (zRm 2 0 0) s m ([.ref q, vI w] : List Value).toArray below meth c H locs (0) (0) (MQ below ((qi g (fun (u_ : Int × Int × Int × Int) => (aMat v b h o t w)) (fun (u_ : Int × Int × Int × Int) => True) (fun (u_ : Int × Int × Int × Int) => [[dsk q d], (netW g (d 1) gx v b h o l_), (threeW g (d 3) px t), [flw (d 9) u_.1 u_.2.1 u_.2.2.1 u_.2.2.2]])) A) ([.ref q, vI w] : List Value).toArray s 0 0 A) (F0 m 111 ls [vI (if e3 = -1 then 10000 * (ks : Int) + 100 * (ki : Int) + (kf : Int) else e3)]) := by
                            refine lv_istore_n (lv' := [(3, vI (if e3 = -1 then 10000 * (ks : Int) + 100 * (ki : Int) + (kf : Int) else e3)), (2, vI x_12), (0, .ref q), (1, vI w), (4, vI ((ks : Nat) : Int)), (5, vI ((ki : Nat) : Int)), (6, vI ((kf : Nat) : Int))]) hx hb dX9_match_111 rfl hl (by decide) rfl (fun ls hl => ?_)
                            refine z_iinc hx hb (((kf + 1) : Nat) : Int) (lv' := [(6, vI (((kf + 1) : Nat) : Int)), (3, vI (if e3 = -1 then 10000 * (ks : Int) + 100 * (ki : Int) + (kf : Int) else e3)), (2, vI x_12), (0, .ref q), (1, vI w), (4, vI ((ks : Nat) : Int)), (5, vI ((ki : Nat) : Int))]) dX9_match_112 hl (k := 6) rfl (by omega) (by decide) rfl (fun ls hl => ?_)
                            refine lv_goto (tgt := 43) hx hb dX9_match_115 (by decide) ?_
                            exact ih43 (kf + 1) x_12 (if e3 = -1 then 10000 * (ks : Int) + 100 * (ki : Int) + (kf : Int) else e3) (cP0 v h o (ks : Int) ki (kf : Int)) (cP1 v h o (ks : Int) ki (kf : Int)) (cP2 v h o (ks : Int) ki (kf : Int)) (cB h o (ks : Int) ki (kf : Int)) _ _ _ (by omega) (by rw [hx_12]; exact mI_y hv3 (mHit_y (by omega) (by omega))) (by split <;> omega) (by omega) hP hD hS (lv_sub hl [3, 4, 5, 6, 2, 1, 0] rfl)
                          refine lv_iload_n hx hb dX9_match_87 rfl (lv_at hl 5 rfl) ?_
                          refine z_iconst hx hb dX9_match_88 rfl ?_
                          refine z_icmp_ne (tgt := 110) hx hb (by omega) (by decide) dX9_match_89 (by decide) (fun cq13 => ?_) (fun cq13 => ?_)
                          · refine lv_iload_n hx hb dX9_match_110 rfl (lv_at hl 5 rfl) ?_
                            refine z_toI (if e3 = -1 then 10000 * (ks : Int) + 100 * (ki : Int) + (kf : Int) else e3) (by split <;> omega) ?_
                            exact j111
                          · refine z_sipush hx hb 10000 dX9_match_92 rfl ?_
                            refine lv_iload hx hb dX9_match_95 (lv_at hl 3 rfl) ?_
                            refine z_imul hx hb (((10000 * ks) : Nat) : Int) (by omega) dX9_match_97 ?_
                            refine z_bipush hx hb 100 dX9_match_98 rfl ?_
                            refine lv_iload hx hb dX9_match_100 (lv_at hl 4 rfl) ?_
                            refine z_imul hx hb (((100 * ki) : Nat) : Int) (by omega) dX9_match_102 ?_
                            refine z_iadd hx hb ((((10000 * ks) + (100 * ki)) : Nat) : Int) (by omega) dX9_match_103 ?_
                            refine lv_iload hx hb dX9_match_104 (lv_at hl 6 rfl) ?_
                            refine z_iadd hx hb (((((10000 * ks) + (100 * ki)) + kf) : Nat) : Int) (by omega) dX9_match_106 ?_
                            refine lv_goto (tgt := 111) hx hb dX9_match_107 (by decide) ?_
                            refine z_toI (if e3 = -1 then 10000 * (ks : Int) + 100 * (ki : Int) + (kf : Int) else e3) (by split <;> omega) ?_
                            exact j111
                exact loop43 _ 0 c2 e2 yb0 yb1 yb2 yb3 _ _ _ (Nat.zero_le _) hv2 he2 (Nat.lt_succ_self _) hP hD hS (lv_sub hl [1, 2, 3, 6, 4, 5, 0] rfl)
          exact loop28 _ 0 c1 e1 ya0 ya1 ya2 ya3 _ _ _ (Nat.zero_le _) hv1 he1 (Nat.lt_succ_self _) hP hD hS (lv_sub hl [1, 2, 5, 3, 4, 0] rfl)
    exact loop19 _ 0 0 (-1) p0 p1 p2 p3 _ _ _ (Nat.zero_le _) rfl (by decide) (Nat.lt_succ_self _) hP hD hS (lv_sub hl [3, 4, 2, 1, 0] rfl)
  · refine z_ldc hx hb (-2000000002) hown (hts _ (List.mem_of_getElem? (i := 1) rfl)) rfl dX9_match_9 ?_
    exact z_reti (p0, p1, p2, p3) [0, 2, 3, 1] hx hb hr rfl hlocks hK hP hD hS (by unfold aMat; rw [if_neg (by omega)]) trivial rfl rfl (rfl) (Nat.le_of_ble_eq_true rfl) (Nat.le_of_ble_eq_true rfl) dX9_match_11
