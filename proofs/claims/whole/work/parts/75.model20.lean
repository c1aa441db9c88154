set_option maxHeartbeats 4000000 in
set_option maxRecDepth 100000 in
theorem c_X10_sag (l : Launch) (g : zG) (q : Nat) (a : Nat → Nat) (x : Nat → Int) (b : Nat) (h : Nat → Int) (o : Nat → Int) (l_ : Nat → Int) (pp : Nat → Int) (wh : Nat → Int) (s_ : Int) (i : Int) (f : Int) (pw : Int) (hN : nok (x 0) b h o l_) (hx1 : x 1 = (b : Int)) (hs : -2147483648 ≤ s_ ∧ s_ < 2147483648) (hi : -2147483648 ≤ i ∧ i < 2147483648) (hf : -2147483648 ≤ f ∧ f < 2147483648) (hp : -2147483648 ≤ pw ∧ pw < 2147483648) : zMet l g yX10_sag wsX10_sag 2 0 0 [.ref q, vI s_, vI i, vI f, vI pw] zX0 [[mdl q a x], [((a 2), .inl (g.2 0, 6, .inl (aI h)))], [((a 3), .inl (g.2 0, 18, .inl (aI o)))], [((a 13), .inl (g.2 1, 3, .inr (.inl (aL pp))))], [((a 14), .inl (g.2 1, 6, .inr (.inl (aL wh))))]] (qi g (fun (u_ : (Nat → Int) × (Nat → Int) × (Nat → Int)) => (aSag (x 0) b h o s_ i f pw)) (fun (u_ : (Nat → Int) × (Nat → Int) × (Nat → Int)) => (kx10 x u_.1)) (fun (u_ : (Nat → Int) × (Nat → Int) × (Nat → Int)) => [[mdl q a u_.1], [((a 2), .inl (g.2 0, 6, .inl (aI h)))], [((a 3), .inl (g.2 0, 18, .inl (aI o)))], [((a 13), .inl (g.2 1, 3, .inr (.inl (aL u_.2.1))))], [((a 14), .inl (g.2 1, 6, .inr (.inl (aL u_.2.2))))]])) := by
  obtain ⟨hn1, hn2, hn3, hn4, hn5, hn6, hn7⟩ := id hN
  refine z_ent (cc := cX10_sag) (maxL := 10) (ret := (some .int)) (by decide) rfl (Nat.le_of_ble_eq_true rfl) ?_
  intro p e s m below meth c A ls hx hb hr hml hown hts hlocks hin0 hA hK hP hD hS hXX hl
  have hown : s.vm.findClass RX10 = some m.cls := hown
  have hin10_ : ∀ w ∈ wsX100, w ∈ wsX10_sag := zw_in [50, 51, 52, 53, 54, 55, 56, 57, 58, 59, 60, 61, 62, 63, 64, 65, 66, 67, 68, 69, 70, 71, 72, 73, 74, 75] rfl
  have hl : lv_has ls 10 [(0, .ref q), (1, vI s_), (2, vI i), (3, vI f), (4, vI pw)] := hl
  refine lv_aload_n hx hb dX10_sag_0 rfl (lv_at hl 0 rfl) ?_
  refine lv_iload_n hx hb dX10_sag_1 rfl (lv_at hl 2 rfl) ?_
  refine z_cVi (As := [vI i]) (rest := []) ⟨hx, hb, hml, hown, hts⟩ hK hP hD hS hA [0] [1, 2, 3, 4] rfl rfl rfl (c_X10_isBus l g q a x i (by omega) (by omega)) (cwV 1 hts gX10_sag_X10_isBus rfl rfl rfl (by decide +kernel) ⟨Nat.le_of_ble_eq_true rfl, Nat.le_of_ble_eq_true rfl⟩) 10 0 rfl rfl rfl (fun _ _ _ _ _ _ => trivial) (fun _ _ _ => trivial) rfl hl.1 (Nat.le_of_ble_eq_true rfl) rfl dX10_sag_2 ⟨Nat.le_of_ble_eq_true rfl, Nat.le_of_ble_eq_true rfl⟩ (fun u_1 H locs hwu_1 hP hD hS => ?_)
  try dsimp only at hwu_1
  have hP : zP g [[((a 2), .inl (g.2 0, 6, .inl (aI h)))], [((a 3), .inl (g.2 0, 18, .inl (aI o)))], [((a 13), .inl (g.2 1, 3, .inr (.inl (aL pp))))], [((a 14), .inl (g.2 1, 6, .inr (.inl (aL wh))))], [mdl q a x]] H := hP
  have hD : zD A [[((a 2), .inl (g.2 0, 6, .inl (aI h)))], [((a 3), .inl (g.2 0, 18, .inl (aI o)))], [((a 13), .inl (g.2 1, 3, .inr (.inl (aL pp))))], [((a 14), .inl (g.2 1, 6, .inr (.inl (aL wh))))], [mdl q a x]] := hD
  refine z_toI (inI i 0 (x 1 - 1)) rfl ?_
  have hf_2 := inI_s i 0 (x 1 - 1)
  refine z_if_ne (tgt := 11) hx hb (by omega) dX10_sag_5 (by decide) (fun cq3 => ?_) (fun cq3 => ?_)
  · refine lv_iload_n hx hb dX10_sag_11 rfl (lv_at hl 1 rfl) ?_
    refine lv_iload_n hx hb dX10_sag_12 rfl (lv_at hl 3 rfl) ?_
    refine z_cSi (As := [vI s_, vI f]) (rest := []) ⟨hx, hb, hml, hown, hts⟩ hK hP hD hS hA [] [0, 1, 2, 3, 4] rfl rfl rfl (c_X10_isSort l g s_ f (by first | assumption | omega | decide) (by first | assumption | omega | decide)) (va_cwS 2 hts gX10_sag_X10_isSort rfl rfl rfl (by decide +kernel) ⟨Nat.le_of_ble_eq_true rfl, Nat.le_of_ble_eq_true rfl⟩) (fun _ _ _ _ _ _ => trivial) (fun _ _ _ => trivial) rfl hl.1 (Nat.le_of_ble_eq_true rfl) rfl dX10_sag_13 ⟨Nat.le_of_ble_eq_true rfl, Nat.le_of_ble_eq_true rfl⟩ (fun u_4 H locs hwu_4 hP hD hS => ?_)
    try dsimp only at hwu_4
    have hP : zP g [[((a 2), .inl (g.2 0, 6, .inl (aI h)))], [((a 3), .inl (g.2 0, 18, .inl (aI o)))], [((a 13), .inl (g.2 1, 3, .inr (.inl (aL pp))))], [((a 14), .inl (g.2 1, 6, .inr (.inl (aL wh))))], [mdl q a x]] H := hP
    have hD : zD A [[((a 2), .inl (g.2 0, 6, .inl (aI h)))], [((a 3), .inl (g.2 0, 18, .inl (aI o)))], [((a 13), .inl (g.2 1, 3, .inr (.inl (aL pp))))], [((a 14), .inl (g.2 1, 6, .inr (.inl (aL wh))))], [mdl q a x]] := hD
    refine z_toI (one ((0 ≤ s_ ∧ s_ ≤ 3) ∧ (0 ≤ f ∧ f ≤ 9))) rfl ?_
    have hf_5 := one_s ((0 ≤ s_ ∧ s_ ≤ 3) ∧ (0 ≤ f ∧ f ≤ 9))
    refine z_if_eq (tgt := 32) hx hb (by omega) dX10_sag_16 (by decide) (fun cq6 => ?_) (fun cq6 => ?_)
    · refine z_ldc hx hb (-2000000002) hown (hts _ (List.mem_of_getElem? (i := 3) rfl)) rfl dX10_sag_32 ?_
      exact z_reti (x, pp, wh) [4, 0, 1, 2, 3] hx hb hr rfl hlocks hK hP hD hS ((aSag_2 (by omega) (by omega)).symm) (by first | exact kx10_r _ | exact kx10_u (kx10_r _)) rfl rfl (rfl) (Nat.le_of_ble_eq_true rfl) (Nat.le_of_ble_eq_true rfl) dX10_sag_34
    · refine lv_iload hx hb dX10_sag_19 (lv_at hl 4 rfl) ?_
      refine z_i2l hx hb (by omega) dX10_sag_21 ?_
      refine z_lconst hx hb 0 dX10_sag_22 rfl ?_
      refine z_ldc2 hx hb 100 hown (hts _ (List.mem_of_getElem? (i := 2) rfl)) rfl dX10_sag_23 ?_
      refine z_cSi (As := [vL pw, vL 0, vL 100]) (rest := []) ⟨hx, hb, hml, hown, hts⟩ hK hP hD hS hA [] [0, 1, 2, 3, 4] rfl rfl rfl (c_X10_in l g pw 0 100 (by first | decide | omega) (by first | decide | omega) (by first | decide | omega)) (va_cwS 3 hts gX10_sag_X10_in rfl rfl rfl (by decide +kernel) ⟨Nat.le_of_ble_eq_true rfl, Nat.le_of_ble_eq_true rfl⟩) (fun _ _ _ _ _ _ => trivial) (fun _ _ _ => trivial) rfl hl.1 (Nat.le_of_ble_eq_true rfl) rfl dX10_sag_26 ⟨Nat.le_of_ble_eq_true rfl, Nat.le_of_ble_eq_true rfl⟩ (fun u_7 H locs hwu_7 hP hD hS => ?_)
      try dsimp only at hwu_7
      have hP : zP g [[((a 2), .inl (g.2 0, 6, .inl (aI h)))], [((a 3), .inl (g.2 0, 18, .inl (aI o)))], [((a 13), .inl (g.2 1, 3, .inr (.inl (aL pp))))], [((a 14), .inl (g.2 1, 6, .inr (.inl (aL wh))))], [mdl q a x]] H := hP
      have hD : zD A [[((a 2), .inl (g.2 0, 6, .inl (aI h)))], [((a 3), .inl (g.2 0, 18, .inl (aI o)))], [((a 13), .inl (g.2 1, 3, .inr (.inl (aL pp))))], [((a 14), .inl (g.2 1, 6, .inr (.inl (aL wh))))], [mdl q a x]] := hD
      refine z_toI (inI pw 0 100) rfl ?_
      have hf_8 := inI_s pw 0 100
      refine z_if_ne (tgt := 35) hx hb (by omega) dX10_sag_29 (by decide) (fun cq9 => ?_) (fun cq9 => ?_)
      · refine z_iconst hx hb dX10_sag_35 rfl ?_
        refine lv_istore (lv' := [(5, vI 0), (0, .ref q), (1, vI s_), (2, vI i), (3, vI f), (4, vI pw)]) hx hb dX10_sag_36 hl (by decide) rfl (fun ls hl => ?_)
        refine z_iconst hx hb dX10_sag_38 rfl ?_
        refine lv_istore (lv' := [(6, vI 0), (5, vI 0), (0, .ref q), (1, vI s_), (2, vI i), (3, vI f), (4, vI pw)]) hx hb dX10_sag_39 hl (by decide) rfl (fun ls hl => ?_)
        have loop41 : ∀ (N : Nat) (k : Nat) (acc : Nat) (dd : Int) (p9 : Nat → Int) (w9 : Nat → Int) (H : Heap) (locs : List Loc) (ls : Array Slot), k ≤ b → acc = sgB (sgI (x 0) h o s_ i.toNat f pw) k → (1 ≤ k → dd = (cB h o s_ i.toNat f)) → (b - k) < N → zP g [[mdl q a (uI x 10 dd)], [((a 2), .inl (g.2 0, 6, .inl (aI h)))], [((a 3), .inl (g.2 0, 18, .inl (aI o)))], [((a 13), .inl (g.2 1, 3, .inr (.inl (aL p9))))], [((a 14), .inl (g.2 1, 6, .inr (.inl (aL w9))))]] H → zD A [[mdl q a (uI x 10 dd)], [((a 2), .inl (g.2 0, 6, .inl (aI h)))], [((a 3), .inl (g.2 0, 18, .inl (aI o)))], [((a 13), .inl (g.2 1, 3, .inr (.inl (aL p9))))], [((a 14), .inl (g.2 1, 6, .inr (.inl (aL w9))))]] → va_S A s.heap H locs → lv_has ls 10 [(0, .ref q), (1, vI s_), (2, vI i), (3, vI f), (4, vI pw), (5, vI ((acc : Nat) : Int)), (6, vI ((k : Nat) : Int))] → W p l e (zRm 2 0 0) s m ([.ref q, vI s_, vI i, vI f, vI pw] : List Value).toArray below meth c H locs (0) (0) (MQ below ((qi g (fun (u_ : (Nat → Int) × (Nat → Int) × (Nat → Int)) => (aSag (x 0) b h o s_ i f pw)) (fun (u_ : (Nat → Int) × (Nat → Int) × (Nat → Int)) => (kx10 x u_.1)) (fun (u_ : (Nat → Int) × (Nat → Int) × (Nat → Int)) => [[mdl q a u_.1], [((a 2), .inl (g.2 0, 6, .inl (aI h)))], [((a 3), .inl (g.2 0, 18, .inl (aI o)))], [((a 13), .inl (g.2 1, 3, .inr (.inl (aL u_.2.1))))], [((a 14), .inl (g.2 1, 6, .inr (.inl (aL u_.2.2))))]])) A) ([.ref q, vI s_, vI i, vI f, vI pw] : List Value).toArray s 0 0 A) (F0 m 41 ls []) := by
          intro N
          induction N with
          | zero => intro k acc dd p9 w9 H locs ls hk ha hdd hm; exact absurd hm (Nat.not_lt_zero _)
          | succ N ih41 =>
            intro k acc dd p9 w9 H locs ls hk ha hdd hm hP hD hS hl
            have hac : acc < 64 := by rw [ha]; exact sgB_lt _ (by omega)
            refine lv_iload hx hb dX10_sag_41 (lv_at hl 6 rfl) ?_
            refine lv_aload_n hx hb dX10_sag_43 rfl (lv_at hl 0 rfl) ?_
            refine z_get hx hb hts hin10_ hown hK hP 0 rfl rfl 3 (by decide) (hts _ (List.mem_of_getElem? (i := 4) rfl)) rfl dX10_sag_44 ?_
            refine z_toI (x 1) rfl ?_
            refine z_icmp_ge (tgt := 149) hx hb (by omega) (by omega) dX10_sag_47 (by decide) (fun cq10 => ?_) (fun cq10 => ?_)
            · have hd9 : 0 ≤ dd ∧ dd ≤ 12000 := by rw [hdd (by omega)]; exact (cur_bd hN s_ (i := i.toNat) (by omega) (f := f) (by omega)).2.2.2
              refine lv_aload_n hx hb dX10_sag_149 rfl (lv_at hl 0 rfl) ?_
              refine z_get hx hb hts hin10_ hown hK hP 0 rfl rfl 23 (by decide) (hts _ (List.mem_of_getElem? (i := 6) rfl)) rfl dX10_sag_150 ?_
              refine z_toL dd rfl ?_
              refine z_lconst hx hb 0 dX10_sag_153 rfl ?_
              refine z_lcmp_ne (tgt := 163) hx hb (by omega) (by decide) dX10_sag_154 dX10_sag_155 (by decide) (fun cq11 => ?_) (fun cq11 => ?_)
              · refine lv_iload hx hb dX10_sag_163 (lv_at hl 5 rfl) ?_
                have hdd := hdd (by omega)
                obtain rfl : k = b := by omega
                have hbd := cur_bd hN s_ (i := i.toNat) (by omega) (f := f) (by omega)
                have hb3 := hbd.2.2.2
                exact z_reti ((uI x 10 dd), p9, w9) [0, 1, 2, 3, 4] hx hb hr rfl hlocks hK hP hD hS (by rw [aSag_4 (by omega) (by omega) (by omega), ha]) (by first | exact kx10_r _ | exact kx10_u (kx10_r _)) rfl rfl (rfl) (Nat.le_of_ble_eq_true rfl) (Nat.le_of_ble_eq_true rfl) dX10_sag_165
              · refine z_ldc hx hb (-2000000003) hown (hts _ (List.mem_of_getElem? (i := 8) rfl)) rfl dX10_sag_158 ?_
                refine lv_goto (tgt := 165) hx hb dX10_sag_160 (by decide) ?_
                have hdd := hdd (by omega)
                obtain rfl : k = b := by omega
                have hbd := cur_bd hN s_ (i := i.toNat) (by omega) (f := f) (by omega)
                have hb3 := hbd.2.2.2
                exact z_reti ((uI x 10 dd), p9, w9) [0, 1, 2, 3, 4] hx hb hr rfl hlocks hK hP hD hS ((aSag_3 (by omega) (by omega) (by omega)).symm) (by first | exact kx10_r _ | exact kx10_u (kx10_r _)) rfl rfl (rfl) (Nat.le_of_ble_eq_true rfl) (Nat.le_of_ble_eq_true rfl) dX10_sag_165
            · refine lv_aload_n hx hb dX10_sag_50 rfl (lv_at hl 0 rfl) ?_
              refine lv_iload_n hx hb dX10_sag_51 rfl (lv_at hl 1 rfl) ?_
              refine lv_iload_n hx hb dX10_sag_52 rfl (lv_at hl 2 rfl) ?_
              refine z_toI ((i.toNat : Nat) : Int) (by omega) ?_
              refine lv_iload_n hx hb dX10_sag_53 rfl (lv_at hl 3 rfl) ?_
              refine z_cVv (As := [vI s_, vI ((i.toNat : Nat) : Int), vI f]) (rest := []) ⟨hx, hb, hml, hown, hts⟩ hK hP hD hS hA [0, 1, 2, 3] [4] rfl rfl rfl (c_X10_layFault l g q a (uI x 10 dd) b h o l_ p9 s_ i.toNat f hN (by omega) (by omega) (by omega)) (cwV 3 hts gX10_sag_X10_layFault rfl rfl rfl (by decide +kernel) ⟨Nat.le_of_ble_eq_true rfl, Nat.le_of_ble_eq_true rfl⟩) 10 0 rfl rfl rfl (fun _ _ _ _ _ _ => trivial) (fun _ _ _ => trivial) rfl hl.1 (Nat.le_of_ble_eq_true rfl) rfl dX10_sag_54 ⟨Nat.le_of_ble_eq_true rfl, Nat.le_of_ble_eq_true rfl⟩ (fun u_12 H locs hwu_12 hP hD hS => ?_)
              obtain ⟨p2_13, rfl⟩ : ∃ z_, z_ = u_12 := ⟨_, rfl⟩
              try dsimp only at hwu_12
              have hP : zP g [[((a 14), .inl (g.2 1, 6, .inr (.inl (aL w9))))], [mdl q a (uI x 10 (cB h o s_ i.toNat f))], [((a 2), .inl (g.2 0, 6, .inl (aI h)))], [((a 3), .inl (g.2 0, 18, .inl (aI o)))], [((a 13), .inl (g.2 1, 3, .inr (.inl (aL p2_13))))]] H := hP
              have hD : zD A [[((a 14), .inl (g.2 1, 6, .inr (.inl (aL w9))))], [mdl q a (uI x 10 (cB h o s_ i.toNat f))], [((a 2), .inl (g.2 0, 6, .inl (aI h)))], [((a 3), .inl (g.2 0, 18, .inl (aI o)))], [((a 13), .inl (g.2 1, 3, .inr (.inl (aL p2_13))))]] := hD
              have hpp := hwu_12
              have hbd := cur_bd hN s_ (i := i.toNat) (by omega) (f := f) (by omega)
              have hb3 := hbd.2.2.2
              refine lv_aload_n hx hb dX10_sag_57 rfl (lv_at hl 0 rfl) ?_
              refine lv_iload_n hx hb dX10_sag_58 rfl (lv_at hl 2 rfl) ?_
              refine z_toI ((i.toNat : Nat) : Int) (by omega) ?_
              refine lv_iload hx hb dX10_sag_59 (lv_at hl 6 rfl) ?_
              refine z_cVv (As := [vI ((i.toNat : Nat) : Int), vI ((k : Nat) : Int)]) (rest := []) ⟨hx, hb, hml, hown, hts⟩ hK hP hD hS hA [1, 2, 3, 4] [0] rfl rfl rfl (c_X10_layVoltage l g q a (uI x 10 (cB h o s_ i.toNat f)) b h o l_ p2_13 i.toNat k hN (by omega) (by omega)) (cwV 2 hts gX10_sag_X10_layVoltage rfl rfl rfl (by decide +kernel) ⟨Nat.le_of_ble_eq_true rfl, Nat.le_of_ble_eq_true rfl⟩) 10 0 rfl rfl rfl (fun _ _ _ _ _ _ => trivial) (fun _ _ _ => trivial) rfl hl.1 (Nat.le_of_ble_eq_true rfl) rfl dX10_sag_61 ⟨Nat.le_of_ble_eq_true rfl, Nat.le_of_ble_eq_true rfl⟩ (fun u_14 H locs hwu_14 hP hD hS => ?_)
              obtain ⟨p2_15, rfl⟩ : ∃ z_, z_ = u_14 := ⟨_, rfl⟩
              try dsimp only at hwu_14
              have hP : zP g [[((a 14), .inl (g.2 1, 6, .inr (.inl (aL w9))))], [mdl q a (uI x 10 (cB h o s_ i.toNat f))], [((a 2), .inl (g.2 0, 6, .inl (aI h)))], [((a 3), .inl (g.2 0, 18, .inl (aI o)))], [((a 13), .inl (g.2 1, 3, .inr (.inl (aL p2_15))))]] H := hP
              have hD : zD A [[((a 14), .inl (g.2 1, 6, .inr (.inl (aL w9))))], [mdl q a (uI x 10 (cB h o s_ i.toNat f))], [((a 2), .inl (g.2 0, 6, .inl (aI h)))], [((a 3), .inl (g.2 0, 18, .inl (aI o)))], [((a 13), .inl (g.2 1, 3, .inr (.inl (aL p2_15))))]] := hD
              have hm6 := zM_lt (h := h) hn5 12 i.toNat k (by omega) (by omega)
              have hvd := vlt_bd hN s_ (i := i.toNat) (c := (zM h 12 i.toNat k)) (by omega) hm6 (f := f) (by omega)
              have hpp := vq_of (v := x 0) (v' := x 0) hpp rfl rfl hwu_14
              refine lv_aload_n hx hb dX10_sag_64 rfl (lv_at hl 0 rfl) ?_
              refine z_cVv (As := []) (rest := []) ⟨hx, hb, hml, hown, hts⟩ hK hP hD hS hA [1, 4, 0] [2, 3] rfl rfl rfl (c_X10_layPhases l g q a (uI x 10 (cB h o s_ i.toNat f)) p2_15 w9 ) (cwV 0 hts gX10_sag_X10_layPhases rfl rfl rfl (by decide +kernel) ⟨Nat.le_of_ble_eq_true rfl, Nat.le_of_ble_eq_true rfl⟩) 10 0 rfl rfl rfl (fun _ _ _ _ _ _ => trivial) (fun _ _ _ => trivial) rfl hl.1 (Nat.le_of_ble_eq_true rfl) rfl dX10_sag_65 ⟨Nat.le_of_ble_eq_true rfl, Nat.le_of_ble_eq_true rfl⟩ (fun u_16 H locs hwu_16 hP hD hS => ?_)
              obtain ⟨w2_17, rfl⟩ : ∃ z_, z_ = u_16 := ⟨_, rfl⟩
              try dsimp only at hwu_16
              have hP : zP g [[((a 2), .inl (g.2 0, 6, .inl (aI h)))], [((a 3), .inl (g.2 0, 18, .inl (aI o)))], [mdl q a (uI x 10 (cB h o s_ i.toNat f))], [((a 13), .inl (g.2 1, 3, .inr (.inl (aL p2_15))))], [((a 14), .inl (g.2 1, 6, .inr (.inl (aL w2_17))))]] H := hP
              have hD : zD A [[((a 2), .inl (g.2 0, 6, .inl (aI h)))], [((a 3), .inl (g.2 0, 18, .inl (aI o)))], [mdl q a (uI x 10 (cB h o s_ i.toNat f))], [((a 13), .inl (g.2 1, 3, .inr (.inl (aL p2_15))))], [((a 14), .inl (g.2 1, 6, .inr (.inl (aL w2_17))))]] := hD
              have hwq := wq_of hpp hwu_16
              have hwb := wq_b hwq hvd (by decide)
              have hwn := wN_b hwb
              refine lv_aload_n hx hb dX10_sag_68 rfl (lv_at hl 0 rfl) ?_
              refine z_get hx hb hts hin10_ hown hK hP 2 rfl rfl 2 (by decide) (hts _ (List.mem_of_getElem? (i := 5) rfl)) rfl dX10_sag_69 ?_
              refine z_toI (x 0) rfl ?_
              refine z_i2l hx hb (by omega) dX10_sag_72 ?_
              refine lv_aload_n hx hb dX10_sag_73 rfl (lv_at hl 0 rfl) ?_
              refine z_get hx hb hts hin10_ hown hK hP 2 rfl rfl 2 (by decide) (hts _ (List.mem_of_getElem? (i := 5) rfl)) rfl dX10_sag_74 ?_
              refine z_toI (x 0) rfl ?_
              refine z_i2l hx hb (by omega) dX10_sag_77 ?_
              refine z_lmul hx hb ((x 0) * (x 0)) rfl dX10_sag_78 ?_
              refine lv_iload hx hb dX10_sag_79 (lv_at hl 4 rfl) ?_
              refine z_i2l hx hb (by omega) dX10_sag_81 ?_
              refine z_lmul hx hb (((x 0) * (x 0)) * pw) rfl dX10_sag_82 ?_
              refine lv_iload hx hb dX10_sag_83 (lv_at hl 4 rfl) ?_
              refine z_i2l hx hb (by omega) dX10_sag_85 ?_
              refine z_lmul hx hb ((((x 0) * (x 0)) * pw) * pw) rfl dX10_sag_86 ?_
              refine lv_aload_n hx hb dX10_sag_87 rfl (lv_at hl 0 rfl) ?_
              refine z_get hx hb hts hin10_ hown hK hP 2 rfl rfl 23 (by decide) (hts _ (List.mem_of_getElem? (i := 6) rfl)) rfl dX10_sag_88 ?_
              refine z_toL (cB h o s_ i.toNat f) rfl ?_
              refine z_lmul hx hb (((((x 0) * (x 0)) * pw) * pw) * (cB h o s_ i.toNat f)) rfl dX10_sag_91 ?_
              refine lv_aload_n hx hb dX10_sag_92 rfl (lv_at hl 0 rfl) ?_
              refine z_get hx hb hts hin10_ hown hK hP 2 rfl rfl 23 (by decide) (hts _ (List.mem_of_getElem? (i := 6) rfl)) rfl dX10_sag_93 ?_
              refine z_toL (cB h o s_ i.toNat f) rfl ?_
              refine z_lmul hx hb ((((((x 0) * (x 0)) * pw) * pw) * (cB h o s_ i.toNat f)) * (cB h o s_ i.toNat f)) rfl dX10_sag_96 ?_
              refine z_nmL (fun x_18 hx_18 => ?_)
              refine lv_lstore (lv' := [(7, vL x_18), (0, .ref q), (1, vI s_), (2, vI i), (3, vI f), (4, vI pw), (5, vI ((acc : Nat) : Int)), (6, vI ((k : Nat) : Int))]) hx hb dX10_sag_97 hl (by decide) rfl (fun ls hl => ?_)
              refine z_iconst hx hb dX10_sag_99 rfl ?_
              refine lv_istore (lv' := [(9, vI 0), (7, vL x_18), (0, .ref q), (1, vI s_), (2, vI i), (3, vI f), (4, vI pw), (5, vI ((acc : Nat) : Int)), (6, vI ((k : Nat) : Int))]) hx hb dX10_sag_100 hl (by decide) rfl (fun ls hl => ?_)
              refine lv_iload hx hb dX10_sag_102 (lv_at hl 0 rfl) ?_
              refine z_iconst hx hb dX10_sag_104 rfl ?_
              refine z_icmp_ge (tgt := 143) hx hb (by decide) (by decide) dX10_sag_105 (by decide) (fun cq19 => False.elim (by omega)) (fun cq19 => ?_)
              refine lv_iload hx hb dX10_sag_108 (lv_at hl 7 rfl) ?_
              have j134 : ∀ (H : Heap) (locs : List Loc) (ls : Array Slot), zP g [[((a 2), .inl (g.2 0, 6, .inl (aI h)))], [((a 3), .inl (g.2 0, 18, .inl (aI o)))], [mdl q a (uI x 10 (cB h o s_ i.toNat f))], [((a 13), .inl (g.2 1, 3, .inr (.inl (aL p2_15))))], [((a 14), .inl (g.2 1, 6, .inr (.inl (aL w2_17))))]] H → zD A [[((a 2), .inl (g.2 0, 6, .inl (aI h)))], [((a 3), .inl (g.2 0, 18, .inl (aI o)))], [mdl q a (uI x 10 (cB h o s_ i.toNat f))], [((a 13), .inl (g.2 1, 3, .inr (.inl (aL p2_15))))], [((a 14), .inl (g.2 1, 6, .inr (.inl (aL w2_17))))]] → va_S A s.heap H locs → lv_has ls 10 [(9, vI 0), (7, vL x_18), (0, .ref q), (1, vI s_), (2, vI i), (3, vI f), (4, vI pw), (5, vI ((acc : Nat) : Int)), (6, vI ((k : Nat) : Int))] → W p l e (zRm 2 0 0) s m ([.ref q, vI s_, vI i, vI f, vI pw] : List Value).toArray below meth c H locs (0) (0) (MQ below ((qi g (fun (u_ : (Nat → Int) × (Nat → Int) × (Nat → Int)) => (aSag (x 0) b h o s_ i f pw)) (fun (u_ : (Nat → Int) × (Nat → Int) × (Nat → Int)) => (kx10 x u_.1)) (fun (u_ : (Nat → Int) × (Nat → Int) × (Nat → Int)) => [[mdl q a u_.1], [((a 2), .inl (g.2 0, 6, .inl (aI h)))], [((a 3), .inl (g.2 0, 18, .inl (aI o)))], [((a 13), .inl (g.2 1, 3, .inr (.inl (aL u_.2.1))))], [((a 14), .inl (g.2 1, 6, .inr (.inl (aL u_.2.2))))]])) A) ([.ref q, vI s_, vI i, vI f, vI pw] : List Value).toArray s 0 0 A) (F0 m 134 ls [vI (((bt9 (wN w2_17 0 * 10000) x_18 k) : Nat) : Int), vI ((acc : Nat) : Int)]) := by
                intro H locs ls hP hD hS hl
                refine z_orN hx hb (a := acc) (b := (bt9 (wN w2_17 0 * 10000) x_18 k)) hac (bt9_lt (by omega)) dX10_sag_134 ?_
                refine lv_istore (lv' := [(5, vI (((acc ||| (bt9 (wN w2_17 0 * 10000) x_18 k)) : Nat) : Int)), (9, vI 0), (7, vL x_18), (0, .ref q), (1, vI s_), (2, vI i), (3, vI f), (4, vI pw), (6, vI ((k : Nat) : Int))]) hx hb dX10_sag_135 hl (by decide) rfl (fun ls hl => ?_)
                refine z_iinc hx hb 1 (lv' := [(9, vI 1), (5, vI (((acc ||| (bt9 (wN w2_17 0 * 10000) x_18 k)) : Nat) : Int)), (7, vL x_18), (0, .ref q), (1, vI s_), (2, vI i), (3, vI f), (4, vI pw), (6, vI ((k : Nat) : Int))]) dX10_sag_137 hl (k := 1) rfl (rfl) (by decide) rfl (fun ls hl => ?_)
                refine lv_goto (tgt := 102) hx hb dX10_sag_140 (by decide) ?_
                refine lv_iload hx hb dX10_sag_102 (lv_at hl 0 rfl) ?_
                refine z_iconst hx hb dX10_sag_104 rfl ?_
                refine z_icmp_ge (tgt := 143) hx hb (by decide) (by decide) dX10_sag_105 (by decide) (fun cq20 => False.elim (by omega)) (fun cq20 => ?_)
                refine lv_iload hx hb dX10_sag_108 (lv_at hl 1 rfl) ?_
                have j134 : ∀ (H : Heap) (locs : List Loc) (ls : Array Slot), zP g [[((a 2), .inl (g.2 0, 6, .inl (aI h)))], [((a 3), .inl (g.2 0, 18, .inl (aI o)))], [mdl q a (uI x 10 (cB h o s_ i.toNat f))], [((a 13), .inl (g.2 1, 3, .inr (.inl (aL p2_15))))], [((a 14), .inl (g.2 1, 6, .inr (.inl (aL w2_17))))]] H → zD A [[((a 2), .inl (g.2 0, 6, .inl (aI h)))], [((a 3), .inl (g.2 0, 18, .inl (aI o)))], [mdl q a (uI x 10 (cB h o s_ i.toNat f))], [((a 13), .inl (g.2 1, 3, .inr (.inl (aL p2_15))))], [((a 14), .inl (g.2 1, 6, .inr (.inl (aL w2_17))))]] → va_S A s.heap H locs → lv_has ls 10 [(9, vI 1), (5, vI (((acc ||| (bt9 (wN w2_17 0 * 10000) x_18 k)) : Nat) : Int)), (7, vL x_18), (0, .ref q), (1, vI s_), (2, vI i), (3, vI f), (4, vI pw), (6, vI ((k : Nat) : Int))] → W p l e (zRm 2 0 0) s m ([.ref q, vI s_, vI i, vI f, vI pw] : List Value).toArray below meth c H locs (0) (0) (MQ below ((qi g (fun (u_ : (Nat → Int) × (Nat → Int) × (Nat → Int)) => (aSag (x 0) b h o s_ i f pw)) (fun (u_ : (Nat → Int) × (Nat → Int) × (Nat → Int)) => (kx10 x u_.1)) (fun (u_ : (Nat → Int) × (Nat → Int) × (Nat → Int)) => [[mdl q a u_.1], [((a 2), .inl (g.2 0, 6, .inl (aI h)))], [((a 3), .inl (g.2 0, 18, .inl (aI o)))], [((a 13), .inl (g.2 1, 3, .inr (.inl (aL u_.2.1))))], [((a 14), .inl (g.2 1, 6, .inr (.inl (aL u_.2.2))))]])) A) ([.ref q, vI s_, vI i, vI f, vI pw] : List Value).toArray s 0 0 A) (F0 m 134 ls [vI (((bt9 (wN w2_17 1 * 10000) x_18 k) : Nat) : Int), vI (((acc ||| (bt9 (wN w2_17 0 * 10000) x_18 k)) : Nat) : Int)]) := by
                  intro H locs ls hP hD hS hl
                  refine z_orN hx hb (a := (acc ||| (bt9 (wN w2_17 0 * 10000) x_18 k))) (b := (bt9 (wN w2_17 1 * 10000) x_18 k)) (or_lt hac (bt9_lt (by omega))) (bt9_lt (by omega)) dX10_sag_134 ?_
                  refine lv_istore (lv' := [(5, vI ((((acc ||| (bt9 (wN w2_17 0 * 10000) x_18 k)) ||| (bt9 (wN w2_17 1 * 10000) x_18 k)) : Nat) : Int)), (9, vI 1), (7, vL x_18), (0, .ref q), (1, vI s_), (2, vI i), (3, vI f), (4, vI pw), (6, vI ((k : Nat) : Int))]) hx hb dX10_sag_135 hl (by decide) rfl (fun ls hl => ?_)
                  refine z_iinc hx hb 2 (lv' := [(9, vI 2), (5, vI ((((acc ||| (bt9 (wN w2_17 0 * 10000) x_18 k)) ||| (bt9 (wN w2_17 1 * 10000) x_18 k)) : Nat) : Int)), (7, vL x_18), (0, .ref q), (1, vI s_), (2, vI i), (3, vI f), (4, vI pw), (6, vI ((k : Nat) : Int))]) dX10_sag_137 hl (k := 1) rfl (rfl) (by decide) rfl (fun ls hl => ?_)
                  refine lv_goto (tgt := 102) hx hb dX10_sag_140 (by decide) ?_
                  refine lv_iload hx hb dX10_sag_102 (lv_at hl 0 rfl) ?_
                  refine z_iconst hx hb dX10_sag_104 rfl ?_
                  refine z_icmp_ge (tgt := 143) hx hb (by decide) (by decide) dX10_sag_105 (by decide) (fun cq21 => False.elim (by omega)) (fun cq21 => ?_)
                  refine lv_iload hx hb dX10_sag_108 (lv_at hl 1 rfl) ?_
                  have j134 : ∀ (H : Heap) (locs : List Loc) (ls : Array Slot), zP g [[((a 2), .inl (g.2 0, 6, .inl (aI h)))], [((a 3), .inl (g.2 0, 18, .inl (aI o)))], [mdl q a (uI x 10 (cB h o s_ i.toNat f))], [((a 13), .inl (g.2 1, 3, .inr (.inl (aL p2_15))))], [((a 14), .inl (g.2 1, 6, .inr (.inl (aL w2_17))))]] H → zD A [[((a 2), .inl (g.2 0, 6, .inl (aI h)))], [((a 3), .inl (g.2 0, 18, .inl (aI o)))], [mdl q a (uI x 10 (cB h o s_ i.toNat f))], [((a 13), .inl (g.2 1, 3, .inr (.inl (aL p2_15))))], [((a 14), .inl (g.2 1, 6, .inr (.inl (aL w2_17))))]] → va_S A s.heap H locs → lv_has ls 10 [(9, vI 2), (5, vI ((((acc ||| (bt9 (wN w2_17 0 * 10000) x_18 k)) ||| (bt9 (wN w2_17 1 * 10000) x_18 k)) : Nat) : Int)), (7, vL x_18), (0, .ref q), (1, vI s_), (2, vI i), (3, vI f), (4, vI pw), (6, vI ((k : Nat) : Int))] → W p l e (zRm 2 0 0) s m ([.ref q, vI s_, vI i, vI f, vI pw] : List Value).toArray below meth c H locs (0) (0) (MQ below ((qi g (fun (u_ : (Nat → Int) × (Nat → Int) × (Nat → Int)) => (aSag (x 0) b h o s_ i f pw)) (fun (u_ : (Nat → Int) × (Nat → Int) × (Nat → Int)) => (kx10 x u_.1)) (fun (u_ : (Nat → Int) × (Nat → Int) × (Nat → Int)) => [[mdl q a u_.1], [((a 2), .inl (g.2 0, 6, .inl (aI h)))], [((a 3), .inl (g.2 0, 18, .inl (aI o)))], [((a 13), .inl (g.2 1, 3, .inr (.inl (aL u_.2.1))))], [((a 14), .inl (g.2 1, 6, .inr (.inl (aL u_.2.2))))]])) A) ([.ref q, vI s_, vI i, vI f, vI pw] : List Value).toArray s 0 0 A) (F0 m 134 ls [vI (((bt9 (wN w2_17 2 * 10000) x_18 k) : Nat) : Int), vI ((((acc ||| (bt9 (wN w2_17 0 * 10000) x_18 k)) ||| (bt9 (wN w2_17 1 * 10000) x_18 k)) : Nat) : Int)]) := by
                    intro H locs ls hP hD hS hl
                    refine z_orN hx hb (a := ((acc ||| (bt9 (wN w2_17 0 * 10000) x_18 k)) ||| (bt9 (wN w2_17 1 * 10000) x_18 k))) (b := (bt9 (wN w2_17 2 * 10000) x_18 k)) (or_lt (or_lt hac (bt9_lt (by omega))) (bt9_lt (by omega))) (bt9_lt (by omega)) dX10_sag_134 ?_
                    refine lv_istore (lv' := [(5, vI (((((acc ||| (bt9 (wN w2_17 0 * 10000) x_18 k)) ||| (bt9 (wN w2_17 1 * 10000) x_18 k)) ||| (bt9 (wN w2_17 2 * 10000) x_18 k)) : Nat) : Int)), (9, vI 2), (7, vL x_18), (0, .ref q), (1, vI s_), (2, vI i), (3, vI f), (4, vI pw), (6, vI ((k : Nat) : Int))]) hx hb dX10_sag_135 hl (by decide) rfl (fun ls hl => ?_)
                    refine z_iinc hx hb 3 (lv' := [(9, vI 3), (5, vI (((((acc ||| (bt9 (wN w2_17 0 * 10000) x_18 k)) ||| (bt9 (wN w2_17 1 * 10000) x_18 k)) ||| (bt9 (wN w2_17 2 * 10000) x_18 k)) : Nat) : Int)), (7, vL x_18), (0, .ref q), (1, vI s_), (2, vI i), (3, vI f), (4, vI pw), (6, vI ((k : Nat) : Int))]) dX10_sag_137 hl (k := 1) rfl (rfl) (by decide) rfl (fun ls hl => ?_)
                    refine lv_goto (tgt := 102) hx hb dX10_sag_140 (by decide) ?_
                    refine lv_iload hx hb dX10_sag_102 (lv_at hl 0 rfl) ?_
                    refine z_iconst hx hb dX10_sag_104 rfl ?_
                    refine z_icmp_ge (tgt := 143) hx hb (by decide) (by decide) dX10_sag_105 (by decide) (fun cq22 => ?_) (fun cq22 => False.elim (by omega))
                    refine z_iinc hx hb (((k + 1) : Nat) : Int) (lv' := [(6, vI (((k + 1) : Nat) : Int)), (9, vI 3), (5, vI (((((acc ||| (bt9 (wN w2_17 0 * 10000) x_18 k)) ||| (bt9 (wN w2_17 1 * 10000) x_18 k)) ||| (bt9 (wN w2_17 2 * 10000) x_18 k)) : Nat) : Int)), (7, vL x_18), (0, .ref q), (1, vI s_), (2, vI i), (3, vI f), (4, vI pw)]) dX10_sag_143 hl (k := 8) rfl (by omega) (by decide) rfl (fun ls hl => ?_)
                    refine lv_goto (tgt := 41) hx hb dX10_sag_146 (by decide) ?_
                    exact ih41 (k + 1) (((acc ||| (bt9 (wN w2_17 0 * 10000) x_18 k)) ||| (bt9 (wN w2_17 1 * 10000) x_18 k)) ||| (bt9 (wN w2_17 2 * 10000) x_18 k)) (cB h o s_ i.toNat f) p2_15 w2_17 _ _ _ (by omega) (sg3 ha (by rw [sgI_m hn5 (by omega) (by omega) hwq, hx_18])) (fun _ => rfl) (by omega) (zP_sub hP [2, 0, 1, 3, 4] rfl) (zD_sub hD [2, 0, 1, 3, 4] rfl rfl) hS (lv_sub hl [4, 5, 6, 7, 8, 2, 0] rfl)
                  refine lv_aload_n hx hb dX10_sag_110 rfl (lv_at hl 3 rfl) ?_
                  refine lv_iload hx hb dX10_sag_111 (lv_at hl 0 rfl) ?_
                  refine z_cVl (As := [vI 2]) (rest := [vI ((((acc ||| (bt9 (wN w2_17 0 * 10000) x_18 k)) ||| (bt9 (wN w2_17 1 * 10000) x_18 k)) : Nat) : Int)]) ⟨hx, hb, hml, hown, hts⟩ hK hP hD hS hA [2, 4] [0, 1, 3] rfl rfl rfl (c_X10_normOf l g q a (uI x 10 (cB h o s_ i.toNat f)) w2_17 2 (by decide)) (cwV 1 hts gX10_sag_X10_normOf rfl rfl rfl (by decide +kernel) ⟨Nat.le_of_ble_eq_true rfl, Nat.le_of_ble_eq_true rfl⟩) 10 0 rfl rfl rfl (fun _ _ _ _ _ _ => trivial) (fun _ _ _ => trivial) rfl hl.1 (Nat.le_of_ble_eq_true rfl) rfl dX10_sag_113 ⟨Nat.le_of_ble_eq_true rfl, Nat.le_of_ble_eq_true rfl⟩ (fun u_23 H locs hwu_23 hP hD hS => ?_)
                  try dsimp only at hwu_23
                  have hP : zP g [[((a 2), .inl (g.2 0, 6, .inl (aI h)))], [((a 3), .inl (g.2 0, 18, .inl (aI o)))], [((a 13), .inl (g.2 1, 3, .inr (.inl (aL p2_15))))], [mdl q a (uI x 10 (cB h o s_ i.toNat f))], [((a 14), .inl (g.2 1, 6, .inr (.inl (aL w2_17))))]] H := hP
                  have hD : zD A [[((a 2), .inl (g.2 0, 6, .inl (aI h)))], [((a 3), .inl (g.2 0, 18, .inl (aI o)))], [((a 13), .inl (g.2 1, 3, .inr (.inl (aL p2_15))))], [mdl q a (uI x 10 (cB h o s_ i.toNat f))], [((a 14), .inl (g.2 1, 6, .inr (.inl (aL w2_17))))]] := hD
                  refine z_toL (wN w2_17 2) rfl ?_
                  refine z_ldc2 hx hb 10000 hown (hts _ (List.mem_of_getElem? (i := 7) rfl)) rfl dX10_sag_116 ?_
                  refine z_lmul hx hb ((wN w2_17 2) * 10000) rfl dX10_sag_119 ?_
                  refine lv_lload hx hb dX10_sag_120 (lv_at hl 2 rfl) ?_
                  refine z_lcmp_ge (tgt := 133) hx hb (by have := hwn 2 (by decide); omega) (by have := sag_rng (v := x 0) (k := pw) (d := (cB h o s_ i.toNat f)) (by omega) (by omega) hb3; omega) dX10_sag_122 dX10_sag_123 (by decide) (fun cq24 => ?_) (fun cq24 => ?_)
                  · refine z_iconst hx hb dX10_sag_133 rfl ?_
                    refine z_toI (((bt9 (wN w2_17 2 * 10000) x_18 k) : Nat) : Int) (by first | exact bt9_y (by omega) | exact bt9_n (by omega)) ?_
                    exact j134 _ _ _ (zP_sub hP [0, 1, 3, 2, 4] rfl) (zD_sub hD [0, 1, 3, 2, 4] rfl rfl) hS (lv_sub hl [0, 1, 2, 3, 4, 5, 6, 7, 8] rfl)
                  · refine z_iconst hx hb dX10_sag_126 rfl ?_
                    refine lv_iload hx hb dX10_sag_127 (lv_at hl 8 rfl) ?_
                    refine z_shl1 hx hb (k := k) (by omega) dX10_sag_129 ?_
                    refine lv_goto (tgt := 134) hx hb dX10_sag_130 (by decide) ?_
                    refine z_toI (((bt9 (wN w2_17 2 * 10000) x_18 k) : Nat) : Int) (by first | exact bt9_y (by omega) | exact bt9_n (by omega)) ?_
                    exact j134 _ _ _ (zP_sub hP [0, 1, 3, 2, 4] rfl) (zD_sub hD [0, 1, 3, 2, 4] rfl rfl) hS (lv_sub hl [0, 1, 2, 3, 4, 5, 6, 7, 8] rfl)
                refine lv_aload_n hx hb dX10_sag_110 rfl (lv_at hl 3 rfl) ?_
                refine lv_iload hx hb dX10_sag_111 (lv_at hl 0 rfl) ?_
                refine z_cVl (As := [vI 1]) (rest := [vI (((acc ||| (bt9 (wN w2_17 0 * 10000) x_18 k)) : Nat) : Int)]) ⟨hx, hb, hml, hown, hts⟩ hK hP hD hS hA [2, 4] [0, 1, 3] rfl rfl rfl (c_X10_normOf l g q a (uI x 10 (cB h o s_ i.toNat f)) w2_17 1 (by decide)) (cwV 1 hts gX10_sag_X10_normOf rfl rfl rfl (by decide +kernel) ⟨Nat.le_of_ble_eq_true rfl, Nat.le_of_ble_eq_true rfl⟩) 10 0 rfl rfl rfl (fun _ _ _ _ _ _ => trivial) (fun _ _ _ => trivial) rfl hl.1 (Nat.le_of_ble_eq_true rfl) rfl dX10_sag_113 ⟨Nat.le_of_ble_eq_true rfl, Nat.le_of_ble_eq_true rfl⟩ (fun u_25 H locs hwu_25 hP hD hS => ?_)
                try dsimp only at hwu_25
                have hP : zP g [[((a 2), .inl (g.2 0, 6, .inl (aI h)))], [((a 3), .inl (g.2 0, 18, .inl (aI o)))], [((a 13), .inl (g.2 1, 3, .inr (.inl (aL p2_15))))], [mdl q a (uI x 10 (cB h o s_ i.toNat f))], [((a 14), .inl (g.2 1, 6, .inr (.inl (aL w2_17))))]] H := hP
                have hD : zD A [[((a 2), .inl (g.2 0, 6, .inl (aI h)))], [((a 3), .inl (g.2 0, 18, .inl (aI o)))], [((a 13), .inl (g.2 1, 3, .inr (.inl (aL p2_15))))], [mdl q a (uI x 10 (cB h o s_ i.toNat f))], [((a 14), .inl (g.2 1, 6, .inr (.inl (aL w2_17))))]] := hD
                refine z_toL (wN w2_17 1) rfl ?_
                refine z_ldc2 hx hb 10000 hown (hts _ (List.mem_of_getElem? (i := 7) rfl)) rfl dX10_sag_116 ?_
                refine z_lmul hx hb ((wN w2_17 1) * 10000) rfl dX10_sag_119 ?_
                refine lv_lload hx hb dX10_sag_120 (lv_at hl 2 rfl) ?_
                refine z_lcmp_ge (tgt := 133) hx hb (by have := hwn 1 (by decide); omega) (by have := sag_rng (v := x 0) (k := pw) (d := (cB h o s_ i.toNat f)) (by omega) (by omega) hb3; omega) dX10_sag_122 dX10_sag_123 (by decide) (fun cq26 => ?_) (fun cq26 => ?_)
                · refine z_iconst hx hb dX10_sag_133 rfl ?_
                  refine z_toI (((bt9 (wN w2_17 1 * 10000) x_18 k) : Nat) : Int) (by first | exact bt9_y (by omega) | exact bt9_n (by omega)) ?_
                  exact j134 _ _ _ (zP_sub hP [0, 1, 3, 2, 4] rfl) (zD_sub hD [0, 1, 3, 2, 4] rfl rfl) hS (lv_sub hl [0, 1, 2, 3, 4, 5, 6, 7, 8] rfl)
                · refine z_iconst hx hb dX10_sag_126 rfl ?_
                  refine lv_iload hx hb dX10_sag_127 (lv_at hl 8 rfl) ?_
                  refine z_shl1 hx hb (k := k) (by omega) dX10_sag_129 ?_
                  refine lv_goto (tgt := 134) hx hb dX10_sag_130 (by decide) ?_
                  refine z_toI (((bt9 (wN w2_17 1 * 10000) x_18 k) : Nat) : Int) (by first | exact bt9_y (by omega) | exact bt9_n (by omega)) ?_
                  exact j134 _ _ _ (zP_sub hP [0, 1, 3, 2, 4] rfl) (zD_sub hD [0, 1, 3, 2, 4] rfl rfl) hS (lv_sub hl [0, 1, 2, 3, 4, 5, 6, 7, 8] rfl)
              refine lv_aload_n hx hb dX10_sag_110 rfl (lv_at hl 2 rfl) ?_
              refine lv_iload hx hb dX10_sag_111 (lv_at hl 0 rfl) ?_
              refine z_cVl (As := [vI 0]) (rest := [vI ((acc : Nat) : Int)]) ⟨hx, hb, hml, hown, hts⟩ hK hP hD hS hA [2, 4] [0, 1, 3] rfl rfl rfl (c_X10_normOf l g q a (uI x 10 (cB h o s_ i.toNat f)) w2_17 0 (by decide)) (cwV 1 hts gX10_sag_X10_normOf rfl rfl rfl (by decide +kernel) ⟨Nat.le_of_ble_eq_true rfl, Nat.le_of_ble_eq_true rfl⟩) 10 0 rfl rfl rfl (fun _ _ _ _ _ _ => trivial) (fun _ _ _ => trivial) rfl hl.1 (Nat.le_of_ble_eq_true rfl) rfl dX10_sag_113 ⟨Nat.le_of_ble_eq_true rfl, Nat.le_of_ble_eq_true rfl⟩ (fun u_27 H locs hwu_27 hP hD hS => ?_)
              try dsimp only at hwu_27
              have hP : zP g [[((a 2), .inl (g.2 0, 6, .inl (aI h)))], [((a 3), .inl (g.2 0, 18, .inl (aI o)))], [((a 13), .inl (g.2 1, 3, .inr (.inl (aL p2_15))))], [mdl q a (uI x 10 (cB h o s_ i.toNat f))], [((a 14), .inl (g.2 1, 6, .inr (.inl (aL w2_17))))]] H := hP
              have hD : zD A [[((a 2), .inl (g.2 0, 6, .inl (aI h)))], [((a 3), .inl (g.2 0, 18, .inl (aI o)))], [((a 13), .inl (g.2 1, 3, .inr (.inl (aL p2_15))))], [mdl q a (uI x 10 (cB h o s_ i.toNat f))], [((a 14), .inl (g.2 1, 6, .inr (.inl (aL w2_17))))]] := hD
              refine z_toL (wN w2_17 0) rfl ?_
              refine z_ldc2 hx hb 10000 hown (hts _ (List.mem_of_getElem? (i := 7) rfl)) rfl dX10_sag_116 ?_
              refine z_lmul hx hb ((wN w2_17 0) * 10000) rfl dX10_sag_119 ?_
              refine lv_lload hx hb dX10_sag_120 (lv_at hl 1 rfl) ?_
              refine z_lcmp_ge (tgt := 133) hx hb (by have := hwn 0 (by decide); omega) (by have := sag_rng (v := x 0) (k := pw) (d := (cB h o s_ i.toNat f)) (by omega) (by omega) hb3; omega) dX10_sag_122 dX10_sag_123 (by decide) (fun cq28 => ?_) (fun cq28 => ?_)
              · refine z_iconst hx hb dX10_sag_133 rfl ?_
                refine z_toI (((bt9 (wN w2_17 0 * 10000) x_18 k) : Nat) : Int) (by first | exact bt9_y (by omega) | exact bt9_n (by omega)) ?_
                exact j134 _ _ _ (zP_sub hP [0, 1, 3, 2, 4] rfl) (zD_sub hD [0, 1, 3, 2, 4] rfl rfl) hS (lv_sub hl [0, 1, 2, 3, 4, 5, 6, 7, 8] rfl)
              · refine z_iconst hx hb dX10_sag_126 rfl ?_
                refine lv_iload hx hb dX10_sag_127 (lv_at hl 8 rfl) ?_
                refine z_shl1 hx hb (k := k) (by omega) dX10_sag_129 ?_
                refine lv_goto (tgt := 134) hx hb dX10_sag_130 (by decide) ?_
                refine z_toI (((bt9 (wN w2_17 0 * 10000) x_18 k) : Nat) : Int) (by first | exact bt9_y (by omega) | exact bt9_n (by omega)) ?_
                exact j134 _ _ _ (zP_sub hP [0, 1, 3, 2, 4] rfl) (zD_sub hD [0, 1, 3, 2, 4] rfl rfl) hS (lv_sub hl [0, 1, 2, 3, 4, 5, 6, 7, 8] rfl)
        exact loop41 _ 0 0 (x 10) pp wh _ _ _ (Nat.zero_le _) rfl (by omega) (Nat.lt_succ_self _) (zP_sub hP [4, 0, 1, 2, 3] rfl) (zD_sub hD [4, 0, 1, 2, 3] rfl rfl) hS (lv_sub hl [2, 3, 4, 5, 6, 1, 0] rfl)
      · refine z_ldc hx hb (-2000000002) hown (hts _ (List.mem_of_getElem? (i := 3) rfl)) rfl dX10_sag_32 ?_
        exact z_reti (x, pp, wh) [4, 0, 1, 2, 3] hx hb hr rfl hlocks hK hP hD hS ((aSag_2 (by omega) (by omega)).symm) (by first | exact kx10_r _ | exact kx10_u (kx10_r _)) rfl rfl (rfl) (Nat.le_of_ble_eq_true rfl) (Nat.le_of_ble_eq_true rfl) dX10_sag_34
  · refine z_ldc hx hb (-2000000001) hown (hts _ (List.mem_of_getElem? (i := 1) rfl)) rfl dX10_sag_8 ?_
    exact z_reti (x, pp, wh) [4, 0, 1, 2, 3] hx hb hr rfl hlocks hK hP hD hS ((aSag_1 (by omega)).symm) (by first | exact kx10_r _ | exact kx10_u (kx10_r _)) rfl rfl (rfl) (Nat.le_of_ble_eq_true rfl) (Nat.le_of_ble_eq_true rfl) dX10_sag_10

set_option maxHeartbeats 4000000 in
set_option maxRecDepth 100000 in
theorem c_X10_trips (l : Launch) (g : zG) (q : Nat) (a : Nat → Nat) (x : Nat → Int) (b : Nat) (h : Nat → Int) (o : Nat → Int) (l_ : Nat → Int) (pp : Nat → Int) (wh : Nat → Int) (s_ : Int) (i : Int) (f : Int) (hN : nok (x 0) b h o l_) (hx1 : x 1 = (b : Int)) (hs : -2147483648 ≤ s_ ∧ s_ < 2147483648) (hi : -2147483648 ≤ i ∧ i < 2147483648) (hf : -2147483648 ≤ f ∧ f < 2147483648) : zMet l g yX10_trips wsX10_trips 2 0 0 [.ref q, vI s_, vI i, vI f] zX0 [[mdl q a x], [((a 2), .inl (g.2 0, 6, .inl (aI h)))], [((a 3), .inl (g.2 0, 18, .inl (aI o)))], [((a 4), .inl (g.2 0, 6, .inl (aI l_)))], [((a 13), .inl (g.2 1, 3, .inr (.inl (aL pp))))], [((a 14), .inl (g.2 1, 6, .inr (.inl (aL wh))))]] (qi g (fun (u_ : (Nat → Int) × (Nat → Int) × (Nat → Int)) => (aTrp (x 0) b h o l_ s_ i f)) (fun (u_ : (Nat → Int) × (Nat → Int) × (Nat → Int)) => (kx10 x u_.1)) (fun (u_ : (Nat → Int) × (Nat → Int) × (Nat → Int)) => [[mdl q a u_.1], [((a 2), .inl (g.2 0, 6, .inl (aI h)))], [((a 3), .inl (g.2 0, 18, .inl (aI o)))], [((a 4), .inl (g.2 0, 6, .inl (aI l_)))], [((a 13), .inl (g.2 1, 3, .inr (.inl (aL u_.2.1))))], [((a 14), .inl (g.2 1, 6, .inr (.inl (aL u_.2.2))))]])) := by
  obtain ⟨hn1, hn2, hn3, hn4, hn5, hn6, hn7⟩ := id hN
  refine z_ent (cc := cX10_trips) (maxL := 8) (ret := (some .int)) (by decide) rfl (Nat.le_of_ble_eq_true rfl) ?_
  intro p e s m below meth c A ls hx hb hr hml hown hts hlocks hin0 hA hK hP hD hS hXX hl
  have hown : s.vm.findClass RX10 = some m.cls := hown
  have hin10_ : ∀ w ∈ wsX100, w ∈ wsX10_trips := zw_in [45, 46, 47, 48, 49, 50, 51, 52, 53, 54, 55, 56, 57, 58, 59, 60, 61, 62, 63, 64, 65, 66, 67, 68, 69, 70] rfl
  have hl : lv_has ls 8 [(0, .ref q), (1, vI s_), (2, vI i), (3, vI f)] := hl
  refine lv_aload_n hx hb dX10_trips_0 rfl (lv_at hl 0 rfl) ?_
  refine lv_iload_n hx hb dX10_trips_1 rfl (lv_at hl 2 rfl) ?_
  refine z_cVi (As := [vI i]) (rest := []) ⟨hx, hb, hml, hown, hts⟩ hK hP hD hS hA [0] [1, 2, 3, 4, 5] rfl rfl rfl (c_X10_isBus l g q a x i (by omega) (by omega)) (cwV 1 hts gX10_trips_X10_isBus rfl rfl rfl (by decide +kernel) ⟨Nat.le_of_ble_eq_true rfl, Nat.le_of_ble_eq_true rfl⟩) 10 0 rfl rfl rfl (fun _ _ _ _ _ _ => trivial) (fun _ _ _ => trivial) rfl hl.1 (Nat.le_of_ble_eq_true rfl) rfl dX10_trips_2 ⟨Nat.le_of_ble_eq_true rfl, Nat.le_of_ble_eq_true rfl⟩ (fun u_1 H locs hwu_1 hP hD hS => ?_)
  try dsimp only at hwu_1
  have hP : zP g [[((a 2), .inl (g.2 0, 6, .inl (aI h)))], [((a 3), .inl (g.2 0, 18, .inl (aI o)))], [((a 4), .inl (g.2 0, 6, .inl (aI l_)))], [((a 13), .inl (g.2 1, 3, .inr (.inl (aL pp))))], [((a 14), .inl (g.2 1, 6, .inr (.inl (aL wh))))], [mdl q a x]] H := hP
  have hD : zD A [[((a 2), .inl (g.2 0, 6, .inl (aI h)))], [((a 3), .inl (g.2 0, 18, .inl (aI o)))], [((a 4), .inl (g.2 0, 6, .inl (aI l_)))], [((a 13), .inl (g.2 1, 3, .inr (.inl (aL pp))))], [((a 14), .inl (g.2 1, 6, .inr (.inl (aL wh))))], [mdl q a x]] := hD
  refine z_toI (inI i 0 (x 1 - 1)) rfl ?_
  have hf_2 := inI_s i 0 (x 1 - 1)
  refine z_if_ne (tgt := 11) hx hb (by omega) dX10_trips_5 (by decide) (fun cq3 => ?_) (fun cq3 => ?_)
  · refine lv_iload_n hx hb dX10_trips_11 rfl (lv_at hl 1 rfl) ?_
    refine lv_iload_n hx hb dX10_trips_12 rfl (lv_at hl 3 rfl) ?_
    refine z_cSi (As := [vI s_, vI f]) (rest := []) ⟨hx, hb, hml, hown, hts⟩ hK hP hD hS hA [] [0, 1, 2, 3, 4, 5] rfl rfl rfl (c_X10_isSort l g s_ f (by first | assumption | omega | decide) (by first | assumption | omega | decide)) (va_cwS 2 hts gX10_trips_X10_isSort rfl rfl rfl (by decide +kernel) ⟨Nat.le_of_ble_eq_true rfl, Nat.le_of_ble_eq_true rfl⟩) (fun _ _ _ _ _ _ => trivial) (fun _ _ _ => trivial) rfl hl.1 (Nat.le_of_ble_eq_true rfl) rfl dX10_trips_13 ⟨Nat.le_of_ble_eq_true rfl, Nat.le_of_ble_eq_true rfl⟩ (fun u_4 H locs hwu_4 hP hD hS => ?_)
    try dsimp only at hwu_4
    have hP : zP g [[((a 2), .inl (g.2 0, 6, .inl (aI h)))], [((a 3), .inl (g.2 0, 18, .inl (aI o)))], [((a 4), .inl (g.2 0, 6, .inl (aI l_)))], [((a 13), .inl (g.2 1, 3, .inr (.inl (aL pp))))], [((a 14), .inl (g.2 1, 6, .inr (.inl (aL wh))))], [mdl q a x]] H := hP
    have hD : zD A [[((a 2), .inl (g.2 0, 6, .inl (aI h)))], [((a 3), .inl (g.2 0, 18, .inl (aI o)))], [((a 4), .inl (g.2 0, 6, .inl (aI l_)))], [((a 13), .inl (g.2 1, 3, .inr (.inl (aL pp))))], [((a 14), .inl (g.2 1, 6, .inr (.inl (aL wh))))], [mdl q a x]] := hD
    refine z_toI (one ((0 ≤ s_ ∧ s_ ≤ 3) ∧ (0 ≤ f ∧ f ≤ 9))) rfl ?_
    have hf_5 := one_s ((0 ≤ s_ ∧ s_ ≤ 3) ∧ (0 ≤ f ∧ f ≤ 9))
    refine z_if_ne (tgt := 22) hx hb (by omega) dX10_trips_16 (by decide) (fun cq6 => ?_) (fun cq6 => ?_)
    · refine lv_aload_n hx hb dX10_trips_22 rfl (lv_at hl 0 rfl) ?_
      refine lv_iload_n hx hb dX10_trips_23 rfl (lv_at hl 1 rfl) ?_
      refine lv_iload_n hx hb dX10_trips_24 rfl (lv_at hl 2 rfl) ?_
      refine z_toI ((i.toNat : Nat) : Int) (by omega) ?_
      refine lv_iload_n hx hb dX10_trips_25 rfl (lv_at hl 3 rfl) ?_
      refine z_cVv (As := [vI s_, vI ((i.toNat : Nat) : Int), vI f]) (rest := []) ⟨hx, hb, hml, hown, hts⟩ hK hP hD hS hA [5, 0, 1, 3] [2, 4] rfl rfl rfl (c_X10_layFault l g q a x b h o l_ pp s_ i.toNat f hN (by omega) (by omega) (by omega)) (cwV 3 hts gX10_trips_X10_layFault rfl rfl rfl (by decide +kernel) ⟨Nat.le_of_ble_eq_true rfl, Nat.le_of_ble_eq_true rfl⟩) 10 0 rfl rfl rfl (fun _ _ _ _ _ _ => trivial) (fun _ _ _ => trivial) rfl hl.1 (Nat.le_of_ble_eq_true rfl) rfl dX10_trips_26 ⟨Nat.le_of_ble_eq_true rfl, Nat.le_of_ble_eq_true rfl⟩ (fun u_7 H locs hwu_7 hP hD hS => ?_)
      obtain ⟨p2_8, rfl⟩ : ∃ z_, z_ = u_7 := ⟨_, rfl⟩
      try dsimp only at hwu_7
      have hP : zP g [[((a 4), .inl (g.2 0, 6, .inl (aI l_)))], [((a 14), .inl (g.2 1, 6, .inr (.inl (aL wh))))], [mdl q a (uI x 10 (cB h o s_ i.toNat f))], [((a 2), .inl (g.2 0, 6, .inl (aI h)))], [((a 3), .inl (g.2 0, 18, .inl (aI o)))], [((a 13), .inl (g.2 1, 3, .inr (.inl (aL p2_8))))]] H := hP
      have hD : zD A [[((a 4), .inl (g.2 0, 6, .inl (aI l_)))], [((a 14), .inl (g.2 1, 6, .inr (.inl (aL wh))))], [mdl q a (uI x 10 (cB h o s_ i.toNat f))], [((a 2), .inl (g.2 0, 6, .inl (aI h)))], [((a 3), .inl (g.2 0, 18, .inl (aI o)))], [((a 13), .inl (g.2 1, 3, .inr (.inl (aL p2_8))))]] := hD
      have hpp := hwu_7
      have hbd := cur_bd hN s_ (i := i.toNat) (by omega) (f := f) (by omega)
      have hb3 := hbd.2.2.2
      refine lv_aload_n hx hb dX10_trips_29 rfl (lv_at hl 0 rfl) ?_
      refine z_cVv (As := []) (rest := []) ⟨hx, hb, hml, hown, hts⟩ hK hP hD hS hA [2, 5, 1] [0, 3, 4] rfl rfl rfl (c_X10_layPhases l g q a (uI x 10 (cB h o s_ i.toNat f)) p2_8 wh ) (cwV 0 hts gX10_trips_X10_layPhases rfl rfl rfl (by decide +kernel) ⟨Nat.le_of_ble_eq_true rfl, Nat.le_of_ble_eq_true rfl⟩) 10 0 rfl rfl rfl (fun _ _ _ _ _ _ => trivial) (fun _ _ _ => trivial) rfl hl.1 (Nat.le_of_ble_eq_true rfl) rfl dX10_trips_30 ⟨Nat.le_of_ble_eq_true rfl, Nat.le_of_ble_eq_true rfl⟩ (fun u_9 H locs hwu_9 hP hD hS => ?_)
      obtain ⟨w2_10, rfl⟩ : ∃ z_, z_ = u_9 := ⟨_, rfl⟩
      try dsimp only at hwu_9
      have hP : zP g [[((a 4), .inl (g.2 0, 6, .inl (aI l_)))], [((a 2), .inl (g.2 0, 6, .inl (aI h)))], [((a 3), .inl (g.2 0, 18, .inl (aI o)))], [mdl q a (uI x 10 (cB h o s_ i.toNat f))], [((a 13), .inl (g.2 1, 3, .inr (.inl (aL p2_8))))], [((a 14), .inl (g.2 1, 6, .inr (.inl (aL w2_10))))]] H := hP
      have hD : zD A [[((a 4), .inl (g.2 0, 6, .inl (aI l_)))], [((a 2), .inl (g.2 0, 6, .inl (aI h)))], [((a 3), .inl (g.2 0, 18, .inl (aI o)))], [mdl q a (uI x 10 (cB h o s_ i.toNat f))], [((a 13), .inl (g.2 1, 3, .inr (.inl (aL p2_8))))], [((a 14), .inl (g.2 1, 6, .inr (.inl (aL w2_10))))]] := hD
      have hwq := wq_of hpp hwu_9
      have hwb := wq_b hwq hbd (by decide)
      have hwn := wN_b hwb
      refine z_iconst hx hb dX10_trips_33 rfl ?_
      refine lv_istore (lv' := [(4, vI 0), (0, .ref q), (1, vI s_), (2, vI i), (3, vI f)]) hx hb dX10_trips_34 hl (by decide) rfl (fun ls hl => ?_)
      refine lv_iload_n hx hb dX10_trips_36 rfl (lv_at hl 3 rfl) ?_
      refine z_toI ((i.toNat : Nat) : Int) (by omega) ?_
      refine lv_istore (lv' := [(5, vI ((i.toNat : Nat) : Int)), (4, vI 0), (0, .ref q), (1, vI s_), (2, vI i), (3, vI f)]) hx hb dX10_trips_37 hl (by decide) rfl (fun ls hl => ?_)
      have loop39 : ∀ (N : Nat) (k : Nat) (acc : Nat) (w : Nat) (H : Heap) (locs : List Loc) (ls : Array Slot), k + w ≤ 5 → acc < 64 → (trB h (trI (x 0) h o l_ s_ i.toNat f) 6 i.toNat 0) = trB h (trI (x 0) h o l_ s_ i.toNat f) (6 - k) w acc → (6 - k) < N → zP g [[((a 4), .inl (g.2 0, 6, .inl (aI l_)))], [((a 2), .inl (g.2 0, 6, .inl (aI h)))], [((a 3), .inl (g.2 0, 18, .inl (aI o)))], [mdl q a (uI x 10 (cB h o s_ i.toNat f))], [((a 13), .inl (g.2 1, 3, .inr (.inl (aL p2_8))))], [((a 14), .inl (g.2 1, 6, .inr (.inl (aL w2_10))))]] H → zD A [[((a 4), .inl (g.2 0, 6, .inl (aI l_)))], [((a 2), .inl (g.2 0, 6, .inl (aI h)))], [((a 3), .inl (g.2 0, 18, .inl (aI o)))], [mdl q a (uI x 10 (cB h o s_ i.toNat f))], [((a 13), .inl (g.2 1, 3, .inr (.inl (aL p2_8))))], [((a 14), .inl (g.2 1, 6, .inr (.inl (aL w2_10))))]] → va_S A s.heap H locs → lv_has ls 8 [(0, .ref q), (1, vI s_), (2, vI i), (3, vI f), (4, vI ((acc : Nat) : Int)), (5, vI ((w : Nat) : Int))] → W p l e (zRm 2 0 0) s m ([.ref q, vI s_, vI i, vI f] : List Value).toArray below meth c H locs (0) (0) (MQ below ((qi g (fun (u_ : (Nat → Int) × (Nat → Int) × (Nat → Int)) => (aTrp (x 0) b h o l_ s_ i f)) (fun (u_ : (Nat → Int) × (Nat → Int) × (Nat → Int)) => (kx10 x u_.1)) (fun (u_ : (Nat → Int) × (Nat → Int) × (Nat → Int)) => [[mdl q a u_.1], [((a 2), .inl (g.2 0, 6, .inl (aI h)))], [((a 3), .inl (g.2 0, 18, .inl (aI o)))], [((a 4), .inl (g.2 0, 6, .inl (aI l_)))], [((a 13), .inl (g.2 1, 3, .inr (.inl (aL u_.2.1))))], [((a 14), .inl (g.2 1, 6, .inr (.inl (aL u_.2.2))))]])) A) ([.ref q, vI s_, vI i, vI f] : List Value).toArray s 0 0 A) (F0 m 39 ls []) := by
        intro N
        induction N with
        | zero => intro k acc w H locs ls hk hac ha hm; exact absurd hm (Nat.not_lt_zero _)
        | succ N ih39 =>
          intro k acc w H locs ls hk hac ha hm hP hD hS hl
          refine lv_iload hx hb dX10_trips_39 (lv_at hl 5 rfl) ?_
          refine z_if_le (tgt := 107) hx hb (by omega) dX10_trips_41 (by decide) (fun cq11 => ?_) (fun cq11 => ?_)
          · refine lv_aload_n hx hb dX10_trips_107 rfl (lv_at hl 0 rfl) ?_
            refine z_get hx hb hts hin10_ hown hK hP 3 rfl rfl 23 (by decide) (hts _ (List.mem_of_getElem? (i := 4) rfl)) rfl dX10_trips_108 ?_
            refine z_toL (cB h o s_ i.toNat f) rfl ?_
            refine z_lconst hx hb 0 dX10_trips_111 rfl ?_
            refine z_lcmp_ne (tgt := 121) hx hb (by omega) (by decide) dX10_trips_112 dX10_trips_113 (by decide) (fun cq12 => ?_) (fun cq12 => ?_)
            · refine lv_iload hx hb dX10_trips_121 (lv_at hl 4 rfl) ?_
              exact z_reti ((uI x 10 (cB h o s_ i.toNat f)), p2_8, w2_10) [3, 1, 2, 0, 4, 5] hx hb hr rfl hlocks hK hP hD hS (by rw [aTrp_4 (by omega) (by omega) (by omega), ha, (show w = 0 by omega), trB_0]) (by first | exact kx10_r _ | exact kx10_u (kx10_r _)) rfl rfl (rfl) (Nat.le_of_ble_eq_true rfl) (Nat.le_of_ble_eq_true rfl) dX10_trips_123
            · refine z_ldc hx hb (-2000000003) hown (hts _ (List.mem_of_getElem? (i := 6) rfl)) rfl dX10_trips_116 ?_
              refine lv_goto (tgt := 123) hx hb dX10_trips_118 (by decide) ?_
              exact z_reti ((uI x 10 (cB h o s_ i.toNat f)), p2_8, w2_10) [3, 1, 2, 0, 4, 5] hx hb hr rfl hlocks hK hP hD hS ((aTrp_3 (by omega) (by omega) (by omega)).symm) (by first | exact kx10_r _ | exact kx10_u (kx10_r _)) rfl rfl (rfl) (Nat.le_of_ble_eq_true rfl) (Nat.le_of_ble_eq_true rfl) dX10_trips_123
          · have hl9 := hn7 w
            refine lv_aload_n hx hb dX10_trips_44 rfl (lv_at hl 0 rfl) ?_
            refine z_get hx hb hts hin10_ hown hK hP 3 rfl rfl 6 (by decide) (hts _ (List.mem_of_getElem? (i := 3) rfl)) rfl dX10_trips_45 ?_
            refine lv_iload hx hb dX10_trips_48 (lv_at hl 5 rfl) ?_
            refine z_iald hx hb hK hP 0 rfl w (by omega) (by omega) (by decide) dX10_trips_50 ?_
            refine z_i2l hx hb (by omega) dX10_trips_51 ?_
            refine lv_aload_n hx hb dX10_trips_52 rfl (lv_at hl 0 rfl) ?_
            refine z_get hx hb hts hin10_ hown hK hP 3 rfl rfl 23 (by decide) (hts _ (List.mem_of_getElem? (i := 4) rfl)) rfl dX10_trips_53 ?_
            refine z_toL (cB h o s_ i.toNat f) rfl ?_
            refine z_lmul hx hb ((l_ w) * (cB h o s_ i.toNat f)) rfl dX10_trips_56 ?_
            refine z_nmL (fun x_13 hx_13 => ?_)
            refine lv_lstore (lv' := [(6, vL x_13), (0, .ref q), (1, vI s_), (2, vI i), (3, vI f), (4, vI ((acc : Nat) : Int)), (5, vI ((w : Nat) : Int))]) hx hb dX10_trips_57 hl (by decide) rfl (fun ls hl => ?_)
            refine lv_iload hx hb dX10_trips_59 (lv_at hl 5 rfl) ?_
            have j92 : ∀ (H : Heap) (locs : List Loc) (ls : Array Slot), zP g [[((a 4), .inl (g.2 0, 6, .inl (aI l_)))], [((a 2), .inl (g.2 0, 6, .inl (aI h)))], [((a 3), .inl (g.2 0, 18, .inl (aI o)))], [mdl q a (uI x 10 (cB h o s_ i.toNat f))], [((a 13), .inl (g.2 1, 3, .inr (.inl (aL p2_8))))], [((a 14), .inl (g.2 1, 6, .inr (.inl (aL w2_10))))]] H → zD A [[((a 4), .inl (g.2 0, 6, .inl (aI l_)))], [((a 2), .inl (g.2 0, 6, .inl (aI h)))], [((a 3), .inl (g.2 0, 18, .inl (aI o)))], [mdl q a (uI x 10 (cB h o s_ i.toNat f))], [((a 13), .inl (g.2 1, 3, .inr (.inl (aL p2_8))))], [((a 14), .inl (g.2 1, 6, .inr (.inl (aL w2_10))))]] → va_S A s.heap H locs → lv_has ls 8 [(6, vL x_13), (0, .ref q), (1, vI s_), (2, vI i), (3, vI f), (4, vI ((acc : Nat) : Int)), (5, vI ((w : Nat) : Int))] → W p l e (zRm 2 0 0) s m ([.ref q, vI s_, vI i, vI f] : List Value).toArray below meth c H locs (0) (0) (MQ below ((qi g (fun (u_ : (Nat → Int) × (Nat → Int) × (Nat → Int)) => (aTrp (x 0) b h o l_ s_ i f)) (fun (u_ : (Nat → Int) × (Nat → Int) × (Nat → Int)) => (kx10 x u_.1)) (fun (u_ : (Nat → Int) × (Nat → Int) × (Nat → Int)) => [[mdl q a u_.1], [((a 2), .inl (g.2 0, 6, .inl (aI h)))], [((a 3), .inl (g.2 0, 18, .inl (aI o)))], [((a 4), .inl (g.2 0, 6, .inl (aI l_)))], [((a 13), .inl (g.2 1, 3, .inr (.inl (aL u_.2.1))))], [((a 14), .inl (g.2 1, 6, .inr (.inl (aL u_.2.2))))]])) A) ([.ref q, vI s_, vI i, vI f] : List Value).toArray s 0 0 A) (F0 m 92 ls [vI (((bt8 ((trI (x 0) h o l_ s_ i.toNat f) w) w) : Nat) : Int), vI ((acc : Nat) : Int)]) := by
              intro H locs ls hP hD hS hl
              refine z_orN hx hb (a := acc) (b := (bt8 ((trI (x 0) h o l_ s_ i.toNat f) w) w)) hac (bt8_lt (by omega)) dX10_trips_92 ?_
              refine lv_istore (lv' := [(4, vI (((acc ||| (bt8 ((trI (x 0) h o l_ s_ i.toNat f) w) w)) : Nat) : Int)), (6, vL x_13), (0, .ref q), (1, vI s_), (2, vI i), (3, vI f), (5, vI ((w : Nat) : Int))]) hx hb dX10_trips_93 hl (by decide) rfl (fun ls hl => ?_)
              refine lv_aload_n hx hb dX10_trips_95 rfl (lv_at hl 2 rfl) ?_
              refine z_get hx hb hts hin10_ hown hK hP 3 rfl rfl 4 (by decide) (hts _ (List.mem_of_getElem? (i := 5) rfl)) rfl dX10_trips_96 ?_
              refine lv_iload hx hb dX10_trips_99 (lv_at hl 6 rfl) ?_
              refine z_iald hx hb hK hP 1 rfl w (by omega) (by omega) (by decide) dX10_trips_101 ?_
              have hhw := hn5 w (by omega) (by omega)
              refine z_toI (((h w).toNat : Nat) : Int) (by omega) ?_
              refine lv_istore (lv' := [(5, vI (((h w).toNat : Nat) : Int)), (4, vI (((acc ||| (bt8 ((trI (x 0) h o l_ s_ i.toNat f) w) w)) : Nat) : Int)), (6, vL x_13), (0, .ref q), (1, vI s_), (2, vI i), (3, vI f)]) hx hb dX10_trips_102 hl (by decide) rfl (fun ls hl => ?_)
              refine lv_goto (tgt := 39) hx hb dX10_trips_104 (by decide) ?_
              exact ih39 (k + 1) (acc ||| (bt8 ((trI (x 0) h o l_ s_ i.toNat f) w) w)) (h w).toNat _ _ _ (by omega) (or_lt hac (bt8_lt (by omega))) (by rw [ha, trB_m (by omega) (by omega)]; congr 1) (by omega) hP hD hS (lv_sub hl [3, 4, 5, 6, 1, 0] rfl)
            refine lv_aload_n hx hb dX10_trips_61 rfl (lv_at hl 1 rfl) ?_
            refine z_get hx hb hts hin10_ hown hK hP 3 rfl rfl 6 (by decide) (hts _ (List.mem_of_getElem? (i := 3) rfl)) rfl dX10_trips_62 ?_
            refine lv_iload hx hb dX10_trips_65 (lv_at hl 6 rfl) ?_
            refine z_iald hx hb hK hP 0 rfl w (by omega) (by omega) (by decide) dX10_trips_67 ?_
            refine z_if_le (tgt := 91) hx hb (by omega) dX10_trips_68 (by decide) (fun cq14 => ?_) (fun cq14 => ?_)
            · refine z_iconst hx hb dX10_trips_91 rfl ?_
              refine z_toI (((bt8 ((trI (x 0) h o l_ s_ i.toNat f) w) w) : Nat) : Int) (by have ht9 := trI_s (v := x 0) (h := h) (o := o) (k := l_) (s := s_) (i := i.toNat) (f := f) (w := w); first | exact bt8_y (by omega) | exact bt8_n (by omega)) ?_
              exact j92 _ _ _ hP hD hS (lv_sub hl [0, 1, 2, 3, 4, 5, 6] rfl)
            · refine lv_aload_n hx hb dX10_trips_71 rfl (lv_at hl 1 rfl) ?_
              refine z_cVl (As := []) (rest := [vI ((acc : Nat) : Int)]) ⟨hx, hb, hml, hown, hts⟩ hK hP hD hS hA [3, 5] [0, 1, 2, 4] rfl rfl rfl (c_X10_greatestNorm l g q a (uI x 10 (cB h o s_ i.toNat f)) w2_10 (gn_h hwn)) (cwV 0 hts gX10_trips_X10_greatestNorm rfl rfl rfl (by decide +kernel) ⟨Nat.le_of_ble_eq_true rfl, Nat.le_of_ble_eq_true rfl⟩) 10 0 rfl rfl rfl (fun _ _ _ _ _ _ => trivial) (fun _ _ _ => trivial) rfl hl.1 (Nat.le_of_ble_eq_true rfl) rfl dX10_trips_72 ⟨Nat.le_of_ble_eq_true rfl, Nat.le_of_ble_eq_true rfl⟩ (fun u_15 H locs hwu_15 hP hD hS => ?_)
              try dsimp only at hwu_15
              have hP : zP g [[((a 4), .inl (g.2 0, 6, .inl (aI l_)))], [((a 2), .inl (g.2 0, 6, .inl (aI h)))], [((a 3), .inl (g.2 0, 18, .inl (aI o)))], [((a 13), .inl (g.2 1, 3, .inr (.inl (aL p2_8))))], [mdl q a (uI x 10 (cB h o s_ i.toNat f))], [((a 14), .inl (g.2 1, 6, .inr (.inl (aL w2_10))))]] H := hP
              have hD : zD A [[((a 4), .inl (g.2 0, 6, .inl (aI l_)))], [((a 2), .inl (g.2 0, 6, .inl (aI h)))], [((a 3), .inl (g.2 0, 18, .inl (aI o)))], [((a 13), .inl (g.2 1, 3, .inr (.inl (aL p2_8))))], [mdl q a (uI x 10 (cB h o s_ i.toNat f))], [((a 14), .inl (g.2 1, 6, .inr (.inl (aL w2_10))))]] := hD
              refine z_toL (mx9 (mx9 (mx9 0 (wN w2_10 0)) (wN w2_10 1)) (wN w2_10 2)) rfl ?_
              refine z_toL (gNm (x 0) h o s_ i.toNat f) (gn_e hwq hwn) ?_
              have hg9 := gNm_bd hN s_ (i := i.toNat) (by omega) (f := f) (by omega)
              refine lv_lload hx hb dX10_trips_75 (lv_at hl 0 rfl) ?_
              refine lv_lload hx hb dX10_trips_77 (lv_at hl 0 rfl) ?_
              refine z_lmul hx hb (x_13 * x_13) rfl dX10_trips_79 ?_
              refine z_toL (l_ w * l_ w * (cB h o s_ i.toNat f) * (cB h o s_ i.toNat f)) (by rw [hx_13]; exact sq4 _ _) ?_
              refine z_lcmp_le (tgt := 91) hx hb (by omega) (by have := exc_rng (k := l_ w) (d := (cB h o s_ i.toNat f)) hl9 hb3; omega) dX10_trips_80 dX10_trips_81 (by decide) (fun cq16 => ?_) (fun cq16 => ?_)
              · refine z_iconst hx hb dX10_trips_91 rfl ?_
                refine z_toI (((bt8 ((trI (x 0) h o l_ s_ i.toNat f) w) w) : Nat) : Int) (by have ht9 := trI_s (v := x 0) (h := h) (o := o) (k := l_) (s := s_) (i := i.toNat) (f := f) (w := w); first | exact bt8_y (by omega) | exact bt8_n (by omega)) ?_
                exact j92 _ _ _ (zP_sub hP [0, 1, 2, 4, 3, 5] rfl) (zD_sub hD [0, 1, 2, 4, 3, 5] rfl rfl) hS (lv_sub hl [0, 1, 2, 3, 4, 5, 6] rfl)
              · refine z_iconst hx hb dX10_trips_84 rfl ?_
                refine lv_iload hx hb dX10_trips_85 (lv_at hl 6 rfl) ?_
                refine z_shl1 hx hb (k := w) (by omega) dX10_trips_87 ?_
                refine lv_goto (tgt := 92) hx hb dX10_trips_88 (by decide) ?_
                refine z_toI (((bt8 ((trI (x 0) h o l_ s_ i.toNat f) w) w) : Nat) : Int) (by have ht9 := trI_s (v := x 0) (h := h) (o := o) (k := l_) (s := s_) (i := i.toNat) (f := f) (w := w); first | exact bt8_y (by omega) | exact bt8_n (by omega)) ?_
                exact j92 _ _ _ (zP_sub hP [0, 1, 2, 4, 3, 5] rfl) (zD_sub hD [0, 1, 2, 4, 3, 5] rfl rfl) hS (lv_sub hl [0, 1, 2, 3, 4, 5, 6] rfl)
      exact loop39 _ 0 0 i.toNat _ _ _ (by omega) (by decide) rfl (Nat.lt_succ_self _) hP hD hS (lv_sub hl [2, 3, 4, 5, 1, 0] rfl)
    · refine z_ldc hx hb (-2000000002) hown (hts _ (List.mem_of_getElem? (i := 2) rfl)) rfl dX10_trips_19 ?_
      exact z_reti (x, pp, wh) [5, 0, 1, 2, 3, 4] hx hb hr rfl hlocks hK hP hD hS ((aTrp_2 (by omega) (by omega)).symm) (by first | exact kx10_r _ | exact kx10_u (kx10_r _)) rfl rfl (rfl) (Nat.le_of_ble_eq_true rfl) (Nat.le_of_ble_eq_true rfl) dX10_trips_21
  · refine z_ldc hx hb (-2000000001) hown (hts _ (List.mem_of_getElem? (i := 1) rfl)) rfl dX10_trips_8 ?_
    exact z_reti (x, pp, wh) [5, 0, 1, 2, 3, 4] hx hb hr rfl hlocks hK hP hD hS ((aTrp_1 (by omega)).symm) (by first | exact kx10_r _ | exact kx10_u (kx10_r _)) rfl rfl (rfl) (Nat.le_of_ble_eq_true rfl) (Nat.le_of_ble_eq_true rfl) dX10_trips_10

set_option maxHeartbeats 4000000 in
set_option maxRecDepth 100000 in
theorem c_X10_worst (l : Launch) (g : zG) (q : Nat) (a : Nat → Nat) (x : Nat → Int) (b : Nat) (h : Nat → Int) (o : Nat → Int) (l_ : Nat → Int) (pp : Nat → Int) (wh : Nat → Int) (s_ : Int) (f : Int) (hN : nok (x 0) b h o l_) (hx1 : x 1 = (b : Int)) (hs : -2147483648 ≤ s_ ∧ s_ < 2147483648) (hf : -2147483648 ≤ f ∧ f < 2147483648) : zMet l g yX10_worst wsX10_worst 2 0 0 [.ref q, vI s_, vI f] zX0 [[mdl q a x], [((a 2), .inl (g.2 0, 6, .inl (aI h)))], [((a 3), .inl (g.2 0, 18, .inl (aI o)))], [((a 13), .inl (g.2 1, 3, .inr (.inl (aL pp))))], [((a 14), .inl (g.2 1, 6, .inr (.inl (aL wh))))]] (qi g (fun (u_ : (Nat → Int) × (Nat → Int) × (Nat → Int)) => (aWst (x 0) b h o s_ f)) (fun (u_ : (Nat → Int) × (Nat → Int) × (Nat → Int)) => (kx10 x u_.1)) (fun (u_ : (Nat → Int) × (Nat → Int) × (Nat → Int)) => [[mdl q a u_.1], [((a 2), .inl (g.2 0, 6, .inl (aI h)))], [((a 3), .inl (g.2 0, 18, .inl (aI o)))], [((a 13), .inl (g.2 1, 3, .inr (.inl (aL u_.2.1))))], [((a 14), .inl (g.2 1, 6, .inr (.inl (aL u_.2.2))))]])) := by
  obtain ⟨hn1, hn2, hn3, hn4, hn5, hn6, hn7⟩ := id hN
  refine z_ent (cc := cX10_worst) (maxL := 9) (ret := (some .int)) (by decide) rfl (Nat.le_of_ble_eq_true rfl) ?_
  intro p e s m below meth c A ls hx hb hr hml hown hts hlocks hin0 hA hK hP hD hS hXX hl
  have hown : s.vm.findClass RX10 = some m.cls := hown
  have hin10_ : ∀ w ∈ wsX100, w ∈ wsX10_worst := zw_in [38, 39, 40, 41, 42, 43, 44, 45, 46, 47, 48, 49, 50, 51, 52, 53, 54, 55, 56, 57, 58, 59, 60, 61, 62, 63] rfl
  have hl : lv_has ls 9 [(0, .ref q), (1, vI s_), (2, vI f)] := hl
  refine lv_iload_n hx hb dX10_worst_0 rfl (lv_at hl 1 rfl) ?_
  refine lv_iload_n hx hb dX10_worst_1 rfl (lv_at hl 2 rfl) ?_
  refine z_cSi (As := [vI s_, vI f]) (rest := []) ⟨hx, hb, hml, hown, hts⟩ hK hP hD hS hA [] [0, 1, 2, 3, 4] rfl rfl rfl (c_X10_isSort l g s_ f (by first | assumption | omega | decide) (by first | assumption | omega | decide)) (va_cwS 2 hts gX10_worst_X10_isSort rfl rfl rfl (by decide +kernel) ⟨Nat.le_of_ble_eq_true rfl, Nat.le_of_ble_eq_true rfl⟩) (fun _ _ _ _ _ _ => trivial) (fun _ _ _ => trivial) rfl hl.1 (Nat.le_of_ble_eq_true rfl) rfl dX10_worst_2 ⟨Nat.le_of_ble_eq_true rfl, Nat.le_of_ble_eq_true rfl⟩ (fun u_1 H locs hwu_1 hP hD hS => ?_)
  try dsimp only at hwu_1
  have hP : zP g [[mdl q a x], [((a 2), .inl (g.2 0, 6, .inl (aI h)))], [((a 3), .inl (g.2 0, 18, .inl (aI o)))], [((a 13), .inl (g.2 1, 3, .inr (.inl (aL pp))))], [((a 14), .inl (g.2 1, 6, .inr (.inl (aL wh))))]] H := hP
  have hD : zD A [[mdl q a x], [((a 2), .inl (g.2 0, 6, .inl (aI h)))], [((a 3), .inl (g.2 0, 18, .inl (aI o)))], [((a 13), .inl (g.2 1, 3, .inr (.inl (aL pp))))], [((a 14), .inl (g.2 1, 6, .inr (.inl (aL wh))))]] := hD
  refine z_toI (one ((0 ≤ s_ ∧ s_ ≤ 3) ∧ (0 ≤ f ∧ f ≤ 9))) rfl ?_
  have hf_2 := one_s ((0 ≤ s_ ∧ s_ ≤ 3) ∧ (0 ≤ f ∧ f ≤ 9))
  refine z_if_ne (tgt := 11) hx hb (by omega) dX10_worst_5 (by decide) (fun cq3 => ?_) (fun cq3 => ?_)
  · refine z_iconst hx hb dX10_worst_11 rfl ?_
    refine lv_istore_n (lv' := [(3, vI (-1)), (0, .ref q), (1, vI s_), (2, vI f)]) hx hb dX10_worst_12 rfl hl (by decide) rfl (fun ls hl => ?_)
    refine z_lconst hx hb 0 dX10_worst_13 rfl ?_
    refine lv_lstore (lv' := [(4, vL 0), (3, vI (-1)), (0, .ref q), (1, vI s_), (2, vI f)]) hx hb dX10_worst_14 hl (by decide) rfl (fun ls hl => ?_)
    refine z_lconst hx hb 1 dX10_worst_16 rfl ?_
    refine lv_lstore (lv' := [(6, vL 1), (4, vL 0), (3, vI (-1)), (0, .ref q), (1, vI s_), (2, vI f)]) hx hb dX10_worst_17 hl (by decide) rfl (fun ls hl => ?_)
    refine z_iconst hx hb dX10_worst_19 rfl ?_
    refine lv_istore (lv' := [(8, vI 0), (6, vL 1), (4, vL 0), (3, vI (-1)), (0, .ref q), (1, vI s_), (2, vI f)]) hx hb dX10_worst_20 hl (by decide) rfl (fun ls hl => ?_)
    have loop22 : ∀ (N : Nat) (k : Nat) (x0 : Int) (x1 : Int) (x3 : Int) (dd : Int) (p9 : Nat → Int) (w9 : Nat → Int) (H : Heap) (locs : List Loc) (ls : Array Slot), k ≤ b → (x0, x1, x3) = wsT (x 0) h o s_ f k → (b - k) < N → zP g [[mdl q a (uI x 10 dd)], [((a 2), .inl (g.2 0, 6, .inl (aI h)))], [((a 3), .inl (g.2 0, 18, .inl (aI o)))], [((a 13), .inl (g.2 1, 3, .inr (.inl (aL p9))))], [((a 14), .inl (g.2 1, 6, .inr (.inl (aL w9))))]] H → zD A [[mdl q a (uI x 10 dd)], [((a 2), .inl (g.2 0, 6, .inl (aI h)))], [((a 3), .inl (g.2 0, 18, .inl (aI o)))], [((a 13), .inl (g.2 1, 3, .inr (.inl (aL p9))))], [((a 14), .inl (g.2 1, 6, .inr (.inl (aL w9))))]] → va_S A s.heap H locs → lv_has ls 9 [(0, .ref q), (1, vI s_), (2, vI f), (3, vI x0), (4, vL x1), (6, vL x3), (8, vI ((k : Nat) : Int))] → W p l e (zRm 2 0 0) s m ([.ref q, vI s_, vI f] : List Value).toArray below meth c H locs (0) (0) (MQ below ((qi g (fun (u_ : (Nat → Int) × (Nat → Int) × (Nat → Int)) => (aWst (x 0) b h o s_ f)) (fun (u_ : (Nat → Int) × (Nat → Int) × (Nat → Int)) => (kx10 x u_.1)) (fun (u_ : (Nat → Int) × (Nat → Int) × (Nat → Int)) => [[mdl q a u_.1], [((a 2), .inl (g.2 0, 6, .inl (aI h)))], [((a 3), .inl (g.2 0, 18, .inl (aI o)))], [((a 13), .inl (g.2 1, 3, .inr (.inl (aL u_.2.1))))], [((a 14), .inl (g.2 1, 6, .inr (.inl (aL u_.2.2))))]])) A) ([.ref q, vI s_, vI f] : List Value).toArray s 0 0 A) (F0 m 22 ls []) := by
      intro N
      induction N with
      | zero => intro k x0 x1 x3 dd p9 w9 H locs ls hk hv hm; exact absurd hm (Nat.not_lt_zero _)
      | succ N ih22 =>
        intro k x0 x1 x3 dd p9 w9 H locs ls hk hv hm hP hD hS hl
        have hx3 := wsT_bd hN s_ (f := f) (by omega) k (by omega)
        rw [← hv] at hx3
        dsimp only at hx3
        refine lv_iload hx hb dX10_worst_22 (lv_at hl 6 rfl) ?_
        refine lv_aload_n hx hb dX10_worst_24 rfl (lv_at hl 0 rfl) ?_
        refine z_get hx hb hts hin10_ hown hK hP 0 rfl rfl 3 (by decide) (hts _ (List.mem_of_getElem? (i := 2) rfl)) rfl dX10_worst_25 ?_
        refine z_toI (x 1) rfl ?_
        refine z_icmp_ge (tgt := 106) hx hb (by omega) (by omega) dX10_worst_28 (by decide) (fun cq4 => ?_) (fun cq4 => ?_)
        · refine lv_iload_n hx hb dX10_worst_106 rfl (lv_at hl 3 rfl) ?_
          exact z_reti ((uI x 10 dd), p9, w9) [0, 1, 2, 3, 4] hx hb hr rfl hlocks hK hP hD hS (wst_e hv (by omega) (by omega)) (by first | exact kx10_r _ | exact kx10_u (kx10_r _)) rfl rfl (rfl) (Nat.le_of_ble_eq_true rfl) (Nat.le_of_ble_eq_true rfl) dX10_worst_107
        · refine lv_aload_n hx hb dX10_worst_31 rfl (lv_at hl 0 rfl) ?_
          refine lv_iload_n hx hb dX10_worst_32 rfl (lv_at hl 1 rfl) ?_
          refine lv_iload hx hb dX10_worst_33 (lv_at hl 6 rfl) ?_
          refine lv_iload_n hx hb dX10_worst_35 rfl (lv_at hl 2 rfl) ?_
          refine z_cVv (As := [vI s_, vI ((k : Nat) : Int), vI f]) (rest := []) ⟨hx, hb, hml, hown, hts⟩ hK hP hD hS hA [0, 1, 2, 3] [4] rfl rfl rfl (c_X10_layFault l g q a (uI x 10 dd) b h o l_ p9 s_ k f hN (by omega) (by omega) (by omega)) (cwV 3 hts gX10_worst_X10_layFault rfl rfl rfl (by decide +kernel) ⟨Nat.le_of_ble_eq_true rfl, Nat.le_of_ble_eq_true rfl⟩) 10 0 rfl rfl rfl (fun _ _ _ _ _ _ => trivial) (fun _ _ _ => trivial) rfl hl.1 (Nat.le_of_ble_eq_true rfl) rfl dX10_worst_36 ⟨Nat.le_of_ble_eq_true rfl, Nat.le_of_ble_eq_true rfl⟩ (fun u_5 H locs hwu_5 hP hD hS => ?_)
          obtain ⟨p2_6, rfl⟩ : ∃ z_, z_ = u_5 := ⟨_, rfl⟩
          try dsimp only at hwu_5
          have hP : zP g [[((a 14), .inl (g.2 1, 6, .inr (.inl (aL w9))))], [mdl q a (uI x 10 (cB h o s_ k f))], [((a 2), .inl (g.2 0, 6, .inl (aI h)))], [((a 3), .inl (g.2 0, 18, .inl (aI o)))], [((a 13), .inl (g.2 1, 3, .inr (.inl (aL p2_6))))]] H := hP
          have hD : zD A [[((a 14), .inl (g.2 1, 6, .inr (.inl (aL w9))))], [mdl q a (uI x 10 (cB h o s_ k f))], [((a 2), .inl (g.2 0, 6, .inl (aI h)))], [((a 3), .inl (g.2 0, 18, .inl (aI o)))], [((a 13), .inl (g.2 1, 3, .inr (.inl (aL p2_6))))]] := hD
          have hpp := hwu_5
          have hbd := cur_bd hN s_ (i := k) (by omega) (f := f) (by omega)
          have hb3 := hbd.2.2.2
          have hg9 := gNm_bd hN s_ (i := k) (by omega) (f := f) (by omega)
          have hcc := sq_bd hb3
          refine lv_aload_n hx hb dX10_worst_39 rfl (lv_at hl 0 rfl) ?_
          refine z_cVv (As := []) (rest := []) ⟨hx, hb, hml, hown, hts⟩ hK hP hD hS hA [1, 4, 0] [2, 3] rfl rfl rfl (c_X10_layPhases l g q a (uI x 10 (cB h o s_ k f)) p2_6 w9 ) (cwV 0 hts gX10_worst_X10_layPhases rfl rfl rfl (by decide +kernel) ⟨Nat.le_of_ble_eq_true rfl, Nat.le_of_ble_eq_true rfl⟩) 10 0 rfl rfl rfl (fun _ _ _ _ _ _ => trivial) (fun _ _ _ => trivial) rfl hl.1 (Nat.le_of_ble_eq_true rfl) rfl dX10_worst_40 ⟨Nat.le_of_ble_eq_true rfl, Nat.le_of_ble_eq_true rfl⟩ (fun u_7 H locs hwu_7 hP hD hS => ?_)
          obtain ⟨w2_8, rfl⟩ : ∃ z_, z_ = u_7 := ⟨_, rfl⟩
          try dsimp only at hwu_7
          have hP : zP g [[((a 2), .inl (g.2 0, 6, .inl (aI h)))], [((a 3), .inl (g.2 0, 18, .inl (aI o)))], [mdl q a (uI x 10 (cB h o s_ k f))], [((a 13), .inl (g.2 1, 3, .inr (.inl (aL p2_6))))], [((a 14), .inl (g.2 1, 6, .inr (.inl (aL w2_8))))]] H := hP
          have hD : zD A [[((a 2), .inl (g.2 0, 6, .inl (aI h)))], [((a 3), .inl (g.2 0, 18, .inl (aI o)))], [mdl q a (uI x 10 (cB h o s_ k f))], [((a 13), .inl (g.2 1, 3, .inr (.inl (aL p2_6))))], [((a 14), .inl (g.2 1, 6, .inr (.inl (aL w2_8))))]] := hD
          have hwq := wq_of hpp hwu_7
          have hwb := wq_b hwq hbd (by decide)
          have hwn := wN_b hwb
          refine lv_aload_n hx hb dX10_worst_43 rfl (lv_at hl 0 rfl) ?_
          refine z_get hx hb hts hin10_ hown hK hP 2 rfl rfl 23 (by decide) (hts _ (List.mem_of_getElem? (i := 3) rfl)) rfl dX10_worst_44 ?_
          refine z_toL (cB h o s_ k f) rfl ?_
          refine z_lconst hx hb 0 dX10_worst_47 rfl ?_
          refine z_lcmp_eq (tgt := 100) hx hb (by omega) (by decide) dX10_worst_48 dX10_worst_49 (by decide) (fun cq9 => ?_) (fun cq9 => ?_)
          · refine z_iinc hx hb (((k + 1) : Nat) : Int) (lv' := [(8, vI (((k + 1) : Nat) : Int)), (0, .ref q), (1, vI s_), (2, vI f), (3, vI x0), (4, vL x1), (6, vL x3)]) dX10_worst_100 hl (k := 6) rfl (by omega) (by decide) rfl (fun ls hl => ?_)
            refine lv_goto (tgt := 22) hx hb dX10_worst_103 (by decide) ?_
            exact ih22 (k + 1) x0 x1 x3 (cB h o s_ k f) p2_6 w2_8 _ _ _ (by omega) (by rw [wsT_n (by omega)]; exact hv) (by omega) (zP_sub hP [2, 0, 1, 3, 4] rfl) (zD_sub hD [2, 0, 1, 3, 4] rfl rfl) hS (lv_sub hl [1, 2, 3, 4, 5, 6, 0] rfl)
          · refine lv_iload_n hx hb dX10_worst_52 rfl (lv_at hl 3 rfl) ?_
            refine z_iconst hx hb dX10_worst_53 rfl ?_
            refine z_icmp_eq (tgt := 80) hx hb (by omega) (by decide) dX10_worst_54 (by decide) (fun cq10 => ?_) (fun cq10 => ?_)
            · refine lv_iload hx hb dX10_worst_80 (lv_at hl 6 rfl) ?_
              refine lv_istore_n (lv' := [(3, vI ((k : Nat) : Int)), (0, .ref q), (1, vI s_), (2, vI f), (4, vL x1), (6, vL x3), (8, vI ((k : Nat) : Int))]) hx hb dX10_worst_82 rfl hl (by decide) rfl (fun ls hl => ?_)
              refine lv_aload_n hx hb dX10_worst_83 rfl (lv_at hl 1 rfl) ?_
              refine z_cVl (As := []) (rest := []) ⟨hx, hb, hml, hown, hts⟩ hK hP hD hS hA [2, 4] [0, 1, 3] rfl rfl rfl (c_X10_greatestNorm l g q a (uI x 10 (cB h o s_ k f)) w2_8 (gn_h hwn)) (cwV 0 hts gX10_worst_X10_greatestNorm rfl rfl rfl (by decide +kernel) ⟨Nat.le_of_ble_eq_true rfl, Nat.le_of_ble_eq_true rfl⟩) 10 0 rfl rfl rfl (fun _ _ _ _ _ _ => trivial) (fun _ _ _ => trivial) rfl hl.1 (Nat.le_of_ble_eq_true rfl) rfl dX10_worst_84 ⟨Nat.le_of_ble_eq_true rfl, Nat.le_of_ble_eq_true rfl⟩ (fun u_11 H locs hwu_11 hP hD hS => ?_)
              try dsimp only at hwu_11
              have hP : zP g [[((a 2), .inl (g.2 0, 6, .inl (aI h)))], [((a 3), .inl (g.2 0, 18, .inl (aI o)))], [((a 13), .inl (g.2 1, 3, .inr (.inl (aL p2_6))))], [mdl q a (uI x 10 (cB h o s_ k f))], [((a 14), .inl (g.2 1, 6, .inr (.inl (aL w2_8))))]] H := hP
              have hD : zD A [[((a 2), .inl (g.2 0, 6, .inl (aI h)))], [((a 3), .inl (g.2 0, 18, .inl (aI o)))], [((a 13), .inl (g.2 1, 3, .inr (.inl (aL p2_6))))], [mdl q a (uI x 10 (cB h o s_ k f))], [((a 14), .inl (g.2 1, 6, .inr (.inl (aL w2_8))))]] := hD
              refine z_toL (mx9 (mx9 (mx9 0 (wN w2_8 0)) (wN w2_8 1)) (wN w2_8 2)) rfl ?_
              refine z_toL (gNm (x 0) h o s_ k f) (gn_e hwq hwn) ?_
              refine lv_lstore (lv' := [(4, vL (gNm (x 0) h o s_ k f)), (3, vI ((k : Nat) : Int)), (0, .ref q), (1, vI s_), (2, vI f), (6, vL x3), (8, vI ((k : Nat) : Int))]) hx hb dX10_worst_87 hl (by decide) rfl (fun ls hl => ?_)
              refine lv_aload_n hx hb dX10_worst_89 rfl (lv_at hl 2 rfl) ?_
              refine z_get hx hb hts hin10_ hown hK hP 3 rfl rfl 23 (by decide) (hts _ (List.mem_of_getElem? (i := 3) rfl)) rfl dX10_worst_90 ?_
              refine z_toL (cB h o s_ k f) rfl ?_
              refine lv_aload_n hx hb dX10_worst_93 rfl (lv_at hl 2 rfl) ?_
              refine z_get hx hb hts hin10_ hown hK hP 3 rfl rfl 23 (by decide) (hts _ (List.mem_of_getElem? (i := 3) rfl)) rfl dX10_worst_94 ?_
              refine z_toL (cB h o s_ k f) rfl ?_
              refine z_lmul hx hb ((cB h o s_ k f) * (cB h o s_ k f)) rfl dX10_worst_97 ?_
              refine z_toL ((cB h o s_ k f) * (cB h o s_ k f)) rfl ?_
              refine lv_lstore (lv' := [(6, vL ((cB h o s_ k f) * (cB h o s_ k f))), (4, vL (gNm (x 0) h o s_ k f)), (3, vI ((k : Nat) : Int)), (0, .ref q), (1, vI s_), (2, vI f), (8, vI ((k : Nat) : Int))]) hx hb dX10_worst_98 hl (by decide) rfl (fun ls hl => ?_)
              refine z_iinc hx hb (((k + 1) : Nat) : Int) (lv' := [(8, vI (((k + 1) : Nat) : Int)), (6, vL ((cB h o s_ k f) * (cB h o s_ k f))), (4, vL (gNm (x 0) h o s_ k f)), (3, vI ((k : Nat) : Int)), (0, .ref q), (1, vI s_), (2, vI f)]) dX10_worst_100 hl (k := 6) rfl (by omega) (by decide) rfl (fun ls hl => ?_)
              refine lv_goto (tgt := 22) hx hb dX10_worst_103 (by decide) ?_
              exact ih22 (k + 1) ((k : Nat) : Int) (gNm (x 0) h o s_ k f) ((cB h o s_ k f) * (cB h o s_ k f)) (cB h o s_ k f) p2_6 w2_8 _ _ _ (by omega) (by rw [wsT_y (by omega) (by rw [← hv]; exact Or.inl (by assumption))]) (by omega) (zP_sub hP [3, 0, 1, 2, 4] rfl) (zD_sub hD [3, 0, 1, 2, 4] rfl rfl) hS (lv_sub hl [4, 5, 6, 3, 2, 1, 0] rfl)
            · refine lv_aload_n hx hb dX10_worst_57 rfl (lv_at hl 0 rfl) ?_
              refine z_cVl (As := []) (rest := []) ⟨hx, hb, hml, hown, hts⟩ hK hP hD hS hA [2, 4] [0, 1, 3] rfl rfl rfl (c_X10_greatestNorm l g q a (uI x 10 (cB h o s_ k f)) w2_8 (gn_h hwn)) (cwV 0 hts gX10_worst_X10_greatestNorm rfl rfl rfl (by decide +kernel) ⟨Nat.le_of_ble_eq_true rfl, Nat.le_of_ble_eq_true rfl⟩) 10 0 rfl rfl rfl (fun _ _ _ _ _ _ => trivial) (fun _ _ _ => trivial) rfl hl.1 (Nat.le_of_ble_eq_true rfl) rfl dX10_worst_58 ⟨Nat.le_of_ble_eq_true rfl, Nat.le_of_ble_eq_true rfl⟩ (fun u_12 H locs hwu_12 hP hD hS => ?_)
              try dsimp only at hwu_12
              have hP : zP g [[((a 2), .inl (g.2 0, 6, .inl (aI h)))], [((a 3), .inl (g.2 0, 18, .inl (aI o)))], [((a 13), .inl (g.2 1, 3, .inr (.inl (aL p2_6))))], [mdl q a (uI x 10 (cB h o s_ k f))], [((a 14), .inl (g.2 1, 6, .inr (.inl (aL w2_8))))]] H := hP
              have hD : zD A [[((a 2), .inl (g.2 0, 6, .inl (aI h)))], [((a 3), .inl (g.2 0, 18, .inl (aI o)))], [((a 13), .inl (g.2 1, 3, .inr (.inl (aL p2_6))))], [mdl q a (uI x 10 (cB h o s_ k f))], [((a 14), .inl (g.2 1, 6, .inr (.inl (aL w2_8))))]] := hD
              refine z_toL (mx9 (mx9 (mx9 0 (wN w2_8 0)) (wN w2_8 1)) (wN w2_8 2)) rfl ?_
              refine z_toL (gNm (x 0) h o s_ k f) (gn_e hwq hwn) ?_
              refine lv_lload hx hb dX10_worst_61 (lv_at hl 5 rfl) ?_
              refine z_lmul hx hb ((gNm (x 0) h o s_ k f) * x3) rfl dX10_worst_63 ?_
              refine lv_lload hx hb dX10_worst_64 (lv_at hl 4 rfl) ?_
              refine lv_aload_n hx hb dX10_worst_66 rfl (lv_at hl 0 rfl) ?_
              refine z_get hx hb hts hin10_ hown hK hP 3 rfl rfl 23 (by decide) (hts _ (List.mem_of_getElem? (i := 3) rfl)) rfl dX10_worst_67 ?_
              refine z_toL (cB h o s_ k f) rfl ?_
              refine z_lmul hx hb (x1 * (cB h o s_ k f)) rfl dX10_worst_70 ?_
              refine lv_aload_n hx hb dX10_worst_71 rfl (lv_at hl 0 rfl) ?_
              refine z_get hx hb hts hin10_ hown hK hP 3 rfl rfl 23 (by decide) (hts _ (List.mem_of_getElem? (i := 3) rfl)) rfl dX10_worst_72 ?_
              refine z_toL (cB h o s_ k f) rfl ?_
              refine z_lmul hx hb ((x1 * (cB h o s_ k f)) * (cB h o s_ k f)) rfl dX10_worst_75 ?_
              refine z_toL (x1 * ((cB h o s_ k f) * (cB h o s_ k f))) (Int.mul_assoc _ _ _) ?_
              refine z_lcmp_le (tgt := 100) hx hb (ws_rng hg9 hx3.2.2) (ws_rng hx3.2.1 hcc) dX10_worst_76 dX10_worst_77 (by decide) (fun cq13 => ?_) (fun cq13 => ?_)
              · refine z_iinc hx hb (((k + 1) : Nat) : Int) (lv' := [(8, vI (((k + 1) : Nat) : Int)), (0, .ref q), (1, vI s_), (2, vI f), (3, vI x0), (4, vL x1), (6, vL x3)]) dX10_worst_100 hl (k := 6) rfl (by omega) (by decide) rfl (fun ls hl => ?_)
                refine lv_goto (tgt := 22) hx hb dX10_worst_103 (by decide) ?_
                exact ih22 (k + 1) x0 x1 x3 (cB h o s_ k f) p2_6 w2_8 _ _ _ (by omega) (by rw [wsT_l (by rw [← hv]; exact (by assumption)) (by rw [← hv]; dsimp only; omega)]; exact hv) (by omega) (zP_sub hP [3, 0, 1, 2, 4] rfl) (zD_sub hD [3, 0, 1, 2, 4] rfl rfl) hS (lv_sub hl [1, 2, 3, 4, 5, 6, 0] rfl)
              · refine lv_iload hx hb dX10_worst_80 (lv_at hl 6 rfl) ?_
                refine lv_istore_n (lv' := [(3, vI ((k : Nat) : Int)), (0, .ref q), (1, vI s_), (2, vI f), (4, vL x1), (6, vL x3), (8, vI ((k : Nat) : Int))]) hx hb dX10_worst_82 rfl hl (by decide) rfl (fun ls hl => ?_)
                refine lv_aload_n hx hb dX10_worst_83 rfl (lv_at hl 1 rfl) ?_
                refine z_cVl (As := []) (rest := []) ⟨hx, hb, hml, hown, hts⟩ hK hP hD hS hA [3, 4] [0, 1, 2] rfl rfl rfl (c_X10_greatestNorm l g q a (uI x 10 (cB h o s_ k f)) w2_8 (gn_h hwn)) (cwV 0 hts gX10_worst_X10_greatestNorm rfl rfl rfl (by decide +kernel) ⟨Nat.le_of_ble_eq_true rfl, Nat.le_of_ble_eq_true rfl⟩) 10 0 rfl rfl rfl (fun _ _ _ _ _ _ => trivial) (fun _ _ _ => trivial) rfl hl.1 (Nat.le_of_ble_eq_true rfl) rfl dX10_worst_84 ⟨Nat.le_of_ble_eq_true rfl, Nat.le_of_ble_eq_true rfl⟩ (fun u_14 H locs hwu_14 hP hD hS => ?_)
                try dsimp only at hwu_14
                have hP : zP g [[((a 2), .inl (g.2 0, 6, .inl (aI h)))], [((a 3), .inl (g.2 0, 18, .inl (aI o)))], [((a 13), .inl (g.2 1, 3, .inr (.inl (aL p2_6))))], [mdl q a (uI x 10 (cB h o s_ k f))], [((a 14), .inl (g.2 1, 6, .inr (.inl (aL w2_8))))]] H := hP
                have hD : zD A [[((a 2), .inl (g.2 0, 6, .inl (aI h)))], [((a 3), .inl (g.2 0, 18, .inl (aI o)))], [((a 13), .inl (g.2 1, 3, .inr (.inl (aL p2_6))))], [mdl q a (uI x 10 (cB h o s_ k f))], [((a 14), .inl (g.2 1, 6, .inr (.inl (aL w2_8))))]] := hD
                refine z_toL (mx9 (mx9 (mx9 0 (wN w2_8 0)) (wN w2_8 1)) (wN w2_8 2)) rfl ?_
                refine z_toL (gNm (x 0) h o s_ k f) (gn_e hwq hwn) ?_
                refine lv_lstore (lv' := [(4, vL (gNm (x 0) h o s_ k f)), (3, vI ((k : Nat) : Int)), (0, .ref q), (1, vI s_), (2, vI f), (6, vL x3), (8, vI ((k : Nat) : Int))]) hx hb dX10_worst_87 hl (by decide) rfl (fun ls hl => ?_)
                refine lv_aload_n hx hb dX10_worst_89 rfl (lv_at hl 2 rfl) ?_
                refine z_get hx hb hts hin10_ hown hK hP 3 rfl rfl 23 (by decide) (hts _ (List.mem_of_getElem? (i := 3) rfl)) rfl dX10_worst_90 ?_
                refine z_toL (cB h o s_ k f) rfl ?_
                refine lv_aload_n hx hb dX10_worst_93 rfl (lv_at hl 2 rfl) ?_
                refine z_get hx hb hts hin10_ hown hK hP 3 rfl rfl 23 (by decide) (hts _ (List.mem_of_getElem? (i := 3) rfl)) rfl dX10_worst_94 ?_
                refine z_toL (cB h o s_ k f) rfl ?_
                refine z_lmul hx hb ((cB h o s_ k f) * (cB h o s_ k f)) rfl dX10_worst_97 ?_
                refine z_toL ((cB h o s_ k f) * (cB h o s_ k f)) rfl ?_
                refine lv_lstore (lv' := [(6, vL ((cB h o s_ k f) * (cB h o s_ k f))), (4, vL (gNm (x 0) h o s_ k f)), (3, vI ((k : Nat) : Int)), (0, .ref q), (1, vI s_), (2, vI f), (8, vI ((k : Nat) : Int))]) hx hb dX10_worst_98 hl (by decide) rfl (fun ls hl => ?_)
                refine z_iinc hx hb (((k + 1) : Nat) : Int) (lv' := [(8, vI (((k + 1) : Nat) : Int)), (6, vL ((cB h o s_ k f) * (cB h o s_ k f))), (4, vL (gNm (x 0) h o s_ k f)), (3, vI ((k : Nat) : Int)), (0, .ref q), (1, vI s_), (2, vI f)]) dX10_worst_100 hl (k := 6) rfl (by omega) (by decide) rfl (fun ls hl => ?_)
                refine lv_goto (tgt := 22) hx hb dX10_worst_103 (by decide) ?_
                exact ih22 (k + 1) ((k : Nat) : Int) (gNm (x 0) h o s_ k f) ((cB h o s_ k f) * (cB h o s_ k f)) (cB h o s_ k f) p2_6 w2_8 _ _ _ (by omega) (by rw [wsT_y (by omega) (by rw [← hv]; exact Or.inr (by dsimp only; omega))]) (by omega) (zP_sub hP [3, 0, 1, 2, 4] rfl) (zD_sub hD [3, 0, 1, 2, 4] rfl rfl) hS (lv_sub hl [4, 5, 6, 3, 2, 1, 0] rfl)
    exact loop22 _ 0 (-1) 0 1 (x 10) pp wh _ _ _ (Nat.zero_le _) rfl (Nat.lt_succ_self _) hP hD hS (lv_sub hl [4, 5, 6, 3, 2, 1, 0] rfl)
  · refine z_ldc hx hb (-2000000002) hown (hts _ (List.mem_of_getElem? (i := 1) rfl)) rfl dX10_worst_8 ?_
    exact z_reti (x, pp, wh) [0, 1, 2, 3, 4] hx hb hr rfl hlocks hK hP hD hS (by unfold aWst; rw [if_neg (by omega)]) (by first | exact kx10_r _ | exact kx10_u (kx10_r _)) rfl rfl (rfl) (Nat.le_of_ble_eq_true rfl) (Nat.le_of_ble_eq_true rfl) dX10_worst_10

set_option maxHeartbeats 4000000 in
set_option maxRecDepth 100000 in
theorem c_X10_match (l : Launch) (g : zG) (q : Nat) (a : Nat → Nat) (x : Nat → Int) (S : RS) (b : Nat) (h : Nat → Int) (o : Nat → Int) (l_ : Nat → Int) (pp : Nat → Int) (wh : Nat → Int) (t : Nat → FO) (w : Int) (hN : nok (x 0) b h o l_) (hx1 : x 1 = (b : Int)) (hS6 : tS6 t S) (ht : ∀ k, fok (t k)) (hw : -2147483648 ≤ w ∧ w < 2147483648) : zMet l g yX10_match wsX10_match 3 0 0 [.ref q, vI w] zX0 [[mdl q a x], [((a 0), .inl (g.2 1, 88, .inr (.inl (aL S.1))))], [((a 1), .inl (g.2 1, 88, .inr (.inl (aL S.2.1))))], [((a 2), .inl (g.2 0, 6, .inl (aI h)))], [((a 3), .inl (g.2 0, 18, .inl (aI o)))], [((a 13), .inl (g.2 1, 3, .inr (.inl (aL pp))))], [((a 14), .inl (g.2 1, 6, .inr (.inl (aL wh))))]] (qi g (fun (u_ : (Nat → Int) × (Nat → Int) × (Nat → Int) × RS) => (aMat (x 0) b h o t w)) (fun (u_ : (Nat → Int) × (Nat → Int) × (Nat → Int) × RS) => (kx10 x u_.1 ∧ kp78 S u_.2.2.2)) (fun (u_ : (Nat → Int) × (Nat → Int) × (Nat → Int) × RS) => [[mdl q a u_.1], [((a 0), .inl (g.2 1, 88, .inr (.inl (aL u_.2.2.2.1))))], [((a 1), .inl (g.2 1, 88, .inr (.inl (aL u_.2.2.2.2.1))))], [((a 2), .inl (g.2 0, 6, .inl (aI h)))], [((a 3), .inl (g.2 0, 18, .inl (aI o)))], [((a 13), .inl (g.2 1, 3, .inr (.inl (aL u_.2.1))))], [((a 14), .inl (g.2 1, 6, .inr (.inl (aL u_.2.2.1))))]])) := by
  obtain ⟨hn1, hn2, hn3, hn4, hn5, hn6, hn7⟩ := id hN
  refine z_ent (cc := cX10_match) (maxL := 6) (ret := (some .int)) (by decide) rfl (Nat.le_of_ble_eq_true rfl) ?_
  intro p e s m below meth c A ls hx hb hr hml hown hts hlocks hin0 hA hK hP hD hS hXX hl
  have hown : s.vm.findClass RX10 = some m.cls := hown
  have hin10_ : ∀ w ∈ wsX100, w ∈ wsX10_match := zw_in [39, 40, 41, 42, 43, 44, 45, 46, 47, 48, 49, 50, 51, 52, 53, 54, 55, 56, 57, 58, 59, 60, 61, 62, 63, 64] rfl
  have hl : lv_has ls 6 [(0, .ref q), (1, vI w)] := hl
  refine lv_iload_n hx hb dX10_match_0 rfl (lv_at hl 1 rfl) ?_
  refine z_i2l hx hb (by omega) dX10_match_1 ?_
  refine z_lconst hx hb 0 dX10_match_2 rfl ?_
  refine z_lconst hx hb 1 dX10_match_3 rfl ?_
  refine z_cSi (As := [vL w, vL 0, vL 1]) (rest := []) ⟨hx, hb, hml, hown, hts⟩ hK hP hD hS hA [] [0, 1, 2, 3, 4, 5, 6] rfl rfl rfl (c_X10_in l g w 0 1 (by first | decide | omega) (by first | decide | omega) (by first | decide | omega)) (va_cwS 3 hts gX10_match_X10_in rfl rfl rfl (by decide +kernel) ⟨Nat.le_of_ble_eq_true rfl, Nat.le_of_ble_eq_true rfl⟩) (fun _ _ _ _ _ _ => trivial) (fun _ _ _ => trivial) rfl hl.1 (Nat.le_of_ble_eq_true rfl) rfl dX10_match_4 ⟨Nat.le_of_ble_eq_true rfl, Nat.le_of_ble_eq_true rfl⟩ (fun u_1 H locs hwu_1 hP hD hS => ?_)
  try dsimp only at hwu_1
  have hP : zP g [[mdl q a x], [((a 0), .inl (g.2 1, 88, .inr (.inl (aL S.1))))], [((a 1), .inl (g.2 1, 88, .inr (.inl (aL S.2.1))))], [((a 2), .inl (g.2 0, 6, .inl (aI h)))], [((a 3), .inl (g.2 0, 18, .inl (aI o)))], [((a 13), .inl (g.2 1, 3, .inr (.inl (aL pp))))], [((a 14), .inl (g.2 1, 6, .inr (.inl (aL wh))))]] H := hP
  have hD : zD A [[mdl q a x], [((a 0), .inl (g.2 1, 88, .inr (.inl (aL S.1))))], [((a 1), .inl (g.2 1, 88, .inr (.inl (aL S.2.1))))], [((a 2), .inl (g.2 0, 6, .inl (aI h)))], [((a 3), .inl (g.2 0, 18, .inl (aI o)))], [((a 13), .inl (g.2 1, 3, .inr (.inl (aL pp))))], [((a 14), .inl (g.2 1, 6, .inr (.inl (aL wh))))]] := hD
  refine z_toI (inI w 0 1) rfl ?_
  have hf_2 := inI_s w 0 1
  refine z_if_ne (tgt := 13) hx hb (by omega) dX10_match_7 (by decide) (fun cq3 => ?_) (fun cq3 => ?_)
  · refine z_iconst hx hb dX10_match_13 rfl ?_
    refine lv_istore_n (lv' := [(2, vI 0), (0, .ref q), (1, vI w)]) hx hb dX10_match_14 rfl hl (by decide) rfl (fun ls hl => ?_)
    refine z_iconst hx hb dX10_match_15 rfl ?_
    refine lv_istore_n (lv' := [(3, vI (-1)), (2, vI 0), (0, .ref q), (1, vI w)]) hx hb dX10_match_16 rfl hl (by decide) rfl (fun ls hl => ?_)
    refine z_iconst hx hb dX10_match_17 rfl ?_
    refine lv_istore (lv' := [(4, vI 0), (3, vI (-1)), (2, vI 0), (0, .ref q), (1, vI w)]) hx hb dX10_match_18 hl (by decide) rfl (fun ls hl => ?_)
    have loop20 : ∀ (N : Nat) (ks : Nat) (c1 : Int) (e1 : Int) (d1 : Int) (p1 : Nat → Int) (v1 : Nat → Int) (T1 : RS) (H : Heap) (locs : List Loc) (ls : Array Slot), ks ≤ 4 → (c1, e1) = mK (x 0) b h o t ks → (0 ≤ c1 ∧ c1 ≤ 60 * (ks : Int)) ∧ (-1 ≤ e1 ∧ e1 ≤ 99999) ∧ (c1 = 0 → e1 = -1) ∧ (e1 = -1 → c1 = 0) → kp78 S T1 → (4 - ks) < N → zP g [[mdl q a (uI x 10 d1)], [((a 0), .inl (g.2 1, 88, .inr (.inl (aL T1.1))))], [((a 1), .inl (g.2 1, 88, .inr (.inl (aL T1.2.1))))], [((a 2), .inl (g.2 0, 6, .inl (aI h)))], [((a 3), .inl (g.2 0, 18, .inl (aI o)))], [((a 13), .inl (g.2 1, 3, .inr (.inl (aL p1))))], [((a 14), .inl (g.2 1, 6, .inr (.inl (aL v1))))]] H → zD A [[mdl q a (uI x 10 d1)], [((a 0), .inl (g.2 1, 88, .inr (.inl (aL T1.1))))], [((a 1), .inl (g.2 1, 88, .inr (.inl (aL T1.2.1))))], [((a 2), .inl (g.2 0, 6, .inl (aI h)))], [((a 3), .inl (g.2 0, 18, .inl (aI o)))], [((a 13), .inl (g.2 1, 3, .inr (.inl (aL p1))))], [((a 14), .inl (g.2 1, 6, .inr (.inl (aL v1))))]] → va_S A s.heap H locs → lv_has ls 6 [(0, .ref q), (1, vI w), (2, vI c1), (3, vI e1), (4, vI ((ks : Nat) : Int))] → W p l e (zRm 3 0 0) s m ([.ref q, vI w] : List Value).toArray below meth c H locs (0) (0) (MQ below ((qi g (fun (u_ : (Nat → Int) × (Nat → Int) × (Nat → Int) × RS) => (aMat (x 0) b h o t w)) (fun (u_ : (Nat → Int) × (Nat → Int) × (Nat → Int) × RS) => (kx10 x u_.1 ∧ kp78 S u_.2.2.2)) (fun (u_ : (Nat → Int) × (Nat → Int) × (Nat → Int) × RS) => [[mdl q a u_.1], [((a 0), .inl (g.2 1, 88, .inr (.inl (aL u_.2.2.2.1))))], [((a 1), .inl (g.2 1, 88, .inr (.inl (aL u_.2.2.2.2.1))))], [((a 2), .inl (g.2 0, 6, .inl (aI h)))], [((a 3), .inl (g.2 0, 18, .inl (aI o)))], [((a 13), .inl (g.2 1, 3, .inr (.inl (aL u_.2.1))))], [((a 14), .inl (g.2 1, 6, .inr (.inl (aL u_.2.2.1))))]])) A) ([.ref q, vI w] : List Value).toArray s 0 0 A) (F0 m 20 ls []) := by
      intro N
      induction N with
      | zero => intro ks c1 e1 d1 p1 v1 T1 H locs ls hk1 hv1 hc1 hT1 hm; exact absurd hm (Nat.not_lt_zero _)
      | succ N ih20 =>
        intro ks c1 e1 d1 p1 v1 T1 H locs ls hk1 hv1 hc1 hT1 hm hP hD hS hl
        refine lv_iload hx hb dX10_match_20 (lv_at hl 4 rfl) ?_
        refine z_iconst hx hb dX10_match_22 rfl ?_
        refine z_icmp_ge (tgt := 113) hx hb (by omega) (by decide) dX10_match_23 (by decide) (fun cq4 => ?_) (fun cq4 => ?_)
        · have j122 : W p l e (zRm 3 0 0) s m ([.ref q, vI w] : List Value).toArray below meth c H locs (0) (0) (MQ below ((qi g (fun (u_ : (Nat → Int) × (Nat → Int) × (Nat → Int) × RS) => (aMat (x 0) b h o t w)) (fun (u_ : (Nat → Int) × (Nat → Int) × (Nat → Int) × RS) => (kx10 x u_.1 ∧ kp78 S u_.2.2.2)) (fun (u_ : (Nat → Int) × (Nat → Int) × (Nat → Int) × RS) => [[mdl q a u_.1], [((a 0), .inl (g.2 1, 88, .inr (.inl (aL u_.2.2.2.1))))], [((a 1), .inl (g.2 1, 88, .inr (.inl (aL u_.2.2.2.2.1))))], [((a 2), .inl (g.2 0, 6, .inl (aI h)))], [((a 3), .inl (g.2 0, 18, .inl (aI o)))], [((a 13), .inl (g.2 1, 3, .inr (.inl (aL u_.2.1))))], [((a 14), .inl (g.2 1, 6, .inr (.inl (aL u_.2.2.1))))]])) A) ([.ref q, vI w] : List Value).toArray s 0 0 A) (F0 m 122 ls [vI (if w = 0 then c1 else e1)]) := by
            exact z_reti ((uI x 10 d1), p1, v1, T1) [0, 1, 2, 3, 4, 5, 6] hx hb hr rfl hlocks hK hP hD hS (mat_e hv1 (by omega) (by omega)) ⟨kx10_u (kx10_r _), hT1⟩ rfl rfl (rfl) (Nat.le_of_ble_eq_true rfl) (Nat.le_of_ble_eq_true rfl) dX10_match_122
          refine lv_iload_n hx hb dX10_match_113 rfl (lv_at hl 1 rfl) ?_
          refine z_if_ne (tgt := 121) hx hb (by omega) dX10_match_114 (by decide) (fun cq5 => ?_) (fun cq5 => ?_)
          · refine lv_iload_n hx hb dX10_match_121 rfl (lv_at hl 3 rfl) ?_
            refine z_toI (if w = 0 then c1 else e1) (by split <;> omega) ?_
            exact j122
          · refine lv_iload_n hx hb dX10_match_117 rfl (lv_at hl 2 rfl) ?_
            refine lv_goto (tgt := 122) hx hb dX10_match_118 (by decide) ?_
            refine z_toI (if w = 0 then c1 else e1) (by split <;> omega) ?_
            exact j122
        · refine z_iconst hx hb dX10_match_26 rfl ?_
          refine lv_istore (lv' := [(5, vI 0), (0, .ref q), (1, vI w), (2, vI c1), (3, vI e1), (4, vI ((ks : Nat) : Int))]) hx hb dX10_match_27 hl (by decide) rfl (fun ls hl => ?_)
          have loop29 : ∀ (N : Nat) (k : Nat) (c2 : Int) (e2 : Int) (d2 : Int) (p3 : Nat → Int) (v2 : Nat → Int) (T2 : RS) (H : Heap) (locs : List Loc) (ls : Array Slot), k ≤ 10 * b → (c2, e2) = mF (x 0) h o t ks (mK (x 0) b h o t ks) k → (0 ≤ c2 ∧ c2 ≤ 60 * (ks : Int) + (k : Int)) ∧ (-1 ≤ e2 ∧ e2 ≤ 99999) ∧ (c2 = 0 → e2 = -1) ∧ (e2 = -1 → c2 = 0) → kp78 S T2 → (10 * b - k) < N → zP g [[mdl q a (uI x 10 d2)], [((a 0), .inl (g.2 1, 88, .inr (.inl (aL T2.1))))], [((a 1), .inl (g.2 1, 88, .inr (.inl (aL T2.2.1))))], [((a 2), .inl (g.2 0, 6, .inl (aI h)))], [((a 3), .inl (g.2 0, 18, .inl (aI o)))], [((a 13), .inl (g.2 1, 3, .inr (.inl (aL p3))))], [((a 14), .inl (g.2 1, 6, .inr (.inl (aL v2))))]] H → zD A [[mdl q a (uI x 10 d2)], [((a 0), .inl (g.2 1, 88, .inr (.inl (aL T2.1))))], [((a 1), .inl (g.2 1, 88, .inr (.inl (aL T2.2.1))))], [((a 2), .inl (g.2 0, 6, .inl (aI h)))], [((a 3), .inl (g.2 0, 18, .inl (aI o)))], [((a 13), .inl (g.2 1, 3, .inr (.inl (aL p3))))], [((a 14), .inl (g.2 1, 6, .inr (.inl (aL v2))))]] → va_S A s.heap H locs → lv_has ls 6 [(0, .ref q), (1, vI w), (4, vI ((ks : Nat) : Int)), (2, vI c2), (3, vI e2), (5, vI ((k : Nat) : Int))] → W p l e (zRm 3 0 0) s m ([.ref q, vI w] : List Value).toArray below meth c H locs (0) (0) (MQ below ((qi g (fun (u_ : (Nat → Int) × (Nat → Int) × (Nat → Int) × RS) => (aMat (x 0) b h o t w)) (fun (u_ : (Nat → Int) × (Nat → Int) × (Nat → Int) × RS) => (kx10 x u_.1 ∧ kp78 S u_.2.2.2)) (fun (u_ : (Nat → Int) × (Nat → Int) × (Nat → Int) × RS) => [[mdl q a u_.1], [((a 0), .inl (g.2 1, 88, .inr (.inl (aL u_.2.2.2.1))))], [((a 1), .inl (g.2 1, 88, .inr (.inl (aL u_.2.2.2.2.1))))], [((a 2), .inl (g.2 0, 6, .inl (aI h)))], [((a 3), .inl (g.2 0, 18, .inl (aI o)))], [((a 13), .inl (g.2 1, 3, .inr (.inl (aL u_.2.1))))], [((a 14), .inl (g.2 1, 6, .inr (.inl (aL u_.2.2.1))))]])) A) ([.ref q, vI w] : List Value).toArray s 0 0 A) (F0 m 29 ls []) := by
            intro N
            induction N with
            | zero => intro k c2 e2 d2 p3 v2 T2 H locs ls hk2 hv2 hc2 hT2 hm; exact absurd hm (Nat.not_lt_zero _)
            | succ N ih29 =>
              intro k c2 e2 d2 p3 v2 T2 H locs ls hk2 hv2 hc2 hT2 hm hP hD hS hl
              refine lv_iload hx hb dX10_match_29 (lv_at hl 5 rfl) ?_
              refine z_bipush hx hb 10 dX10_match_31 rfl ?_
              refine lv_aload_n hx hb dX10_match_33 rfl (lv_at hl 0 rfl) ?_
              refine z_get hx hb hts hin10_ hown hK hP 0 rfl rfl 3 (by decide) (hts _ (List.mem_of_getElem? (i := 2) rfl)) rfl dX10_match_34 ?_
              refine z_toI (x 1) rfl ?_
              refine z_imul hx hb (10 * (x 1)) rfl dX10_match_37 ?_
              refine z_icmp_ge (tgt := 107) hx hb (by omega) (by omega) dX10_match_38 (by decide) (fun cq6 => ?_) (fun cq6 => ?_)
              · refine z_iinc hx hb (((ks + 1) : Nat) : Int) (lv' := [(4, vI (((ks + 1) : Nat) : Int)), (0, .ref q), (1, vI w), (2, vI c2), (3, vI e2), (5, vI ((k : Nat) : Int))]) dX10_match_107 hl (k := 2) rfl (by omega) (by decide) rfl (fun ls hl => ?_)
                refine lv_goto (tgt := 20) hx hb dX10_match_110 (by decide) ?_
                exact ih20 (ks + 1) c2 e2 d2 p3 v2 T2 _ _ _ (by omega) (mF_e hv2 (by omega)) (by omega) hT2 (by omega) hP hD hS (lv_sub hl [1, 2, 3, 4, 0] rfl)
              · refine lv_aload_n hx hb dX10_match_41 rfl (lv_at hl 0 rfl) ?_
                refine lv_iload hx hb dX10_match_42 (lv_at hl 2 rfl) ?_
                refine lv_iload hx hb dX10_match_44 (lv_at hl 5 rfl) ?_
                refine z_bipush hx hb 10 dX10_match_46 rfl ?_
                refine z_idiv hx hb (((k : Nat) : Int) / 10) (by omega) (by decide) rfl dX10_match_48 ?_
                refine z_toI (((k / 10) : Nat) : Int) (by omega) ?_
                refine lv_iload hx hb dX10_match_49 (lv_at hl 5 rfl) ?_
                refine z_bipush hx hb 10 dX10_match_51 rfl ?_
                refine z_irem hx hb (((k : Nat) : Int) % 10) (by omega) (by decide) rfl dX10_match_53 ?_
                refine z_toI (((k % 10) : Nat) : Int) (by omega) ?_
                refine z_cVv (As := [vI ((ks : Nat) : Int), vI (((k / 10) : Nat) : Int), vI (((k % 10) : Nat) : Int)]) (rest := []) ⟨hx, hb, hml, hown, hts⟩ hK hP hD hS hA [0, 3, 4, 5] [1, 2, 6] rfl rfl rfl (c_X10_layFault l g q a (uI x 10 d2) b h o l_ p3 ((ks : Nat) : Int) (k / 10) (((k % 10) : Nat) : Int) hN (by omega) (by omega) (by omega)) (cwV 3 hts gX10_match_X10_layFault rfl rfl rfl (by decide +kernel) ⟨Nat.le_of_ble_eq_true rfl, Nat.le_of_ble_eq_true rfl⟩) 10 0 rfl rfl rfl (fun _ _ _ _ _ _ => trivial) (fun _ _ _ => trivial) rfl hl.1 (Nat.le_of_ble_eq_true rfl) rfl dX10_match_54 ⟨Nat.le_of_ble_eq_true rfl, Nat.le_of_ble_eq_true rfl⟩ (fun u_7 H locs hwu_7 hP hD hS => ?_)
                obtain ⟨p2_8, rfl⟩ : ∃ z_, z_ = u_7 := ⟨_, rfl⟩
                try dsimp only at hwu_7
                have hP : zP g [[((a 0), .inl (g.2 1, 88, .inr (.inl (aL T2.1))))], [((a 1), .inl (g.2 1, 88, .inr (.inl (aL T2.2.1))))], [((a 14), .inl (g.2 1, 6, .inr (.inl (aL v2))))], [mdl q a (uI x 10 (cB h o ((ks : Nat) : Int) (k / 10) (((k % 10) : Nat) : Int)))], [((a 2), .inl (g.2 0, 6, .inl (aI h)))], [((a 3), .inl (g.2 0, 18, .inl (aI o)))], [((a 13), .inl (g.2 1, 3, .inr (.inl (aL p2_8))))]] H := hP
                have hD : zD A [[((a 0), .inl (g.2 1, 88, .inr (.inl (aL T2.1))))], [((a 1), .inl (g.2 1, 88, .inr (.inl (aL T2.2.1))))], [((a 14), .inl (g.2 1, 6, .inr (.inl (aL v2))))], [mdl q a (uI x 10 (cB h o ((ks : Nat) : Int) (k / 10) (((k % 10) : Nat) : Int)))], [((a 2), .inl (g.2 0, 6, .inl (aI h)))], [((a 3), .inl (g.2 0, 18, .inl (aI o)))], [((a 13), .inl (g.2 1, 3, .inr (.inl (aL p2_8))))]] := hD
                have hpp := hwu_7
                have hbd := cur_bd hN (ks : Int) (i := (k / 10)) (by omega) (f := ((k % 10) : Nat)) (by omega)
                have hb3 := hbd.2.2.2
                refine lv_aload_n hx hb dX10_match_57 rfl (lv_at hl 0 rfl) ?_
                refine z_cVv (As := []) (rest := []) ⟨hx, hb, hml, hown, hts⟩ hK hP hD hS hA [3, 6, 2] [0, 1, 4, 5] rfl rfl rfl (c_X10_layPhases l g q a (uI x 10 (cB h o ((ks : Nat) : Int) (k / 10) (((k % 10) : Nat) : Int))) p2_8 v2 ) (cwV 0 hts gX10_match_X10_layPhases rfl rfl rfl (by decide +kernel) ⟨Nat.le_of_ble_eq_true rfl, Nat.le_of_ble_eq_true rfl⟩) 10 0 rfl rfl rfl (fun _ _ _ _ _ _ => trivial) (fun _ _ _ => trivial) rfl hl.1 (Nat.le_of_ble_eq_true rfl) rfl dX10_match_58 ⟨Nat.le_of_ble_eq_true rfl, Nat.le_of_ble_eq_true rfl⟩ (fun u_9 H locs hwu_9 hP hD hS => ?_)
                obtain ⟨w2_10, rfl⟩ : ∃ z_, z_ = u_9 := ⟨_, rfl⟩
                try dsimp only at hwu_9
                have hP : zP g [[((a 0), .inl (g.2 1, 88, .inr (.inl (aL T2.1))))], [((a 1), .inl (g.2 1, 88, .inr (.inl (aL T2.2.1))))], [((a 2), .inl (g.2 0, 6, .inl (aI h)))], [((a 3), .inl (g.2 0, 18, .inl (aI o)))], [mdl q a (uI x 10 (cB h o ((ks : Nat) : Int) (k / 10) (((k % 10) : Nat) : Int)))], [((a 13), .inl (g.2 1, 3, .inr (.inl (aL p2_8))))], [((a 14), .inl (g.2 1, 6, .inr (.inl (aL w2_10))))]] H := hP
                have hD : zD A [[((a 0), .inl (g.2 1, 88, .inr (.inl (aL T2.1))))], [((a 1), .inl (g.2 1, 88, .inr (.inl (aL T2.2.1))))], [((a 2), .inl (g.2 0, 6, .inl (aI h)))], [((a 3), .inl (g.2 0, 18, .inl (aI o)))], [mdl q a (uI x 10 (cB h o ((ks : Nat) : Int) (k / 10) (((k % 10) : Nat) : Int)))], [((a 13), .inl (g.2 1, 3, .inr (.inl (aL p2_8))))], [((a 14), .inl (g.2 1, 6, .inr (.inl (aL w2_10))))]] := hD
                have hwq := wq_of hpp hwu_9
                have hwb := wq_b hwq hbd (by decide)
                have hwn := wN_b hwb
                refine lv_aload_n hx hb dX10_match_61 rfl (lv_at hl 0 rfl) ?_
                refine z_cVi (As := []) (rest := []) ⟨hx, hb, hml, hown, hts⟩ hK hP hD hS hA [4, 0, 1, 6] [2, 3, 5] rfl rfl rfl (c_X10_isAsPhases l g q a (uI x 10 (cB h o ((ks : Nat) : Int) (k / 10) (((k % 10) : Nat) : Int))) T2 w2_10 hb3 hwb (tS6_rk (tS6_k hS6 hT2) ht)) (cwV 0 hts gX10_match_X10_isAsPhases rfl rfl rfl (by decide +kernel) ⟨Nat.le_of_ble_eq_true rfl, Nat.le_of_ble_eq_true rfl⟩) 10 0 rfl rfl rfl (fun _ _ _ _ _ _ => trivial) (fun _ _ _ => trivial) rfl hl.1 (Nat.le_of_ble_eq_true rfl) rfl dX10_match_62 ⟨Nat.le_of_ble_eq_true rfl, Nat.le_of_ble_eq_true rfl⟩ (fun u_11 H locs hwu_11 hP hD hS => ?_)
                obtain ⟨y_12, rfl⟩ : ∃ z_, z_ = u_11 := ⟨_, rfl⟩
                try dsimp only at hwu_11
                have hP : zP g [[((a 2), .inl (g.2 0, 6, .inl (aI h)))], [((a 3), .inl (g.2 0, 18, .inl (aI o)))], [((a 13), .inl (g.2 1, 3, .inr (.inl (aL p2_8))))], [mdl q a (uI x 10 (cB h o ((ks : Nat) : Int) (k / 10) (((k % 10) : Nat) : Int)))], [((a 0), .inl (g.2 1, 88, .inr (.inl (aL y_12.1))))], [((a 1), .inl (g.2 1, 88, .inr (.inl (aL y_12.2.1))))], [((a 14), .inl (g.2 1, 6, .inr (.inl (aL w2_10))))]] H := hP
                have hD : zD A [[((a 2), .inl (g.2 0, 6, .inl (aI h)))], [((a 3), .inl (g.2 0, 18, .inl (aI o)))], [((a 13), .inl (g.2 1, 3, .inr (.inl (aL p2_8))))], [mdl q a (uI x 10 (cB h o ((ks : Nat) : Int) (k / 10) (((k % 10) : Nat) : Int)))], [((a 0), .inl (g.2 1, 88, .inr (.inl (aL y_12.1))))], [((a 1), .inl (g.2 1, 88, .inr (.inl (aL y_12.2.1))))], [((a 14), .inl (g.2 1, 6, .inr (.inl (aL w2_10))))]] := hD
                refine z_toI (mEqN T2 w2_10 ((uI x 10 (cB h o ((ks : Nat) : Int) (k / 10) (((k % 10) : Nat) : Int))) 10) 6) rfl ?_
                have hf_13 := mEqN_01 T2 w2_10 ((uI x 10 (cB h o ((ks : Nat) : Int) (k / 10) (((k % 10) : Nat) : Int))) 10) 6
                refine z_toI (mHit (x 0) h o t ks (k / 10) (k % 10)) (mHit_e (tS6_k hS6 hT2) ht hwq hb3.1) ?_
                have hh01 := mHit_01 (x 0) h o t ks (k / 10) (k % 10)
                refine z_if_eq (tgt := 101) hx hb (by omega) dX10_match_65 (by decide) (fun cq14 => ?_) (fun cq14 => ?_)
                · refine z_iinc hx hb (((k + 1) : Nat) : Int) (lv' := [(5, vI (((k + 1) : Nat) : Int)), (0, .ref q), (1, vI w), (4, vI ((ks : Nat) : Int)), (2, vI c2), (3, vI e2)]) dX10_match_101 hl (k := 5) rfl (by omega) (by decide) rfl (fun ls hl => ?_)
                  refine lv_goto (tgt := 29) hx hb dX10_match_104 (by decide) ?_
                  exact ih29 (k + 1) c2 e2 (cB h o ((ks : Nat) : Int) (k / 10) (((k % 10) : Nat) : Int)) p2_8 w2_10 y_12 _ _ _ (by omega) (mF_n hv2 (by omega)) (by omega) (kp78_t hT2 hwu_11) (by omega) (zP_sub hP [3, 4, 5, 0, 1, 2, 6] rfl) (zD_sub hD [3, 4, 5, 0, 1, 2, 6] rfl rfl) hS (lv_sub hl [1, 2, 3, 4, 5, 0] rfl)
                · have j97 : W p l e (zRm 3 0 0) s m ([.ref q, vI w] : List Value).toArray below meth c H locs (0) (0) (MQ below ((qi g (fun (u_ : (Nat → Int) × (Nat → Int) × (Nat → Int) × RS) => (aMat (x 0) b h o t w)) (fun (u_ : (Nat → Int) × (Nat → Int) × (Nat → Int) × RS) => (kx10 x u_.1 ∧ kp78 S u_.2.2.2)) (fun (u_ : (Nat → Int) × (Nat → Int) × (Nat → Int) × RS) => [[mdl q a u_.1], [((a 0), .inl (g.2 1, 88, .inr (.inl (aL u_.2.2.2.1))))], [((a 1), .inl (g.2 1, 88, .inr (.inl (aL u_.2.2.2.2.1))))], [((a 2), .inl (g.2 0, 6, .inl (aI h)))], [((a 3), .inl (g.2 0, 18, .inl (aI o)))], [((a 13), .inl (g.2 1, 3, .inr (.inl (aL u_.2.1))))], [((a 14), .inl (g.2 1, 6, .inr (.inl (aL u_.2.2.1))))]])) A) ([.ref q, vI w] : List Value).toArray s 0 0 A) (F0 m 97 ls [vI (if e2 = -1 then 10000 * (ks : Int) + 100 * (((k / 10) : Nat) : Int) + (((k % 10) : Nat) : Int) else e2)]) := by
                    refine lv_istore_n (lv' := [(3, vI (if e2 = -1 then 10000 * (ks : Int) + 100 * (((k / 10) : Nat) : Int) + (((k % 10) : Nat) : Int) else e2)), (0, .ref q), (1, vI w), (4, vI ((ks : Nat) : Int)), (2, vI c2), (5, vI ((k : Nat) : Int))]) hx hb dX10_match_97 rfl hl (by decide) rfl (fun ls hl => ?_)
                    obtain ⟨x_15, hx_15⟩ : ∃ y : Int, y = (c2 + 1) := ⟨_, rfl⟩
                    refine z_iinc hx hb x_15 (lv' := [(2, vI x_15), (3, vI (if e2 = -1 then 10000 * (ks : Int) + 100 * (((k / 10) : Nat) : Int) + (((k % 10) : Nat) : Int) else e2)), (0, .ref q), (1, vI w), (4, vI ((ks : Nat) : Int)), (5, vI ((k : Nat) : Int))]) dX10_match_98 hl (k := 4) rfl (hx_15.symm) (by decide) rfl (fun ls hl => ?_)
                    refine z_iinc hx hb (((k + 1) : Nat) : Int) (lv' := [(5, vI (((k + 1) : Nat) : Int)), (2, vI x_15), (3, vI (if e2 = -1 then 10000 * (ks : Int) + 100 * (((k / 10) : Nat) : Int) + (((k % 10) : Nat) : Int) else e2)), (0, .ref q), (1, vI w), (4, vI ((ks : Nat) : Int))]) dX10_match_101 hl (k := 5) rfl (by omega) (by decide) rfl (fun ls hl => ?_)
                    refine lv_goto (tgt := 29) hx hb dX10_match_104 (by decide) ?_
                    exact ih29 (k + 1) x_15 (if e2 = -1 then 10000 * (ks : Int) + 100 * (((k / 10) : Nat) : Int) + (((k % 10) : Nat) : Int) else e2) (cB h o ((ks : Nat) : Int) (k / 10) (((k % 10) : Nat) : Int)) p2_8 w2_10 y_12 _ _ _ (by omega) (by rw [hx_15]; exact mF_y hv2 (by omega)) (by split <;> omega) (kp78_t hT2 hwu_11) (by omega) (zP_sub hP [3, 4, 5, 0, 1, 2, 6] rfl) (zD_sub hD [3, 4, 5, 0, 1, 2, 6] rfl rfl) hS (lv_sub hl [3, 4, 5, 1, 2, 0] rfl)
                  refine lv_iload_n hx hb dX10_match_68 rfl (lv_at hl 3 rfl) ?_
                  refine z_if_ne (tgt := 96) hx hb (by omega) dX10_match_69 (by decide) (fun cq16 => ?_) (fun cq16 => ?_)
                  · refine lv_iload_n hx hb dX10_match_96 rfl (lv_at hl 4 rfl) ?_
                    refine z_toI (if e2 = -1 then 10000 * (ks : Int) + 100 * (((k / 10) : Nat) : Int) + (((k % 10) : Nat) : Int) else e2) (by first | (rw [if_pos (by omega)]; done) | (rw [if_pos (by omega)]; omega) | rw [if_neg (by omega)]) ?_
                    exact j97
                  · refine z_sipush hx hb 10000 dX10_match_72 rfl ?_
                    refine lv_iload hx hb dX10_match_75 (lv_at hl 2 rfl) ?_
                    refine z_imul hx hb (((10000 * ks) : Nat) : Int) (by omega) dX10_match_77 ?_
                    refine z_bipush hx hb 100 dX10_match_78 rfl ?_
                    refine lv_iload hx hb dX10_match_80 (lv_at hl 5 rfl) ?_
                    refine z_bipush hx hb 10 dX10_match_82 rfl ?_
                    refine z_idiv hx hb (((k : Nat) : Int) / 10) (by omega) (by decide) rfl dX10_match_84 ?_
                    refine z_toI (((k / 10) : Nat) : Int) (by omega) ?_
                    refine z_imul hx hb (((100 * (k / 10)) : Nat) : Int) (by omega) dX10_match_85 ?_
                    refine z_iadd hx hb ((((10000 * ks) + (100 * (k / 10))) : Nat) : Int) (by omega) dX10_match_86 ?_
                    refine lv_iload hx hb dX10_match_87 (lv_at hl 5 rfl) ?_
                    refine z_bipush hx hb 10 dX10_match_89 rfl ?_
                    refine z_irem hx hb (((k : Nat) : Int) % 10) (by omega) (by decide) rfl dX10_match_91 ?_
                    refine z_toI (((k % 10) : Nat) : Int) (by omega) ?_
                    refine z_iadd hx hb (((((10000 * ks) + (100 * (k / 10))) + (k % 10)) : Nat) : Int) (by omega) dX10_match_92 ?_
                    refine lv_goto (tgt := 97) hx hb dX10_match_93 (by decide) ?_
                    refine z_toI (if e2 = -1 then 10000 * (ks : Int) + 100 * (((k / 10) : Nat) : Int) + (((k % 10) : Nat) : Int) else e2) (by first | (rw [if_pos (by omega)]; done) | (rw [if_pos (by omega)]; omega) | rw [if_neg (by omega)]) ?_
                    exact j97
          exact loop29 _ 0 c1 e1 d1 p1 v1 T1 _ _ _ (Nat.zero_le _) hv1 (by omega) hT1 (Nat.lt_succ_self _) hP hD hS (lv_sub hl [1, 2, 5, 3, 4, 0] rfl)
    exact loop20 _ 0 0 (-1) (x 10) pp wh S _ _ _ (Nat.zero_le _) rfl (by omega) (kp78_r S) (Nat.lt_succ_self _) hP hD hS (lv_sub hl [3, 4, 2, 1, 0] rfl)
  · refine z_ldc hx hb (-2000000002) hown (hts _ (List.mem_of_getElem? (i := 1) rfl)) rfl dX10_match_10 ?_
    exact z_reti (x, pp, wh, S) [0, 1, 2, 3, 4, 5, 6] hx hb hr rfl hlocks hK hP hD hS (by unfold aMat; rw [if_neg (by omega)]) (by first | exact ⟨kx10_r _, kp78_r _⟩ | exact ⟨kx10_u (kx10_r _), kp78_r _⟩ | exact ⟨kx10_u (kx10_r _), kp78_l (kp78_r _)⟩) rfl rfl (rfl) (Nat.le_of_ble_eq_true rfl) (Nat.le_of_ble_eq_true rfl) dX10_match_12
