set_option maxHeartbeats 4000000 in
set_option maxRecDepth 100000 in
theorem c_X10_fault (l : Launch) (g : zG) (q : Nat) (a : Nat → Nat) (x : Nat → Int) (f : Nat → Int) (n : Nat) (wd : Nat → Int) (m : Nat → Int) (b : Nat) (X0 : NT5) (hx3 : x 3 = (n : Int)) (hn : n ≤ 200) (hf : ∀ i, 0 ≤ f i ∧ f i ≤ 255) (hwd : ∀ k, k < 24 → wd k = wds k) (hx1 : x 1 = (b : Int)) (hXb : X0.2.1 = b) (hXn : nok5 X0) : zMet l g yX10_fault wsX10_fault 8 0 0 [.ref q] zX0 [[mdl q a x], [((a 6), .inl (g.2 0, 200, .inl (aI f)))], [((a 12), .inl (g.2 0, 24, .inl (aI wd)))], [((a 11), .inl (g.2 0, 4, .inl (aI m)))]] (qi g (fun (u_ : (Nat → Int) × (Nat → Int)) => ((pA f n 24 0 X0 0).1)) (fun (u_ : (Nat → Int) × (Nat → Int)) => (kx48 x u_.1)) (fun (u_ : (Nat → Int) × (Nat → Int)) => [[mdl q a u_.1], [((a 6), .inl (g.2 0, 200, .inl (aI f)))], [((a 12), .inl (g.2 0, 24, .inl (aI wd)))], [((a 11), .inl (g.2 0, 4, .inl (aI u_.2)))]])) := by
  refine z_ent (cc := cX10_fault) (maxL := 1) (ret := (some .int)) (by decide) rfl (Nat.le_of_ble_eq_true rfl) ?_
  intro p eE s mM below meth cC A ls hx hb hr hml hown hts hlocks hin0 hA hK hP hD hS hXX hl
  have hown : s.vm.findClass RX10 = some mM.cls := hown
  have hin10_ : ∀ w ∈ wsX100, w ∈ wsX10_fault := zw_in [65, 66, 67, 68, 69, 70, 71, 72, 73, 74, 75, 76, 77, 78, 79, 80, 81, 82, 83, 84, 85, 86, 87, 88, 89, 90] rfl
  have hl : lv_has ls 1 [(0, .ref q)] := hl
  refine lv_aload_n hx hb dX10_fault_0 rfl (lv_at hl 0 rfl) ?_
  refine z_iconst hx hb dX10_fault_1 rfl ?_
  refine z_cVi (As := [vI 0]) (rest := []) ⟨hx, hb, hml, hown, hts⟩ hK hP hD hS hA [0, 1, 2, 3] [] rfl rfl rfl (c_X10_reads0 l g q a x f n wd m b X0 hx3 (by first | assumption | omega) hf hwd hx1 hXb hXn) (cwV 1 hts gX10_fault_X10_reads rfl rfl rfl (by decide +kernel) ⟨Nat.le_of_ble_eq_true rfl, Nat.le_of_ble_eq_true rfl⟩) 10 0 rfl rfl rfl (fun _ _ _ _ _ _ => trivial) (fun _ _ _ => trivial) rfl hl.1 (Nat.le_of_ble_eq_true rfl) rfl dX10_fault_2 ⟨Nat.le_of_ble_eq_true rfl, Nat.le_of_ble_eq_true rfl⟩ (fun u_1 H locs hwu_1 hP hD hS => ?_)
  obtain ⟨x8, m8⟩ := u_1
  try dsimp only at hwu_1
  have hP : zP g [[mdl q a x8], [((a 6), .inl (g.2 0, 200, .inl (aI f)))], [((a 12), .inl (g.2 0, 24, .inl (aI wd)))], [((a 11), .inl (g.2 0, 4, .inl (aI m8)))]] H := hP
  have hD : zD A [[mdl q a x8], [((a 6), .inl (g.2 0, 200, .inl (aI f)))], [((a 12), .inl (g.2 0, 24, .inl (aI wd)))], [((a 11), .inl (g.2 0, 4, .inl (aI m8)))]] := hD
  refine z_toI (rdz (pA f n 24 0 X0 0).1) rfl ?_
  have hf_2 := rdz_s (pA f n 24 0 X0 0).1
  refine z_if_eq (tgt := 12) hx hb (by omega) dX10_fault_5 (by decide) (fun cq3 => ?_) (fun cq3 => ?_)
  · refine lv_aload_n hx hb dX10_fault_12 rfl (lv_at hl 0 rfl) ?_
    refine z_get hx hb hts hin10_ hown hK hP 0 rfl rfl 15 (by decide) (hts _ (List.mem_of_getElem? (i := 1) rfl)) rfl dX10_fault_13 ?_
    exact z_reti (x8, m8) [0, 1, 2, 3] hx hb hr rfl hlocks hK hP hD hS (hwu_1.2 (by omega)) hwu_1.1 rfl rfl (rfl) (Nat.le_of_ble_eq_true rfl) (Nat.le_of_ble_eq_true rfl) dX10_fault_16
  · refine z_iconst hx hb dX10_fault_8 rfl ?_
    refine lv_goto (tgt := 16) hx hb dX10_fault_9 (by decide) ?_
    exact z_reti (x8, m8) [0, 1, 2, 3] hx hb hr rfl hlocks hK hP hD hS (by omega) hwu_1.1 rfl rfl (rfl) (Nat.le_of_ble_eq_true rfl) (Nat.le_of_ble_eq_true rfl) dX10_fault_16

set_option maxHeartbeats 4000000 in
set_option maxRecDepth 100000 in
theorem c_X10_net_not (l : Launch) (g : zG) (q : Nat) (a : Nat → Nat) (x : Nat → Int) (f : Nat → Int) (n : Nat) (wd : Nat → Int) (m : Nat → Int) (b : Nat) (X0 : NT5) (hx3 : x 3 = (n : Int)) (hn : n ≤ 200) (hf : ∀ i, 0 ≤ f i ∧ f i ≤ 255) (hwd : ∀ k, k < 24 → wd k = wds k) (hx1 : x 1 = (b : Int)) (hXb : X0.2.1 = b) (hXn : nok5 X0) (hT : ¬ (pA f n 24 0 X0 0).1 = -1) : zMet l g yX10_net wsX10_net 8 0 0 [.ref q] zX0 [[mdl q a x], [((a 6), .inl (g.2 0, 200, .inl (aI f)))], [((a 12), .inl (g.2 0, 24, .inl (aI wd)))], [((a 11), .inl (g.2 0, 4, .inl (aI m)))]] (qi g (fun (u_ : (Nat → Int) × (Nat → Int)) => (-2000000003)) (fun (u_ : (Nat → Int) × (Nat → Int)) => (kx48 x u_.1)) (fun (u_ : (Nat → Int) × (Nat → Int)) => [[mdl q a u_.1], [((a 6), .inl (g.2 0, 200, .inl (aI f)))], [((a 12), .inl (g.2 0, 24, .inl (aI wd)))], [((a 11), .inl (g.2 0, 4, .inl (aI u_.2)))]])) := by
  refine z_ent (cc := cX10_net) (maxL := 2) (ret := (some .int)) (by decide) rfl (Nat.le_of_ble_eq_true rfl) ?_
  intro p eE s mM below meth cC A ls hx hb hr hml hown hts hlocks hin0 hA hK hP hD hS hXX hl
  have hown : s.vm.findClass RX10 = some mM.cls := hown
  have hl : lv_has ls 2 [(0, .ref q)] := hl
  refine lv_aload_n hx hb dX10_net_0 rfl (lv_at hl 0 rfl) ?_
  refine z_iconst hx hb dX10_net_1 rfl ?_
  refine z_cVi (As := [vI 0]) (rest := []) ⟨hx, hb, hml, hown, hts⟩ hK hP hD hS hA [0, 1, 2, 3] [] rfl rfl rfl (c_X10_reads0 l g q a x f n wd m b X0 hx3 (by first | assumption | omega) hf hwd hx1 hXb hXn) (cwV 1 hts gX10_net_X10_reads rfl rfl rfl (by decide +kernel) ⟨Nat.le_of_ble_eq_true rfl, Nat.le_of_ble_eq_true rfl⟩) 10 0 rfl rfl rfl (fun _ _ _ _ _ _ => trivial) (fun _ _ _ => trivial) rfl hl.1 (Nat.le_of_ble_eq_true rfl) rfl dX10_net_2 ⟨Nat.le_of_ble_eq_true rfl, Nat.le_of_ble_eq_true rfl⟩ (fun u_1 H locs hwu_1 hP hD hS => ?_)
  obtain ⟨x8, m8⟩ := u_1
  try dsimp only at hwu_1
  have hP : zP g [[mdl q a x8], [((a 6), .inl (g.2 0, 200, .inl (aI f)))], [((a 12), .inl (g.2 0, 24, .inl (aI wd)))], [((a 11), .inl (g.2 0, 4, .inl (aI m8)))]] H := hP
  have hD : zD A [[mdl q a x8], [((a 6), .inl (g.2 0, 200, .inl (aI f)))], [((a 12), .inl (g.2 0, 24, .inl (aI wd)))], [((a 11), .inl (g.2 0, 4, .inl (aI m8)))]] := hD
  refine z_toI (rdz (pA f n 24 0 X0 0).1) rfl ?_
  have hf_2 := rdz_s (pA f n 24 0 X0 0).1
  refine z_if_ne (tgt := 11) hx hb (by omega) dX10_net_5 (by decide) (fun cq3 => False.elim (by omega)) (fun cq3 => ?_)
  refine z_ldc hx hb (-2000000003) hown (hts _ (List.mem_of_getElem? (i := 1) rfl)) rfl dX10_net_8 ?_
  exact z_reti (x8, m8) [0, 1, 2, 3] hx hb hr rfl hlocks hK hP hD hS (rfl) hwu_1.1 rfl rfl (rfl) (Nat.le_of_ble_eq_true rfl) (Nat.le_of_ble_eq_true rfl) dX10_net_10

set_option maxHeartbeats 4000000 in
set_option maxRecDepth 100000 in
theorem c_X10_net_ok (l : Launch) (g : zG) (q : Nat) (a : Nat → Nat) (x : Nat → Int) (S : RS) (f : Nat → Int) (n : Nat) (wd : Nat → Int) (m : Nat → Int) (b : Nat) (X0 : NT5) (h : Nat → Int) (o : Nat → Int) (l_ : Nat → Int) (fk : Nat → Int) (z : Nat → Int) (hx3 : x 3 = (n : Int)) (hn : n ≤ 200) (hf : ∀ i, 0 ≤ f i ∧ f i ≤ 255) (hwd : ∀ k, k < 24 → wd k = wds k) (hx1 : x 1 = (b : Int)) (hXb : X0.2.1 = b) (hXn : nok5 X0) (hR : RN X0 (x 0) b h o l_) (hT : (pA f n 24 0 X0 0).1 = -1) : zMet l g yX10_net wsX10_net 8 0 0 [.ref q] zX0 [[mdl q a x], [((a 0), .inl (g.2 1, 88, .inr (.inl (aL S.1))))], [((a 1), .inl (g.2 1, 88, .inr (.inl (aL S.2.1))))], [((a 6), .inl (g.2 0, 200, .inl (aI f)))], [((a 12), .inl (g.2 0, 24, .inl (aI wd)))], [((a 11), .inl (g.2 0, 4, .inl (aI m)))], [((a 2), .inl (g.2 0, 6, .inl (aI h)))], [((a 3), .inl (g.2 0, 18, .inl (aI o)))], [((a 4), .inl (g.2 0, 6, .inl (aI l_)))], [((a 5), .inl (g.2 2, 2, .inl (aI fk)))], [((a 7), .inl (g.2 0, 3, .inl (aI z)))]] (qi g (fun (u_ : (Nat → Int) × (Nat → Int) × (Nat → Int) × (Nat → Int) × (Nat → Int) × Nat) => ((((pA f n 24 0 X0 0).2.2) : Nat) : Int)) (fun (u_ : (Nat → Int) × (Nat → Int) × (Nat → Int) × (Nat → Int) × (Nat → Int) × Nat) => ((∀ j, 8 < j → u_.1 j = x j) ∧ RN (pA f n 24 0 X0 0).2.1 (u_.1 0) u_.2.2.2.2.2 u_.2.2.1 u_.2.2.2.1 u_.2.2.2.2.1 ∧ u_.1 1 = (u_.2.2.2.2.2 : Int) ∧ u_.1 2 = 0 ∧ u_.1 3 = 0)) (fun (u_ : (Nat → Int) × (Nat → Int) × (Nat → Int) × (Nat → Int) × (Nat → Int) × Nat) => [[mdl q a u_.1], [((a 0), .inl (g.2 1, 88, .inr (.inl (aL ((cl6 S.1 0, cl6 S.2.1 1, S.2.2) : RS).1))))], [((a 1), .inl (g.2 1, 88, .inr (.inl (aL ((cl6 S.1 0, cl6 S.2.1 1, S.2.2) : RS).2.1))))], [((a 6), .inl (g.2 0, 200, .inl (aI f)))], [((a 12), .inl (g.2 0, 24, .inl (aI wd)))], [((a 11), .inl (g.2 0, 4, .inl (aI u_.2.1)))], [((a 2), .inl (g.2 0, 6, .inl (aI u_.2.2.1)))], [((a 3), .inl (g.2 0, 18, .inl (aI u_.2.2.2.1)))], [((a 4), .inl (g.2 0, 6, .inl (aI u_.2.2.2.2.1)))], [((a 5), .inl (g.2 2, 2, .inl (aI (uI (uI fk 0 0) 1 0))))], [((a 7), .inl (g.2 0, 3, .inl (aI (uI (uI (uI z 0 (-1)) 1 (-1)) 2 (-1)))))]])) := by
  refine z_ent (cc := cX10_net) (maxL := 2) (ret := (some .int)) (by decide) rfl (Nat.le_of_ble_eq_true rfl) ?_
  intro p eE s mM below meth cC A ls hx hb hr hml hown hts hlocks hin0 hA hK hP hD hS hXX hl
  have hown : s.vm.findClass RX10 = some mM.cls := hown
  have hin10_ : ∀ w ∈ wsX100, w ∈ wsX10_net := zw_in [71, 72, 73, 74, 75, 76, 77, 78, 79, 80, 81, 82, 83, 84, 85, 86, 87, 88, 89, 90, 91, 92, 93, 94, 95, 96] rfl
  have hl : lv_has ls 2 [(0, .ref q)] := hl
  refine lv_aload_n hx hb dX10_net_0 rfl (lv_at hl 0 rfl) ?_
  refine z_iconst hx hb dX10_net_1 rfl ?_
  refine z_cVi (As := [vI 0]) (rest := []) ⟨hx, hb, hml, hown, hts⟩ hK hP hD hS hA [0, 3, 4, 5] [1, 2, 6, 7, 8, 9, 10] rfl rfl rfl (c_X10_reads0 l g q a x f n wd m b X0 hx3 (by first | assumption | omega) hf hwd hx1 hXb hXn) (cwV 1 hts gX10_net_X10_reads rfl rfl rfl (by decide +kernel) ⟨Nat.le_of_ble_eq_true rfl, Nat.le_of_ble_eq_true rfl⟩) 10 0 rfl rfl rfl (fun _ _ _ _ _ _ => trivial) (fun _ _ _ => trivial) rfl hl.1 (Nat.le_of_ble_eq_true rfl) rfl dX10_net_2 ⟨Nat.le_of_ble_eq_true rfl, Nat.le_of_ble_eq_true rfl⟩ (fun u_1 H locs hwu_1 hP hD hS => ?_)
  obtain ⟨x8, m8⟩ := u_1
  try dsimp only at hwu_1
  have hP : zP g [[((a 0), .inl (g.2 1, 88, .inr (.inl (aL S.1))))], [((a 1), .inl (g.2 1, 88, .inr (.inl (aL S.2.1))))], [((a 2), .inl (g.2 0, 6, .inl (aI h)))], [((a 3), .inl (g.2 0, 18, .inl (aI o)))], [((a 4), .inl (g.2 0, 6, .inl (aI l_)))], [((a 5), .inl (g.2 2, 2, .inl (aI fk)))], [((a 7), .inl (g.2 0, 3, .inl (aI z)))], [mdl q a x8], [((a 6), .inl (g.2 0, 200, .inl (aI f)))], [((a 12), .inl (g.2 0, 24, .inl (aI wd)))], [((a 11), .inl (g.2 0, 4, .inl (aI m8)))]] H := hP
  have hD : zD A [[((a 0), .inl (g.2 1, 88, .inr (.inl (aL S.1))))], [((a 1), .inl (g.2 1, 88, .inr (.inl (aL S.2.1))))], [((a 2), .inl (g.2 0, 6, .inl (aI h)))], [((a 3), .inl (g.2 0, 18, .inl (aI o)))], [((a 4), .inl (g.2 0, 6, .inl (aI l_)))], [((a 5), .inl (g.2 2, 2, .inl (aI fk)))], [((a 7), .inl (g.2 0, 3, .inl (aI z)))], [mdl q a x8], [((a 6), .inl (g.2 0, 200, .inl (aI f)))], [((a 12), .inl (g.2 0, 24, .inl (aI wd)))], [((a 11), .inl (g.2 0, 4, .inl (aI m8)))]] := hD
  refine z_toI (rdz (pA f n 24 0 X0 0).1) rfl ?_
  have hf_2 := rdz_s (pA f n 24 0 X0 0).1
  refine z_if_ne (tgt := 11) hx hb (by omega) dX10_net_5 (by decide) (fun cq3 => ?_) (fun cq3 => False.elim (by omega))
  refine lv_aload_n hx hb dX10_net_11 rfl (lv_at hl 0 rfl) ?_
  refine z_iconst hx hb dX10_net_12 rfl ?_
  refine z_cVi (As := [vI 1]) (rest := []) ⟨hx, hb, hml, hown, hts⟩ hK hP hD hS hA [7, 8, 9, 10, 2, 3, 4] [0, 1, 5, 6] rfl rfl rfl (c_X10_reads1 l g q a x8 f n wd m8 b X0 h o l_ ((hwu_1.1 3 (by omega)).trans hx3) (by first | assumption | omega) hf hwd ((hwu_1.1 1 (by omega)).trans hx1) hXb hXn (by rw [hwu_1.1 0 (by omega)]; exact hR) hT) (cwV 1 hts gX10_net_X10_reads rfl rfl rfl (by decide +kernel) ⟨Nat.le_of_ble_eq_true rfl, Nat.le_of_ble_eq_true rfl⟩) 10 0 rfl rfl rfl (fun _ _ _ _ _ _ => trivial) (fun _ _ _ => trivial) rfl hl.1 (Nat.le_of_ble_eq_true rfl) rfl dX10_net_13 ⟨Nat.le_of_ble_eq_true rfl, Nat.le_of_ble_eq_true rfl⟩ (fun u_4 H locs hwu_4 hP hD hS => ?_)
  obtain ⟨x9, m9, h9, o9, l9, b9⟩ := u_4
  try dsimp only at hwu_4
  have hP : zP g [[((a 0), .inl (g.2 1, 88, .inr (.inl (aL S.1))))], [((a 1), .inl (g.2 1, 88, .inr (.inl (aL S.2.1))))], [((a 5), .inl (g.2 2, 2, .inl (aI fk)))], [((a 7), .inl (g.2 0, 3, .inl (aI z)))], [mdl q a x9], [((a 6), .inl (g.2 0, 200, .inl (aI f)))], [((a 12), .inl (g.2 0, 24, .inl (aI wd)))], [((a 11), .inl (g.2 0, 4, .inl (aI m9)))], [((a 2), .inl (g.2 0, 6, .inl (aI h9)))], [((a 3), .inl (g.2 0, 18, .inl (aI o9)))], [((a 4), .inl (g.2 0, 6, .inl (aI l9)))]] H := hP
  have hD : zD A [[((a 0), .inl (g.2 1, 88, .inr (.inl (aL S.1))))], [((a 1), .inl (g.2 1, 88, .inr (.inl (aL S.2.1))))], [((a 5), .inl (g.2 2, 2, .inl (aI fk)))], [((a 7), .inl (g.2 0, 3, .inl (aI z)))], [mdl q a x9], [((a 6), .inl (g.2 0, 200, .inl (aI f)))], [((a 12), .inl (g.2 0, 24, .inl (aI wd)))], [((a 11), .inl (g.2 0, 4, .inl (aI m9)))], [((a 2), .inl (g.2 0, 6, .inl (aI h9)))], [((a 3), .inl (g.2 0, 18, .inl (aI o9)))], [((a 4), .inl (g.2 0, 6, .inl (aI l9)))]] := hD
  refine z_toI 1 rfl ?_
  refine lv_pop hx hb dX10_net_16 rfl ?_
  refine z_iconst hx hb dX10_net_17 rfl ?_
  refine lv_istore_n (lv' := [(1, vI 0), (0, .ref q)]) hx hb dX10_net_18 rfl hl (by decide) rfl (fun ls hl => ?_)
  refine lv_iload_n hx hb dX10_net_19 rfl (lv_at hl 0 rfl) ?_
  refine z_bipush hx hb 6 dX10_net_20 rfl ?_
  refine z_icmp_ge (tgt := 45) hx hb (by decide) (by decide) dX10_net_22 (by decide) (fun cq5 => False.elim (by omega)) (fun cq5 => ?_)
  refine lv_aload_n hx hb dX10_net_25 rfl (lv_at hl 1 rfl) ?_
  refine z_get hx hb hts hin10_ hown hK hP 4 rfl rfl 0 (by decide) (hts _ (List.mem_of_getElem? (i := 2) rfl)) rfl dX10_net_26 ?_
  refine lv_iload_n hx hb dX10_net_29 rfl (lv_at hl 0 rfl) ?_
  refine z_lconst hx hb 0 dX10_net_30 rfl ?_
  refine z_last hx hb hK hP 0 hD hS rfl 0 rfl (by decide) (by decide) dX10_net_31 [[((a 0), .inl (g.2 1, 88, .inr (.inl (aL (uI S.1 0 0)))))], [((a 1), .inl (g.2 1, 88, .inr (.inl (aL S.2.1))))], [((a 5), .inl (g.2 2, 2, .inl (aI fk)))], [((a 7), .inl (g.2 0, 3, .inl (aI z)))], [mdl q a x9], [((a 6), .inl (g.2 0, 200, .inl (aI f)))], [((a 12), .inl (g.2 0, 24, .inl (aI wd)))], [((a 11), .inl (g.2 0, 4, .inl (aI m9)))], [((a 2), .inl (g.2 0, 6, .inl (aI h9)))], [((a 3), .inl (g.2 0, 18, .inl (aI o9)))], [((a 4), .inl (g.2 0, 6, .inl (aI l9)))]] rfl (fun H locs hP hD hS => ?_)
  refine lv_aload_n hx hb dX10_net_32 rfl (lv_at hl 1 rfl) ?_
  refine z_get hx hb hts hin10_ hown hK hP 4 rfl rfl 1 (by decide) (hts _ (List.mem_of_getElem? (i := 3) rfl)) rfl dX10_net_33 ?_
  refine lv_iload_n hx hb dX10_net_36 rfl (lv_at hl 0 rfl) ?_
  refine z_lconst hx hb 1 dX10_net_37 rfl ?_
  refine z_last hx hb hK hP 1 hD hS rfl 0 rfl (by decide) (by decide) dX10_net_38 [[((a 0), .inl (g.2 1, 88, .inr (.inl (aL (uI S.1 0 0)))))], [((a 1), .inl (g.2 1, 88, .inr (.inl (aL (uI S.2.1 0 1)))))], [((a 5), .inl (g.2 2, 2, .inl (aI fk)))], [((a 7), .inl (g.2 0, 3, .inl (aI z)))], [mdl q a x9], [((a 6), .inl (g.2 0, 200, .inl (aI f)))], [((a 12), .inl (g.2 0, 24, .inl (aI wd)))], [((a 11), .inl (g.2 0, 4, .inl (aI m9)))], [((a 2), .inl (g.2 0, 6, .inl (aI h9)))], [((a 3), .inl (g.2 0, 18, .inl (aI o9)))], [((a 4), .inl (g.2 0, 6, .inl (aI l9)))]] rfl (fun H locs hP hD hS => ?_)
  refine z_iinc hx hb 1 (lv' := [(1, vI 1), (0, .ref q)]) dX10_net_39 hl (k := 0) rfl (rfl) (by decide) rfl (fun ls hl => ?_)
  refine lv_goto (tgt := 19) hx hb dX10_net_42 (by decide) ?_
  refine lv_iload_n hx hb dX10_net_19 rfl (lv_at hl 0 rfl) ?_
  refine z_bipush hx hb 6 dX10_net_20 rfl ?_
  refine z_icmp_ge (tgt := 45) hx hb (by decide) (by decide) dX10_net_22 (by decide) (fun cq6 => False.elim (by omega)) (fun cq6 => ?_)
  refine lv_aload_n hx hb dX10_net_25 rfl (lv_at hl 1 rfl) ?_
  refine z_get hx hb hts hin10_ hown hK hP 4 rfl rfl 0 (by decide) (hts _ (List.mem_of_getElem? (i := 2) rfl)) rfl dX10_net_26 ?_
  refine lv_iload_n hx hb dX10_net_29 rfl (lv_at hl 0 rfl) ?_
  refine z_lconst hx hb 0 dX10_net_30 rfl ?_
  refine z_last hx hb hK hP 0 hD hS rfl 1 rfl (by decide) (by decide) dX10_net_31 [[((a 0), .inl (g.2 1, 88, .inr (.inl (aL (uI (uI S.1 0 0) 1 0)))))], [((a 1), .inl (g.2 1, 88, .inr (.inl (aL (uI S.2.1 0 1)))))], [((a 5), .inl (g.2 2, 2, .inl (aI fk)))], [((a 7), .inl (g.2 0, 3, .inl (aI z)))], [mdl q a x9], [((a 6), .inl (g.2 0, 200, .inl (aI f)))], [((a 12), .inl (g.2 0, 24, .inl (aI wd)))], [((a 11), .inl (g.2 0, 4, .inl (aI m9)))], [((a 2), .inl (g.2 0, 6, .inl (aI h9)))], [((a 3), .inl (g.2 0, 18, .inl (aI o9)))], [((a 4), .inl (g.2 0, 6, .inl (aI l9)))]] rfl (fun H locs hP hD hS => ?_)
  refine lv_aload_n hx hb dX10_net_32 rfl (lv_at hl 1 rfl) ?_
  refine z_get hx hb hts hin10_ hown hK hP 4 rfl rfl 1 (by decide) (hts _ (List.mem_of_getElem? (i := 3) rfl)) rfl dX10_net_33 ?_
  refine lv_iload_n hx hb dX10_net_36 rfl (lv_at hl 0 rfl) ?_
  refine z_lconst hx hb 1 dX10_net_37 rfl ?_
  refine z_last hx hb hK hP 1 hD hS rfl 1 rfl (by decide) (by decide) dX10_net_38 [[((a 0), .inl (g.2 1, 88, .inr (.inl (aL (uI (uI S.1 0 0) 1 0)))))], [((a 1), .inl (g.2 1, 88, .inr (.inl (aL (uI (uI S.2.1 0 1) 1 1)))))], [((a 5), .inl (g.2 2, 2, .inl (aI fk)))], [((a 7), .inl (g.2 0, 3, .inl (aI z)))], [mdl q a x9], [((a 6), .inl (g.2 0, 200, .inl (aI f)))], [((a 12), .inl (g.2 0, 24, .inl (aI wd)))], [((a 11), .inl (g.2 0, 4, .inl (aI m9)))], [((a 2), .inl (g.2 0, 6, .inl (aI h9)))], [((a 3), .inl (g.2 0, 18, .inl (aI o9)))], [((a 4), .inl (g.2 0, 6, .inl (aI l9)))]] rfl (fun H locs hP hD hS => ?_)
  refine z_iinc hx hb 2 (lv' := [(1, vI 2), (0, .ref q)]) dX10_net_39 hl (k := 0) rfl (rfl) (by decide) rfl (fun ls hl => ?_)
  refine lv_goto (tgt := 19) hx hb dX10_net_42 (by decide) ?_
  refine lv_iload_n hx hb dX10_net_19 rfl (lv_at hl 0 rfl) ?_
  refine z_bipush hx hb 6 dX10_net_20 rfl ?_
  refine z_icmp_ge (tgt := 45) hx hb (by decide) (by decide) dX10_net_22 (by decide) (fun cq7 => False.elim (by omega)) (fun cq7 => ?_)
  refine lv_aload_n hx hb dX10_net_25 rfl (lv_at hl 1 rfl) ?_
  refine z_get hx hb hts hin10_ hown hK hP 4 rfl rfl 0 (by decide) (hts _ (List.mem_of_getElem? (i := 2) rfl)) rfl dX10_net_26 ?_
  refine lv_iload_n hx hb dX10_net_29 rfl (lv_at hl 0 rfl) ?_
  refine z_lconst hx hb 0 dX10_net_30 rfl ?_
  refine z_last hx hb hK hP 0 hD hS rfl 2 rfl (by decide) (by decide) dX10_net_31 [[((a 0), .inl (g.2 1, 88, .inr (.inl (aL (uI (uI (uI S.1 0 0) 1 0) 2 0)))))], [((a 1), .inl (g.2 1, 88, .inr (.inl (aL (uI (uI S.2.1 0 1) 1 1)))))], [((a 5), .inl (g.2 2, 2, .inl (aI fk)))], [((a 7), .inl (g.2 0, 3, .inl (aI z)))], [mdl q a x9], [((a 6), .inl (g.2 0, 200, .inl (aI f)))], [((a 12), .inl (g.2 0, 24, .inl (aI wd)))], [((a 11), .inl (g.2 0, 4, .inl (aI m9)))], [((a 2), .inl (g.2 0, 6, .inl (aI h9)))], [((a 3), .inl (g.2 0, 18, .inl (aI o9)))], [((a 4), .inl (g.2 0, 6, .inl (aI l9)))]] rfl (fun H locs hP hD hS => ?_)
  refine lv_aload_n hx hb dX10_net_32 rfl (lv_at hl 1 rfl) ?_
  refine z_get hx hb hts hin10_ hown hK hP 4 rfl rfl 1 (by decide) (hts _ (List.mem_of_getElem? (i := 3) rfl)) rfl dX10_net_33 ?_
  refine lv_iload_n hx hb dX10_net_36 rfl (lv_at hl 0 rfl) ?_
  refine z_lconst hx hb 1 dX10_net_37 rfl ?_
  refine z_last hx hb hK hP 1 hD hS rfl 2 rfl (by decide) (by decide) dX10_net_38 [[((a 0), .inl (g.2 1, 88, .inr (.inl (aL (uI (uI (uI S.1 0 0) 1 0) 2 0)))))], [((a 1), .inl (g.2 1, 88, .inr (.inl (aL (uI (uI (uI S.2.1 0 1) 1 1) 2 1)))))], [((a 5), .inl (g.2 2, 2, .inl (aI fk)))], [((a 7), .inl (g.2 0, 3, .inl (aI z)))], [mdl q a x9], [((a 6), .inl (g.2 0, 200, .inl (aI f)))], [((a 12), .inl (g.2 0, 24, .inl (aI wd)))], [((a 11), .inl (g.2 0, 4, .inl (aI m9)))], [((a 2), .inl (g.2 0, 6, .inl (aI h9)))], [((a 3), .inl (g.2 0, 18, .inl (aI o9)))], [((a 4), .inl (g.2 0, 6, .inl (aI l9)))]] rfl (fun H locs hP hD hS => ?_)
  refine z_iinc hx hb 3 (lv' := [(1, vI 3), (0, .ref q)]) dX10_net_39 hl (k := 0) rfl (rfl) (by decide) rfl (fun ls hl => ?_)
  refine lv_goto (tgt := 19) hx hb dX10_net_42 (by decide) ?_
  refine lv_iload_n hx hb dX10_net_19 rfl (lv_at hl 0 rfl) ?_
  refine z_bipush hx hb 6 dX10_net_20 rfl ?_
  refine z_icmp_ge (tgt := 45) hx hb (by decide) (by decide) dX10_net_22 (by decide) (fun cq8 => False.elim (by omega)) (fun cq8 => ?_)
  refine lv_aload_n hx hb dX10_net_25 rfl (lv_at hl 1 rfl) ?_
  refine z_get hx hb hts hin10_ hown hK hP 4 rfl rfl 0 (by decide) (hts _ (List.mem_of_getElem? (i := 2) rfl)) rfl dX10_net_26 ?_
  refine lv_iload_n hx hb dX10_net_29 rfl (lv_at hl 0 rfl) ?_
  refine z_lconst hx hb 0 dX10_net_30 rfl ?_
  refine z_last hx hb hK hP 0 hD hS rfl 3 rfl (by decide) (by decide) dX10_net_31 [[((a 0), .inl (g.2 1, 88, .inr (.inl (aL (uI (uI (uI (uI S.1 0 0) 1 0) 2 0) 3 0)))))], [((a 1), .inl (g.2 1, 88, .inr (.inl (aL (uI (uI (uI S.2.1 0 1) 1 1) 2 1)))))], [((a 5), .inl (g.2 2, 2, .inl (aI fk)))], [((a 7), .inl (g.2 0, 3, .inl (aI z)))], [mdl q a x9], [((a 6), .inl (g.2 0, 200, .inl (aI f)))], [((a 12), .inl (g.2 0, 24, .inl (aI wd)))], [((a 11), .inl (g.2 0, 4, .inl (aI m9)))], [((a 2), .inl (g.2 0, 6, .inl (aI h9)))], [((a 3), .inl (g.2 0, 18, .inl (aI o9)))], [((a 4), .inl (g.2 0, 6, .inl (aI l9)))]] rfl (fun H locs hP hD hS => ?_)
  refine lv_aload_n hx hb dX10_net_32 rfl (lv_at hl 1 rfl) ?_
  refine z_get hx hb hts hin10_ hown hK hP 4 rfl rfl 1 (by decide) (hts _ (List.mem_of_getElem? (i := 3) rfl)) rfl dX10_net_33 ?_
  refine lv_iload_n hx hb dX10_net_36 rfl (lv_at hl 0 rfl) ?_
  refine z_lconst hx hb 1 dX10_net_37 rfl ?_
  refine z_last hx hb hK hP 1 hD hS rfl 3 rfl (by decide) (by decide) dX10_net_38 [[((a 0), .inl (g.2 1, 88, .inr (.inl (aL (uI (uI (uI (uI S.1 0 0) 1 0) 2 0) 3 0)))))], [((a 1), .inl (g.2 1, 88, .inr (.inl (aL (uI (uI (uI (uI S.2.1 0 1) 1 1) 2 1) 3 1)))))], [((a 5), .inl (g.2 2, 2, .inl (aI fk)))], [((a 7), .inl (g.2 0, 3, .inl (aI z)))], [mdl q a x9], [((a 6), .inl (g.2 0, 200, .inl (aI f)))], [((a 12), .inl (g.2 0, 24, .inl (aI wd)))], [((a 11), .inl (g.2 0, 4, .inl (aI m9)))], [((a 2), .inl (g.2 0, 6, .inl (aI h9)))], [((a 3), .inl (g.2 0, 18, .inl (aI o9)))], [((a 4), .inl (g.2 0, 6, .inl (aI l9)))]] rfl (fun H locs hP hD hS => ?_)
  refine z_iinc hx hb 4 (lv' := [(1, vI 4), (0, .ref q)]) dX10_net_39 hl (k := 0) rfl (rfl) (by decide) rfl (fun ls hl => ?_)
  refine lv_goto (tgt := 19) hx hb dX10_net_42 (by decide) ?_
  refine lv_iload_n hx hb dX10_net_19 rfl (lv_at hl 0 rfl) ?_
  refine z_bipush hx hb 6 dX10_net_20 rfl ?_
  refine z_icmp_ge (tgt := 45) hx hb (by decide) (by decide) dX10_net_22 (by decide) (fun cq9 => False.elim (by omega)) (fun cq9 => ?_)
  refine lv_aload_n hx hb dX10_net_25 rfl (lv_at hl 1 rfl) ?_
  refine z_get hx hb hts hin10_ hown hK hP 4 rfl rfl 0 (by decide) (hts _ (List.mem_of_getElem? (i := 2) rfl)) rfl dX10_net_26 ?_
  refine lv_iload_n hx hb dX10_net_29 rfl (lv_at hl 0 rfl) ?_
  refine z_lconst hx hb 0 dX10_net_30 rfl ?_
  refine z_last hx hb hK hP 0 hD hS rfl 4 rfl (by decide) (by decide) dX10_net_31 [[((a 0), .inl (g.2 1, 88, .inr (.inl (aL (uI (uI (uI (uI (uI S.1 0 0) 1 0) 2 0) 3 0) 4 0)))))], [((a 1), .inl (g.2 1, 88, .inr (.inl (aL (uI (uI (uI (uI S.2.1 0 1) 1 1) 2 1) 3 1)))))], [((a 5), .inl (g.2 2, 2, .inl (aI fk)))], [((a 7), .inl (g.2 0, 3, .inl (aI z)))], [mdl q a x9], [((a 6), .inl (g.2 0, 200, .inl (aI f)))], [((a 12), .inl (g.2 0, 24, .inl (aI wd)))], [((a 11), .inl (g.2 0, 4, .inl (aI m9)))], [((a 2), .inl (g.2 0, 6, .inl (aI h9)))], [((a 3), .inl (g.2 0, 18, .inl (aI o9)))], [((a 4), .inl (g.2 0, 6, .inl (aI l9)))]] rfl (fun H locs hP hD hS => ?_)
  refine lv_aload_n hx hb dX10_net_32 rfl (lv_at hl 1 rfl) ?_
  refine z_get hx hb hts hin10_ hown hK hP 4 rfl rfl 1 (by decide) (hts _ (List.mem_of_getElem? (i := 3) rfl)) rfl dX10_net_33 ?_
  refine lv_iload_n hx hb dX10_net_36 rfl (lv_at hl 0 rfl) ?_
  refine z_lconst hx hb 1 dX10_net_37 rfl ?_
  refine z_last hx hb hK hP 1 hD hS rfl 4 rfl (by decide) (by decide) dX10_net_38 [[((a 0), .inl (g.2 1, 88, .inr (.inl (aL (uI (uI (uI (uI (uI S.1 0 0) 1 0) 2 0) 3 0) 4 0)))))], [((a 1), .inl (g.2 1, 88, .inr (.inl (aL (uI (uI (uI (uI (uI S.2.1 0 1) 1 1) 2 1) 3 1) 4 1)))))], [((a 5), .inl (g.2 2, 2, .inl (aI fk)))], [((a 7), .inl (g.2 0, 3, .inl (aI z)))], [mdl q a x9], [((a 6), .inl (g.2 0, 200, .inl (aI f)))], [((a 12), .inl (g.2 0, 24, .inl (aI wd)))], [((a 11), .inl (g.2 0, 4, .inl (aI m9)))], [((a 2), .inl (g.2 0, 6, .inl (aI h9)))], [((a 3), .inl (g.2 0, 18, .inl (aI o9)))], [((a 4), .inl (g.2 0, 6, .inl (aI l9)))]] rfl (fun H locs hP hD hS => ?_)
  refine z_iinc hx hb 5 (lv' := [(1, vI 5), (0, .ref q)]) dX10_net_39 hl (k := 0) rfl (rfl) (by decide) rfl (fun ls hl => ?_)
  refine lv_goto (tgt := 19) hx hb dX10_net_42 (by decide) ?_
  refine lv_iload_n hx hb dX10_net_19 rfl (lv_at hl 0 rfl) ?_
  refine z_bipush hx hb 6 dX10_net_20 rfl ?_
  refine z_icmp_ge (tgt := 45) hx hb (by decide) (by decide) dX10_net_22 (by decide) (fun cq10 => False.elim (by omega)) (fun cq10 => ?_)
  refine lv_aload_n hx hb dX10_net_25 rfl (lv_at hl 1 rfl) ?_
  refine z_get hx hb hts hin10_ hown hK hP 4 rfl rfl 0 (by decide) (hts _ (List.mem_of_getElem? (i := 2) rfl)) rfl dX10_net_26 ?_
  refine lv_iload_n hx hb dX10_net_29 rfl (lv_at hl 0 rfl) ?_
  refine z_lconst hx hb 0 dX10_net_30 rfl ?_
  refine z_last hx hb hK hP 0 hD hS rfl 5 rfl (by decide) (by decide) dX10_net_31 [[((a 0), .inl (g.2 1, 88, .inr (.inl (aL (uI (uI (uI (uI (uI (uI S.1 0 0) 1 0) 2 0) 3 0) 4 0) 5 0)))))], [((a 1), .inl (g.2 1, 88, .inr (.inl (aL (uI (uI (uI (uI (uI S.2.1 0 1) 1 1) 2 1) 3 1) 4 1)))))], [((a 5), .inl (g.2 2, 2, .inl (aI fk)))], [((a 7), .inl (g.2 0, 3, .inl (aI z)))], [mdl q a x9], [((a 6), .inl (g.2 0, 200, .inl (aI f)))], [((a 12), .inl (g.2 0, 24, .inl (aI wd)))], [((a 11), .inl (g.2 0, 4, .inl (aI m9)))], [((a 2), .inl (g.2 0, 6, .inl (aI h9)))], [((a 3), .inl (g.2 0, 18, .inl (aI o9)))], [((a 4), .inl (g.2 0, 6, .inl (aI l9)))]] rfl (fun H locs hP hD hS => ?_)
  refine lv_aload_n hx hb dX10_net_32 rfl (lv_at hl 1 rfl) ?_
  refine z_get hx hb hts hin10_ hown hK hP 4 rfl rfl 1 (by decide) (hts _ (List.mem_of_getElem? (i := 3) rfl)) rfl dX10_net_33 ?_
  refine lv_iload_n hx hb dX10_net_36 rfl (lv_at hl 0 rfl) ?_
  refine z_lconst hx hb 1 dX10_net_37 rfl ?_
  refine z_last hx hb hK hP 1 hD hS rfl 5 rfl (by decide) (by decide) dX10_net_38 [[((a 0), .inl (g.2 1, 88, .inr (.inl (aL (uI (uI (uI (uI (uI (uI S.1 0 0) 1 0) 2 0) 3 0) 4 0) 5 0)))))], [((a 1), .inl (g.2 1, 88, .inr (.inl (aL (uI (uI (uI (uI (uI (uI S.2.1 0 1) 1 1) 2 1) 3 1) 4 1) 5 1)))))], [((a 5), .inl (g.2 2, 2, .inl (aI fk)))], [((a 7), .inl (g.2 0, 3, .inl (aI z)))], [mdl q a x9], [((a 6), .inl (g.2 0, 200, .inl (aI f)))], [((a 12), .inl (g.2 0, 24, .inl (aI wd)))], [((a 11), .inl (g.2 0, 4, .inl (aI m9)))], [((a 2), .inl (g.2 0, 6, .inl (aI h9)))], [((a 3), .inl (g.2 0, 18, .inl (aI o9)))], [((a 4), .inl (g.2 0, 6, .inl (aI l9)))]] rfl (fun H locs hP hD hS => ?_)
  refine z_iinc hx hb 6 (lv' := [(1, vI 6), (0, .ref q)]) dX10_net_39 hl (k := 0) rfl (rfl) (by decide) rfl (fun ls hl => ?_)
  refine lv_goto (tgt := 19) hx hb dX10_net_42 (by decide) ?_
  refine lv_iload_n hx hb dX10_net_19 rfl (lv_at hl 0 rfl) ?_
  refine z_bipush hx hb 6 dX10_net_20 rfl ?_
  refine z_icmp_ge (tgt := 45) hx hb (by decide) (by decide) dX10_net_22 (by decide) (fun cq11 => ?_) (fun cq11 => False.elim (by omega))
  refine lv_aload_n hx hb dX10_net_45 rfl (lv_at hl 1 rfl) ?_
  refine z_iconst hx hb dX10_net_46 rfl ?_
  refine z_put hx hb hts hin10_ tyX10 tyX10_ok nmX10 hown hK hP hD hS 4 rfl rfl 10 (by decide) (hts _ (List.mem_of_getElem? (i := 4) rfl)) rfl rfl rfl (Nat.le_of_ble_eq_true rfl) dX10_net_47 [[((a 0), .inl (g.2 1, 88, .inr (.inl (aL (uI (uI (uI (uI (uI (uI S.1 0 0) 1 0) 2 0) 3 0) 4 0) 5 0)))))], [((a 1), .inl (g.2 1, 88, .inr (.inl (aL (uI (uI (uI (uI (uI (uI S.2.1 0 1) 1 1) 2 1) 3 1) 4 1) 5 1)))))], [((a 5), .inl (g.2 2, 2, .inl (aI fk)))], [((a 7), .inl (g.2 0, 3, .inl (aI z)))], [mdl q a (uI x9 3 0)], [((a 6), .inl (g.2 0, 200, .inl (aI f)))], [((a 12), .inl (g.2 0, 24, .inl (aI wd)))], [((a 11), .inl (g.2 0, 4, .inl (aI m9)))], [((a 2), .inl (g.2 0, 6, .inl (aI h9)))], [((a 3), .inl (g.2 0, 18, .inl (aI o9)))], [((a 4), .inl (g.2 0, 6, .inl (aI l9)))]] rfl (fun H locs hP hD hS => ?_)
  refine lv_aload_n hx hb dX10_net_50 rfl (lv_at hl 1 rfl) ?_
  refine z_iconst hx hb dX10_net_51 rfl ?_
  refine z_put hx hb hts hin10_ tyX10 tyX10_ok nmX10 hown hK hP hD hS 4 rfl rfl 7 (by decide) (hts _ (List.mem_of_getElem? (i := 5) rfl)) rfl rfl rfl (Nat.le_of_ble_eq_true rfl) dX10_net_52 [[((a 0), .inl (g.2 1, 88, .inr (.inl (aL (uI (uI (uI (uI (uI (uI S.1 0 0) 1 0) 2 0) 3 0) 4 0) 5 0)))))], [((a 1), .inl (g.2 1, 88, .inr (.inl (aL (uI (uI (uI (uI (uI (uI S.2.1 0 1) 1 1) 2 1) 3 1) 4 1) 5 1)))))], [((a 5), .inl (g.2 2, 2, .inl (aI fk)))], [((a 7), .inl (g.2 0, 3, .inl (aI z)))], [mdl q a (uI (uI x9 2 0) 3 0)], [((a 6), .inl (g.2 0, 200, .inl (aI f)))], [((a 12), .inl (g.2 0, 24, .inl (aI wd)))], [((a 11), .inl (g.2 0, 4, .inl (aI m9)))], [((a 2), .inl (g.2 0, 6, .inl (aI h9)))], [((a 3), .inl (g.2 0, 18, .inl (aI o9)))], [((a 4), .inl (g.2 0, 6, .inl (aI l9)))]] rfl (fun H locs hP hD hS => ?_)
  refine lv_aload_n hx hb dX10_net_55 rfl (lv_at hl 1 rfl) ?_
  refine z_get hx hb hts hin10_ hown hK hP 4 rfl rfl 8 (by decide) (hts _ (List.mem_of_getElem? (i := 6) rfl)) rfl dX10_net_56 ?_
  refine z_iconst hx hb dX10_net_59 rfl ?_
  refine z_iconst hx hb dX10_net_60 rfl ?_
  refine z_zast hx hb hK hP 2 hD hS rfl 0 rfl (by decide) (by decide) (by decide) dX10_net_61 [[((a 0), .inl (g.2 1, 88, .inr (.inl (aL (uI (uI (uI (uI (uI (uI S.1 0 0) 1 0) 2 0) 3 0) 4 0) 5 0)))))], [((a 1), .inl (g.2 1, 88, .inr (.inl (aL (uI (uI (uI (uI (uI (uI S.2.1 0 1) 1 1) 2 1) 3 1) 4 1) 5 1)))))], [((a 5), .inl (g.2 2, 2, .inl (aI (uI fk 0 0))))], [((a 7), .inl (g.2 0, 3, .inl (aI z)))], [mdl q a (uI (uI x9 2 0) 3 0)], [((a 6), .inl (g.2 0, 200, .inl (aI f)))], [((a 12), .inl (g.2 0, 24, .inl (aI wd)))], [((a 11), .inl (g.2 0, 4, .inl (aI m9)))], [((a 2), .inl (g.2 0, 6, .inl (aI h9)))], [((a 3), .inl (g.2 0, 18, .inl (aI o9)))], [((a 4), .inl (g.2 0, 6, .inl (aI l9)))]] rfl (fun H locs hP hD hS => ?_)
  refine lv_aload_n hx hb dX10_net_62 rfl (lv_at hl 1 rfl) ?_
  refine z_get hx hb hts hin10_ hown hK hP 4 rfl rfl 8 (by decide) (hts _ (List.mem_of_getElem? (i := 6) rfl)) rfl dX10_net_63 ?_
  refine z_iconst hx hb dX10_net_66 rfl ?_
  refine z_iconst hx hb dX10_net_67 rfl ?_
  refine z_zast hx hb hK hP 2 hD hS rfl 1 rfl (by decide) (by decide) (by decide) dX10_net_68 [[((a 0), .inl (g.2 1, 88, .inr (.inl (aL (uI (uI (uI (uI (uI (uI S.1 0 0) 1 0) 2 0) 3 0) 4 0) 5 0)))))], [((a 1), .inl (g.2 1, 88, .inr (.inl (aL (uI (uI (uI (uI (uI (uI S.2.1 0 1) 1 1) 2 1) 3 1) 4 1) 5 1)))))], [((a 5), .inl (g.2 2, 2, .inl (aI (uI (uI fk 0 0) 1 0))))], [((a 7), .inl (g.2 0, 3, .inl (aI z)))], [mdl q a (uI (uI x9 2 0) 3 0)], [((a 6), .inl (g.2 0, 200, .inl (aI f)))], [((a 12), .inl (g.2 0, 24, .inl (aI wd)))], [((a 11), .inl (g.2 0, 4, .inl (aI m9)))], [((a 2), .inl (g.2 0, 6, .inl (aI h9)))], [((a 3), .inl (g.2 0, 18, .inl (aI o9)))], [((a 4), .inl (g.2 0, 6, .inl (aI l9)))]] rfl (fun H locs hP hD hS => ?_)
  refine z_iconst hx hb dX10_net_69 rfl ?_
  refine lv_istore_n (lv' := [(1, vI 0), (0, .ref q)]) hx hb dX10_net_70 rfl hl (by decide) rfl (fun ls hl => ?_)
  refine lv_iload_n hx hb dX10_net_71 rfl (lv_at hl 0 rfl) ?_
  refine z_iconst hx hb dX10_net_72 rfl ?_
  refine z_icmp_ge (tgt := 89) hx hb (by decide) (by decide) dX10_net_73 (by decide) (fun cq12 => False.elim (by omega)) (fun cq12 => ?_)
  refine lv_aload_n hx hb dX10_net_76 rfl (lv_at hl 1 rfl) ?_
  refine z_get hx hb hts hin10_ hown hK hP 4 rfl rfl 11 (by decide) (hts _ (List.mem_of_getElem? (i := 7) rfl)) rfl dX10_net_77 ?_
  refine lv_iload_n hx hb dX10_net_80 rfl (lv_at hl 0 rfl) ?_
  refine z_iconst hx hb dX10_net_81 rfl ?_
  refine z_iast hx hb hK hP 3 hD hS rfl 0 rfl (by decide) (by decide) dX10_net_82 [[((a 0), .inl (g.2 1, 88, .inr (.inl (aL (uI (uI (uI (uI (uI (uI S.1 0 0) 1 0) 2 0) 3 0) 4 0) 5 0)))))], [((a 1), .inl (g.2 1, 88, .inr (.inl (aL (uI (uI (uI (uI (uI (uI S.2.1 0 1) 1 1) 2 1) 3 1) 4 1) 5 1)))))], [((a 5), .inl (g.2 2, 2, .inl (aI (uI (uI fk 0 0) 1 0))))], [((a 7), .inl (g.2 0, 3, .inl (aI (uI z 0 (-1)))))], [mdl q a (uI (uI x9 2 0) 3 0)], [((a 6), .inl (g.2 0, 200, .inl (aI f)))], [((a 12), .inl (g.2 0, 24, .inl (aI wd)))], [((a 11), .inl (g.2 0, 4, .inl (aI m9)))], [((a 2), .inl (g.2 0, 6, .inl (aI h9)))], [((a 3), .inl (g.2 0, 18, .inl (aI o9)))], [((a 4), .inl (g.2 0, 6, .inl (aI l9)))]] rfl (fun H locs hP hD hS => ?_)
  refine z_iinc hx hb 1 (lv' := [(1, vI 1), (0, .ref q)]) dX10_net_83 hl (k := 0) rfl (rfl) (by decide) rfl (fun ls hl => ?_)
  refine lv_goto (tgt := 71) hx hb dX10_net_86 (by decide) ?_
  refine lv_iload_n hx hb dX10_net_71 rfl (lv_at hl 0 rfl) ?_
  refine z_iconst hx hb dX10_net_72 rfl ?_
  refine z_icmp_ge (tgt := 89) hx hb (by decide) (by decide) dX10_net_73 (by decide) (fun cq13 => False.elim (by omega)) (fun cq13 => ?_)
  refine lv_aload_n hx hb dX10_net_76 rfl (lv_at hl 1 rfl) ?_
  refine z_get hx hb hts hin10_ hown hK hP 4 rfl rfl 11 (by decide) (hts _ (List.mem_of_getElem? (i := 7) rfl)) rfl dX10_net_77 ?_
  refine lv_iload_n hx hb dX10_net_80 rfl (lv_at hl 0 rfl) ?_
  refine z_iconst hx hb dX10_net_81 rfl ?_
  refine z_iast hx hb hK hP 3 hD hS rfl 1 rfl (by decide) (by decide) dX10_net_82 [[((a 0), .inl (g.2 1, 88, .inr (.inl (aL (uI (uI (uI (uI (uI (uI S.1 0 0) 1 0) 2 0) 3 0) 4 0) 5 0)))))], [((a 1), .inl (g.2 1, 88, .inr (.inl (aL (uI (uI (uI (uI (uI (uI S.2.1 0 1) 1 1) 2 1) 3 1) 4 1) 5 1)))))], [((a 5), .inl (g.2 2, 2, .inl (aI (uI (uI fk 0 0) 1 0))))], [((a 7), .inl (g.2 0, 3, .inl (aI (uI (uI z 0 (-1)) 1 (-1)))))], [mdl q a (uI (uI x9 2 0) 3 0)], [((a 6), .inl (g.2 0, 200, .inl (aI f)))], [((a 12), .inl (g.2 0, 24, .inl (aI wd)))], [((a 11), .inl (g.2 0, 4, .inl (aI m9)))], [((a 2), .inl (g.2 0, 6, .inl (aI h9)))], [((a 3), .inl (g.2 0, 18, .inl (aI o9)))], [((a 4), .inl (g.2 0, 6, .inl (aI l9)))]] rfl (fun H locs hP hD hS => ?_)
  refine z_iinc hx hb 2 (lv' := [(1, vI 2), (0, .ref q)]) dX10_net_83 hl (k := 0) rfl (rfl) (by decide) rfl (fun ls hl => ?_)
  refine lv_goto (tgt := 71) hx hb dX10_net_86 (by decide) ?_
  refine lv_iload_n hx hb dX10_net_71 rfl (lv_at hl 0 rfl) ?_
  refine z_iconst hx hb dX10_net_72 rfl ?_
  refine z_icmp_ge (tgt := 89) hx hb (by decide) (by decide) dX10_net_73 (by decide) (fun cq14 => False.elim (by omega)) (fun cq14 => ?_)
  refine lv_aload_n hx hb dX10_net_76 rfl (lv_at hl 1 rfl) ?_
  refine z_get hx hb hts hin10_ hown hK hP 4 rfl rfl 11 (by decide) (hts _ (List.mem_of_getElem? (i := 7) rfl)) rfl dX10_net_77 ?_
  refine lv_iload_n hx hb dX10_net_80 rfl (lv_at hl 0 rfl) ?_
  refine z_iconst hx hb dX10_net_81 rfl ?_
  refine z_iast hx hb hK hP 3 hD hS rfl 2 rfl (by decide) (by decide) dX10_net_82 [[((a 0), .inl (g.2 1, 88, .inr (.inl (aL (uI (uI (uI (uI (uI (uI S.1 0 0) 1 0) 2 0) 3 0) 4 0) 5 0)))))], [((a 1), .inl (g.2 1, 88, .inr (.inl (aL (uI (uI (uI (uI (uI (uI S.2.1 0 1) 1 1) 2 1) 3 1) 4 1) 5 1)))))], [((a 5), .inl (g.2 2, 2, .inl (aI (uI (uI fk 0 0) 1 0))))], [((a 7), .inl (g.2 0, 3, .inl (aI (uI (uI (uI z 0 (-1)) 1 (-1)) 2 (-1)))))], [mdl q a (uI (uI x9 2 0) 3 0)], [((a 6), .inl (g.2 0, 200, .inl (aI f)))], [((a 12), .inl (g.2 0, 24, .inl (aI wd)))], [((a 11), .inl (g.2 0, 4, .inl (aI m9)))], [((a 2), .inl (g.2 0, 6, .inl (aI h9)))], [((a 3), .inl (g.2 0, 18, .inl (aI o9)))], [((a 4), .inl (g.2 0, 6, .inl (aI l9)))]] rfl (fun H locs hP hD hS => ?_)
  refine z_iinc hx hb 3 (lv' := [(1, vI 3), (0, .ref q)]) dX10_net_83 hl (k := 0) rfl (rfl) (by decide) rfl (fun ls hl => ?_)
  refine lv_goto (tgt := 71) hx hb dX10_net_86 (by decide) ?_
  refine lv_iload_n hx hb dX10_net_71 rfl (lv_at hl 0 rfl) ?_
  refine z_iconst hx hb dX10_net_72 rfl ?_
  refine z_icmp_ge (tgt := 89) hx hb (by decide) (by decide) dX10_net_73 (by decide) (fun cq15 => ?_) (fun cq15 => False.elim (by omega))
  refine lv_aload_n hx hb dX10_net_89 rfl (lv_at hl 1 rfl) ?_
  refine z_get hx hb hts hin10_ hown hK hP 4 rfl rfl 18 (by decide) (hts _ (List.mem_of_getElem? (i := 8) rfl)) rfl dX10_net_90 ?_
  refine z_toI (x9 7) rfl ?_
  exact z_reti ((uI (uI x9 2 0) 3 0), m9, h9, o9, l9, b9) [4, 0, 1, 5, 6, 7, 8, 9, 10, 2, 3] hx hb hr rfl hlocks hK hP hD hS (hwu_4.2.2.2) ⟨fun j hj => by dsimp only; rw [uI_n (by omega), uI_n (by omega), hwu_4.1 j (by omega), hwu_1.1 j (by omega)], hwu_4.2.1, hwu_4.2.2.1, rfl, rfl⟩ rfl rfl (rfl) (Nat.le_of_ble_eq_true rfl) (Nat.le_of_ble_eq_true rfl) dX10_net_93
