set_option maxHeartbeats 4000000 in
set_option maxRecDepth 100000 in
theorem c_X10_readsClause0 (l : Launch) (g : zG) (q : Nat) (a : Nat → Nat) (x : Nat → Int) (f : Nat → Int) (n : Nat) (e : Nat) (wd : Nat → Int) (m : Nat → Int) (b : Nat) (hx3 : x 3 = (n : Int)) (hn : n ≤ 200) (he : e ≤ n) (hf : ∀ i, 0 ≤ f i ∧ f i ≤ 255) (hwd : ∀ k, k < 24 → wd k = wds k) (hb6 : 1 ≤ b ∧ b ≤ 6) (hx8 : x 8 = 0) : zMet l g yX10_readsClause wsX10_readsClause 6 0 0 [.ref q] zX0 [[mdl q a (uI (uI (uI x 4 (((tS f n e) : Nat) : Int)) 5 (((nEn f n e) : Nat) : Int)) 6 ((b : Nat) : Int))], [((a 6), .inl (g.2 0, 200, .inl (aI f)))], [((a 12), .inl (g.2 0, 24, .inl (aI wd)))], [((a 11), .inl (g.2 0, 4, .inl (aI m)))]] (qi g (fun (u_ : Nat × (Nat → Int) × Nat) => (cOk f n e b)) (fun (u_ : Nat × (Nat → Int) × Nat) => ((cOk f n e b = 1 → u_.1 = cPs f n e b ∧ u_.1 ≤ n ∧ u_.2.2 = eBW (cWd f n e) b) ∧ (¬ cOk f n e b = 1 → tS f n u_.1 = cPs f n e b ∧ u_.1 ≤ n ∧ u_.2.2 = b) ∧ (cOk f n e b = 0 ∨ cOk f n e b = 1))) (fun (u_ : Nat × (Nat → Int) × Nat) => [[mdl q a (uI (uI (uI x 4 (((tS f n u_.1) : Nat) : Int)) 5 (((nEn f n u_.1) : Nat) : Int)) 6 ((u_.2.2 : Nat) : Int))], [((a 6), .inl (g.2 0, 200, .inl (aI f)))], [((a 12), .inl (g.2 0, 24, .inl (aI wd)))], [((a 11), .inl (g.2 0, 4, .inl (aI u_.2.1)))]])) := by
  have hne1 := nEn_s f he
  refine z_ent (cc := cX10_readsClause) (maxL := 2) (ret := (some .boolean)) (by decide) rfl (Nat.le_of_ble_eq_true rfl) ?_
  intro p eE s mM below meth cC A ls hx hb hr hml hown hts hlocks hin0 hA hK hP hD hS hXX hl
  have hown : s.vm.findClass RX10 = some mM.cls := hown
  have hin10_ : ∀ w ∈ wsX100, w ∈ wsX10_readsClause := zw_in [56, 57, 58, 59, 60, 61, 62, 63, 64, 65, 66, 67, 68, 69, 70, 71, 72, 73, 74, 75, 76, 77, 78, 79, 80, 81] rfl
  have hl : lv_has ls 2 [(0, .ref q)] := hl
  refine lv_aload_n hx hb dX10_readsClause_0 rfl (lv_at hl 0 rfl) ?_
  refine z_cVi (As := []) (rest := []) ⟨hx, hb, hml, hown, hts⟩ hK hP hD hS hA [0, 1, 2] [3] rfl rfl rfl (c_X10_wordHere l g q a (uI (uI (uI x 4 (((tS f n e) : Nat) : Int)) 5 (((nEn f n e) : Nat) : Int)) 6 ((b : Nat) : Int)) f n e wd hx3 (by first | assumption | omega) (by first | assumption | omega) hf hwd) (cwV 0 hts gX10_readsClause_X10_wordHere rfl rfl rfl (by decide +kernel) ⟨Nat.le_of_ble_eq_true rfl, Nat.le_of_ble_eq_true rfl⟩) 10 0 rfl rfl rfl (fun _ _ _ _ _ _ => trivial) (fun _ _ _ => trivial) rfl hl.1 (Nat.le_of_ble_eq_true rfl) rfl dX10_readsClause_1 ⟨Nat.le_of_ble_eq_true rfl, Nat.le_of_ble_eq_true rfl⟩ (fun u_1 H locs hwu_1 hP hD hS => ?_)
  try dsimp only at hwu_1
  have hP : zP g [[((a 11), .inl (g.2 0, 4, .inl (aI m)))], [mdl q a (uI (uI (uI x 4 (((tS f n e) : Nat) : Int)) 5 (((nEn f n e) : Nat) : Int)) 6 ((b : Nat) : Int))], [((a 6), .inl (g.2 0, 200, .inl (aI f)))], [((a 12), .inl (g.2 0, 24, .inl (aI wd)))]] H := hP
  have hD : zD A [[((a 11), .inl (g.2 0, 4, .inl (aI m)))], [mdl q a (uI (uI (uI x 4 (((tS f n e) : Nat) : Int)) 5 (((nEn f n e) : Nat) : Int)) 6 ((b : Nat) : Int))], [((a 6), .inl (g.2 0, 200, .inl (aI f)))], [((a 12), .inl (g.2 0, 24, .inl (aI wd)))]] := hD
  refine z_toI (wR wd f (tS f n e) (nEn f n e)) rfl ?_
  have hwR := wR_c (wd := wd) (f := f) he hwd
  have hcl := cWd_le f n e
  rcases (show cWd f n e = 0 ∨ cWd f n e = 1 ∨ cWd f n e = 2 ∨ cWd f n e = 3 ∨ cWd f n e = 4 by omega) with hW | hW | hW | hW | hW
  · rw [hW] at hwR
    refine z_toI 0 (by rw [hwR]; rfl) ?_
    refine lv_istore_n (lv' := [(1, vI 0), (0, .ref q)]) hx hb dX10_readsClause_4 rfl hl (by decide) rfl (fun ls hl => ?_)
    refine lv_iload_n hx hb dX10_readsClause_5 rfl (lv_at hl 0 rfl) ?_
    refine z_iconst hx hb dX10_readsClause_6 rfl ?_
    refine z_icmp_eq (tgt := 24) hx hb (by decide) (by decide) dX10_readsClause_7 (by decide) (fun cq2 => False.elim (by omega)) (fun cq2 => ?_)
    refine lv_iload_n hx hb dX10_readsClause_10 rfl (lv_at hl 0 rfl) ?_
    refine z_iconst hx hb dX10_readsClause_11 rfl ?_
    refine z_icmp_ne (tgt := 26) hx hb (by decide) (by decide) dX10_readsClause_12 (by decide) (fun cq3 => ?_) (fun cq3 => False.elim (by omega))
    refine lv_aload_n hx hb dX10_readsClause_26 rfl (lv_at hl 1 rfl) ?_
    refine z_cVv (As := []) (rest := []) ⟨hx, hb, hml, hown, hts⟩ hK hP hD hS hA [1, 2] [0, 3] rfl rfl rfl (c_X10_nextToken l g q a (uI (uI (uI x 4 (((tS f n e) : Nat) : Int)) 5 (((nEn f n e) : Nat) : Int)) 6 ((b : Nat) : Int)) f n (nEn f n e) hx3 (by first | assumption | omega) (by first | assumption | omega) hf) (cwV 0 hts gX10_readsClause_X10_nextToken rfl rfl rfl (by decide +kernel) ⟨Nat.le_of_ble_eq_true rfl, Nat.le_of_ble_eq_true rfl⟩) 10 0 rfl rfl rfl (fun _ _ _ _ _ _ => trivial) (fun _ _ _ => trivial) rfl hl.1 (Nat.le_of_ble_eq_true rfl) rfl dX10_readsClause_27 ⟨Nat.le_of_ble_eq_true rfl, Nat.le_of_ble_eq_true rfl⟩ (fun u_4 H locs hwu_4 hP hD hS => ?_)
    try dsimp only at hwu_4
    have hP : zP g [[((a 11), .inl (g.2 0, 4, .inl (aI m)))], [((a 12), .inl (g.2 0, 24, .inl (aI wd)))], [mdl q a (uI (uI (uI x 4 (((tS f n (nEn f n e)) : Nat) : Int)) 5 (((nEn f n (nEn f n e)) : Nat) : Int)) 6 ((b : Nat) : Int))], [((a 6), .inl (g.2 0, 200, .inl (aI f)))]] H := hP
    have hD : zD A [[((a 11), .inl (g.2 0, 4, .inl (aI m)))], [((a 12), .inl (g.2 0, 24, .inl (aI wd)))], [mdl q a (uI (uI (uI x 4 (((tS f n (nEn f n e)) : Nat) : Int)) 5 (((nEn f n (nEn f n e)) : Nat) : Int)) 6 ((b : Nat) : Int))], [((a 6), .inl (g.2 0, 200, .inl (aI f)))]] := hD
    refine lv_aload_n hx hb dX10_readsClause_30 rfl (lv_at hl 1 rfl) ?_
    refine lv_iload_n hx hb dX10_readsClause_31 rfl (lv_at hl 0 rfl) ?_
    refine z_cVi (As := [vI 0]) (rest := []) ⟨hx, hb, hml, hown, hts⟩ hK hP hD hS hA [2, 3, 0] [1] rfl rfl rfl (c_X10_readsRest0 l g q a (uI (uI (uI x 4 (((tS f n (nEn f n e)) : Nat) : Int)) 5 (((nEn f n (nEn f n e)) : Nat) : Int)) 6 ((b : Nat) : Int)) f n e m b hx3 (by first | assumption | omega) (by first | assumption | omega) hf rfl (by first | assumption | omega)) (cwV 1 hts gX10_readsClause_X10_readsRest rfl rfl rfl (by decide +kernel) ⟨Nat.le_of_ble_eq_true rfl, Nat.le_of_ble_eq_true rfl⟩) 10 0 rfl rfl rfl (fun _ _ _ _ _ _ => trivial) (fun _ _ _ => trivial) rfl hl.1 (Nat.le_of_ble_eq_true rfl) rfl dX10_readsClause_32 ⟨Nat.le_of_ble_eq_true rfl, Nat.le_of_ble_eq_true rfl⟩ (fun u_5 H locs hwu_5 hP hD hS => ?_)
    obtain ⟨ea, ma⟩ := u_5
    try dsimp only at hwu_5
    have hP : zP g [[((a 12), .inl (g.2 0, 24, .inl (aI wd)))], [mdl q a (uI (uI (uI x 4 (((tS f n ea) : Nat) : Int)) 5 (((nEn f n ea) : Nat) : Int)) 6 ((b : Nat) : Int))], [((a 6), .inl (g.2 0, 200, .inl (aI f)))], [((a 11), .inl (g.2 0, 4, .inl (aI ma)))]] H := hP
    have hD : zD A [[((a 12), .inl (g.2 0, 24, .inl (aI wd)))], [mdl q a (uI (uI (uI x 4 (((tS f n ea) : Nat) : Int)) 5 (((nEn f n ea) : Nat) : Int)) 6 ((b : Nat) : Int))], [((a 6), .inl (g.2 0, 200, .inl (aI f)))], [((a 11), .inl (g.2 0, 4, .inl (aI ma)))]] := hD
    refine z_toI (cOkW 0 f n e b) rfl ?_
    have hC : cOk f n e b = cOkW 0 f n e b := by unfold cOk; rw [hW]
    have hQ : cPs f n e b = cPsW 0 f n e b := by unfold cPs; rw [hW]
    refine z_if_ne (tgt := 40) hx hb (by omega) dX10_readsClause_35 (by decide) (fun cq6 => ?_) (fun cq6 => ?_)
    · obtain ⟨q1, q2, q3⟩ := hwu_5.1 (by omega)
      refine lv_aload_n hx hb dX10_readsClause_40 rfl (lv_at hl 1 rfl) ?_
      refine lv_iload_n hx hb dX10_readsClause_41 rfl (lv_at hl 0 rfl) ?_
      refine z_if_ne (tgt := 49) hx hb (by decide) dX10_readsClause_42 (by decide) (fun cq7 => False.elim (by omega)) (fun cq7 => ?_)
      refine z_iconst hx hb dX10_readsClause_45 rfl ?_
      refine lv_goto (tgt := 67) hx hb dX10_readsClause_46 (by decide) ?_
      refine z_put hx hb hts hin10_ tyX10 tyX10_ok nmX10 hown hK hP hD hS 1 rfl rfl 17 (by decide) (hts _ (List.mem_of_getElem? (i := 1) rfl)) rfl rfl rfl (Nat.le_of_ble_eq_true rfl) dX10_readsClause_67 [[((a 12), .inl (g.2 0, 24, .inl (aI wd)))], [mdl q a (uI (uI (uI x 4 (((tS f n ea) : Nat) : Int)) 5 (((nEn f n ea) : Nat) : Int)) 6 1)], [((a 6), .inl (g.2 0, 200, .inl (aI f)))], [((a 11), .inl (g.2 0, 4, .inl (aI ma)))]] rfl (fun H locs hP hD hS => ?_)
      refine lv_aload_n hx hb dX10_readsClause_70 rfl (lv_at hl 1 rfl) ?_
      refine z_get hx hb hts hin10_ hown hK hP 1 rfl rfl 19 (by decide) (hts _ (List.mem_of_getElem? (i := 2) rfl)) rfl dX10_readsClause_71 ?_
      refine z_toI (x 8) rfl ?_
      refine z_if_eq (tgt := 82) hx hb (by omega) dX10_readsClause_74 (by decide) (fun cq8 => ?_) (fun cq8 => False.elim (by omega))
      refine z_iconst hx hb dX10_readsClause_82 rfl ?_
      exact z_reti (ea, ma, 1) [1, 2, 0, 3] hx hb hr (nar_z (by first | decide | omega)) hlocks hK hP hD hS (by omega) ⟨fun _ => ⟨by rw [hQ]; exact q1, q2, by rw [hW]; rfl⟩, fun q => False.elim (by omega), by omega⟩ rfl rfl (rfl) (Nat.le_of_ble_eq_true rfl) (Nat.le_of_ble_eq_true rfl) dX10_readsClause_83
    · refine z_iconst hx hb dX10_readsClause_38 rfl ?_
      exact z_reti (ea, ma, b) [1, 2, 0, 3] hx hb hr (nar_z (by first | decide | omega)) hlocks hK hP hD hS (by omega) ⟨fun q => False.elim (by omega), fun _ => ⟨by rw [hQ]; exact (hwu_5.2.1 (by omega)).1, (hwu_5.2.1 (by omega)).2, rfl⟩, by omega⟩ rfl rfl (rfl) (Nat.le_of_ble_eq_true rfl) (Nat.le_of_ble_eq_true rfl) dX10_readsClause_39
  · rw [hW] at hwR
    refine z_toI 1 (by rw [hwR]; rfl) ?_
    refine lv_istore_n (lv' := [(1, vI 1), (0, .ref q)]) hx hb dX10_readsClause_4 rfl hl (by decide) rfl (fun ls hl => ?_)
    refine lv_iload_n hx hb dX10_readsClause_5 rfl (lv_at hl 0 rfl) ?_
    refine z_iconst hx hb dX10_readsClause_6 rfl ?_
    refine z_icmp_eq (tgt := 24) hx hb (by decide) (by decide) dX10_readsClause_7 (by decide) (fun cq9 => False.elim (by omega)) (fun cq9 => ?_)
    refine lv_iload_n hx hb dX10_readsClause_10 rfl (lv_at hl 0 rfl) ?_
    refine z_iconst hx hb dX10_readsClause_11 rfl ?_
    refine z_icmp_ne (tgt := 26) hx hb (by decide) (by decide) dX10_readsClause_12 (by decide) (fun cq10 => ?_) (fun cq10 => False.elim (by omega))
    refine lv_aload_n hx hb dX10_readsClause_26 rfl (lv_at hl 1 rfl) ?_
    refine z_cVv (As := []) (rest := []) ⟨hx, hb, hml, hown, hts⟩ hK hP hD hS hA [1, 2] [0, 3] rfl rfl rfl (c_X10_nextToken l g q a (uI (uI (uI x 4 (((tS f n e) : Nat) : Int)) 5 (((nEn f n e) : Nat) : Int)) 6 ((b : Nat) : Int)) f n (nEn f n e) hx3 (by first | assumption | omega) (by first | assumption | omega) hf) (cwV 0 hts gX10_readsClause_X10_nextToken rfl rfl rfl (by decide +kernel) ⟨Nat.le_of_ble_eq_true rfl, Nat.le_of_ble_eq_true rfl⟩) 10 0 rfl rfl rfl (fun _ _ _ _ _ _ => trivial) (fun _ _ _ => trivial) rfl hl.1 (Nat.le_of_ble_eq_true rfl) rfl dX10_readsClause_27 ⟨Nat.le_of_ble_eq_true rfl, Nat.le_of_ble_eq_true rfl⟩ (fun u_11 H locs hwu_11 hP hD hS => ?_)
    try dsimp only at hwu_11
    have hP : zP g [[((a 11), .inl (g.2 0, 4, .inl (aI m)))], [((a 12), .inl (g.2 0, 24, .inl (aI wd)))], [mdl q a (uI (uI (uI x 4 (((tS f n (nEn f n e)) : Nat) : Int)) 5 (((nEn f n (nEn f n e)) : Nat) : Int)) 6 ((b : Nat) : Int))], [((a 6), .inl (g.2 0, 200, .inl (aI f)))]] H := hP
    have hD : zD A [[((a 11), .inl (g.2 0, 4, .inl (aI m)))], [((a 12), .inl (g.2 0, 24, .inl (aI wd)))], [mdl q a (uI (uI (uI x 4 (((tS f n (nEn f n e)) : Nat) : Int)) 5 (((nEn f n (nEn f n e)) : Nat) : Int)) 6 ((b : Nat) : Int))], [((a 6), .inl (g.2 0, 200, .inl (aI f)))]] := hD
    refine lv_aload_n hx hb dX10_readsClause_30 rfl (lv_at hl 1 rfl) ?_
    refine lv_iload_n hx hb dX10_readsClause_31 rfl (lv_at hl 0 rfl) ?_
    refine z_cVi (As := [vI 1]) (rest := []) ⟨hx, hb, hml, hown, hts⟩ hK hP hD hS hA [2, 3, 0] [1] rfl rfl rfl (c_X10_readsRest1 l g q a (uI (uI (uI x 4 (((tS f n (nEn f n e)) : Nat) : Int)) 5 (((nEn f n (nEn f n e)) : Nat) : Int)) 6 ((b : Nat) : Int)) f n e m b hx3 (by first | assumption | omega) (by first | assumption | omega) hf rfl (by first | assumption | omega)) (cwV 1 hts gX10_readsClause_X10_readsRest rfl rfl rfl (by decide +kernel) ⟨Nat.le_of_ble_eq_true rfl, Nat.le_of_ble_eq_true rfl⟩) 10 0 rfl rfl rfl (fun _ _ _ _ _ _ => trivial) (fun _ _ _ => trivial) rfl hl.1 (Nat.le_of_ble_eq_true rfl) rfl dX10_readsClause_32 ⟨Nat.le_of_ble_eq_true rfl, Nat.le_of_ble_eq_true rfl⟩ (fun u_12 H locs hwu_12 hP hD hS => ?_)
    obtain ⟨ea, ma⟩ := u_12
    try dsimp only at hwu_12
    have hP : zP g [[((a 12), .inl (g.2 0, 24, .inl (aI wd)))], [mdl q a (uI (uI (uI x 4 (((tS f n ea) : Nat) : Int)) 5 (((nEn f n ea) : Nat) : Int)) 6 ((b : Nat) : Int))], [((a 6), .inl (g.2 0, 200, .inl (aI f)))], [((a 11), .inl (g.2 0, 4, .inl (aI ma)))]] H := hP
    have hD : zD A [[((a 12), .inl (g.2 0, 24, .inl (aI wd)))], [mdl q a (uI (uI (uI x 4 (((tS f n ea) : Nat) : Int)) 5 (((nEn f n ea) : Nat) : Int)) 6 ((b : Nat) : Int))], [((a 6), .inl (g.2 0, 200, .inl (aI f)))], [((a 11), .inl (g.2 0, 4, .inl (aI ma)))]] := hD
    refine z_toI (cOkW 1 f n e b) rfl ?_
    have hC : cOk f n e b = cOkW 1 f n e b := by unfold cOk; rw [hW]
    have hQ : cPs f n e b = cPsW 1 f n e b := by unfold cPs; rw [hW]
    refine z_if_ne (tgt := 40) hx hb (by omega) dX10_readsClause_35 (by decide) (fun cq13 => ?_) (fun cq13 => ?_)
    · obtain ⟨q1, q2, q3⟩ := hwu_12.1 (by omega)
      refine lv_aload_n hx hb dX10_readsClause_40 rfl (lv_at hl 1 rfl) ?_
      refine lv_iload_n hx hb dX10_readsClause_41 rfl (lv_at hl 0 rfl) ?_
      refine z_if_ne (tgt := 49) hx hb (by decide) dX10_readsClause_42 (by decide) (fun cq14 => ?_) (fun cq14 => False.elim (by omega))
      refine lv_iload_n hx hb dX10_readsClause_49 rfl (lv_at hl 0 rfl) ?_
      refine z_iconst hx hb dX10_readsClause_50 rfl ?_
      refine z_icmp_ne (tgt := 63) hx hb (by decide) (by decide) dX10_readsClause_51 (by decide) (fun cq15 => ?_) (fun cq15 => False.elim (by omega))
      refine lv_aload_n hx hb dX10_readsClause_63 rfl (lv_at hl 1 rfl) ?_
      refine z_get hx hb hts hin10_ hown hK hP 1 rfl rfl 17 (by decide) (hts _ (List.mem_of_getElem? (i := 1) rfl)) rfl dX10_readsClause_64 ?_
      refine z_toI ((b : Nat) : Int) rfl ?_
      refine z_put hx hb hts hin10_ tyX10 tyX10_ok nmX10 hown hK hP hD hS 1 rfl rfl 17 (by decide) (hts _ (List.mem_of_getElem? (i := 1) rfl)) rfl rfl rfl (Nat.le_of_ble_eq_true rfl) dX10_readsClause_67 [[((a 12), .inl (g.2 0, 24, .inl (aI wd)))], [mdl q a (uI (uI (uI x 4 (((tS f n ea) : Nat) : Int)) 5 (((nEn f n ea) : Nat) : Int)) 6 ((b : Nat) : Int))], [((a 6), .inl (g.2 0, 200, .inl (aI f)))], [((a 11), .inl (g.2 0, 4, .inl (aI ma)))]] rfl (fun H locs hP hD hS => ?_)
      refine lv_aload_n hx hb dX10_readsClause_70 rfl (lv_at hl 1 rfl) ?_
      refine z_get hx hb hts hin10_ hown hK hP 1 rfl rfl 19 (by decide) (hts _ (List.mem_of_getElem? (i := 2) rfl)) rfl dX10_readsClause_71 ?_
      refine z_toI (x 8) rfl ?_
      refine z_if_eq (tgt := 82) hx hb (by omega) dX10_readsClause_74 (by decide) (fun cq16 => ?_) (fun cq16 => False.elim (by omega))
      refine z_iconst hx hb dX10_readsClause_82 rfl ?_
      exact z_reti (ea, ma, b) [1, 2, 0, 3] hx hb hr (nar_z (by first | decide | omega)) hlocks hK hP hD hS (by omega) ⟨fun _ => ⟨by rw [hQ]; exact q1, q2, by rw [hW]; rfl⟩, fun q => False.elim (by omega), by omega⟩ rfl rfl (rfl) (Nat.le_of_ble_eq_true rfl) (Nat.le_of_ble_eq_true rfl) dX10_readsClause_83
    · refine z_iconst hx hb dX10_readsClause_38 rfl ?_
      exact z_reti (ea, ma, b) [1, 2, 0, 3] hx hb hr (nar_z (by first | decide | omega)) hlocks hK hP hD hS (by omega) ⟨fun q => False.elim (by omega), fun _ => ⟨by rw [hQ]; exact (hwu_12.2.1 (by omega)).1, (hwu_12.2.1 (by omega)).2, rfl⟩, by omega⟩ rfl rfl (rfl) (Nat.le_of_ble_eq_true rfl) (Nat.le_of_ble_eq_true rfl) dX10_readsClause_39
  · rw [hW] at hwR
    refine z_toI 2 (by rw [hwR]; rfl) ?_
    refine lv_istore_n (lv' := [(1, vI 2), (0, .ref q)]) hx hb dX10_readsClause_4 rfl hl (by decide) rfl (fun ls hl => ?_)
    refine lv_iload_n hx hb dX10_readsClause_5 rfl (lv_at hl 0 rfl) ?_
    refine z_iconst hx hb dX10_readsClause_6 rfl ?_
    refine z_icmp_eq (tgt := 24) hx hb (by decide) (by decide) dX10_readsClause_7 (by decide) (fun cq17 => False.elim (by omega)) (fun cq17 => ?_)
    refine lv_iload_n hx hb dX10_readsClause_10 rfl (lv_at hl 0 rfl) ?_
    refine z_iconst hx hb dX10_readsClause_11 rfl ?_
    refine z_icmp_ne (tgt := 26) hx hb (by decide) (by decide) dX10_readsClause_12 (by decide) (fun cq18 => False.elim (by omega)) (fun cq18 => ?_)
    refine lv_aload_n hx hb dX10_readsClause_15 rfl (lv_at hl 1 rfl) ?_
    refine z_get hx hb hts hin10_ hown hK hP 1 rfl rfl 17 (by decide) (hts _ (List.mem_of_getElem? (i := 1) rfl)) rfl dX10_readsClause_16 ?_
    refine z_toI ((b : Nat) : Int) rfl ?_
    refine z_bipush hx hb 6 dX10_readsClause_19 rfl ?_
    refine z_icmp_ne (tgt := 26) hx hb (by omega) (by decide) dX10_readsClause_21 (by decide) (fun cq19 => ?_) (fun cq19 => ?_)
    · refine lv_aload_n hx hb dX10_readsClause_26 rfl (lv_at hl 1 rfl) ?_
      refine z_cVv (As := []) (rest := []) ⟨hx, hb, hml, hown, hts⟩ hK hP hD hS hA [1, 2] [0, 3] rfl rfl rfl (c_X10_nextToken l g q a (uI (uI (uI x 4 (((tS f n e) : Nat) : Int)) 5 (((nEn f n e) : Nat) : Int)) 6 ((b : Nat) : Int)) f n (nEn f n e) hx3 (by first | assumption | omega) (by first | assumption | omega) hf) (cwV 0 hts gX10_readsClause_X10_nextToken rfl rfl rfl (by decide +kernel) ⟨Nat.le_of_ble_eq_true rfl, Nat.le_of_ble_eq_true rfl⟩) 10 0 rfl rfl rfl (fun _ _ _ _ _ _ => trivial) (fun _ _ _ => trivial) rfl hl.1 (Nat.le_of_ble_eq_true rfl) rfl dX10_readsClause_27 ⟨Nat.le_of_ble_eq_true rfl, Nat.le_of_ble_eq_true rfl⟩ (fun u_20 H locs hwu_20 hP hD hS => ?_)
      try dsimp only at hwu_20
      have hP : zP g [[((a 11), .inl (g.2 0, 4, .inl (aI m)))], [((a 12), .inl (g.2 0, 24, .inl (aI wd)))], [mdl q a (uI (uI (uI x 4 (((tS f n (nEn f n e)) : Nat) : Int)) 5 (((nEn f n (nEn f n e)) : Nat) : Int)) 6 ((b : Nat) : Int))], [((a 6), .inl (g.2 0, 200, .inl (aI f)))]] H := hP
      have hD : zD A [[((a 11), .inl (g.2 0, 4, .inl (aI m)))], [((a 12), .inl (g.2 0, 24, .inl (aI wd)))], [mdl q a (uI (uI (uI x 4 (((tS f n (nEn f n e)) : Nat) : Int)) 5 (((nEn f n (nEn f n e)) : Nat) : Int)) 6 ((b : Nat) : Int))], [((a 6), .inl (g.2 0, 200, .inl (aI f)))]] := hD
      refine lv_aload_n hx hb dX10_readsClause_30 rfl (lv_at hl 1 rfl) ?_
      refine lv_iload_n hx hb dX10_readsClause_31 rfl (lv_at hl 0 rfl) ?_
      refine z_cVi (As := [vI 2]) (rest := []) ⟨hx, hb, hml, hown, hts⟩ hK hP hD hS hA [2, 3, 0] [1] rfl rfl rfl (c_X10_readsRest2 l g q a (uI (uI (uI x 4 (((tS f n (nEn f n e)) : Nat) : Int)) 5 (((nEn f n (nEn f n e)) : Nat) : Int)) 6 ((b : Nat) : Int)) f n e m b hx3 (by first | assumption | omega) (by first | assumption | omega) hf rfl (by first | assumption | omega) (by first | assumption | omega)) (cwV 1 hts gX10_readsClause_X10_readsRest rfl rfl rfl (by decide +kernel) ⟨Nat.le_of_ble_eq_true rfl, Nat.le_of_ble_eq_true rfl⟩) 10 0 rfl rfl rfl (fun _ _ _ _ _ _ => trivial) (fun _ _ _ => trivial) rfl hl.1 (Nat.le_of_ble_eq_true rfl) rfl dX10_readsClause_32 ⟨Nat.le_of_ble_eq_true rfl, Nat.le_of_ble_eq_true rfl⟩ (fun u_21 H locs hwu_21 hP hD hS => ?_)
      obtain ⟨ea, ma⟩ := u_21
      try dsimp only at hwu_21
      have hP : zP g [[((a 12), .inl (g.2 0, 24, .inl (aI wd)))], [mdl q a (uI (uI (uI x 4 (((tS f n ea) : Nat) : Int)) 5 (((nEn f n ea) : Nat) : Int)) 6 ((b : Nat) : Int))], [((a 6), .inl (g.2 0, 200, .inl (aI f)))], [((a 11), .inl (g.2 0, 4, .inl (aI ma)))]] H := hP
      have hD : zD A [[((a 12), .inl (g.2 0, 24, .inl (aI wd)))], [mdl q a (uI (uI (uI x 4 (((tS f n ea) : Nat) : Int)) 5 (((nEn f n ea) : Nat) : Int)) 6 ((b : Nat) : Int))], [((a 6), .inl (g.2 0, 200, .inl (aI f)))], [((a 11), .inl (g.2 0, 4, .inl (aI ma)))]] := hD
      refine z_toI (cOkW 2 f n e b) rfl ?_
      have hC : cOk f n e b = cOkW 2 f n e b := by unfold cOk; rw [hW]
      have hQ : cPs f n e b = cPsW 2 f n e b := by unfold cPs; rw [hW]
      refine z_if_ne (tgt := 40) hx hb (by omega) dX10_readsClause_35 (by decide) (fun cq22 => ?_) (fun cq22 => ?_)
      · obtain ⟨q1, q2, q3⟩ := hwu_21.1 (by omega)
        refine lv_aload_n hx hb dX10_readsClause_40 rfl (lv_at hl 1 rfl) ?_
        refine lv_iload_n hx hb dX10_readsClause_41 rfl (lv_at hl 0 rfl) ?_
        refine z_if_ne (tgt := 49) hx hb (by decide) dX10_readsClause_42 (by decide) (fun cq23 => ?_) (fun cq23 => False.elim (by omega))
        refine lv_iload_n hx hb dX10_readsClause_49 rfl (lv_at hl 0 rfl) ?_
        refine z_iconst hx hb dX10_readsClause_50 rfl ?_
        refine z_icmp_ne (tgt := 63) hx hb (by decide) (by decide) dX10_readsClause_51 (by decide) (fun cq24 => False.elim (by omega)) (fun cq24 => ?_)
        refine lv_aload_n hx hb dX10_readsClause_54 rfl (lv_at hl 1 rfl) ?_
        refine z_get hx hb hts hin10_ hown hK hP 1 rfl rfl 17 (by decide) (hts _ (List.mem_of_getElem? (i := 1) rfl)) rfl dX10_readsClause_55 ?_
        refine z_toI ((b : Nat) : Int) rfl ?_
        refine z_iconst hx hb dX10_readsClause_58 rfl ?_
        refine z_iadd hx hb (((b + 1) : Nat) : Int) (by omega) dX10_readsClause_59 ?_
        refine lv_goto (tgt := 67) hx hb dX10_readsClause_60 (by decide) ?_
        refine z_put hx hb hts hin10_ tyX10 tyX10_ok nmX10 hown hK hP hD hS 1 rfl rfl 17 (by decide) (hts _ (List.mem_of_getElem? (i := 1) rfl)) rfl rfl rfl (Nat.le_of_ble_eq_true rfl) dX10_readsClause_67 [[((a 12), .inl (g.2 0, 24, .inl (aI wd)))], [mdl q a (uI (uI (uI x 4 (((tS f n ea) : Nat) : Int)) 5 (((nEn f n ea) : Nat) : Int)) 6 (((b + 1) : Nat) : Int))], [((a 6), .inl (g.2 0, 200, .inl (aI f)))], [((a 11), .inl (g.2 0, 4, .inl (aI ma)))]] rfl (fun H locs hP hD hS => ?_)
        refine lv_aload_n hx hb dX10_readsClause_70 rfl (lv_at hl 1 rfl) ?_
        refine z_get hx hb hts hin10_ hown hK hP 1 rfl rfl 19 (by decide) (hts _ (List.mem_of_getElem? (i := 2) rfl)) rfl dX10_readsClause_71 ?_
        refine z_toI (x 8) rfl ?_
        refine z_if_eq (tgt := 82) hx hb (by omega) dX10_readsClause_74 (by decide) (fun cq25 => ?_) (fun cq25 => False.elim (by omega))
        refine z_iconst hx hb dX10_readsClause_82 rfl ?_
        exact z_reti (ea, ma, (b + 1)) [1, 2, 0, 3] hx hb hr (nar_z (by first | decide | omega)) hlocks hK hP hD hS (by omega) ⟨fun _ => ⟨by rw [hQ]; exact q1, q2, by rw [hW]; rfl⟩, fun q => False.elim (by omega), by omega⟩ rfl rfl (rfl) (Nat.le_of_ble_eq_true rfl) (Nat.le_of_ble_eq_true rfl) dX10_readsClause_83
      · refine z_iconst hx hb dX10_readsClause_38 rfl ?_
        exact z_reti (ea, ma, b) [1, 2, 0, 3] hx hb hr (nar_z (by first | decide | omega)) hlocks hK hP hD hS (by omega) ⟨fun q => False.elim (by omega), fun _ => ⟨by rw [hQ]; exact (hwu_21.2.1 (by omega)).1, (hwu_21.2.1 (by omega)).2, rfl⟩, by omega⟩ rfl rfl (rfl) (Nat.le_of_ble_eq_true rfl) (Nat.le_of_ble_eq_true rfl) dX10_readsClause_39
    · refine z_iconst hx hb dX10_readsClause_24 rfl ?_
      have hC : cOk f n e b = 0 := by unfold cOk; rw [hW]; show (if b = 6 then (0 : Int) else _) = 0; rw [if_pos (by omega)]
      have hQ : cPs f n e b = tS f n e := by unfold cPs; rw [hW]; show (if b = 6 then _ else _) = _; rw [if_pos (by omega)]
      exact z_reti (e, m, b) [1, 2, 3, 0] hx hb hr (nar_z (by first | decide | omega)) hlocks hK hP hD hS (hC.symm) ⟨fun q => False.elim (by omega), fun _ => ⟨hQ.symm, he, rfl⟩, Or.inl hC⟩ rfl rfl (rfl) (Nat.le_of_ble_eq_true rfl) (Nat.le_of_ble_eq_true rfl) dX10_readsClause_25
  · rw [hW] at hwR
    refine z_toI 3 (by rw [hwR]; rfl) ?_
    refine lv_istore_n (lv' := [(1, vI 3), (0, .ref q)]) hx hb dX10_readsClause_4 rfl hl (by decide) rfl (fun ls hl => ?_)
    refine lv_iload_n hx hb dX10_readsClause_5 rfl (lv_at hl 0 rfl) ?_
    refine z_iconst hx hb dX10_readsClause_6 rfl ?_
    refine z_icmp_eq (tgt := 24) hx hb (by decide) (by decide) dX10_readsClause_7 (by decide) (fun cq26 => False.elim (by omega)) (fun cq26 => ?_)
    refine lv_iload_n hx hb dX10_readsClause_10 rfl (lv_at hl 0 rfl) ?_
    refine z_iconst hx hb dX10_readsClause_11 rfl ?_
    refine z_icmp_ne (tgt := 26) hx hb (by decide) (by decide) dX10_readsClause_12 (by decide) (fun cq27 => ?_) (fun cq27 => False.elim (by omega))
    refine lv_aload_n hx hb dX10_readsClause_26 rfl (lv_at hl 1 rfl) ?_
    refine z_cVv (As := []) (rest := []) ⟨hx, hb, hml, hown, hts⟩ hK hP hD hS hA [1, 2] [0, 3] rfl rfl rfl (c_X10_nextToken l g q a (uI (uI (uI x 4 (((tS f n e) : Nat) : Int)) 5 (((nEn f n e) : Nat) : Int)) 6 ((b : Nat) : Int)) f n (nEn f n e) hx3 (by first | assumption | omega) (by first | assumption | omega) hf) (cwV 0 hts gX10_readsClause_X10_nextToken rfl rfl rfl (by decide +kernel) ⟨Nat.le_of_ble_eq_true rfl, Nat.le_of_ble_eq_true rfl⟩) 10 0 rfl rfl rfl (fun _ _ _ _ _ _ => trivial) (fun _ _ _ => trivial) rfl hl.1 (Nat.le_of_ble_eq_true rfl) rfl dX10_readsClause_27 ⟨Nat.le_of_ble_eq_true rfl, Nat.le_of_ble_eq_true rfl⟩ (fun u_28 H locs hwu_28 hP hD hS => ?_)
    try dsimp only at hwu_28
    have hP : zP g [[((a 11), .inl (g.2 0, 4, .inl (aI m)))], [((a 12), .inl (g.2 0, 24, .inl (aI wd)))], [mdl q a (uI (uI (uI x 4 (((tS f n (nEn f n e)) : Nat) : Int)) 5 (((nEn f n (nEn f n e)) : Nat) : Int)) 6 ((b : Nat) : Int))], [((a 6), .inl (g.2 0, 200, .inl (aI f)))]] H := hP
    have hD : zD A [[((a 11), .inl (g.2 0, 4, .inl (aI m)))], [((a 12), .inl (g.2 0, 24, .inl (aI wd)))], [mdl q a (uI (uI (uI x 4 (((tS f n (nEn f n e)) : Nat) : Int)) 5 (((nEn f n (nEn f n e)) : Nat) : Int)) 6 ((b : Nat) : Int))], [((a 6), .inl (g.2 0, 200, .inl (aI f)))]] := hD
    refine lv_aload_n hx hb dX10_readsClause_30 rfl (lv_at hl 1 rfl) ?_
    refine lv_iload_n hx hb dX10_readsClause_31 rfl (lv_at hl 0 rfl) ?_
    refine z_cVi (As := [vI 3]) (rest := []) ⟨hx, hb, hml, hown, hts⟩ hK hP hD hS hA [2, 3, 0] [1] rfl rfl rfl (c_X10_readsRest3 l g q a (uI (uI (uI x 4 (((tS f n (nEn f n e)) : Nat) : Int)) 5 (((nEn f n (nEn f n e)) : Nat) : Int)) 6 ((b : Nat) : Int)) f n e m b hx3 (by first | assumption | omega) (by first | assumption | omega) hf rfl (by first | assumption | omega)) (cwV 1 hts gX10_readsClause_X10_readsRest rfl rfl rfl (by decide +kernel) ⟨Nat.le_of_ble_eq_true rfl, Nat.le_of_ble_eq_true rfl⟩) 10 0 rfl rfl rfl (fun _ _ _ _ _ _ => trivial) (fun _ _ _ => trivial) rfl hl.1 (Nat.le_of_ble_eq_true rfl) rfl dX10_readsClause_32 ⟨Nat.le_of_ble_eq_true rfl, Nat.le_of_ble_eq_true rfl⟩ (fun u_29 H locs hwu_29 hP hD hS => ?_)
    obtain ⟨ea, ma⟩ := u_29
    try dsimp only at hwu_29
    have hP : zP g [[((a 12), .inl (g.2 0, 24, .inl (aI wd)))], [mdl q a (uI (uI (uI x 4 (((tS f n ea) : Nat) : Int)) 5 (((nEn f n ea) : Nat) : Int)) 6 ((b : Nat) : Int))], [((a 6), .inl (g.2 0, 200, .inl (aI f)))], [((a 11), .inl (g.2 0, 4, .inl (aI ma)))]] H := hP
    have hD : zD A [[((a 12), .inl (g.2 0, 24, .inl (aI wd)))], [mdl q a (uI (uI (uI x 4 (((tS f n ea) : Nat) : Int)) 5 (((nEn f n ea) : Nat) : Int)) 6 ((b : Nat) : Int))], [((a 6), .inl (g.2 0, 200, .inl (aI f)))], [((a 11), .inl (g.2 0, 4, .inl (aI ma)))]] := hD
    refine z_toI (cOkW 3 f n e b) rfl ?_
    have hC : cOk f n e b = cOkW 3 f n e b := by unfold cOk; rw [hW]
    have hQ : cPs f n e b = cPsW 3 f n e b := by unfold cPs; rw [hW]
    refine z_if_ne (tgt := 40) hx hb (by omega) dX10_readsClause_35 (by decide) (fun cq30 => ?_) (fun cq30 => ?_)
    · obtain ⟨q1, q2, q3⟩ := hwu_29.1 (by omega)
      have hq9 := nOk_v (cOk3 (show cOkW 3 f n e b = 1 by omega)).1
      refine lv_aload_n hx hb dX10_readsClause_40 rfl (lv_at hl 1 rfl) ?_
      refine lv_iload_n hx hb dX10_readsClause_41 rfl (lv_at hl 0 rfl) ?_
      refine z_if_ne (tgt := 49) hx hb (by decide) dX10_readsClause_42 (by decide) (fun cq31 => ?_) (fun cq31 => False.elim (by omega))
      refine lv_iload_n hx hb dX10_readsClause_49 rfl (lv_at hl 0 rfl) ?_
      refine z_iconst hx hb dX10_readsClause_50 rfl ?_
      refine z_icmp_ne (tgt := 63) hx hb (by decide) (by decide) dX10_readsClause_51 (by decide) (fun cq32 => ?_) (fun cq32 => False.elim (by omega))
      refine lv_aload_n hx hb dX10_readsClause_63 rfl (lv_at hl 1 rfl) ?_
      refine z_get hx hb hts hin10_ hown hK hP 1 rfl rfl 17 (by decide) (hts _ (List.mem_of_getElem? (i := 1) rfl)) rfl dX10_readsClause_64 ?_
      refine z_toI ((b : Nat) : Int) rfl ?_
      refine z_put hx hb hts hin10_ tyX10 tyX10_ok nmX10 hown hK hP hD hS 1 rfl rfl 17 (by decide) (hts _ (List.mem_of_getElem? (i := 1) rfl)) rfl rfl rfl (Nat.le_of_ble_eq_true rfl) dX10_readsClause_67 [[((a 12), .inl (g.2 0, 24, .inl (aI wd)))], [mdl q a (uI (uI (uI x 4 (((tS f n ea) : Nat) : Int)) 5 (((nEn f n ea) : Nat) : Int)) 6 ((b : Nat) : Int))], [((a 6), .inl (g.2 0, 200, .inl (aI f)))], [((a 11), .inl (g.2 0, 4, .inl (aI ma)))]] rfl (fun H locs hP hD hS => ?_)
      refine lv_aload_n hx hb dX10_readsClause_70 rfl (lv_at hl 1 rfl) ?_
      refine z_get hx hb hts hin10_ hown hK hP 1 rfl rfl 19 (by decide) (hts _ (List.mem_of_getElem? (i := 2) rfl)) rfl dX10_readsClause_71 ?_
      refine z_toI (x 8) rfl ?_
      refine z_if_eq (tgt := 82) hx hb (by omega) dX10_readsClause_74 (by decide) (fun cq33 => ?_) (fun cq33 => False.elim (by omega))
      refine z_iconst hx hb dX10_readsClause_82 rfl ?_
      exact z_reti (ea, ma, b) [1, 2, 0, 3] hx hb hr (nar_z (by first | decide | omega)) hlocks hK hP hD hS (by omega) ⟨fun _ => ⟨by rw [hQ]; exact q1, q2, by rw [hW]; rfl⟩, fun q => False.elim (by omega), by omega⟩ rfl rfl (rfl) (Nat.le_of_ble_eq_true rfl) (Nat.le_of_ble_eq_true rfl) dX10_readsClause_83
    · refine z_iconst hx hb dX10_readsClause_38 rfl ?_
      exact z_reti (ea, ma, b) [1, 2, 0, 3] hx hb hr (nar_z (by first | decide | omega)) hlocks hK hP hD hS (by omega) ⟨fun q => False.elim (by omega), fun _ => ⟨by rw [hQ]; exact (hwu_29.2.1 (by omega)).1, (hwu_29.2.1 (by omega)).2, rfl⟩, by omega⟩ rfl rfl (rfl) (Nat.le_of_ble_eq_true rfl) (Nat.le_of_ble_eq_true rfl) dX10_readsClause_39
  · rw [hW] at hwR
    refine z_toI (-1) (by rw [hwR]; rfl) ?_
    refine lv_istore_n (lv' := [(1, vI (-1)), (0, .ref q)]) hx hb dX10_readsClause_4 rfl hl (by decide) rfl (fun ls hl => ?_)
    refine lv_iload_n hx hb dX10_readsClause_5 rfl (lv_at hl 0 rfl) ?_
    refine z_iconst hx hb dX10_readsClause_6 rfl ?_
    refine z_icmp_eq (tgt := 24) hx hb (by decide) (by decide) dX10_readsClause_7 (by decide) (fun cq34 => ?_) (fun cq34 => False.elim (by omega))
    refine z_iconst hx hb dX10_readsClause_24 rfl ?_
    have hC : cOk f n e b = 0 := by unfold cOk; rw [hW]; rfl
    have hQ : cPs f n e b = tS f n e := by unfold cPs; rw [hW]; rfl
    exact z_reti (e, m, b) [1, 2, 3, 0] hx hb hr (nar_z (by first | decide | omega)) hlocks hK hP hD hS (hC.symm) ⟨fun q => False.elim (by omega), fun _ => ⟨hQ.symm, he, rfl⟩, Or.inl hC⟩ rfl rfl (rfl) (Nat.le_of_ble_eq_true rfl) (Nat.le_of_ble_eq_true rfl) dX10_readsClause_25

set_option maxHeartbeats 4000000 in
set_option maxRecDepth 100000 in
theorem c_X10_readsClause1 (l : Launch) (g : zG) (q : Nat) (a : Nat → Nat) (x : Nat → Int) (f : Nat → Int) (n : Nat) (e : Nat) (wd : Nat → Int) (m : Nat → Int) (b : Nat) (v : Int) (h : Nat → Int) (o : Nat → Int) (l_ : Nat → Int) (hx3 : x 3 = (n : Int)) (hn : n ≤ 200) (he : e ≤ n) (hf : ∀ i, 0 ≤ f i ∧ f i ≤ 255) (hwd : ∀ k, k < 24 → wd k = wds k) (hb6 : 1 ≤ b ∧ b ≤ 6) (hx8 : x 8 = 1) : zMet l g yX10_readsClause wsX10_readsClause 6 0 0 [.ref q] zX0 [[mdl q a (uI (uI (uI (uI (uI x 0 v) 1 ((b : Nat) : Int)) 4 (((tS f n e) : Nat) : Int)) 5 (((nEn f n e) : Nat) : Int)) 6 ((b : Nat) : Int))], [((a 6), .inl (g.2 0, 200, .inl (aI f)))], [((a 12), .inl (g.2 0, 24, .inl (aI wd)))], [((a 11), .inl (g.2 0, 4, .inl (aI m)))], [((a 2), .inl (g.2 0, 6, .inl (aI h)))], [((a 3), .inl (g.2 0, 18, .inl (aI o)))], [((a 4), .inl (g.2 0, 6, .inl (aI l_)))]] (qi g (fun (u_ : Nat × (Nat → Int) × Nat × Int × (Nat → Int) × (Nat → Int) × (Nat → Int)) => (cOk f n e b)) (fun (u_ : Nat × (Nat → Int) × Nat × Int × (Nat → Int) × (Nat → Int) × (Nat → Int)) => ((cOk f n e b = 1 → u_.1 = cPs f n e b ∧ u_.1 ≤ n ∧ u_.2.2.1 = eBW (cWd f n e) b ∧ u_.2.2.2.1 = eVW (cWd f n e) f n e v ∧ u_.2.2.2.2.1 = eHM (cWd f n e) f n e b h ∧ u_.2.2.2.2.2.1 = eOW (cWd f n e) f n e b o ∧ u_.2.2.2.2.2.2 = eLM (cWd f n e) f n e b l_) ∧ (¬ cOk f n e b = 1 → tS f n u_.1 = cPs f n e b ∧ u_.1 ≤ n ∧ u_.2.2.1 = b) ∧ (cOk f n e b = 0 ∨ cOk f n e b = 1))) (fun (u_ : Nat × (Nat → Int) × Nat × Int × (Nat → Int) × (Nat → Int) × (Nat → Int)) => [[mdl q a (uI (uI (uI (uI (uI x 0 u_.2.2.2.1) 1 ((u_.2.2.1 : Nat) : Int)) 4 (((tS f n u_.1) : Nat) : Int)) 5 (((nEn f n u_.1) : Nat) : Int)) 6 ((u_.2.2.1 : Nat) : Int))], [((a 6), .inl (g.2 0, 200, .inl (aI f)))], [((a 12), .inl (g.2 0, 24, .inl (aI wd)))], [((a 11), .inl (g.2 0, 4, .inl (aI u_.2.1)))], [((a 2), .inl (g.2 0, 6, .inl (aI u_.2.2.2.2.1)))], [((a 3), .inl (g.2 0, 18, .inl (aI u_.2.2.2.2.2.1)))], [((a 4), .inl (g.2 0, 6, .inl (aI u_.2.2.2.2.2.2)))]])) := by
  have hne1 := nEn_s f he
  refine z_ent (cc := cX10_readsClause) (maxL := 2) (ret := (some .boolean)) (by decide) rfl (Nat.le_of_ble_eq_true rfl) ?_
  intro p eE s mM below meth cC A ls hx hb hr hml hown hts hlocks hin0 hA hK hP hD hS hXX hl
  have hown : s.vm.findClass RX10 = some mM.cls := hown
  have hin10_ : ∀ w ∈ wsX100, w ∈ wsX10_readsClause := zw_in [56, 57, 58, 59, 60, 61, 62, 63, 64, 65, 66, 67, 68, 69, 70, 71, 72, 73, 74, 75, 76, 77, 78, 79, 80, 81] rfl
  have hl : lv_has ls 2 [(0, .ref q)] := hl
  refine lv_aload_n hx hb dX10_readsClause_0 rfl (lv_at hl 0 rfl) ?_
  refine z_cVi (As := []) (rest := []) ⟨hx, hb, hml, hown, hts⟩ hK hP hD hS hA [0, 1, 2] [3, 4, 5, 6] rfl rfl rfl (c_X10_wordHere l g q a (uI (uI (uI (uI (uI x 0 v) 1 ((b : Nat) : Int)) 4 (((tS f n e) : Nat) : Int)) 5 (((nEn f n e) : Nat) : Int)) 6 ((b : Nat) : Int)) f n e wd hx3 (by first | assumption | omega) (by first | assumption | omega) hf hwd) (cwV 0 hts gX10_readsClause_X10_wordHere rfl rfl rfl (by decide +kernel) ⟨Nat.le_of_ble_eq_true rfl, Nat.le_of_ble_eq_true rfl⟩) 10 0 rfl rfl rfl (fun _ _ _ _ _ _ => trivial) (fun _ _ _ => trivial) rfl hl.1 (Nat.le_of_ble_eq_true rfl) rfl dX10_readsClause_1 ⟨Nat.le_of_ble_eq_true rfl, Nat.le_of_ble_eq_true rfl⟩ (fun u_1 H locs hwu_1 hP hD hS => ?_)
  try dsimp only at hwu_1
  have hP : zP g [[((a 11), .inl (g.2 0, 4, .inl (aI m)))], [((a 2), .inl (g.2 0, 6, .inl (aI h)))], [((a 3), .inl (g.2 0, 18, .inl (aI o)))], [((a 4), .inl (g.2 0, 6, .inl (aI l_)))], [mdl q a (uI (uI (uI (uI (uI x 0 v) 1 ((b : Nat) : Int)) 4 (((tS f n e) : Nat) : Int)) 5 (((nEn f n e) : Nat) : Int)) 6 ((b : Nat) : Int))], [((a 6), .inl (g.2 0, 200, .inl (aI f)))], [((a 12), .inl (g.2 0, 24, .inl (aI wd)))]] H := hP
  have hD : zD A [[((a 11), .inl (g.2 0, 4, .inl (aI m)))], [((a 2), .inl (g.2 0, 6, .inl (aI h)))], [((a 3), .inl (g.2 0, 18, .inl (aI o)))], [((a 4), .inl (g.2 0, 6, .inl (aI l_)))], [mdl q a (uI (uI (uI (uI (uI x 0 v) 1 ((b : Nat) : Int)) 4 (((tS f n e) : Nat) : Int)) 5 (((nEn f n e) : Nat) : Int)) 6 ((b : Nat) : Int))], [((a 6), .inl (g.2 0, 200, .inl (aI f)))], [((a 12), .inl (g.2 0, 24, .inl (aI wd)))]] := hD
  refine z_toI (wR wd f (tS f n e) (nEn f n e)) rfl ?_
  have hwR := wR_c (wd := wd) (f := f) he hwd
  have hcl := cWd_le f n e
  rcases (show cWd f n e = 0 ∨ cWd f n e = 1 ∨ cWd f n e = 2 ∨ cWd f n e = 3 ∨ cWd f n e = 4 by omega) with hW | hW | hW | hW | hW
  · rw [hW] at hwR
    refine z_toI 0 (by rw [hwR]; rfl) ?_
    refine lv_istore_n (lv' := [(1, vI 0), (0, .ref q)]) hx hb dX10_readsClause_4 rfl hl (by decide) rfl (fun ls hl => ?_)
    refine lv_iload_n hx hb dX10_readsClause_5 rfl (lv_at hl 0 rfl) ?_
    refine z_iconst hx hb dX10_readsClause_6 rfl ?_
    refine z_icmp_eq (tgt := 24) hx hb (by decide) (by decide) dX10_readsClause_7 (by decide) (fun cq2 => False.elim (by omega)) (fun cq2 => ?_)
    refine lv_iload_n hx hb dX10_readsClause_10 rfl (lv_at hl 0 rfl) ?_
    refine z_iconst hx hb dX10_readsClause_11 rfl ?_
    refine z_icmp_ne (tgt := 26) hx hb (by decide) (by decide) dX10_readsClause_12 (by decide) (fun cq3 => ?_) (fun cq3 => False.elim (by omega))
    refine lv_aload_n hx hb dX10_readsClause_26 rfl (lv_at hl 1 rfl) ?_
    refine z_cVv (As := []) (rest := []) ⟨hx, hb, hml, hown, hts⟩ hK hP hD hS hA [4, 5] [0, 1, 2, 3, 6] rfl rfl rfl (c_X10_nextToken l g q a (uI (uI (uI (uI (uI x 0 v) 1 ((b : Nat) : Int)) 4 (((tS f n e) : Nat) : Int)) 5 (((nEn f n e) : Nat) : Int)) 6 ((b : Nat) : Int)) f n (nEn f n e) hx3 (by first | assumption | omega) (by first | assumption | omega) hf) (cwV 0 hts gX10_readsClause_X10_nextToken rfl rfl rfl (by decide +kernel) ⟨Nat.le_of_ble_eq_true rfl, Nat.le_of_ble_eq_true rfl⟩) 10 0 rfl rfl rfl (fun _ _ _ _ _ _ => trivial) (fun _ _ _ => trivial) rfl hl.1 (Nat.le_of_ble_eq_true rfl) rfl dX10_readsClause_27 ⟨Nat.le_of_ble_eq_true rfl, Nat.le_of_ble_eq_true rfl⟩ (fun u_4 H locs hwu_4 hP hD hS => ?_)
    try dsimp only at hwu_4
    have hP : zP g [[((a 11), .inl (g.2 0, 4, .inl (aI m)))], [((a 2), .inl (g.2 0, 6, .inl (aI h)))], [((a 3), .inl (g.2 0, 18, .inl (aI o)))], [((a 4), .inl (g.2 0, 6, .inl (aI l_)))], [((a 12), .inl (g.2 0, 24, .inl (aI wd)))], [mdl q a (uI (uI (uI (uI (uI x 0 v) 1 ((b : Nat) : Int)) 4 (((tS f n (nEn f n e)) : Nat) : Int)) 5 (((nEn f n (nEn f n e)) : Nat) : Int)) 6 ((b : Nat) : Int))], [((a 6), .inl (g.2 0, 200, .inl (aI f)))]] H := hP
    have hD : zD A [[((a 11), .inl (g.2 0, 4, .inl (aI m)))], [((a 2), .inl (g.2 0, 6, .inl (aI h)))], [((a 3), .inl (g.2 0, 18, .inl (aI o)))], [((a 4), .inl (g.2 0, 6, .inl (aI l_)))], [((a 12), .inl (g.2 0, 24, .inl (aI wd)))], [mdl q a (uI (uI (uI (uI (uI x 0 v) 1 ((b : Nat) : Int)) 4 (((tS f n (nEn f n e)) : Nat) : Int)) 5 (((nEn f n (nEn f n e)) : Nat) : Int)) 6 ((b : Nat) : Int))], [((a 6), .inl (g.2 0, 200, .inl (aI f)))]] := hD
    refine lv_aload_n hx hb dX10_readsClause_30 rfl (lv_at hl 1 rfl) ?_
    refine lv_iload_n hx hb dX10_readsClause_31 rfl (lv_at hl 0 rfl) ?_
    refine z_cVi (As := [vI 0]) (rest := []) ⟨hx, hb, hml, hown, hts⟩ hK hP hD hS hA [5, 6, 0] [1, 2, 3, 4] rfl rfl rfl (c_X10_readsRest0 l g q a (uI (uI (uI (uI (uI x 0 v) 1 ((b : Nat) : Int)) 4 (((tS f n (nEn f n e)) : Nat) : Int)) 5 (((nEn f n (nEn f n e)) : Nat) : Int)) 6 ((b : Nat) : Int)) f n e m b hx3 (by first | assumption | omega) (by first | assumption | omega) hf rfl (by first | assumption | omega)) (cwV 1 hts gX10_readsClause_X10_readsRest rfl rfl rfl (by decide +kernel) ⟨Nat.le_of_ble_eq_true rfl, Nat.le_of_ble_eq_true rfl⟩) 10 0 rfl rfl rfl (fun _ _ _ _ _ _ => trivial) (fun _ _ _ => trivial) rfl hl.1 (Nat.le_of_ble_eq_true rfl) rfl dX10_readsClause_32 ⟨Nat.le_of_ble_eq_true rfl, Nat.le_of_ble_eq_true rfl⟩ (fun u_5 H locs hwu_5 hP hD hS => ?_)
    obtain ⟨ea, ma⟩ := u_5
    try dsimp only at hwu_5
    have hP : zP g [[((a 2), .inl (g.2 0, 6, .inl (aI h)))], [((a 3), .inl (g.2 0, 18, .inl (aI o)))], [((a 4), .inl (g.2 0, 6, .inl (aI l_)))], [((a 12), .inl (g.2 0, 24, .inl (aI wd)))], [mdl q a (uI (uI (uI (uI (uI x 0 v) 1 ((b : Nat) : Int)) 4 (((tS f n ea) : Nat) : Int)) 5 (((nEn f n ea) : Nat) : Int)) 6 ((b : Nat) : Int))], [((a 6), .inl (g.2 0, 200, .inl (aI f)))], [((a 11), .inl (g.2 0, 4, .inl (aI ma)))]] H := hP
    have hD : zD A [[((a 2), .inl (g.2 0, 6, .inl (aI h)))], [((a 3), .inl (g.2 0, 18, .inl (aI o)))], [((a 4), .inl (g.2 0, 6, .inl (aI l_)))], [((a 12), .inl (g.2 0, 24, .inl (aI wd)))], [mdl q a (uI (uI (uI (uI (uI x 0 v) 1 ((b : Nat) : Int)) 4 (((tS f n ea) : Nat) : Int)) 5 (((nEn f n ea) : Nat) : Int)) 6 ((b : Nat) : Int))], [((a 6), .inl (g.2 0, 200, .inl (aI f)))], [((a 11), .inl (g.2 0, 4, .inl (aI ma)))]] := hD
    refine z_toI (cOkW 0 f n e b) rfl ?_
    have hC : cOk f n e b = cOkW 0 f n e b := by unfold cOk; rw [hW]
    have hQ : cPs f n e b = cPsW 0 f n e b := by unfold cPs; rw [hW]
    refine z_if_ne (tgt := 40) hx hb (by omega) dX10_readsClause_35 (by decide) (fun cq6 => ?_) (fun cq6 => ?_)
    · obtain ⟨q1, q2, q3⟩ := hwu_5.1 (by omega)
      refine lv_aload_n hx hb dX10_readsClause_40 rfl (lv_at hl 1 rfl) ?_
      refine lv_iload_n hx hb dX10_readsClause_41 rfl (lv_at hl 0 rfl) ?_
      refine z_if_ne (tgt := 49) hx hb (by decide) dX10_readsClause_42 (by decide) (fun cq7 => False.elim (by omega)) (fun cq7 => ?_)
      refine z_iconst hx hb dX10_readsClause_45 rfl ?_
      refine lv_goto (tgt := 67) hx hb dX10_readsClause_46 (by decide) ?_
      refine z_put hx hb hts hin10_ tyX10 tyX10_ok nmX10 hown hK hP hD hS 4 rfl rfl 17 (by decide) (hts _ (List.mem_of_getElem? (i := 1) rfl)) rfl rfl rfl (Nat.le_of_ble_eq_true rfl) dX10_readsClause_67 [[((a 2), .inl (g.2 0, 6, .inl (aI h)))], [((a 3), .inl (g.2 0, 18, .inl (aI o)))], [((a 4), .inl (g.2 0, 6, .inl (aI l_)))], [((a 12), .inl (g.2 0, 24, .inl (aI wd)))], [mdl q a (uI (uI (uI (uI (uI x 0 v) 1 ((b : Nat) : Int)) 4 (((tS f n ea) : Nat) : Int)) 5 (((nEn f n ea) : Nat) : Int)) 6 1)], [((a 6), .inl (g.2 0, 200, .inl (aI f)))], [((a 11), .inl (g.2 0, 4, .inl (aI ma)))]] rfl (fun H locs hP hD hS => ?_)
      refine lv_aload_n hx hb dX10_readsClause_70 rfl (lv_at hl 1 rfl) ?_
      refine z_get hx hb hts hin10_ hown hK hP 4 rfl rfl 19 (by decide) (hts _ (List.mem_of_getElem? (i := 2) rfl)) rfl dX10_readsClause_71 ?_
      refine z_toI (x 8) rfl ?_
      refine z_if_eq (tgt := 82) hx hb (by omega) dX10_readsClause_74 (by decide) (fun cq8 => False.elim (by omega)) (fun cq8 => ?_)
      refine lv_aload_n hx hb dX10_readsClause_77 rfl (lv_at hl 1 rfl) ?_
      refine lv_iload_n hx hb dX10_readsClause_78 rfl (lv_at hl 0 rfl) ?_
      refine z_cVv (As := [vI 0]) (rest := []) ⟨hx, hb, hml, hown, hts⟩ hK hP hD hS hA [4, 1, 6] [0, 2, 3, 5] rfl rfl rfl (c_X10_does0 l g q a (uI (uI (uI (uI (uI x 0 v) 1 ((b : Nat) : Int)) 4 (((tS f n ea) : Nat) : Int)) 5 (((nEn f n ea) : Nat) : Int)) 6 1) o ma ) (cwV 1 hts gX10_readsClause_X10_does rfl rfl rfl (by decide +kernel) ⟨Nat.le_of_ble_eq_true rfl, Nat.le_of_ble_eq_true rfl⟩) 10 0 rfl rfl rfl (fun _ _ _ _ _ _ => trivial) (fun _ _ _ => trivial) rfl hl.1 (Nat.le_of_ble_eq_true rfl) rfl dX10_readsClause_79 ⟨Nat.le_of_ble_eq_true rfl, Nat.le_of_ble_eq_true rfl⟩ (fun u_9 H locs hwu_9 hP hD hS => ?_)
      try dsimp only at hwu_9
      have hP : zP g [[((a 2), .inl (g.2 0, 6, .inl (aI h)))], [((a 4), .inl (g.2 0, 6, .inl (aI l_)))], [((a 12), .inl (g.2 0, 24, .inl (aI wd)))], [((a 6), .inl (g.2 0, 200, .inl (aI f)))], [mdl q a (uI (uI (uI (uI (uI x 0 (ma 0)) 1 1) 4 (((tS f n ea) : Nat) : Int)) 5 (((nEn f n ea) : Nat) : Int)) 6 1)], [((a 3), .inl (g.2 0, 18, .inl (aI (rs3 o 0 1 1 1))))], [((a 11), .inl (g.2 0, 4, .inl (aI ma)))]] H := hP
      have hD : zD A [[((a 2), .inl (g.2 0, 6, .inl (aI h)))], [((a 4), .inl (g.2 0, 6, .inl (aI l_)))], [((a 12), .inl (g.2 0, 24, .inl (aI wd)))], [((a 6), .inl (g.2 0, 200, .inl (aI f)))], [mdl q a (uI (uI (uI (uI (uI x 0 (ma 0)) 1 1) 4 (((tS f n ea) : Nat) : Int)) 5 (((nEn f n ea) : Nat) : Int)) 6 1)], [((a 3), .inl (g.2 0, 18, .inl (aI (rs3 o 0 1 1 1))))], [((a 11), .inl (g.2 0, 4, .inl (aI ma)))]] := hD
      refine z_iconst hx hb dX10_readsClause_82 rfl ?_
      exact z_reti (ea, ma, 1, (ma 0), h, (rs3 o 0 1 1 1), l_) [4, 3, 2, 6, 0, 5, 1] hx hb hr (nar_z (by first | decide | omega)) hlocks hK hP hD hS (by omega) ⟨fun _ => ⟨by rw [hQ]; exact q1, q2, by rw [hW]; rfl, by rw [hW]; exact q3, by rw [hW]; rfl, by rw [hW]; rfl, by rw [hW]; rfl⟩, fun q => False.elim (by omega), by omega⟩ rfl rfl (rfl) (Nat.le_of_ble_eq_true rfl) (Nat.le_of_ble_eq_true rfl) dX10_readsClause_83
    · refine z_iconst hx hb dX10_readsClause_38 rfl ?_
      exact z_reti (ea, ma, b, v, h, o, l_) [4, 5, 3, 6, 0, 1, 2] hx hb hr (nar_z (by first | decide | omega)) hlocks hK hP hD hS (by omega) ⟨fun q => False.elim (by omega), fun _ => ⟨by rw [hQ]; exact (hwu_5.2.1 (by omega)).1, (hwu_5.2.1 (by omega)).2, rfl⟩, by omega⟩ rfl rfl (rfl) (Nat.le_of_ble_eq_true rfl) (Nat.le_of_ble_eq_true rfl) dX10_readsClause_39
  · rw [hW] at hwR
    refine z_toI 1 (by rw [hwR]; rfl) ?_
    refine lv_istore_n (lv' := [(1, vI 1), (0, .ref q)]) hx hb dX10_readsClause_4 rfl hl (by decide) rfl (fun ls hl => ?_)
    refine lv_iload_n hx hb dX10_readsClause_5 rfl (lv_at hl 0 rfl) ?_
    refine z_iconst hx hb dX10_readsClause_6 rfl ?_
    refine z_icmp_eq (tgt := 24) hx hb (by decide) (by decide) dX10_readsClause_7 (by decide) (fun cq10 => False.elim (by omega)) (fun cq10 => ?_)
    refine lv_iload_n hx hb dX10_readsClause_10 rfl (lv_at hl 0 rfl) ?_
    refine z_iconst hx hb dX10_readsClause_11 rfl ?_
    refine z_icmp_ne (tgt := 26) hx hb (by decide) (by decide) dX10_readsClause_12 (by decide) (fun cq11 => ?_) (fun cq11 => False.elim (by omega))
    refine lv_aload_n hx hb dX10_readsClause_26 rfl (lv_at hl 1 rfl) ?_
    refine z_cVv (As := []) (rest := []) ⟨hx, hb, hml, hown, hts⟩ hK hP hD hS hA [4, 5] [0, 1, 2, 3, 6] rfl rfl rfl (c_X10_nextToken l g q a (uI (uI (uI (uI (uI x 0 v) 1 ((b : Nat) : Int)) 4 (((tS f n e) : Nat) : Int)) 5 (((nEn f n e) : Nat) : Int)) 6 ((b : Nat) : Int)) f n (nEn f n e) hx3 (by first | assumption | omega) (by first | assumption | omega) hf) (cwV 0 hts gX10_readsClause_X10_nextToken rfl rfl rfl (by decide +kernel) ⟨Nat.le_of_ble_eq_true rfl, Nat.le_of_ble_eq_true rfl⟩) 10 0 rfl rfl rfl (fun _ _ _ _ _ _ => trivial) (fun _ _ _ => trivial) rfl hl.1 (Nat.le_of_ble_eq_true rfl) rfl dX10_readsClause_27 ⟨Nat.le_of_ble_eq_true rfl, Nat.le_of_ble_eq_true rfl⟩ (fun u_12 H locs hwu_12 hP hD hS => ?_)
    try dsimp only at hwu_12
    have hP : zP g [[((a 11), .inl (g.2 0, 4, .inl (aI m)))], [((a 2), .inl (g.2 0, 6, .inl (aI h)))], [((a 3), .inl (g.2 0, 18, .inl (aI o)))], [((a 4), .inl (g.2 0, 6, .inl (aI l_)))], [((a 12), .inl (g.2 0, 24, .inl (aI wd)))], [mdl q a (uI (uI (uI (uI (uI x 0 v) 1 ((b : Nat) : Int)) 4 (((tS f n (nEn f n e)) : Nat) : Int)) 5 (((nEn f n (nEn f n e)) : Nat) : Int)) 6 ((b : Nat) : Int))], [((a 6), .inl (g.2 0, 200, .inl (aI f)))]] H := hP
    have hD : zD A [[((a 11), .inl (g.2 0, 4, .inl (aI m)))], [((a 2), .inl (g.2 0, 6, .inl (aI h)))], [((a 3), .inl (g.2 0, 18, .inl (aI o)))], [((a 4), .inl (g.2 0, 6, .inl (aI l_)))], [((a 12), .inl (g.2 0, 24, .inl (aI wd)))], [mdl q a (uI (uI (uI (uI (uI x 0 v) 1 ((b : Nat) : Int)) 4 (((tS f n (nEn f n e)) : Nat) : Int)) 5 (((nEn f n (nEn f n e)) : Nat) : Int)) 6 ((b : Nat) : Int))], [((a 6), .inl (g.2 0, 200, .inl (aI f)))]] := hD
    refine lv_aload_n hx hb dX10_readsClause_30 rfl (lv_at hl 1 rfl) ?_
    refine lv_iload_n hx hb dX10_readsClause_31 rfl (lv_at hl 0 rfl) ?_
    refine z_cVi (As := [vI 1]) (rest := []) ⟨hx, hb, hml, hown, hts⟩ hK hP hD hS hA [5, 6, 0] [1, 2, 3, 4] rfl rfl rfl (c_X10_readsRest1 l g q a (uI (uI (uI (uI (uI x 0 v) 1 ((b : Nat) : Int)) 4 (((tS f n (nEn f n e)) : Nat) : Int)) 5 (((nEn f n (nEn f n e)) : Nat) : Int)) 6 ((b : Nat) : Int)) f n e m b hx3 (by first | assumption | omega) (by first | assumption | omega) hf rfl (by first | assumption | omega)) (cwV 1 hts gX10_readsClause_X10_readsRest rfl rfl rfl (by decide +kernel) ⟨Nat.le_of_ble_eq_true rfl, Nat.le_of_ble_eq_true rfl⟩) 10 0 rfl rfl rfl (fun _ _ _ _ _ _ => trivial) (fun _ _ _ => trivial) rfl hl.1 (Nat.le_of_ble_eq_true rfl) rfl dX10_readsClause_32 ⟨Nat.le_of_ble_eq_true rfl, Nat.le_of_ble_eq_true rfl⟩ (fun u_13 H locs hwu_13 hP hD hS => ?_)
    obtain ⟨ea, ma⟩ := u_13
    try dsimp only at hwu_13
    have hP : zP g [[((a 2), .inl (g.2 0, 6, .inl (aI h)))], [((a 3), .inl (g.2 0, 18, .inl (aI o)))], [((a 4), .inl (g.2 0, 6, .inl (aI l_)))], [((a 12), .inl (g.2 0, 24, .inl (aI wd)))], [mdl q a (uI (uI (uI (uI (uI x 0 v) 1 ((b : Nat) : Int)) 4 (((tS f n ea) : Nat) : Int)) 5 (((nEn f n ea) : Nat) : Int)) 6 ((b : Nat) : Int))], [((a 6), .inl (g.2 0, 200, .inl (aI f)))], [((a 11), .inl (g.2 0, 4, .inl (aI ma)))]] H := hP
    have hD : zD A [[((a 2), .inl (g.2 0, 6, .inl (aI h)))], [((a 3), .inl (g.2 0, 18, .inl (aI o)))], [((a 4), .inl (g.2 0, 6, .inl (aI l_)))], [((a 12), .inl (g.2 0, 24, .inl (aI wd)))], [mdl q a (uI (uI (uI (uI (uI x 0 v) 1 ((b : Nat) : Int)) 4 (((tS f n ea) : Nat) : Int)) 5 (((nEn f n ea) : Nat) : Int)) 6 ((b : Nat) : Int))], [((a 6), .inl (g.2 0, 200, .inl (aI f)))], [((a 11), .inl (g.2 0, 4, .inl (aI ma)))]] := hD
    refine z_toI (cOkW 1 f n e b) rfl ?_
    have hC : cOk f n e b = cOkW 1 f n e b := by unfold cOk; rw [hW]
    have hQ : cPs f n e b = cPsW 1 f n e b := by unfold cPs; rw [hW]
    refine z_if_ne (tgt := 40) hx hb (by omega) dX10_readsClause_35 (by decide) (fun cq14 => ?_) (fun cq14 => ?_)
    · obtain ⟨q1, q2, q3⟩ := hwu_13.1 (by omega)
      refine lv_aload_n hx hb dX10_readsClause_40 rfl (lv_at hl 1 rfl) ?_
      refine lv_iload_n hx hb dX10_readsClause_41 rfl (lv_at hl 0 rfl) ?_
      refine z_if_ne (tgt := 49) hx hb (by decide) dX10_readsClause_42 (by decide) (fun cq15 => ?_) (fun cq15 => False.elim (by omega))
      refine lv_iload_n hx hb dX10_readsClause_49 rfl (lv_at hl 0 rfl) ?_
      refine z_iconst hx hb dX10_readsClause_50 rfl ?_
      refine z_icmp_ne (tgt := 63) hx hb (by decide) (by decide) dX10_readsClause_51 (by decide) (fun cq16 => ?_) (fun cq16 => False.elim (by omega))
      refine lv_aload_n hx hb dX10_readsClause_63 rfl (lv_at hl 1 rfl) ?_
      refine z_get hx hb hts hin10_ hown hK hP 4 rfl rfl 17 (by decide) (hts _ (List.mem_of_getElem? (i := 1) rfl)) rfl dX10_readsClause_64 ?_
      refine z_toI ((b : Nat) : Int) rfl ?_
      refine z_put hx hb hts hin10_ tyX10 tyX10_ok nmX10 hown hK hP hD hS 4 rfl rfl 17 (by decide) (hts _ (List.mem_of_getElem? (i := 1) rfl)) rfl rfl rfl (Nat.le_of_ble_eq_true rfl) dX10_readsClause_67 [[((a 2), .inl (g.2 0, 6, .inl (aI h)))], [((a 3), .inl (g.2 0, 18, .inl (aI o)))], [((a 4), .inl (g.2 0, 6, .inl (aI l_)))], [((a 12), .inl (g.2 0, 24, .inl (aI wd)))], [mdl q a (uI (uI (uI (uI (uI x 0 v) 1 ((b : Nat) : Int)) 4 (((tS f n ea) : Nat) : Int)) 5 (((nEn f n ea) : Nat) : Int)) 6 ((b : Nat) : Int))], [((a 6), .inl (g.2 0, 200, .inl (aI f)))], [((a 11), .inl (g.2 0, 4, .inl (aI ma)))]] rfl (fun H locs hP hD hS => ?_)
      refine lv_aload_n hx hb dX10_readsClause_70 rfl (lv_at hl 1 rfl) ?_
      refine z_get hx hb hts hin10_ hown hK hP 4 rfl rfl 19 (by decide) (hts _ (List.mem_of_getElem? (i := 2) rfl)) rfl dX10_readsClause_71 ?_
      refine z_toI (x 8) rfl ?_
      refine z_if_eq (tgt := 82) hx hb (by omega) dX10_readsClause_74 (by decide) (fun cq17 => False.elim (by omega)) (fun cq17 => ?_)
      refine lv_aload_n hx hb dX10_readsClause_77 rfl (lv_at hl 1 rfl) ?_
      refine lv_iload_n hx hb dX10_readsClause_78 rfl (lv_at hl 0 rfl) ?_
      refine z_cVv (As := [vI 1]) (rest := []) ⟨hx, hb, hml, hown, hts⟩ hK hP hD hS hA [4, 1, 6] [0, 2, 3, 5] rfl rfl rfl (c_X10_does1 l g q a (uI (uI (uI (uI (uI x 0 v) 1 ((b : Nat) : Int)) 4 (((tS f n ea) : Nat) : Int)) 5 (((nEn f n ea) : Nat) : Int)) 6 ((b : Nat) : Int)) o ma ) (cwV 1 hts gX10_readsClause_X10_does rfl rfl rfl (by decide +kernel) ⟨Nat.le_of_ble_eq_true rfl, Nat.le_of_ble_eq_true rfl⟩) 10 0 rfl rfl rfl (fun _ _ _ _ _ _ => trivial) (fun _ _ _ => trivial) rfl hl.1 (Nat.le_of_ble_eq_true rfl) rfl dX10_readsClause_79 ⟨Nat.le_of_ble_eq_true rfl, Nat.le_of_ble_eq_true rfl⟩ (fun u_18 H locs hwu_18 hP hD hS => ?_)
      try dsimp only at hwu_18
      have hP : zP g [[((a 2), .inl (g.2 0, 6, .inl (aI h)))], [((a 4), .inl (g.2 0, 6, .inl (aI l_)))], [((a 12), .inl (g.2 0, 24, .inl (aI wd)))], [((a 6), .inl (g.2 0, 200, .inl (aI f)))], [mdl q a (uI (uI (uI (uI (uI x 0 v) 1 ((b : Nat) : Int)) 4 (((tS f n ea) : Nat) : Int)) 5 (((nEn f n ea) : Nat) : Int)) 6 ((b : Nat) : Int))], [((a 3), .inl (g.2 0, 18, .inl (aI (rs3 o 0 (ma 0) (ma 1) (ma 2)))))], [((a 11), .inl (g.2 0, 4, .inl (aI ma)))]] H := hP
      have hD : zD A [[((a 2), .inl (g.2 0, 6, .inl (aI h)))], [((a 4), .inl (g.2 0, 6, .inl (aI l_)))], [((a 12), .inl (g.2 0, 24, .inl (aI wd)))], [((a 6), .inl (g.2 0, 200, .inl (aI f)))], [mdl q a (uI (uI (uI (uI (uI x 0 v) 1 ((b : Nat) : Int)) 4 (((tS f n ea) : Nat) : Int)) 5 (((nEn f n ea) : Nat) : Int)) 6 ((b : Nat) : Int))], [((a 3), .inl (g.2 0, 18, .inl (aI (rs3 o 0 (ma 0) (ma 1) (ma 2)))))], [((a 11), .inl (g.2 0, 4, .inl (aI ma)))]] := hD
      refine z_iconst hx hb dX10_readsClause_82 rfl ?_
      exact z_reti (ea, ma, b, v, h, (rs3 o 0 (ma 0) (ma 1) (ma 2)), l_) [4, 3, 2, 6, 0, 5, 1] hx hb hr (nar_z (by first | decide | omega)) hlocks hK hP hD hS (by omega) ⟨fun _ => ⟨by rw [hQ]; exact q1, q2, by rw [hW]; rfl, by rw [hW]; rfl, by rw [hW]; rfl, by rw [hW]; show rs3 o 0 (ma 0) (ma 1) (ma 2) = rs3 o 0 _ _ _; rw [q3.1, q3.2.1, q3.2.2], by rw [hW]; rfl⟩, fun q => False.elim (by omega), by omega⟩ rfl rfl (rfl) (Nat.le_of_ble_eq_true rfl) (Nat.le_of_ble_eq_true rfl) dX10_readsClause_83
    · refine z_iconst hx hb dX10_readsClause_38 rfl ?_
      exact z_reti (ea, ma, b, v, h, o, l_) [4, 5, 3, 6, 0, 1, 2] hx hb hr (nar_z (by first | decide | omega)) hlocks hK hP hD hS (by omega) ⟨fun q => False.elim (by omega), fun _ => ⟨by rw [hQ]; exact (hwu_13.2.1 (by omega)).1, (hwu_13.2.1 (by omega)).2, rfl⟩, by omega⟩ rfl rfl (rfl) (Nat.le_of_ble_eq_true rfl) (Nat.le_of_ble_eq_true rfl) dX10_readsClause_39
  · rw [hW] at hwR
    refine z_toI 2 (by rw [hwR]; rfl) ?_
    refine lv_istore_n (lv' := [(1, vI 2), (0, .ref q)]) hx hb dX10_readsClause_4 rfl hl (by decide) rfl (fun ls hl => ?_)
    refine lv_iload_n hx hb dX10_readsClause_5 rfl (lv_at hl 0 rfl) ?_
    refine z_iconst hx hb dX10_readsClause_6 rfl ?_
    refine z_icmp_eq (tgt := 24) hx hb (by decide) (by decide) dX10_readsClause_7 (by decide) (fun cq19 => False.elim (by omega)) (fun cq19 => ?_)
    refine lv_iload_n hx hb dX10_readsClause_10 rfl (lv_at hl 0 rfl) ?_
    refine z_iconst hx hb dX10_readsClause_11 rfl ?_
    refine z_icmp_ne (tgt := 26) hx hb (by decide) (by decide) dX10_readsClause_12 (by decide) (fun cq20 => False.elim (by omega)) (fun cq20 => ?_)
    refine lv_aload_n hx hb dX10_readsClause_15 rfl (lv_at hl 1 rfl) ?_
    refine z_get hx hb hts hin10_ hown hK hP 4 rfl rfl 17 (by decide) (hts _ (List.mem_of_getElem? (i := 1) rfl)) rfl dX10_readsClause_16 ?_
    refine z_toI ((b : Nat) : Int) rfl ?_
    refine z_bipush hx hb 6 dX10_readsClause_19 rfl ?_
    refine z_icmp_ne (tgt := 26) hx hb (by omega) (by decide) dX10_readsClause_21 (by decide) (fun cq21 => ?_) (fun cq21 => ?_)
    · refine lv_aload_n hx hb dX10_readsClause_26 rfl (lv_at hl 1 rfl) ?_
      refine z_cVv (As := []) (rest := []) ⟨hx, hb, hml, hown, hts⟩ hK hP hD hS hA [4, 5] [0, 1, 2, 3, 6] rfl rfl rfl (c_X10_nextToken l g q a (uI (uI (uI (uI (uI x 0 v) 1 ((b : Nat) : Int)) 4 (((tS f n e) : Nat) : Int)) 5 (((nEn f n e) : Nat) : Int)) 6 ((b : Nat) : Int)) f n (nEn f n e) hx3 (by first | assumption | omega) (by first | assumption | omega) hf) (cwV 0 hts gX10_readsClause_X10_nextToken rfl rfl rfl (by decide +kernel) ⟨Nat.le_of_ble_eq_true rfl, Nat.le_of_ble_eq_true rfl⟩) 10 0 rfl rfl rfl (fun _ _ _ _ _ _ => trivial) (fun _ _ _ => trivial) rfl hl.1 (Nat.le_of_ble_eq_true rfl) rfl dX10_readsClause_27 ⟨Nat.le_of_ble_eq_true rfl, Nat.le_of_ble_eq_true rfl⟩ (fun u_22 H locs hwu_22 hP hD hS => ?_)
      try dsimp only at hwu_22
      have hP : zP g [[((a 11), .inl (g.2 0, 4, .inl (aI m)))], [((a 2), .inl (g.2 0, 6, .inl (aI h)))], [((a 3), .inl (g.2 0, 18, .inl (aI o)))], [((a 4), .inl (g.2 0, 6, .inl (aI l_)))], [((a 12), .inl (g.2 0, 24, .inl (aI wd)))], [mdl q a (uI (uI (uI (uI (uI x 0 v) 1 ((b : Nat) : Int)) 4 (((tS f n (nEn f n e)) : Nat) : Int)) 5 (((nEn f n (nEn f n e)) : Nat) : Int)) 6 ((b : Nat) : Int))], [((a 6), .inl (g.2 0, 200, .inl (aI f)))]] H := hP
      have hD : zD A [[((a 11), .inl (g.2 0, 4, .inl (aI m)))], [((a 2), .inl (g.2 0, 6, .inl (aI h)))], [((a 3), .inl (g.2 0, 18, .inl (aI o)))], [((a 4), .inl (g.2 0, 6, .inl (aI l_)))], [((a 12), .inl (g.2 0, 24, .inl (aI wd)))], [mdl q a (uI (uI (uI (uI (uI x 0 v) 1 ((b : Nat) : Int)) 4 (((tS f n (nEn f n e)) : Nat) : Int)) 5 (((nEn f n (nEn f n e)) : Nat) : Int)) 6 ((b : Nat) : Int))], [((a 6), .inl (g.2 0, 200, .inl (aI f)))]] := hD
      refine lv_aload_n hx hb dX10_readsClause_30 rfl (lv_at hl 1 rfl) ?_
      refine lv_iload_n hx hb dX10_readsClause_31 rfl (lv_at hl 0 rfl) ?_
      refine z_cVi (As := [vI 2]) (rest := []) ⟨hx, hb, hml, hown, hts⟩ hK hP hD hS hA [5, 6, 0] [1, 2, 3, 4] rfl rfl rfl (c_X10_readsRest2 l g q a (uI (uI (uI (uI (uI x 0 v) 1 ((b : Nat) : Int)) 4 (((tS f n (nEn f n e)) : Nat) : Int)) 5 (((nEn f n (nEn f n e)) : Nat) : Int)) 6 ((b : Nat) : Int)) f n e m b hx3 (by first | assumption | omega) (by first | assumption | omega) hf rfl (by first | assumption | omega) (by first | assumption | omega)) (cwV 1 hts gX10_readsClause_X10_readsRest rfl rfl rfl (by decide +kernel) ⟨Nat.le_of_ble_eq_true rfl, Nat.le_of_ble_eq_true rfl⟩) 10 0 rfl rfl rfl (fun _ _ _ _ _ _ => trivial) (fun _ _ _ => trivial) rfl hl.1 (Nat.le_of_ble_eq_true rfl) rfl dX10_readsClause_32 ⟨Nat.le_of_ble_eq_true rfl, Nat.le_of_ble_eq_true rfl⟩ (fun u_23 H locs hwu_23 hP hD hS => ?_)
      obtain ⟨ea, ma⟩ := u_23
      try dsimp only at hwu_23
      have hP : zP g [[((a 2), .inl (g.2 0, 6, .inl (aI h)))], [((a 3), .inl (g.2 0, 18, .inl (aI o)))], [((a 4), .inl (g.2 0, 6, .inl (aI l_)))], [((a 12), .inl (g.2 0, 24, .inl (aI wd)))], [mdl q a (uI (uI (uI (uI (uI x 0 v) 1 ((b : Nat) : Int)) 4 (((tS f n ea) : Nat) : Int)) 5 (((nEn f n ea) : Nat) : Int)) 6 ((b : Nat) : Int))], [((a 6), .inl (g.2 0, 200, .inl (aI f)))], [((a 11), .inl (g.2 0, 4, .inl (aI ma)))]] H := hP
      have hD : zD A [[((a 2), .inl (g.2 0, 6, .inl (aI h)))], [((a 3), .inl (g.2 0, 18, .inl (aI o)))], [((a 4), .inl (g.2 0, 6, .inl (aI l_)))], [((a 12), .inl (g.2 0, 24, .inl (aI wd)))], [mdl q a (uI (uI (uI (uI (uI x 0 v) 1 ((b : Nat) : Int)) 4 (((tS f n ea) : Nat) : Int)) 5 (((nEn f n ea) : Nat) : Int)) 6 ((b : Nat) : Int))], [((a 6), .inl (g.2 0, 200, .inl (aI f)))], [((a 11), .inl (g.2 0, 4, .inl (aI ma)))]] := hD
      refine z_toI (cOkW 2 f n e b) rfl ?_
      have hC : cOk f n e b = cOkW 2 f n e b := by unfold cOk; rw [hW]
      have hQ : cPs f n e b = cPsW 2 f n e b := by unfold cPs; rw [hW]
      refine z_if_ne (tgt := 40) hx hb (by omega) dX10_readsClause_35 (by decide) (fun cq24 => ?_) (fun cq24 => ?_)
      · obtain ⟨q1, q2, q3⟩ := hwu_23.1 (by omega)
        refine lv_aload_n hx hb dX10_readsClause_40 rfl (lv_at hl 1 rfl) ?_
        refine lv_iload_n hx hb dX10_readsClause_41 rfl (lv_at hl 0 rfl) ?_
        refine z_if_ne (tgt := 49) hx hb (by decide) dX10_readsClause_42 (by decide) (fun cq25 => ?_) (fun cq25 => False.elim (by omega))
        refine lv_iload_n hx hb dX10_readsClause_49 rfl (lv_at hl 0 rfl) ?_
        refine z_iconst hx hb dX10_readsClause_50 rfl ?_
        refine z_icmp_ne (tgt := 63) hx hb (by decide) (by decide) dX10_readsClause_51 (by decide) (fun cq26 => False.elim (by omega)) (fun cq26 => ?_)
        refine lv_aload_n hx hb dX10_readsClause_54 rfl (lv_at hl 1 rfl) ?_
        refine z_get hx hb hts hin10_ hown hK hP 4 rfl rfl 17 (by decide) (hts _ (List.mem_of_getElem? (i := 1) rfl)) rfl dX10_readsClause_55 ?_
        refine z_toI ((b : Nat) : Int) rfl ?_
        refine z_iconst hx hb dX10_readsClause_58 rfl ?_
        refine z_iadd hx hb (((b + 1) : Nat) : Int) (by omega) dX10_readsClause_59 ?_
        refine lv_goto (tgt := 67) hx hb dX10_readsClause_60 (by decide) ?_
        refine z_put hx hb hts hin10_ tyX10 tyX10_ok nmX10 hown hK hP hD hS 4 rfl rfl 17 (by decide) (hts _ (List.mem_of_getElem? (i := 1) rfl)) rfl rfl rfl (Nat.le_of_ble_eq_true rfl) dX10_readsClause_67 [[((a 2), .inl (g.2 0, 6, .inl (aI h)))], [((a 3), .inl (g.2 0, 18, .inl (aI o)))], [((a 4), .inl (g.2 0, 6, .inl (aI l_)))], [((a 12), .inl (g.2 0, 24, .inl (aI wd)))], [mdl q a (uI (uI (uI (uI (uI x 0 v) 1 ((b : Nat) : Int)) 4 (((tS f n ea) : Nat) : Int)) 5 (((nEn f n ea) : Nat) : Int)) 6 (((b + 1) : Nat) : Int))], [((a 6), .inl (g.2 0, 200, .inl (aI f)))], [((a 11), .inl (g.2 0, 4, .inl (aI ma)))]] rfl (fun H locs hP hD hS => ?_)
        refine lv_aload_n hx hb dX10_readsClause_70 rfl (lv_at hl 1 rfl) ?_
        refine z_get hx hb hts hin10_ hown hK hP 4 rfl rfl 19 (by decide) (hts _ (List.mem_of_getElem? (i := 2) rfl)) rfl dX10_readsClause_71 ?_
        refine z_toI (x 8) rfl ?_
        refine z_if_eq (tgt := 82) hx hb (by omega) dX10_readsClause_74 (by decide) (fun cq27 => False.elim (by omega)) (fun cq27 => ?_)
        refine lv_aload_n hx hb dX10_readsClause_77 rfl (lv_at hl 1 rfl) ?_
        refine lv_iload_n hx hb dX10_readsClause_78 rfl (lv_at hl 0 rfl) ?_
        refine z_cVv (As := [vI 2]) (rest := []) ⟨hx, hb, hml, hown, hts⟩ hK hP hD hS hA [4, 0, 1, 2, 6] [3, 5] rfl rfl rfl (c_X10_does2 l g q a (uI (uI (uI (uI (uI x 0 v) 1 ((b : Nat) : Int)) 4 (((tS f n ea) : Nat) : Int)) 5 (((nEn f n ea) : Nat) : Int)) 6 (((b + 1) : Nat) : Int)) b h o l_ ma rfl (by omega)) (cwV 1 hts gX10_readsClause_X10_does rfl rfl rfl (by decide +kernel) ⟨Nat.le_of_ble_eq_true rfl, Nat.le_of_ble_eq_true rfl⟩) 10 0 rfl rfl rfl (fun _ _ _ _ _ _ => trivial) (fun _ _ _ => trivial) rfl hl.1 (Nat.le_of_ble_eq_true rfl) rfl dX10_readsClause_79 ⟨Nat.le_of_ble_eq_true rfl, Nat.le_of_ble_eq_true rfl⟩ (fun u_28 H locs hwu_28 hP hD hS => ?_)
        try dsimp only at hwu_28
        have hP : zP g [[((a 12), .inl (g.2 0, 24, .inl (aI wd)))], [((a 6), .inl (g.2 0, 200, .inl (aI f)))], [mdl q a (uI (uI (uI (uI (uI x 0 v) 1 (((b + 1) : Nat) : Int)) 4 (((tS f n ea) : Nat) : Int)) 5 (((nEn f n ea) : Nat) : Int)) 6 (((b + 1) : Nat) : Int))], [((a 2), .inl (g.2 0, 6, .inl (aI (uI h b (ma 0)))))], [((a 3), .inl (g.2 0, 18, .inl (aI (rs3 o b (ma 1) (ma 2) (ma 3)))))], [((a 4), .inl (g.2 0, 6, .inl (aI (uI l_ b 0))))], [((a 11), .inl (g.2 0, 4, .inl (aI ma)))]] H := hP
        have hD : zD A [[((a 12), .inl (g.2 0, 24, .inl (aI wd)))], [((a 6), .inl (g.2 0, 200, .inl (aI f)))], [mdl q a (uI (uI (uI (uI (uI x 0 v) 1 (((b + 1) : Nat) : Int)) 4 (((tS f n ea) : Nat) : Int)) 5 (((nEn f n ea) : Nat) : Int)) 6 (((b + 1) : Nat) : Int))], [((a 2), .inl (g.2 0, 6, .inl (aI (uI h b (ma 0)))))], [((a 3), .inl (g.2 0, 18, .inl (aI (rs3 o b (ma 1) (ma 2) (ma 3)))))], [((a 4), .inl (g.2 0, 6, .inl (aI (uI l_ b 0))))], [((a 11), .inl (g.2 0, 4, .inl (aI ma)))]] := hD
        refine z_iconst hx hb dX10_readsClause_82 rfl ?_
        exact z_reti (ea, ma, (b + 1), v, (uI h b (ma 0)), (rs3 o b (ma 1) (ma 2) (ma 3)), (uI l_ b 0)) [2, 1, 0, 6, 3, 4, 5] hx hb hr (nar_z (by first | decide | omega)) hlocks hK hP hD hS (by omega) ⟨fun _ => ⟨by rw [hQ]; exact q1, q2, by rw [hW]; rfl, by rw [hW]; rfl, by rw [hW]; show uI h b (ma 0) = uI h b _; rw [q3.1], by rw [hW]; show rs3 o b (ma 1) (ma 2) (ma 3) = rs3 o b _ _ _; rw [q3.2.1, q3.2.2.1, q3.2.2.2], by rw [hW]; rfl⟩, fun q => False.elim (by omega), by omega⟩ rfl rfl (rfl) (Nat.le_of_ble_eq_true rfl) (Nat.le_of_ble_eq_true rfl) dX10_readsClause_83
      · refine z_iconst hx hb dX10_readsClause_38 rfl ?_
        exact z_reti (ea, ma, b, v, h, o, l_) [4, 5, 3, 6, 0, 1, 2] hx hb hr (nar_z (by first | decide | omega)) hlocks hK hP hD hS (by omega) ⟨fun q => False.elim (by omega), fun _ => ⟨by rw [hQ]; exact (hwu_23.2.1 (by omega)).1, (hwu_23.2.1 (by omega)).2, rfl⟩, by omega⟩ rfl rfl (rfl) (Nat.le_of_ble_eq_true rfl) (Nat.le_of_ble_eq_true rfl) dX10_readsClause_39
    · refine z_iconst hx hb dX10_readsClause_24 rfl ?_
      have hC : cOk f n e b = 0 := by unfold cOk; rw [hW]; show (if b = 6 then (0 : Int) else _) = 0; rw [if_pos (by omega)]
      have hQ : cPs f n e b = tS f n e := by unfold cPs; rw [hW]; show (if b = 6 then _ else _) = _; rw [if_pos (by omega)]
      exact z_reti (e, m, b, v, h, o, l_) [4, 5, 6, 0, 1, 2, 3] hx hb hr (nar_z (by first | decide | omega)) hlocks hK hP hD hS (hC.symm) ⟨fun q => False.elim (by omega), fun _ => ⟨hQ.symm, he, rfl⟩, Or.inl hC⟩ rfl rfl (rfl) (Nat.le_of_ble_eq_true rfl) (Nat.le_of_ble_eq_true rfl) dX10_readsClause_25
  · rw [hW] at hwR
    refine z_toI 3 (by rw [hwR]; rfl) ?_
    refine lv_istore_n (lv' := [(1, vI 3), (0, .ref q)]) hx hb dX10_readsClause_4 rfl hl (by decide) rfl (fun ls hl => ?_)
    refine lv_iload_n hx hb dX10_readsClause_5 rfl (lv_at hl 0 rfl) ?_
    refine z_iconst hx hb dX10_readsClause_6 rfl ?_
    refine z_icmp_eq (tgt := 24) hx hb (by decide) (by decide) dX10_readsClause_7 (by decide) (fun cq29 => False.elim (by omega)) (fun cq29 => ?_)
    refine lv_iload_n hx hb dX10_readsClause_10 rfl (lv_at hl 0 rfl) ?_
    refine z_iconst hx hb dX10_readsClause_11 rfl ?_
    refine z_icmp_ne (tgt := 26) hx hb (by decide) (by decide) dX10_readsClause_12 (by decide) (fun cq30 => ?_) (fun cq30 => False.elim (by omega))
    refine lv_aload_n hx hb dX10_readsClause_26 rfl (lv_at hl 1 rfl) ?_
    refine z_cVv (As := []) (rest := []) ⟨hx, hb, hml, hown, hts⟩ hK hP hD hS hA [4, 5] [0, 1, 2, 3, 6] rfl rfl rfl (c_X10_nextToken l g q a (uI (uI (uI (uI (uI x 0 v) 1 ((b : Nat) : Int)) 4 (((tS f n e) : Nat) : Int)) 5 (((nEn f n e) : Nat) : Int)) 6 ((b : Nat) : Int)) f n (nEn f n e) hx3 (by first | assumption | omega) (by first | assumption | omega) hf) (cwV 0 hts gX10_readsClause_X10_nextToken rfl rfl rfl (by decide +kernel) ⟨Nat.le_of_ble_eq_true rfl, Nat.le_of_ble_eq_true rfl⟩) 10 0 rfl rfl rfl (fun _ _ _ _ _ _ => trivial) (fun _ _ _ => trivial) rfl hl.1 (Nat.le_of_ble_eq_true rfl) rfl dX10_readsClause_27 ⟨Nat.le_of_ble_eq_true rfl, Nat.le_of_ble_eq_true rfl⟩ (fun u_31 H locs hwu_31 hP hD hS => ?_)
    try dsimp only at hwu_31
    have hP : zP g [[((a 11), .inl (g.2 0, 4, .inl (aI m)))], [((a 2), .inl (g.2 0, 6, .inl (aI h)))], [((a 3), .inl (g.2 0, 18, .inl (aI o)))], [((a 4), .inl (g.2 0, 6, .inl (aI l_)))], [((a 12), .inl (g.2 0, 24, .inl (aI wd)))], [mdl q a (uI (uI (uI (uI (uI x 0 v) 1 ((b : Nat) : Int)) 4 (((tS f n (nEn f n e)) : Nat) : Int)) 5 (((nEn f n (nEn f n e)) : Nat) : Int)) 6 ((b : Nat) : Int))], [((a 6), .inl (g.2 0, 200, .inl (aI f)))]] H := hP
    have hD : zD A [[((a 11), .inl (g.2 0, 4, .inl (aI m)))], [((a 2), .inl (g.2 0, 6, .inl (aI h)))], [((a 3), .inl (g.2 0, 18, .inl (aI o)))], [((a 4), .inl (g.2 0, 6, .inl (aI l_)))], [((a 12), .inl (g.2 0, 24, .inl (aI wd)))], [mdl q a (uI (uI (uI (uI (uI x 0 v) 1 ((b : Nat) : Int)) 4 (((tS f n (nEn f n e)) : Nat) : Int)) 5 (((nEn f n (nEn f n e)) : Nat) : Int)) 6 ((b : Nat) : Int))], [((a 6), .inl (g.2 0, 200, .inl (aI f)))]] := hD
    refine lv_aload_n hx hb dX10_readsClause_30 rfl (lv_at hl 1 rfl) ?_
    refine lv_iload_n hx hb dX10_readsClause_31 rfl (lv_at hl 0 rfl) ?_
    refine z_cVi (As := [vI 3]) (rest := []) ⟨hx, hb, hml, hown, hts⟩ hK hP hD hS hA [5, 6, 0] [1, 2, 3, 4] rfl rfl rfl (c_X10_readsRest3 l g q a (uI (uI (uI (uI (uI x 0 v) 1 ((b : Nat) : Int)) 4 (((tS f n (nEn f n e)) : Nat) : Int)) 5 (((nEn f n (nEn f n e)) : Nat) : Int)) 6 ((b : Nat) : Int)) f n e m b hx3 (by first | assumption | omega) (by first | assumption | omega) hf rfl (by first | assumption | omega)) (cwV 1 hts gX10_readsClause_X10_readsRest rfl rfl rfl (by decide +kernel) ⟨Nat.le_of_ble_eq_true rfl, Nat.le_of_ble_eq_true rfl⟩) 10 0 rfl rfl rfl (fun _ _ _ _ _ _ => trivial) (fun _ _ _ => trivial) rfl hl.1 (Nat.le_of_ble_eq_true rfl) rfl dX10_readsClause_32 ⟨Nat.le_of_ble_eq_true rfl, Nat.le_of_ble_eq_true rfl⟩ (fun u_32 H locs hwu_32 hP hD hS => ?_)
    obtain ⟨ea, ma⟩ := u_32
    try dsimp only at hwu_32
    have hP : zP g [[((a 2), .inl (g.2 0, 6, .inl (aI h)))], [((a 3), .inl (g.2 0, 18, .inl (aI o)))], [((a 4), .inl (g.2 0, 6, .inl (aI l_)))], [((a 12), .inl (g.2 0, 24, .inl (aI wd)))], [mdl q a (uI (uI (uI (uI (uI x 0 v) 1 ((b : Nat) : Int)) 4 (((tS f n ea) : Nat) : Int)) 5 (((nEn f n ea) : Nat) : Int)) 6 ((b : Nat) : Int))], [((a 6), .inl (g.2 0, 200, .inl (aI f)))], [((a 11), .inl (g.2 0, 4, .inl (aI ma)))]] H := hP
    have hD : zD A [[((a 2), .inl (g.2 0, 6, .inl (aI h)))], [((a 3), .inl (g.2 0, 18, .inl (aI o)))], [((a 4), .inl (g.2 0, 6, .inl (aI l_)))], [((a 12), .inl (g.2 0, 24, .inl (aI wd)))], [mdl q a (uI (uI (uI (uI (uI x 0 v) 1 ((b : Nat) : Int)) 4 (((tS f n ea) : Nat) : Int)) 5 (((nEn f n ea) : Nat) : Int)) 6 ((b : Nat) : Int))], [((a 6), .inl (g.2 0, 200, .inl (aI f)))], [((a 11), .inl (g.2 0, 4, .inl (aI ma)))]] := hD
    refine z_toI (cOkW 3 f n e b) rfl ?_
    have hC : cOk f n e b = cOkW 3 f n e b := by unfold cOk; rw [hW]
    have hQ : cPs f n e b = cPsW 3 f n e b := by unfold cPs; rw [hW]
    refine z_if_ne (tgt := 40) hx hb (by omega) dX10_readsClause_35 (by decide) (fun cq33 => ?_) (fun cq33 => ?_)
    · obtain ⟨q1, q2, q3⟩ := hwu_32.1 (by omega)
      have hq9 := nOk_v (cOk3 (show cOkW 3 f n e b = 1 by omega)).1
      refine lv_aload_n hx hb dX10_readsClause_40 rfl (lv_at hl 1 rfl) ?_
      refine lv_iload_n hx hb dX10_readsClause_41 rfl (lv_at hl 0 rfl) ?_
      refine z_if_ne (tgt := 49) hx hb (by decide) dX10_readsClause_42 (by decide) (fun cq34 => ?_) (fun cq34 => False.elim (by omega))
      refine lv_iload_n hx hb dX10_readsClause_49 rfl (lv_at hl 0 rfl) ?_
      refine z_iconst hx hb dX10_readsClause_50 rfl ?_
      refine z_icmp_ne (tgt := 63) hx hb (by decide) (by decide) dX10_readsClause_51 (by decide) (fun cq35 => ?_) (fun cq35 => False.elim (by omega))
      refine lv_aload_n hx hb dX10_readsClause_63 rfl (lv_at hl 1 rfl) ?_
      refine z_get hx hb hts hin10_ hown hK hP 4 rfl rfl 17 (by decide) (hts _ (List.mem_of_getElem? (i := 1) rfl)) rfl dX10_readsClause_64 ?_
      refine z_toI ((b : Nat) : Int) rfl ?_
      refine z_put hx hb hts hin10_ tyX10 tyX10_ok nmX10 hown hK hP hD hS 4 rfl rfl 17 (by decide) (hts _ (List.mem_of_getElem? (i := 1) rfl)) rfl rfl rfl (Nat.le_of_ble_eq_true rfl) dX10_readsClause_67 [[((a 2), .inl (g.2 0, 6, .inl (aI h)))], [((a 3), .inl (g.2 0, 18, .inl (aI o)))], [((a 4), .inl (g.2 0, 6, .inl (aI l_)))], [((a 12), .inl (g.2 0, 24, .inl (aI wd)))], [mdl q a (uI (uI (uI (uI (uI x 0 v) 1 ((b : Nat) : Int)) 4 (((tS f n ea) : Nat) : Int)) 5 (((nEn f n ea) : Nat) : Int)) 6 ((b : Nat) : Int))], [((a 6), .inl (g.2 0, 200, .inl (aI f)))], [((a 11), .inl (g.2 0, 4, .inl (aI ma)))]] rfl (fun H locs hP hD hS => ?_)
      refine lv_aload_n hx hb dX10_readsClause_70 rfl (lv_at hl 1 rfl) ?_
      refine z_get hx hb hts hin10_ hown hK hP 4 rfl rfl 19 (by decide) (hts _ (List.mem_of_getElem? (i := 2) rfl)) rfl dX10_readsClause_71 ?_
      refine z_toI (x 8) rfl ?_
      refine z_if_eq (tgt := 82) hx hb (by omega) dX10_readsClause_74 (by decide) (fun cq36 => False.elim (by omega)) (fun cq36 => ?_)
      refine lv_aload_n hx hb dX10_readsClause_77 rfl (lv_at hl 1 rfl) ?_
      refine lv_iload_n hx hb dX10_readsClause_78 rfl (lv_at hl 0 rfl) ?_
      refine z_cVv (As := [vI 3]) (rest := []) ⟨hx, hb, hml, hown, hts⟩ hK hP hD hS hA [4, 2, 6] [0, 1, 3, 5] rfl rfl rfl (c_X10_does3 l g q a (uI (uI (uI (uI (uI x 0 v) 1 ((b : Nat) : Int)) 4 (((tS f n ea) : Nat) : Int)) 5 (((nEn f n ea) : Nat) : Int)) 6 ((b : Nat) : Int)) l_ ma (by omega)) (cwV 1 hts gX10_readsClause_X10_does rfl rfl rfl (by decide +kernel) ⟨Nat.le_of_ble_eq_true rfl, Nat.le_of_ble_eq_true rfl⟩) 10 0 rfl rfl rfl (fun _ _ _ _ _ _ => trivial) (fun _ _ _ => trivial) rfl hl.1 (Nat.le_of_ble_eq_true rfl) rfl dX10_readsClause_79 ⟨Nat.le_of_ble_eq_true rfl, Nat.le_of_ble_eq_true rfl⟩ (fun u_37 H locs hwu_37 hP hD hS => ?_)
      try dsimp only at hwu_37
      have hP : zP g [[((a 2), .inl (g.2 0, 6, .inl (aI h)))], [((a 3), .inl (g.2 0, 18, .inl (aI o)))], [((a 12), .inl (g.2 0, 24, .inl (aI wd)))], [((a 6), .inl (g.2 0, 200, .inl (aI f)))], [mdl q a (uI (uI (uI (uI (uI x 0 v) 1 ((b : Nat) : Int)) 4 (((tS f n ea) : Nat) : Int)) 5 (((nEn f n ea) : Nat) : Int)) 6 ((b : Nat) : Int))], [((a 4), .inl (g.2 0, 6, .inl (aI (uI l_ (ma 0).toNat (ma 1)))))], [((a 11), .inl (g.2 0, 4, .inl (aI ma)))]] H := hP
      have hD : zD A [[((a 2), .inl (g.2 0, 6, .inl (aI h)))], [((a 3), .inl (g.2 0, 18, .inl (aI o)))], [((a 12), .inl (g.2 0, 24, .inl (aI wd)))], [((a 6), .inl (g.2 0, 200, .inl (aI f)))], [mdl q a (uI (uI (uI (uI (uI x 0 v) 1 ((b : Nat) : Int)) 4 (((tS f n ea) : Nat) : Int)) 5 (((nEn f n ea) : Nat) : Int)) 6 ((b : Nat) : Int))], [((a 4), .inl (g.2 0, 6, .inl (aI (uI l_ (ma 0).toNat (ma 1)))))], [((a 11), .inl (g.2 0, 4, .inl (aI ma)))]] := hD
      refine z_iconst hx hb dX10_readsClause_82 rfl ?_
      exact z_reti (ea, ma, b, v, h, o, (uI l_ (ma 0).toNat (ma 1))) [4, 3, 2, 6, 0, 1, 5] hx hb hr (nar_z (by first | decide | omega)) hlocks hK hP hD hS (by omega) ⟨fun _ => ⟨by rw [hQ]; exact q1, q2, by rw [hW]; rfl, by rw [hW]; rfl, by rw [hW]; rfl, by rw [hW]; rfl, by rw [hW]; show uI l_ (ma 0).toNat (ma 1) = uI l_ _ _; rw [q3.1, q3.2]⟩, fun q => False.elim (by omega), by omega⟩ rfl rfl (rfl) (Nat.le_of_ble_eq_true rfl) (Nat.le_of_ble_eq_true rfl) dX10_readsClause_83
    · refine z_iconst hx hb dX10_readsClause_38 rfl ?_
      exact z_reti (ea, ma, b, v, h, o, l_) [4, 5, 3, 6, 0, 1, 2] hx hb hr (nar_z (by first | decide | omega)) hlocks hK hP hD hS (by omega) ⟨fun q => False.elim (by omega), fun _ => ⟨by rw [hQ]; exact (hwu_32.2.1 (by omega)).1, (hwu_32.2.1 (by omega)).2, rfl⟩, by omega⟩ rfl rfl (rfl) (Nat.le_of_ble_eq_true rfl) (Nat.le_of_ble_eq_true rfl) dX10_readsClause_39
  · rw [hW] at hwR
    refine z_toI (-1) (by rw [hwR]; rfl) ?_
    refine lv_istore_n (lv' := [(1, vI (-1)), (0, .ref q)]) hx hb dX10_readsClause_4 rfl hl (by decide) rfl (fun ls hl => ?_)
    refine lv_iload_n hx hb dX10_readsClause_5 rfl (lv_at hl 0 rfl) ?_
    refine z_iconst hx hb dX10_readsClause_6 rfl ?_
    refine z_icmp_eq (tgt := 24) hx hb (by decide) (by decide) dX10_readsClause_7 (by decide) (fun cq38 => ?_) (fun cq38 => False.elim (by omega))
    refine z_iconst hx hb dX10_readsClause_24 rfl ?_
    have hC : cOk f n e b = 0 := by unfold cOk; rw [hW]; rfl
    have hQ : cPs f n e b = tS f n e := by unfold cPs; rw [hW]; rfl
    exact z_reti (e, m, b, v, h, o, l_) [4, 5, 6, 0, 1, 2, 3] hx hb hr (nar_z (by first | decide | omega)) hlocks hK hP hD hS (hC.symm) ⟨fun q => False.elim (by omega), fun _ => ⟨hQ.symm, he, rfl⟩, Or.inl hC⟩ rfl rfl (rfl) (Nat.le_of_ble_eq_true rfl) (Nat.le_of_ble_eq_true rfl) dX10_readsClause_25
