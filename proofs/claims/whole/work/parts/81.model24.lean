set_option maxHeartbeats 4000000 in
set_option maxRecDepth 100000 in
theorem c_X10_reads0 (l : Launch) (g : zG) (q : Nat) (a : Nat → Nat) (x : Nat → Int) (f : Nat → Int) (n : Nat) (wd : Nat → Int) (m : Nat → Int) (b : Nat) (X0 : NT5) (hx3 : x 3 = (n : Int)) (hn : n ≤ 200) (hf : ∀ i, 0 ≤ f i ∧ f i ≤ 255) (hwd : ∀ k, k < 24 → wd k = wds k) (hx1 : x 1 = (b : Int)) (hXb : X0.2.1 = b) (hXn : nok5 X0) : zMet l g yX10_reads wsX10_reads 7 0 0 [.ref q, vI 0] zX0 [[mdl q a x], [((a 6), .inl (g.2 0, 200, .inl (aI f)))], [((a 12), .inl (g.2 0, 24, .inl (aI wd)))], [((a 11), .inl (g.2 0, 4, .inl (aI m)))]] (qi g (fun (u_ : (Nat → Int) × (Nat → Int)) => (rdz (pA f n 24 0 X0 0).1)) (fun (u_ : (Nat → Int) × (Nat → Int)) => (kx48 x u_.1 ∧ (¬ (pA f n 24 0 X0 0).1 = -1 → u_.1 4 = (pA f n 24 0 X0 0).1))) (fun (u_ : (Nat → Int) × (Nat → Int)) => [[mdl q a u_.1], [((a 6), .inl (g.2 0, 200, .inl (aI f)))], [((a 12), .inl (g.2 0, 24, .inl (aI wd)))], [((a 11), .inl (g.2 0, 4, .inl (aI u_.2)))]])) := by
  have hnb0 : 1 ≤ b ∧ b ≤ 6 := by rw [← hXb]; exact ⟨hXn.2.2.1, hXn.2.2.2.1⟩
  refine z_ent (cc := cX10_reads) (maxL := 3) (ret := (some .boolean)) (by decide) rfl (Nat.le_of_ble_eq_true rfl) ?_
  intro p eE s mM below meth cC A ls hx hb hr hml hown hts hlocks hin0 hA hK hP hD hS hXX hl
  have hown : s.vm.findClass RX10 = some mM.cls := hown
  have hin10_ : ∀ w ∈ wsX100, w ∈ wsX10_reads := zw_in [61, 62, 63, 64, 65, 66, 67, 68, 69, 70, 71, 72, 73, 74, 75, 76, 77, 78, 79, 80, 81, 82, 83, 84, 85, 86] rfl
  have hl : lv_has ls 3 [(0, .ref q), (1, vI 0)] := hl
  refine lv_aload_n hx hb dX10_reads_0 rfl (lv_at hl 0 rfl) ?_
  refine lv_iload_n hx hb dX10_reads_1 rfl (lv_at hl 1 rfl) ?_
  refine z_put hx hb hts hin10_ tyX10 tyX10_ok nmX10 hown hK hP hD hS 0 rfl rfl 19 (by decide) (hts _ (List.mem_of_getElem? (i := 1) rfl)) rfl (nar_z (by decide)) (fit_z (by decide)) (Nat.le_of_ble_eq_true rfl) dX10_reads_2 [[mdl q a (uI x 8 0)], [((a 6), .inl (g.2 0, 200, .inl (aI f)))], [((a 12), .inl (g.2 0, 24, .inl (aI wd)))], [((a 11), .inl (g.2 0, 4, .inl (aI m)))]] rfl (fun H locs hP hD hS => ?_)
  refine lv_aload_n hx hb dX10_reads_5 rfl (lv_at hl 0 rfl) ?_
  refine z_iconst hx hb dX10_reads_6 rfl ?_
  refine z_put hx hb hts hin10_ tyX10 tyX10_ok nmX10 hown hK hP hD hS 0 rfl rfl 16 (by decide) (hts _ (List.mem_of_getElem? (i := 2) rfl)) rfl rfl rfl (Nat.le_of_ble_eq_true rfl) dX10_reads_7 [[mdl q a (uI (uI x 5 0) 8 0)], [((a 6), .inl (g.2 0, 200, .inl (aI f)))], [((a 12), .inl (g.2 0, 24, .inl (aI wd)))], [((a 11), .inl (g.2 0, 4, .inl (aI m)))]] rfl (fun H locs hP hD hS => ?_)
  refine lv_aload_n hx hb dX10_reads_10 rfl (lv_at hl 0 rfl) ?_
  refine z_iconst hx hb dX10_reads_11 rfl ?_
  refine z_put hx hb hts hin10_ tyX10 tyX10_ok nmX10 hown hK hP hD hS 0 rfl rfl 18 (by decide) (hts _ (List.mem_of_getElem? (i := 3) rfl)) rfl rfl rfl (Nat.le_of_ble_eq_true rfl) dX10_reads_12 [[mdl q a (uI (uI (uI x 5 0) 7 1) 8 0)], [((a 6), .inl (g.2 0, 200, .inl (aI f)))], [((a 12), .inl (g.2 0, 24, .inl (aI wd)))], [((a 11), .inl (g.2 0, 4, .inl (aI m)))]] rfl (fun H locs hP hD hS => ?_)
  refine lv_aload_n hx hb dX10_reads_15 rfl (lv_at hl 0 rfl) ?_
  refine lv_aload_n hx hb dX10_reads_16 rfl (lv_at hl 0 rfl) ?_
  refine z_get hx hb hts hin10_ hown hK hP 0 rfl rfl 3 (by decide) (hts _ (List.mem_of_getElem? (i := 4) rfl)) rfl dX10_reads_17 ?_
  refine z_toI (x 1) rfl ?_
  refine z_toI ((b : Nat) : Int) hx1 ?_
  refine z_put hx hb hts hin10_ tyX10 tyX10_ok nmX10 hown hK hP hD hS 0 rfl rfl 17 (by decide) (hts _ (List.mem_of_getElem? (i := 5) rfl)) rfl rfl rfl (Nat.le_of_ble_eq_true rfl) dX10_reads_20 [[mdl q a (uI (uI (uI (uI x 5 0) 6 ((b : Nat) : Int)) 7 1) 8 0)], [((a 6), .inl (g.2 0, 200, .inl (aI f)))], [((a 12), .inl (g.2 0, 24, .inl (aI wd)))], [((a 11), .inl (g.2 0, 4, .inl (aI m)))]] rfl (fun H locs hP hD hS => ?_)
  refine lv_aload_n hx hb dX10_reads_23 rfl (lv_at hl 0 rfl) ?_
  refine z_cVv (As := []) (rest := []) ⟨hx, hb, hml, hown, hts⟩ hK hP hD hS hA [0, 1] [2, 3] rfl rfl rfl (c_X10_nextToken l g q a (uI (uI (uI (uI x 5 0) 6 ((b : Nat) : Int)) 7 1) 8 0) f n 0 hx3 (by first | assumption | omega) (by first | assumption | omega) hf) (cwV 0 hts gX10_reads_X10_nextToken rfl rfl rfl (by decide +kernel) ⟨Nat.le_of_ble_eq_true rfl, Nat.le_of_ble_eq_true rfl⟩) 10 0 rfl rfl rfl (fun _ _ _ _ _ _ => trivial) (fun _ _ _ => trivial) rfl hl.1 (Nat.le_of_ble_eq_true rfl) rfl dX10_reads_24 ⟨Nat.le_of_ble_eq_true rfl, Nat.le_of_ble_eq_true rfl⟩ (fun u_1 H locs hwu_1 hP hD hS => ?_)
  try dsimp only at hwu_1
  have hP : zP g [[((a 12), .inl (g.2 0, 24, .inl (aI wd)))], [((a 11), .inl (g.2 0, 4, .inl (aI m)))], [mdl q a (uI (uI (uI (uI (uI x 4 (((tS f n 0) : Nat) : Int)) 5 (((nEn f n 0) : Nat) : Int)) 6 ((b : Nat) : Int)) 7 1) 8 0)], [((a 6), .inl (g.2 0, 200, .inl (aI f)))]] H := hP
  have hD : zD A [[((a 12), .inl (g.2 0, 24, .inl (aI wd)))], [((a 11), .inl (g.2 0, 4, .inl (aI m)))], [mdl q a (uI (uI (uI (uI (uI x 4 (((tS f n 0) : Nat) : Int)) 5 (((nEn f n 0) : Nat) : Int)) 6 ((b : Nat) : Int)) 7 1) 8 0)], [((a 6), .inl (g.2 0, 200, .inl (aI f)))]] := hD
  refine lv_aload_n hx hb dX10_reads_27 rfl (lv_at hl 0 rfl) ?_
  refine z_cVi (As := []) (rest := []) ⟨hx, hb, hml, hown, hts⟩ hK hP hD hS hA [2, 3, 0, 1] [] rfl rfl rfl (c_X10_readsClause0 l g q a (uI (uI (uI (uI (uI x 4 (((tS f n 0) : Nat) : Int)) 5 (((nEn f n 0) : Nat) : Int)) 6 ((b : Nat) : Int)) 7 1) 8 0) f n 0 wd m b hx3 (by first | assumption | omega) (by first | assumption | omega) hf hwd hnb0 rfl) (cwV 0 hts gX10_reads_X10_readsClause rfl rfl rfl (by decide +kernel) ⟨Nat.le_of_ble_eq_true rfl, Nat.le_of_ble_eq_true rfl⟩) 10 0 rfl rfl rfl (fun _ _ _ _ _ _ => trivial) (fun _ _ _ => trivial) rfl hl.1 (Nat.le_of_ble_eq_true rfl) rfl dX10_reads_28 ⟨Nat.le_of_ble_eq_true rfl, Nat.le_of_ble_eq_true rfl⟩ (fun u_2 H locs hwu_2 hP hD hS => ?_)
  obtain ⟨e8, m8, b8⟩ := u_2
  try dsimp only at hwu_2
  have hP : zP g [[mdl q a (uI (uI (uI (uI (uI x 4 (((tS f n e8) : Nat) : Int)) 5 (((nEn f n e8) : Nat) : Int)) 6 ((b8 : Nat) : Int)) 7 1) 8 0)], [((a 6), .inl (g.2 0, 200, .inl (aI f)))], [((a 12), .inl (g.2 0, 24, .inl (aI wd)))], [((a 11), .inl (g.2 0, 4, .inl (aI m8)))]] H := hP
  have hD : zD A [[mdl q a (uI (uI (uI (uI (uI x 4 (((tS f n e8) : Nat) : Int)) 5 (((nEn f n e8) : Nat) : Int)) 6 ((b8 : Nat) : Int)) 7 1) 8 0)], [((a 6), .inl (g.2 0, 200, .inl (aI f)))], [((a 12), .inl (g.2 0, 24, .inl (aI wd)))], [((a 11), .inl (g.2 0, 4, .inl (aI m8)))]] := hD
  refine z_toI (cOk f n 0 b) rfl ?_
  have hC01 := hwu_2.2.2
  have hB9 : X0.2.1 = b := hXb
  have hT9 : (pA f n 24 0 X0 0) = pA f n (23 + 1) 0 X0 0 := rfl
  have hN9 : nok5 X0 := hXn
  have hle : e8 ≤ n := by rcases hC01 with q | q; exact (hwu_2.2.1 (by rw [q]; decide)).2.1; exact (hwu_2.1 q).2.1
  have hB8 : (effc f n 0 X0).2.1 = b8 := eBW_e hB9 (fun q => (hwu_2.1 q).2.2) (fun q => (hwu_2.2.1 q).2.2)
  have hN8 : nok5 (effc f n 0 X0) := effc_ok hN9
  have hI8 : RDI f n X0 (cOk f n 0 b) e8 (0 + 1) (effc f n 0 X0) := RD_next hT9 (by omega) (by rw [hB9]) (fun q => by rw [hB9] at q ⊢; exact (hwu_2.1 q).1) (fun q => by rw [hB9] at q ⊢; exact (hwu_2.2.1 q).1)
  refine lv_istore_n (lv' := [(2, vI (cOk f n 0 b)), (0, .ref q), (1, vI 0)]) hx hb dX10_reads_31 rfl hl (by decide) rfl (fun ls hl => ?_)
  have loop32 : ∀ (N : Nat) (z : Int) (e2 : Nat) (b1 : Nat) (c : Nat) (m1 : Nat → Int) (X : NT5) (H : Heap) (locs : List Loc) (ls : Array Slot), z = 0 ∨ z = 1 → e2 ≤ n → 1 ≤ c ∧ c ≤ 24 → X.2.1 = b1 → nok5 X → RDI f n X0 z e2 c X → (2 * (24 - c) + z.toNat) < N → zP g [[mdl q a (uI (uI (uI (uI (uI x 4 (((tS f n e2) : Nat) : Int)) 5 (((nEn f n e2) : Nat) : Int)) 6 ((b1 : Nat) : Int)) 7 ((c : Nat) : Int)) 8 0)], [((a 6), .inl (g.2 0, 200, .inl (aI f)))], [((a 12), .inl (g.2 0, 24, .inl (aI wd)))], [((a 11), .inl (g.2 0, 4, .inl (aI m1)))]] H → zD A [[mdl q a (uI (uI (uI (uI (uI x 4 (((tS f n e2) : Nat) : Int)) 5 (((nEn f n e2) : Nat) : Int)) 6 ((b1 : Nat) : Int)) 7 ((c : Nat) : Int)) 8 0)], [((a 6), .inl (g.2 0, 200, .inl (aI f)))], [((a 12), .inl (g.2 0, 24, .inl (aI wd)))], [((a 11), .inl (g.2 0, 4, .inl (aI m1)))]] → va_S A s.heap H locs → lv_has ls 3 [(0, .ref q), (1, vI 0), (2, vI z)] → W p l eE (zRm 7 0 0) s mM ([.ref q, vI 0] : List Value).toArray below meth cC H locs (0) (0) (MQ below ((qi g (fun (u_ : (Nat → Int) × (Nat → Int)) => (rdz (pA f n 24 0 X0 0).1)) (fun (u_ : (Nat → Int) × (Nat → Int)) => (kx48 x u_.1 ∧ (¬ (pA f n 24 0 X0 0).1 = -1 → u_.1 4 = (pA f n 24 0 X0 0).1))) (fun (u_ : (Nat → Int) × (Nat → Int)) => [[mdl q a u_.1], [((a 6), .inl (g.2 0, 200, .inl (aI f)))], [((a 12), .inl (g.2 0, 24, .inl (aI wd)))], [((a 11), .inl (g.2 0, 4, .inl (aI u_.2)))]])) A) ([.ref q, vI 0] : List Value).toArray s 0 0 A) (F0 mM 32 ls []) := by
    intro N
    induction N with
    | zero => intro z e2 b1 c m1 X H locs ls hz he2 hc hB hN hI hm; exact absurd hm (Nat.not_lt_zero _)
    | succ N ih32 =>
      intro z e2 b1 c m1 X H locs ls hz he2 hc hB hN hI hm hP hD hS hl
      have hne2 := nEn_s f he2
      have hnb : 1 ≤ b1 ∧ b1 ≤ 6 := by rw [← hB]; exact ⟨hN.2.2.1, hN.2.2.2.1⟩
      refine lv_iload_n hx hb dX10_reads_32 rfl (lv_at hl 2 rfl) ?_
      refine z_if_eq (tgt := 102) hx hb (by omega) dX10_reads_33 (by decide) (fun cq3 => ?_) (fun cq3 => ?_)
      · refine lv_iload_n hx hb dX10_reads_102 rfl (lv_at hl 2 rfl) ?_
        have hz8 := hI.2 (by omega)
        exact z_reti ((uI (uI (uI (uI (uI x 4 (((tS f n e2) : Nat) : Int)) 5 (((nEn f n e2) : Nat) : Int)) 6 ((b1 : Nat) : Int)) 7 ((c : Nat) : Int)) 8 0), m1) [0, 1, 2, 3] hx hb hr (nar_z (by omega)) hlocks hK hP hD hS (by unfold rdz; rw [if_neg (by omega)]; omega) ⟨(fun j hj => by dsimp only; rw [uI_n (show j ≠ 8 by omega), uI_n (show j ≠ 7 by omega), uI_n (show j ≠ 6 by omega), uI_n (show j ≠ 5 by omega), uI_n (show j ≠ 4 by omega)]), fun _ => hz8.symm⟩ rfl rfl (rfl) (Nat.le_of_ble_eq_true rfl) (Nat.le_of_ble_eq_true rfl) dX10_reads_103
      · refine lv_aload_n hx hb dX10_reads_36 rfl (lv_at hl 0 rfl) ?_
        refine z_get hx hb hts hin10_ hown hK hP 0 rfl rfl 15 (by decide) (hts _ (List.mem_of_getElem? (i := 6) rfl)) rfl dX10_reads_37 ?_
        refine z_toI (((tS f n e2) : Nat) : Int) rfl ?_
        refine lv_aload_n hx hb dX10_reads_40 rfl (lv_at hl 0 rfl) ?_
        refine z_get hx hb hts hin10_ hown hK hP 0 rfl rfl 10 (by decide) (hts _ (List.mem_of_getElem? (i := 7) rfl)) rfl dX10_reads_41 ?_
        refine z_toI (x 3) rfl ?_
        refine z_icmp_ge (tgt := 102) hx hb (by omega) (by omega) dX10_reads_44 (by decide) (fun cq4 => ?_) (fun cq4 => ?_)
        · refine lv_iload_n hx hb dX10_reads_102 rfl (lv_at hl 2 rfl) ?_
          have hz8 := RD_end hI (by omega) (by omega)
          exact z_reti ((uI (uI (uI (uI (uI x 4 (((tS f n e2) : Nat) : Int)) 5 (((nEn f n e2) : Nat) : Int)) 6 ((b1 : Nat) : Int)) 7 ((c : Nat) : Int)) 8 0), m1) [0, 1, 2, 3] hx hb hr (nar_z (by omega)) hlocks hK hP hD hS (by rw [hz8]; unfold rdz; rw [if_pos rfl]; omega) ⟨(fun j hj => by dsimp only; rw [uI_n (show j ≠ 8 by omega), uI_n (show j ≠ 7 by omega), uI_n (show j ≠ 6 by omega), uI_n (show j ≠ 5 by omega), uI_n (show j ≠ 4 by omega)]), fun q => absurd (by rw [hz8]) q⟩ rfl rfl (rfl) (Nat.le_of_ble_eq_true rfl) (Nat.le_of_ble_eq_true rfl) dX10_reads_103
        · refine lv_aload_n hx hb dX10_reads_47 rfl (lv_at hl 0 rfl) ?_
          refine z_get hx hb hts hin10_ hown hK hP 0 rfl rfl 18 (by decide) (hts _ (List.mem_of_getElem? (i := 3) rfl)) rfl dX10_reads_48 ?_
          refine z_toI ((c : Nat) : Int) rfl ?_
          refine z_bipush hx hb 24 dX10_reads_51 rfl ?_
          refine z_icmp_ge (tgt := 74) hx hb (by omega) (by decide) dX10_reads_53 (by decide) (fun cq5 => ?_) (fun cq5 => ?_)
          · refine z_iconst hx hb dX10_reads_74 rfl ?_
            refine lv_istore_n (lv' := [(2, vI 0), (0, .ref q), (1, vI 0)]) hx hb dX10_reads_75 rfl hl (by decide) rfl (fun ls hl => ?_)
            refine lv_iload_n hx hb dX10_reads_76 rfl (lv_at hl 0 rfl) ?_
            refine z_if_eq (tgt := 32) hx hb (by decide) dX10_reads_77 (by decide) (fun cq6 => ?_) (fun cq6 => False.elim (by omega))
            exact ih32 0 e2 b1 c m1 X _ _ _ (by omega) he2 (by omega) hB hN ⟨fun q => absurd q (by decide), fun _ => RD_stop hI (by omega) (by omega) (by omega)⟩ (by omega) hP hD hS (lv_sub hl [1, 2, 0] rfl)
          · refine lv_aload_n hx hb dX10_reads_56 rfl (lv_at hl 0 rfl) ?_
            refine z_get hx hb hts hin10_ hown hK hP 0 rfl rfl 9 (by decide) (hts _ (List.mem_of_getElem? (i := 8) rfl)) rfl dX10_reads_57 ?_
            refine lv_aload_n hx hb dX10_reads_60 rfl (lv_at hl 0 rfl) ?_
            refine z_get hx hb hts hin10_ hown hK hP 0 rfl rfl 15 (by decide) (hts _ (List.mem_of_getElem? (i := 6) rfl)) rfl dX10_reads_61 ?_
            refine z_toI (((tS f n e2) : Nat) : Int) rfl ?_
            refine z_iald hx hb hK hP 1 rfl (tS f n e2) (by omega) (by omega) (by decide) dX10_reads_64 ?_
            have hb_7 := hf (tS f n e2)
            refine z_bipush hx hb 59 dX10_reads_65 rfl ?_
            refine z_icmp_ne (tgt := 74) hx hb (by omega) (by decide) dX10_reads_67 (by decide) (fun cq8 => ?_) (fun cq8 => ?_)
            · refine z_iconst hx hb dX10_reads_74 rfl ?_
              refine lv_istore_n (lv' := [(2, vI 0), (0, .ref q), (1, vI 0)]) hx hb dX10_reads_75 rfl hl (by decide) rfl (fun ls hl => ?_)
              refine lv_iload_n hx hb dX10_reads_76 rfl (lv_at hl 0 rfl) ?_
              refine z_if_eq (tgt := 32) hx hb (by decide) dX10_reads_77 (by decide) (fun cq9 => ?_) (fun cq9 => False.elim (by omega))
              exact ih32 0 e2 b1 c m1 X _ _ _ (by omega) he2 (by omega) hB hN ⟨fun q => absurd q (by decide), fun _ => RD_stop hI (by omega) (by omega) (by omega)⟩ (by omega) hP hD hS (lv_sub hl [1, 2, 0] rfl)
            · refine z_iconst hx hb dX10_reads_70 rfl ?_
              refine lv_goto (tgt := 75) hx hb dX10_reads_71 (by decide) ?_
              refine lv_istore_n (lv' := [(2, vI 1), (0, .ref q), (1, vI 0)]) hx hb dX10_reads_75 rfl hl (by decide) rfl (fun ls hl => ?_)
              refine lv_iload_n hx hb dX10_reads_76 rfl (lv_at hl 0 rfl) ?_
              refine z_if_eq (tgt := 32) hx hb (by decide) dX10_reads_77 (by decide) (fun cq10 => False.elim (by omega)) (fun cq10 => ?_)
              refine lv_aload_n hx hb dX10_reads_80 rfl (lv_at hl 1 rfl) ?_
              refine z_cVv (As := []) (rest := []) ⟨hx, hb, hml, hown, hts⟩ hK hP hD hS hA [0, 1] [2, 3] rfl rfl rfl (c_X10_nextToken l g q a (uI (uI (uI (uI (uI x 4 (((tS f n e2) : Nat) : Int)) 5 (((nEn f n e2) : Nat) : Int)) 6 ((b1 : Nat) : Int)) 7 ((c : Nat) : Int)) 8 0) f n (nEn f n e2) hx3 (by first | assumption | omega) (by first | assumption | omega) hf) (cwV 0 hts gX10_reads_X10_nextToken rfl rfl rfl (by decide +kernel) ⟨Nat.le_of_ble_eq_true rfl, Nat.le_of_ble_eq_true rfl⟩) 10 0 rfl rfl rfl (fun _ _ _ _ _ _ => trivial) (fun _ _ _ => trivial) rfl hl.1 (Nat.le_of_ble_eq_true rfl) rfl dX10_reads_81 ⟨Nat.le_of_ble_eq_true rfl, Nat.le_of_ble_eq_true rfl⟩ (fun u_11 H locs hwu_11 hP hD hS => ?_)
              try dsimp only at hwu_11
              have hP : zP g [[((a 12), .inl (g.2 0, 24, .inl (aI wd)))], [((a 11), .inl (g.2 0, 4, .inl (aI m1)))], [mdl q a (uI (uI (uI (uI (uI x 4 (((tS f n (nEn f n e2)) : Nat) : Int)) 5 (((nEn f n (nEn f n e2)) : Nat) : Int)) 6 ((b1 : Nat) : Int)) 7 ((c : Nat) : Int)) 8 0)], [((a 6), .inl (g.2 0, 200, .inl (aI f)))]] H := hP
              have hD : zD A [[((a 12), .inl (g.2 0, 24, .inl (aI wd)))], [((a 11), .inl (g.2 0, 4, .inl (aI m1)))], [mdl q a (uI (uI (uI (uI (uI x 4 (((tS f n (nEn f n e2)) : Nat) : Int)) 5 (((nEn f n (nEn f n e2)) : Nat) : Int)) 6 ((b1 : Nat) : Int)) 7 ((c : Nat) : Int)) 8 0)], [((a 6), .inl (g.2 0, 200, .inl (aI f)))]] := hD
              refine lv_aload_n hx hb dX10_reads_84 rfl (lv_at hl 1 rfl) ?_
              refine z_cVi (As := []) (rest := []) ⟨hx, hb, hml, hown, hts⟩ hK hP hD hS hA [2, 3, 0, 1] [] rfl rfl rfl (c_X10_readsClause0 l g q a (uI (uI (uI (uI (uI x 4 (((tS f n (nEn f n e2)) : Nat) : Int)) 5 (((nEn f n (nEn f n e2)) : Nat) : Int)) 6 ((b1 : Nat) : Int)) 7 ((c : Nat) : Int)) 8 0) f n (nEn f n e2) wd m1 b1 hx3 (by first | assumption | omega) (by first | assumption | omega) hf hwd hnb rfl) (cwV 0 hts gX10_reads_X10_readsClause rfl rfl rfl (by decide +kernel) ⟨Nat.le_of_ble_eq_true rfl, Nat.le_of_ble_eq_true rfl⟩) 10 0 rfl rfl rfl (fun _ _ _ _ _ _ => trivial) (fun _ _ _ => trivial) rfl hl.1 (Nat.le_of_ble_eq_true rfl) rfl dX10_reads_85 ⟨Nat.le_of_ble_eq_true rfl, Nat.le_of_ble_eq_true rfl⟩ (fun u_12 H locs hwu_12 hP hD hS => ?_)
              obtain ⟨e9, m9, b9⟩ := u_12
              try dsimp only at hwu_12
              have hP : zP g [[mdl q a (uI (uI (uI (uI (uI x 4 (((tS f n e9) : Nat) : Int)) 5 (((nEn f n e9) : Nat) : Int)) 6 ((b9 : Nat) : Int)) 7 ((c : Nat) : Int)) 8 0)], [((a 6), .inl (g.2 0, 200, .inl (aI f)))], [((a 12), .inl (g.2 0, 24, .inl (aI wd)))], [((a 11), .inl (g.2 0, 4, .inl (aI m9)))]] H := hP
              have hD : zD A [[mdl q a (uI (uI (uI (uI (uI x 4 (((tS f n e9) : Nat) : Int)) 5 (((nEn f n e9) : Nat) : Int)) 6 ((b9 : Nat) : Int)) 7 ((c : Nat) : Int)) 8 0)], [((a 6), .inl (g.2 0, 200, .inl (aI f)))], [((a 12), .inl (g.2 0, 24, .inl (aI wd)))], [((a 11), .inl (g.2 0, 4, .inl (aI m9)))]] := hD
              refine z_toI (cOk f n (nEn f n e2) b1) rfl ?_
              have hC01 := hwu_12.2.2
              have hB9 : X.2.1 = b1 := hB
              have hT9 : (pA f n 24 0 X0 0) = pA f n ((23 - c) + 1) (nEn f n e2) X c := (RD_go hI (by omega) (by omega) (by omega) (by omega))
              have hN9 : nok5 X := hN
              have hle : e9 ≤ n := by rcases hC01 with q | q; exact (hwu_12.2.1 (by rw [q]; decide)).2.1; exact (hwu_12.1 q).2.1
              have hB8 : (effc f n (nEn f n e2) X).2.1 = b9 := eBW_e hB9 (fun q => (hwu_12.1 q).2.2) (fun q => (hwu_12.2.1 q).2.2)
              have hN8 : nok5 (effc f n (nEn f n e2) X) := effc_ok hN9
              have hI8 : RDI f n X0 (cOk f n (nEn f n e2) b1) e9 (c + 1) (effc f n (nEn f n e2) X) := RD_next hT9 (by omega) (by rw [hB9]) (fun q => by rw [hB9] at q ⊢; exact (hwu_12.1 q).1) (fun q => by rw [hB9] at q ⊢; exact (hwu_12.2.1 q).1)
              refine lv_istore_n (lv' := [(2, vI (cOk f n (nEn f n e2) b1)), (0, .ref q), (1, vI 0)]) hx hb dX10_reads_88 rfl hl (by decide) rfl (fun ls hl => ?_)
              refine lv_aload_n hx hb dX10_reads_89 rfl (lv_at hl 1 rfl) ?_
              refine lv_dup hx hb dX10_reads_90 rfl ?_
              refine z_get hx hb hts hin10_ hown hK hP 0 rfl rfl 18 (by decide) (hts _ (List.mem_of_getElem? (i := 3) rfl)) rfl dX10_reads_91 ?_
              refine z_toI ((c : Nat) : Int) rfl ?_
              refine z_iconst hx hb dX10_reads_94 rfl ?_
              refine z_iadd hx hb (((c + 1) : Nat) : Int) (by omega) dX10_reads_95 ?_
              refine z_put hx hb hts hin10_ tyX10 tyX10_ok nmX10 hown hK hP hD hS 0 rfl rfl 18 (by decide) (hts _ (List.mem_of_getElem? (i := 3) rfl)) rfl rfl rfl (Nat.le_of_ble_eq_true rfl) dX10_reads_96 [[mdl q a (uI (uI (uI (uI (uI x 4 (((tS f n e9) : Nat) : Int)) 5 (((nEn f n e9) : Nat) : Int)) 6 ((b9 : Nat) : Int)) 7 (((c + 1) : Nat) : Int)) 8 0)], [((a 6), .inl (g.2 0, 200, .inl (aI f)))], [((a 12), .inl (g.2 0, 24, .inl (aI wd)))], [((a 11), .inl (g.2 0, 4, .inl (aI m9)))]] rfl (fun H locs hP hD hS => ?_)
              refine lv_goto (tgt := 32) hx hb dX10_reads_99 (by decide) ?_
              exact ih32 (cOk f n (nEn f n e2) b1) e9 b9 (c + 1) m9 (effc f n (nEn f n e2) X) _ _ _ hC01 hle (by omega) hB8 hN8 hI8 (by omega) hP hD hS (lv_sub hl [1, 2, 0] rfl)
  exact loop32 _ (cOk f n 0 b) e8 b8 1 m8 (effc f n 0 X0) _ _ _ hC01 hle (by omega) hB8 hN8 hI8 (Nat.lt_succ_self _) hP hD hS (lv_sub hl [1, 2, 0] rfl)

set_option maxHeartbeats 4000000 in
set_option maxRecDepth 100000 in
theorem c_X10_reads1 (l : Launch) (g : zG) (q : Nat) (a : Nat → Nat) (x : Nat → Int) (f : Nat → Int) (n : Nat) (wd : Nat → Int) (m : Nat → Int) (b : Nat) (X0 : NT5) (h : Nat → Int) (o : Nat → Int) (l_ : Nat → Int) (hx3 : x 3 = (n : Int)) (hn : n ≤ 200) (hf : ∀ i, 0 ≤ f i ∧ f i ≤ 255) (hwd : ∀ k, k < 24 → wd k = wds k) (hx1 : x 1 = (b : Int)) (hXb : X0.2.1 = b) (hXn : nok5 X0) (hR : RN X0 (x 0) b h o l_) (hT : (pA f n 24 0 X0 0).1 = -1) : zMet l g yX10_reads wsX10_reads 7 0 0 [.ref q, vI 1] zX0 [[mdl q a x], [((a 6), .inl (g.2 0, 200, .inl (aI f)))], [((a 12), .inl (g.2 0, 24, .inl (aI wd)))], [((a 11), .inl (g.2 0, 4, .inl (aI m)))], [((a 2), .inl (g.2 0, 6, .inl (aI h)))], [((a 3), .inl (g.2 0, 18, .inl (aI o)))], [((a 4), .inl (g.2 0, 6, .inl (aI l_)))]] (qi g (fun (u_ : (Nat → Int) × (Nat → Int) × (Nat → Int) × (Nat → Int) × (Nat → Int) × Nat) => 1) (fun (u_ : (Nat → Int) × (Nat → Int) × (Nat → Int) × (Nat → Int) × (Nat → Int) × Nat) => ((∀ j, (2 ≤ j ∧ j < 4) ∨ 8 < j → u_.1 j = x j) ∧ RN (pA f n 24 0 X0 0).2.1 (u_.1 0) u_.2.2.2.2.2 u_.2.2.1 u_.2.2.2.1 u_.2.2.2.2.1 ∧ u_.1 1 = (u_.2.2.2.2.2 : Int) ∧ u_.1 7 = ((pA f n 24 0 X0 0).2.2 : Int))) (fun (u_ : (Nat → Int) × (Nat → Int) × (Nat → Int) × (Nat → Int) × (Nat → Int) × Nat) => [[mdl q a u_.1], [((a 6), .inl (g.2 0, 200, .inl (aI f)))], [((a 12), .inl (g.2 0, 24, .inl (aI wd)))], [((a 11), .inl (g.2 0, 4, .inl (aI u_.2.1)))], [((a 2), .inl (g.2 0, 6, .inl (aI u_.2.2.1)))], [((a 3), .inl (g.2 0, 18, .inl (aI u_.2.2.2.1)))], [((a 4), .inl (g.2 0, 6, .inl (aI u_.2.2.2.2.1)))]])) := by
  have hnb0 : 1 ≤ b ∧ b ≤ 6 := by rw [← hXb]; exact ⟨hXn.2.2.1, hXn.2.2.2.1⟩
  refine z_ent (cc := cX10_reads) (maxL := 3) (ret := (some .boolean)) (by decide) rfl (Nat.le_of_ble_eq_true rfl) ?_
  intro p eE s mM below meth cC A ls hx hb hr hml hown hts hlocks hin0 hA hK hP hD hS hXX hl
  have hown : s.vm.findClass RX10 = some mM.cls := hown
  have hin10_ : ∀ w ∈ wsX100, w ∈ wsX10_reads := zw_in [61, 62, 63, 64, 65, 66, 67, 68, 69, 70, 71, 72, 73, 74, 75, 76, 77, 78, 79, 80, 81, 82, 83, 84, 85, 86] rfl
  have hl : lv_has ls 3 [(0, .ref q), (1, vI 1)] := hl
  refine lv_aload_n hx hb dX10_reads_0 rfl (lv_at hl 0 rfl) ?_
  refine lv_iload_n hx hb dX10_reads_1 rfl (lv_at hl 1 rfl) ?_
  refine z_put hx hb hts hin10_ tyX10 tyX10_ok nmX10 hown hK hP hD hS 0 rfl rfl 19 (by decide) (hts _ (List.mem_of_getElem? (i := 1) rfl)) rfl (nar_z (by decide)) (fit_z (by decide)) (Nat.le_of_ble_eq_true rfl) dX10_reads_2 [[mdl q a (uI x 8 1)], [((a 6), .inl (g.2 0, 200, .inl (aI f)))], [((a 12), .inl (g.2 0, 24, .inl (aI wd)))], [((a 11), .inl (g.2 0, 4, .inl (aI m)))], [((a 2), .inl (g.2 0, 6, .inl (aI h)))], [((a 3), .inl (g.2 0, 18, .inl (aI o)))], [((a 4), .inl (g.2 0, 6, .inl (aI l_)))]] rfl (fun H locs hP hD hS => ?_)
  refine lv_aload_n hx hb dX10_reads_5 rfl (lv_at hl 0 rfl) ?_
  refine z_iconst hx hb dX10_reads_6 rfl ?_
  refine z_put hx hb hts hin10_ tyX10 tyX10_ok nmX10 hown hK hP hD hS 0 rfl rfl 16 (by decide) (hts _ (List.mem_of_getElem? (i := 2) rfl)) rfl rfl rfl (Nat.le_of_ble_eq_true rfl) dX10_reads_7 [[mdl q a (uI (uI x 5 0) 8 1)], [((a 6), .inl (g.2 0, 200, .inl (aI f)))], [((a 12), .inl (g.2 0, 24, .inl (aI wd)))], [((a 11), .inl (g.2 0, 4, .inl (aI m)))], [((a 2), .inl (g.2 0, 6, .inl (aI h)))], [((a 3), .inl (g.2 0, 18, .inl (aI o)))], [((a 4), .inl (g.2 0, 6, .inl (aI l_)))]] rfl (fun H locs hP hD hS => ?_)
  refine lv_aload_n hx hb dX10_reads_10 rfl (lv_at hl 0 rfl) ?_
  refine z_iconst hx hb dX10_reads_11 rfl ?_
  refine z_put hx hb hts hin10_ tyX10 tyX10_ok nmX10 hown hK hP hD hS 0 rfl rfl 18 (by decide) (hts _ (List.mem_of_getElem? (i := 3) rfl)) rfl rfl rfl (Nat.le_of_ble_eq_true rfl) dX10_reads_12 [[mdl q a (uI (uI (uI x 5 0) 7 1) 8 1)], [((a 6), .inl (g.2 0, 200, .inl (aI f)))], [((a 12), .inl (g.2 0, 24, .inl (aI wd)))], [((a 11), .inl (g.2 0, 4, .inl (aI m)))], [((a 2), .inl (g.2 0, 6, .inl (aI h)))], [((a 3), .inl (g.2 0, 18, .inl (aI o)))], [((a 4), .inl (g.2 0, 6, .inl (aI l_)))]] rfl (fun H locs hP hD hS => ?_)
  refine lv_aload_n hx hb dX10_reads_15 rfl (lv_at hl 0 rfl) ?_
  refine lv_aload_n hx hb dX10_reads_16 rfl (lv_at hl 0 rfl) ?_
  refine z_get hx hb hts hin10_ hown hK hP 0 rfl rfl 3 (by decide) (hts _ (List.mem_of_getElem? (i := 4) rfl)) rfl dX10_reads_17 ?_
  refine z_toI (x 1) rfl ?_
  refine z_toI ((b : Nat) : Int) hx1 ?_
  refine z_put hx hb hts hin10_ tyX10 tyX10_ok nmX10 hown hK hP hD hS 0 rfl rfl 17 (by decide) (hts _ (List.mem_of_getElem? (i := 5) rfl)) rfl rfl rfl (Nat.le_of_ble_eq_true rfl) dX10_reads_20 [[mdl q a (uI (uI (uI (uI x 5 0) 6 ((b : Nat) : Int)) 7 1) 8 1)], [((a 6), .inl (g.2 0, 200, .inl (aI f)))], [((a 12), .inl (g.2 0, 24, .inl (aI wd)))], [((a 11), .inl (g.2 0, 4, .inl (aI m)))], [((a 2), .inl (g.2 0, 6, .inl (aI h)))], [((a 3), .inl (g.2 0, 18, .inl (aI o)))], [((a 4), .inl (g.2 0, 6, .inl (aI l_)))]] rfl (fun H locs hP hD hS => ?_)
  have hP : zP g [[mdl q a (uI (uI (uI (uI (uI (uI x 0 (x 0)) 1 ((b : Nat) : Int)) 5 0) 6 ((b : Nat) : Int)) 7 1) 8 1)], [((a 6), .inl (g.2 0, 200, .inl (aI f)))], [((a 12), .inl (g.2 0, 24, .inl (aI wd)))], [((a 11), .inl (g.2 0, 4, .inl (aI m)))], [((a 2), .inl (g.2 0, 6, .inl (aI h)))], [((a 3), .inl (g.2 0, 18, .inl (aI o)))], [((a 4), .inl (g.2 0, 6, .inl (aI l_)))]] H := by rw [← hx1] at hP ⊢; exact hP
  have hD : zD A [[mdl q a (uI (uI (uI (uI (uI (uI x 0 (x 0)) 1 ((b : Nat) : Int)) 5 0) 6 ((b : Nat) : Int)) 7 1) 8 1)], [((a 6), .inl (g.2 0, 200, .inl (aI f)))], [((a 12), .inl (g.2 0, 24, .inl (aI wd)))], [((a 11), .inl (g.2 0, 4, .inl (aI m)))], [((a 2), .inl (g.2 0, 6, .inl (aI h)))], [((a 3), .inl (g.2 0, 18, .inl (aI o)))], [((a 4), .inl (g.2 0, 6, .inl (aI l_)))]] := by rw [← hx1] at hD ⊢; exact hD
  refine lv_aload_n hx hb dX10_reads_23 rfl (lv_at hl 0 rfl) ?_
  refine z_cVv (As := []) (rest := []) ⟨hx, hb, hml, hown, hts⟩ hK hP hD hS hA [0, 1] [2, 3, 4, 5, 6] rfl rfl rfl (c_X10_nextToken l g q a (uI (uI (uI (uI (uI (uI x 0 (x 0)) 1 ((b : Nat) : Int)) 5 0) 6 ((b : Nat) : Int)) 7 1) 8 1) f n 0 hx3 (by first | assumption | omega) (by first | assumption | omega) hf) (cwV 0 hts gX10_reads_X10_nextToken rfl rfl rfl (by decide +kernel) ⟨Nat.le_of_ble_eq_true rfl, Nat.le_of_ble_eq_true rfl⟩) 10 0 rfl rfl rfl (fun _ _ _ _ _ _ => trivial) (fun _ _ _ => trivial) rfl hl.1 (Nat.le_of_ble_eq_true rfl) rfl dX10_reads_24 ⟨Nat.le_of_ble_eq_true rfl, Nat.le_of_ble_eq_true rfl⟩ (fun u_1 H locs hwu_1 hP hD hS => ?_)
  try dsimp only at hwu_1
  have hP : zP g [[((a 12), .inl (g.2 0, 24, .inl (aI wd)))], [((a 11), .inl (g.2 0, 4, .inl (aI m)))], [((a 2), .inl (g.2 0, 6, .inl (aI h)))], [((a 3), .inl (g.2 0, 18, .inl (aI o)))], [((a 4), .inl (g.2 0, 6, .inl (aI l_)))], [mdl q a (uI (uI (uI (uI (uI (uI (uI x 0 (x 0)) 1 ((b : Nat) : Int)) 4 (((tS f n 0) : Nat) : Int)) 5 (((nEn f n 0) : Nat) : Int)) 6 ((b : Nat) : Int)) 7 1) 8 1)], [((a 6), .inl (g.2 0, 200, .inl (aI f)))]] H := hP
  have hD : zD A [[((a 12), .inl (g.2 0, 24, .inl (aI wd)))], [((a 11), .inl (g.2 0, 4, .inl (aI m)))], [((a 2), .inl (g.2 0, 6, .inl (aI h)))], [((a 3), .inl (g.2 0, 18, .inl (aI o)))], [((a 4), .inl (g.2 0, 6, .inl (aI l_)))], [mdl q a (uI (uI (uI (uI (uI (uI (uI x 0 (x 0)) 1 ((b : Nat) : Int)) 4 (((tS f n 0) : Nat) : Int)) 5 (((nEn f n 0) : Nat) : Int)) 6 ((b : Nat) : Int)) 7 1) 8 1)], [((a 6), .inl (g.2 0, 200, .inl (aI f)))]] := hD
  refine lv_aload_n hx hb dX10_reads_27 rfl (lv_at hl 0 rfl) ?_
  refine z_cVi (As := []) (rest := []) ⟨hx, hb, hml, hown, hts⟩ hK hP hD hS hA [5, 6, 0, 1, 2, 3, 4] [] rfl rfl rfl (c_X10_readsClause1 l g q a (uI (uI (uI (uI (uI (uI (uI x 0 (x 0)) 1 ((b : Nat) : Int)) 4 (((tS f n 0) : Nat) : Int)) 5 (((nEn f n 0) : Nat) : Int)) 6 ((b : Nat) : Int)) 7 1) 8 1) f n 0 wd m b (x 0) h o l_ hx3 (by first | assumption | omega) (by first | assumption | omega) hf hwd hnb0 rfl) (cwV 0 hts gX10_reads_X10_readsClause rfl rfl rfl (by decide +kernel) ⟨Nat.le_of_ble_eq_true rfl, Nat.le_of_ble_eq_true rfl⟩) 10 0 rfl rfl rfl (fun _ _ _ _ _ _ => trivial) (fun _ _ _ => trivial) rfl hl.1 (Nat.le_of_ble_eq_true rfl) rfl dX10_reads_28 ⟨Nat.le_of_ble_eq_true rfl, Nat.le_of_ble_eq_true rfl⟩ (fun u_2 H locs hwu_2 hP hD hS => ?_)
  obtain ⟨e8, m8, b8, v8, h8, o8, l8⟩ := u_2
  try dsimp only at hwu_2
  have hP : zP g [[mdl q a (uI (uI (uI (uI (uI (uI (uI x 0 v8) 1 ((b8 : Nat) : Int)) 4 (((tS f n e8) : Nat) : Int)) 5 (((nEn f n e8) : Nat) : Int)) 6 ((b8 : Nat) : Int)) 7 1) 8 1)], [((a 6), .inl (g.2 0, 200, .inl (aI f)))], [((a 12), .inl (g.2 0, 24, .inl (aI wd)))], [((a 11), .inl (g.2 0, 4, .inl (aI m8)))], [((a 2), .inl (g.2 0, 6, .inl (aI h8)))], [((a 3), .inl (g.2 0, 18, .inl (aI o8)))], [((a 4), .inl (g.2 0, 6, .inl (aI l8)))]] H := hP
  have hD : zD A [[mdl q a (uI (uI (uI (uI (uI (uI (uI x 0 v8) 1 ((b8 : Nat) : Int)) 4 (((tS f n e8) : Nat) : Int)) 5 (((nEn f n e8) : Nat) : Int)) 6 ((b8 : Nat) : Int)) 7 1) 8 1)], [((a 6), .inl (g.2 0, 200, .inl (aI f)))], [((a 12), .inl (g.2 0, 24, .inl (aI wd)))], [((a 11), .inl (g.2 0, 4, .inl (aI m8)))], [((a 2), .inl (g.2 0, 6, .inl (aI h8)))], [((a 3), .inl (g.2 0, 18, .inl (aI o8)))], [((a 4), .inl (g.2 0, 6, .inl (aI l8)))]] := hD
  refine z_toI (cOk f n 0 b) rfl ?_
  have hC01 := hwu_2.2.2
  have hB9 : X0.2.1 = b := hXb
  have hT9 : (pA f n 24 0 X0 0) = pA f n (23 + 1) 0 X0 0 := rfl
  have hN9 : nok5 X0 := hXn
  have hok : (cOk f n 0 b) = 1 := by rcases hC01 with q | q; exact absurd hT (RD_no hT9 (by rw [hB9, q]; decide)); exact q
  obtain ⟨q1, q2, q3, q4, q5, q6, q7⟩ := hwu_2.1 hok
  have hR9 := RN_eff (f := f) (n := n) (e := 0) hR (by rw [hB9]; exact hok) hN9
  rw [← q3, ← q4, ← q5, ← q6, ← q7] at hR9
  have hXe : effc f n 0 X0 = eff f n 0 X0 := effc_y (by rw [hB9]; exact hok)
  rw [← hXe] at hR9
  have hle : e8 ≤ n := q2
  have hB8 : (effc f n 0 X0).2.1 = b8 := eBW_e hB9 (fun q => (hwu_2.1 q).2.2.1) (fun q => (hwu_2.2.1 q).2.2)
  have hN8 : nok5 (effc f n 0 X0) := effc_ok hN9
  have hI8 : RDI f n X0 (cOk f n 0 b) e8 (0 + 1) (effc f n 0 X0) := RD_next hT9 (by omega) (by rw [hB9]) (fun q => by rw [hB9] at q ⊢; exact (hwu_2.1 q).1) (fun q => by rw [hB9] at q ⊢; exact (hwu_2.2.1 q).1)
  refine lv_istore_n (lv' := [(2, vI (cOk f n 0 b)), (0, .ref q), (1, vI 1)]) hx hb dX10_reads_31 rfl hl (by decide) rfl (fun ls hl => ?_)
  have loop32 : ∀ (N : Nat) (z : Int) (e2 : Nat) (b1 : Nat) (c : Nat) (m1 : Nat → Int) (X : NT5) (v1 : Int) (h1 : Nat → Int) (o1 : Nat → Int) (l1 : Nat → Int) (H : Heap) (locs : List Loc) (ls : Array Slot), z = 0 ∨ z = 1 → e2 ≤ n → 1 ≤ c ∧ c ≤ 24 → X.2.1 = b1 → nok5 X → RDI f n X0 z e2 c X → RN X v1 b1 h1 o1 l1 → (2 * (24 - c) + z.toNat) < N → zP g [[mdl q a (uI (uI (uI (uI (uI (uI (uI x 0 v1) 1 ((b1 : Nat) : Int)) 4 (((tS f n e2) : Nat) : Int)) 5 (((nEn f n e2) : Nat) : Int)) 6 ((b1 : Nat) : Int)) 7 ((c : Nat) : Int)) 8 1)], [((a 6), .inl (g.2 0, 200, .inl (aI f)))], [((a 12), .inl (g.2 0, 24, .inl (aI wd)))], [((a 11), .inl (g.2 0, 4, .inl (aI m1)))], [((a 2), .inl (g.2 0, 6, .inl (aI h1)))], [((a 3), .inl (g.2 0, 18, .inl (aI o1)))], [((a 4), .inl (g.2 0, 6, .inl (aI l1)))]] H → zD A [[mdl q a (uI (uI (uI (uI (uI (uI (uI x 0 v1) 1 ((b1 : Nat) : Int)) 4 (((tS f n e2) : Nat) : Int)) 5 (((nEn f n e2) : Nat) : Int)) 6 ((b1 : Nat) : Int)) 7 ((c : Nat) : Int)) 8 1)], [((a 6), .inl (g.2 0, 200, .inl (aI f)))], [((a 12), .inl (g.2 0, 24, .inl (aI wd)))], [((a 11), .inl (g.2 0, 4, .inl (aI m1)))], [((a 2), .inl (g.2 0, 6, .inl (aI h1)))], [((a 3), .inl (g.2 0, 18, .inl (aI o1)))], [((a 4), .inl (g.2 0, 6, .inl (aI l1)))]] → va_S A s.heap H locs → lv_has ls 3 [(0, .ref q), (1, vI 1), (2, vI z)] → W p l eE (zRm 7 0 0) s mM ([.ref q, vI 1] : List Value).toArray below meth cC H locs (0) (0) (MQ below ((qi g (fun (u_ : (Nat → Int) × (Nat → Int) × (Nat → Int) × (Nat → Int) × (Nat → Int) × Nat) => 1) (fun (u_ : (Nat → Int) × (Nat → Int) × (Nat → Int) × (Nat → Int) × (Nat → Int) × Nat) => ((∀ j, (2 ≤ j ∧ j < 4) ∨ 8 < j → u_.1 j = x j) ∧ RN (pA f n 24 0 X0 0).2.1 (u_.1 0) u_.2.2.2.2.2 u_.2.2.1 u_.2.2.2.1 u_.2.2.2.2.1 ∧ u_.1 1 = (u_.2.2.2.2.2 : Int) ∧ u_.1 7 = ((pA f n 24 0 X0 0).2.2 : Int))) (fun (u_ : (Nat → Int) × (Nat → Int) × (Nat → Int) × (Nat → Int) × (Nat → Int) × Nat) => [[mdl q a u_.1], [((a 6), .inl (g.2 0, 200, .inl (aI f)))], [((a 12), .inl (g.2 0, 24, .inl (aI wd)))], [((a 11), .inl (g.2 0, 4, .inl (aI u_.2.1)))], [((a 2), .inl (g.2 0, 6, .inl (aI u_.2.2.1)))], [((a 3), .inl (g.2 0, 18, .inl (aI u_.2.2.2.1)))], [((a 4), .inl (g.2 0, 6, .inl (aI u_.2.2.2.2.1)))]])) A) ([.ref q, vI 1] : List Value).toArray s 0 0 A) (F0 mM 32 ls []) := by
    intro N
    induction N with
    | zero => intro z e2 b1 c m1 X v1 h1 o1 l1 H locs ls hz he2 hc hB hN hI hR1 hm; exact absurd hm (Nat.not_lt_zero _)
    | succ N ih32 =>
      intro z e2 b1 c m1 X v1 h1 o1 l1 H locs ls hz he2 hc hB hN hI hR1 hm hP hD hS hl
      have hne2 := nEn_s f he2
      have hnb : 1 ≤ b1 ∧ b1 ≤ 6 := by rw [← hB]; exact ⟨hN.2.2.1, hN.2.2.2.1⟩
      refine lv_iload_n hx hb dX10_reads_32 rfl (lv_at hl 2 rfl) ?_
      refine z_if_eq (tgt := 102) hx hb (by omega) dX10_reads_33 (by decide) (fun cq3 => ?_) (fun cq3 => ?_)
      · exact False.elim (by have hz8 := hI.2 (by omega); omega)
      · refine lv_aload_n hx hb dX10_reads_36 rfl (lv_at hl 0 rfl) ?_
        refine z_get hx hb hts hin10_ hown hK hP 0 rfl rfl 15 (by decide) (hts _ (List.mem_of_getElem? (i := 6) rfl)) rfl dX10_reads_37 ?_
        refine z_toI (((tS f n e2) : Nat) : Int) rfl ?_
        refine lv_aload_n hx hb dX10_reads_40 rfl (lv_at hl 0 rfl) ?_
        refine z_get hx hb hts hin10_ hown hK hP 0 rfl rfl 10 (by decide) (hts _ (List.mem_of_getElem? (i := 7) rfl)) rfl dX10_reads_41 ?_
        refine z_toI (x 3) rfl ?_
        refine z_icmp_ge (tgt := 102) hx hb (by omega) (by omega) dX10_reads_44 (by decide) (fun cq4 => ?_) (fun cq4 => ?_)
        · refine lv_iload_n hx hb dX10_reads_102 rfl (lv_at hl 2 rfl) ?_
          have hz8 := RD_end hI (by omega) (by omega)
          exact z_reti ((uI (uI (uI (uI (uI (uI (uI x 0 v1) 1 ((b1 : Nat) : Int)) 4 (((tS f n e2) : Nat) : Int)) 5 (((nEn f n e2) : Nat) : Int)) 6 ((b1 : Nat) : Int)) 7 ((c : Nat) : Int)) 8 1), m1, h1, o1, l1, b1) [0, 1, 2, 3, 4, 5, 6] hx hb hr (nar_z (by omega)) hlocks hK hP hD hS (by omega) ⟨(fun j hj => by dsimp only; rw [uI_n (show j ≠ 8 by omega), uI_n (show j ≠ 7 by omega), uI_n (show j ≠ 6 by omega), uI_n (show j ≠ 5 by omega), uI_n (show j ≠ 4 by omega), uI_n (show j ≠ 1 by omega), uI_n (show j ≠ 0 by omega)]), by rw [hz8]; exact hR1, rfl, by rw [hz8]; rfl⟩ rfl rfl (rfl) (Nat.le_of_ble_eq_true rfl) (Nat.le_of_ble_eq_true rfl) dX10_reads_103
        · refine lv_aload_n hx hb dX10_reads_47 rfl (lv_at hl 0 rfl) ?_
          refine z_get hx hb hts hin10_ hown hK hP 0 rfl rfl 18 (by decide) (hts _ (List.mem_of_getElem? (i := 3) rfl)) rfl dX10_reads_48 ?_
          refine z_toI ((c : Nat) : Int) rfl ?_
          refine z_bipush hx hb 24 dX10_reads_51 rfl ?_
          refine z_icmp_ge (tgt := 74) hx hb (by omega) (by decide) dX10_reads_53 (by decide) (fun cq5 => ?_) (fun cq5 => ?_)
          · refine z_iconst hx hb dX10_reads_74 rfl ?_
            refine lv_istore_n (lv' := [(2, vI 0), (0, .ref q), (1, vI 1)]) hx hb dX10_reads_75 rfl hl (by decide) rfl (fun ls hl => ?_)
            refine lv_iload_n hx hb dX10_reads_76 rfl (lv_at hl 0 rfl) ?_
            refine z_if_eq (tgt := 32) hx hb (by decide) dX10_reads_77 (by decide) (fun cq6 => ?_) (fun cq6 => False.elim (by omega))
            exact ih32 0 e2 b1 c m1 X v1 h1 o1 l1 _ _ _ (by omega) he2 (by omega) hB hN ⟨fun q => absurd q (by decide), fun _ => RD_stop hI (by omega) (by omega) (by omega)⟩ hR1 (by omega) hP hD hS (lv_sub hl [1, 2, 0] rfl)
          · refine lv_aload_n hx hb dX10_reads_56 rfl (lv_at hl 0 rfl) ?_
            refine z_get hx hb hts hin10_ hown hK hP 0 rfl rfl 9 (by decide) (hts _ (List.mem_of_getElem? (i := 8) rfl)) rfl dX10_reads_57 ?_
            refine lv_aload_n hx hb dX10_reads_60 rfl (lv_at hl 0 rfl) ?_
            refine z_get hx hb hts hin10_ hown hK hP 0 rfl rfl 15 (by decide) (hts _ (List.mem_of_getElem? (i := 6) rfl)) rfl dX10_reads_61 ?_
            refine z_toI (((tS f n e2) : Nat) : Int) rfl ?_
            refine z_iald hx hb hK hP 1 rfl (tS f n e2) (by omega) (by omega) (by decide) dX10_reads_64 ?_
            have hb_7 := hf (tS f n e2)
            refine z_bipush hx hb 59 dX10_reads_65 rfl ?_
            refine z_icmp_ne (tgt := 74) hx hb (by omega) (by decide) dX10_reads_67 (by decide) (fun cq8 => ?_) (fun cq8 => ?_)
            · refine z_iconst hx hb dX10_reads_74 rfl ?_
              refine lv_istore_n (lv' := [(2, vI 0), (0, .ref q), (1, vI 1)]) hx hb dX10_reads_75 rfl hl (by decide) rfl (fun ls hl => ?_)
              refine lv_iload_n hx hb dX10_reads_76 rfl (lv_at hl 0 rfl) ?_
              refine z_if_eq (tgt := 32) hx hb (by decide) dX10_reads_77 (by decide) (fun cq9 => ?_) (fun cq9 => False.elim (by omega))
              exact ih32 0 e2 b1 c m1 X v1 h1 o1 l1 _ _ _ (by omega) he2 (by omega) hB hN ⟨fun q => absurd q (by decide), fun _ => RD_stop hI (by omega) (by omega) (by omega)⟩ hR1 (by omega) hP hD hS (lv_sub hl [1, 2, 0] rfl)
            · refine z_iconst hx hb dX10_reads_70 rfl ?_
              refine lv_goto (tgt := 75) hx hb dX10_reads_71 (by decide) ?_
              refine lv_istore_n (lv' := [(2, vI 1), (0, .ref q), (1, vI 1)]) hx hb dX10_reads_75 rfl hl (by decide) rfl (fun ls hl => ?_)
              refine lv_iload_n hx hb dX10_reads_76 rfl (lv_at hl 0 rfl) ?_
              refine z_if_eq (tgt := 32) hx hb (by decide) dX10_reads_77 (by decide) (fun cq10 => False.elim (by omega)) (fun cq10 => ?_)
              refine lv_aload_n hx hb dX10_reads_80 rfl (lv_at hl 1 rfl) ?_
              refine z_cVv (As := []) (rest := []) ⟨hx, hb, hml, hown, hts⟩ hK hP hD hS hA [0, 1] [2, 3, 4, 5, 6] rfl rfl rfl (c_X10_nextToken l g q a (uI (uI (uI (uI (uI (uI (uI x 0 v1) 1 ((b1 : Nat) : Int)) 4 (((tS f n e2) : Nat) : Int)) 5 (((nEn f n e2) : Nat) : Int)) 6 ((b1 : Nat) : Int)) 7 ((c : Nat) : Int)) 8 1) f n (nEn f n e2) hx3 (by first | assumption | omega) (by first | assumption | omega) hf) (cwV 0 hts gX10_reads_X10_nextToken rfl rfl rfl (by decide +kernel) ⟨Nat.le_of_ble_eq_true rfl, Nat.le_of_ble_eq_true rfl⟩) 10 0 rfl rfl rfl (fun _ _ _ _ _ _ => trivial) (fun _ _ _ => trivial) rfl hl.1 (Nat.le_of_ble_eq_true rfl) rfl dX10_reads_81 ⟨Nat.le_of_ble_eq_true rfl, Nat.le_of_ble_eq_true rfl⟩ (fun u_11 H locs hwu_11 hP hD hS => ?_)
              try dsimp only at hwu_11
              have hP : zP g [[((a 12), .inl (g.2 0, 24, .inl (aI wd)))], [((a 11), .inl (g.2 0, 4, .inl (aI m1)))], [((a 2), .inl (g.2 0, 6, .inl (aI h1)))], [((a 3), .inl (g.2 0, 18, .inl (aI o1)))], [((a 4), .inl (g.2 0, 6, .inl (aI l1)))], [mdl q a (uI (uI (uI (uI (uI (uI (uI x 0 v1) 1 ((b1 : Nat) : Int)) 4 (((tS f n (nEn f n e2)) : Nat) : Int)) 5 (((nEn f n (nEn f n e2)) : Nat) : Int)) 6 ((b1 : Nat) : Int)) 7 ((c : Nat) : Int)) 8 1)], [((a 6), .inl (g.2 0, 200, .inl (aI f)))]] H := hP
              have hD : zD A [[((a 12), .inl (g.2 0, 24, .inl (aI wd)))], [((a 11), .inl (g.2 0, 4, .inl (aI m1)))], [((a 2), .inl (g.2 0, 6, .inl (aI h1)))], [((a 3), .inl (g.2 0, 18, .inl (aI o1)))], [((a 4), .inl (g.2 0, 6, .inl (aI l1)))], [mdl q a (uI (uI (uI (uI (uI (uI (uI x 0 v1) 1 ((b1 : Nat) : Int)) 4 (((tS f n (nEn f n e2)) : Nat) : Int)) 5 (((nEn f n (nEn f n e2)) : Nat) : Int)) 6 ((b1 : Nat) : Int)) 7 ((c : Nat) : Int)) 8 1)], [((a 6), .inl (g.2 0, 200, .inl (aI f)))]] := hD
              refine lv_aload_n hx hb dX10_reads_84 rfl (lv_at hl 1 rfl) ?_
              refine z_cVi (As := []) (rest := []) ⟨hx, hb, hml, hown, hts⟩ hK hP hD hS hA [5, 6, 0, 1, 2, 3, 4] [] rfl rfl rfl (c_X10_readsClause1 l g q a (uI (uI (uI (uI (uI (uI (uI x 0 v1) 1 ((b1 : Nat) : Int)) 4 (((tS f n (nEn f n e2)) : Nat) : Int)) 5 (((nEn f n (nEn f n e2)) : Nat) : Int)) 6 ((b1 : Nat) : Int)) 7 ((c : Nat) : Int)) 8 1) f n (nEn f n e2) wd m1 b1 v1 h1 o1 l1 hx3 (by first | assumption | omega) (by first | assumption | omega) hf hwd hnb rfl) (cwV 0 hts gX10_reads_X10_readsClause rfl rfl rfl (by decide +kernel) ⟨Nat.le_of_ble_eq_true rfl, Nat.le_of_ble_eq_true rfl⟩) 10 0 rfl rfl rfl (fun _ _ _ _ _ _ => trivial) (fun _ _ _ => trivial) rfl hl.1 (Nat.le_of_ble_eq_true rfl) rfl dX10_reads_85 ⟨Nat.le_of_ble_eq_true rfl, Nat.le_of_ble_eq_true rfl⟩ (fun u_12 H locs hwu_12 hP hD hS => ?_)
              obtain ⟨e9, m9, b9, v9, h9, o9, l9⟩ := u_12
              try dsimp only at hwu_12
              have hP : zP g [[mdl q a (uI (uI (uI (uI (uI (uI (uI x 0 v9) 1 ((b9 : Nat) : Int)) 4 (((tS f n e9) : Nat) : Int)) 5 (((nEn f n e9) : Nat) : Int)) 6 ((b9 : Nat) : Int)) 7 ((c : Nat) : Int)) 8 1)], [((a 6), .inl (g.2 0, 200, .inl (aI f)))], [((a 12), .inl (g.2 0, 24, .inl (aI wd)))], [((a 11), .inl (g.2 0, 4, .inl (aI m9)))], [((a 2), .inl (g.2 0, 6, .inl (aI h9)))], [((a 3), .inl (g.2 0, 18, .inl (aI o9)))], [((a 4), .inl (g.2 0, 6, .inl (aI l9)))]] H := hP
              have hD : zD A [[mdl q a (uI (uI (uI (uI (uI (uI (uI x 0 v9) 1 ((b9 : Nat) : Int)) 4 (((tS f n e9) : Nat) : Int)) 5 (((nEn f n e9) : Nat) : Int)) 6 ((b9 : Nat) : Int)) 7 ((c : Nat) : Int)) 8 1)], [((a 6), .inl (g.2 0, 200, .inl (aI f)))], [((a 12), .inl (g.2 0, 24, .inl (aI wd)))], [((a 11), .inl (g.2 0, 4, .inl (aI m9)))], [((a 2), .inl (g.2 0, 6, .inl (aI h9)))], [((a 3), .inl (g.2 0, 18, .inl (aI o9)))], [((a 4), .inl (g.2 0, 6, .inl (aI l9)))]] := hD
              refine z_toI (cOk f n (nEn f n e2) b1) rfl ?_
              have hC01 := hwu_12.2.2
              have hB9 : X.2.1 = b1 := hB
              have hT9 : (pA f n 24 0 X0 0) = pA f n ((23 - c) + 1) (nEn f n e2) X c := (RD_go hI (by omega) (by omega) (by omega) (by omega))
              have hN9 : nok5 X := hN
              have hok : (cOk f n (nEn f n e2) b1) = 1 := by rcases hC01 with q | q; exact absurd hT (RD_no hT9 (by rw [hB9, q]; decide)); exact q
              obtain ⟨q1, q2, q3, q4, q5, q6, q7⟩ := hwu_12.1 hok
              have hR9 := RN_eff (f := f) (n := n) (e := (nEn f n e2)) hR1 (by rw [hB9]; exact hok) hN9
              rw [← q3, ← q4, ← q5, ← q6, ← q7] at hR9
              have hXe : effc f n (nEn f n e2) X = eff f n (nEn f n e2) X := effc_y (by rw [hB9]; exact hok)
              rw [← hXe] at hR9
              have hle : e9 ≤ n := q2
              have hB8 : (effc f n (nEn f n e2) X).2.1 = b9 := eBW_e hB9 (fun q => (hwu_12.1 q).2.2.1) (fun q => (hwu_12.2.1 q).2.2)
              have hN8 : nok5 (effc f n (nEn f n e2) X) := effc_ok hN9
              have hI8 : RDI f n X0 (cOk f n (nEn f n e2) b1) e9 (c + 1) (effc f n (nEn f n e2) X) := RD_next hT9 (by omega) (by rw [hB9]) (fun q => by rw [hB9] at q ⊢; exact (hwu_12.1 q).1) (fun q => by rw [hB9] at q ⊢; exact (hwu_12.2.1 q).1)
              refine lv_istore_n (lv' := [(2, vI (cOk f n (nEn f n e2) b1)), (0, .ref q), (1, vI 1)]) hx hb dX10_reads_88 rfl hl (by decide) rfl (fun ls hl => ?_)
              refine lv_aload_n hx hb dX10_reads_89 rfl (lv_at hl 1 rfl) ?_
              refine lv_dup hx hb dX10_reads_90 rfl ?_
              refine z_get hx hb hts hin10_ hown hK hP 0 rfl rfl 18 (by decide) (hts _ (List.mem_of_getElem? (i := 3) rfl)) rfl dX10_reads_91 ?_
              refine z_toI ((c : Nat) : Int) rfl ?_
              refine z_iconst hx hb dX10_reads_94 rfl ?_
              refine z_iadd hx hb (((c + 1) : Nat) : Int) (by omega) dX10_reads_95 ?_
              refine z_put hx hb hts hin10_ tyX10 tyX10_ok nmX10 hown hK hP hD hS 0 rfl rfl 18 (by decide) (hts _ (List.mem_of_getElem? (i := 3) rfl)) rfl rfl rfl (Nat.le_of_ble_eq_true rfl) dX10_reads_96 [[mdl q a (uI (uI (uI (uI (uI (uI (uI x 0 v9) 1 ((b9 : Nat) : Int)) 4 (((tS f n e9) : Nat) : Int)) 5 (((nEn f n e9) : Nat) : Int)) 6 ((b9 : Nat) : Int)) 7 (((c + 1) : Nat) : Int)) 8 1)], [((a 6), .inl (g.2 0, 200, .inl (aI f)))], [((a 12), .inl (g.2 0, 24, .inl (aI wd)))], [((a 11), .inl (g.2 0, 4, .inl (aI m9)))], [((a 2), .inl (g.2 0, 6, .inl (aI h9)))], [((a 3), .inl (g.2 0, 18, .inl (aI o9)))], [((a 4), .inl (g.2 0, 6, .inl (aI l9)))]] rfl (fun H locs hP hD hS => ?_)
              refine lv_goto (tgt := 32) hx hb dX10_reads_99 (by decide) ?_
              exact ih32 (cOk f n (nEn f n e2) b1) e9 b9 (c + 1) m9 (effc f n (nEn f n e2) X) v9 h9 o9 l9 _ _ _ hC01 hle (by omega) hB8 hN8 hI8 hR9 (by omega) hP hD hS (lv_sub hl [1, 2, 0] rfl)
  exact loop32 _ (cOk f n 0 b) e8 b8 1 m8 (effc f n 0 X0) v8 h8 o8 l8 _ _ _ hC01 hle (by omega) hB8 hN8 hI8 hR9 (Nat.lt_succ_self _) hP hD hS (lv_sub hl [1, 2, 0] rfl)
