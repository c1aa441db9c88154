set_option maxHeartbeats 4000000 in
set_option maxRecDepth 100000 in
theorem c_X10_upTo (l : Launch) (g : zG) (q : Nat) (a : Nat → Nat) (x : Nat → Int) (h : Nat → Int) (o : Nat → Int) (i : Nat) (d : Nat) (hn5 : ∀ i : Nat, 1 ≤ i → i < 6 → 0 ≤ h i ∧ h i < i) (hi : i < 6) (hd : d < 3) : zMet l g yX10_upTo wsX10_upTo 0 0 0 [.ref q, vI ((i : Nat) : Int), vI ((d : Nat) : Int)] zX0 [[mdl q a x], [((a 2), .inl (g.2 0, 6, .inl (aI h)))], [((a 3), .inl (g.2 0, 18, .inl (aI o)))]] (qi g (fun (_ : Unit) => (zUp h o d i)) (fun (_ : Unit) => True) (fun (_ : Unit) => [[mdl q a x], [((a 2), .inl (g.2 0, 6, .inl (aI h)))], [((a 3), .inl (g.2 0, 18, .inl (aI o)))]])) := by
  refine z_ent (cc := cX10_upTo) (maxL := 5) (ret := (some .int)) (by decide) rfl (Nat.le_of_ble_eq_true rfl) ?_
  intro p e s m below meth c A ls hx hb hr hml hown hts hlocks hin0 hA hK hP hD hS hXX hl
  have hown : s.vm.findClass RX10 = some m.cls := hown
  have hin10_ : ∀ w ∈ wsX100, w ∈ wsX10_upTo := zw_in [3, 4, 5, 6, 7, 8, 9, 10, 11, 12, 13, 14, 15, 16, 17, 18, 19, 20, 21, 22, 23, 24, 25, 26, 27, 28] rfl
  have hl : lv_has ls 5 [(0, .ref q), (1, vI ((i : Nat) : Int)), (2, vI ((d : Nat) : Int))] := hl
  refine lv_aload_n hx hb dX10_upTo_0 rfl (lv_at hl 0 rfl) ?_
  refine z_get hx hb hts hin10_ hown hK hP 0 rfl rfl 5 (by decide) (hts _ (List.mem_of_getElem? (i := 1) rfl)) rfl dX10_upTo_1 ?_
  refine lv_iload_n hx hb dX10_upTo_4 rfl (lv_at hl 2 rfl) ?_
  refine z_iald hx hb hK hP 2 rfl d (by omega) (by omega) (by decide) dX10_upTo_5 ?_
  refine lv_istore_n (lv' := [(3, vI (o d)), (0, .ref q), (1, vI ((i : Nat) : Int)), (2, vI ((d : Nat) : Int))]) hx hb dX10_upTo_6 rfl hl (by decide) rfl (fun ls hl => ?_)
  refine lv_iload_n hx hb dX10_upTo_7 rfl (lv_at hl 2 rfl) ?_
  refine lv_istore (lv' := [(4, vI ((i : Nat) : Int)), (3, vI (o d)), (0, .ref q), (1, vI ((i : Nat) : Int)), (2, vI ((d : Nat) : Int))]) hx hb dX10_upTo_8 hl (by decide) rfl (fun ls hl => ?_)
  have loop10 : ∀ (N : Nat) (n : Nat) (w : Nat) (z : Int) (H : Heap) (locs : List Loc) (ls : Array Slot), w + n ≤ 5 → z + zS h o d (6 - n) w = zUp h o d i → (6 - n) < N → zP g [[mdl q a x], [((a 2), .inl (g.2 0, 6, .inl (aI h)))], [((a 3), .inl (g.2 0, 18, .inl (aI o)))]] H → zD A [[mdl q a x], [((a 2), .inl (g.2 0, 6, .inl (aI h)))], [((a 3), .inl (g.2 0, 18, .inl (aI o)))]] → va_S A s.heap H locs → lv_has ls 5 [(0, .ref q), (1, vI ((i : Nat) : Int)), (2, vI ((d : Nat) : Int)), (3, vI z), (4, vI ((w : Nat) : Int))] → W p l e (zRm 0 0 0) s m ([.ref q, vI ((i : Nat) : Int), vI ((d : Nat) : Int)] : List Value).toArray below meth c H locs (0) (0) (MQ below ((qi g (fun (_ : Unit) => (zUp h o d i)) (fun (_ : Unit) => True) (fun (_ : Unit) => [[mdl q a x], [((a 2), .inl (g.2 0, 6, .inl (aI h)))], [((a 3), .inl (g.2 0, 18, .inl (aI o)))]])) A) ([.ref q, vI ((i : Nat) : Int), vI ((d : Nat) : Int)] : List Value).toArray s 0 0 A) (F0 m 10 ls []) := by
    intro N
    induction N with
    | zero => intro n w z H locs ls hw hz hm; exact absurd hm (Nat.not_lt_zero _)
    | succ N ih10 =>
      intro n w z H locs ls hw hz hm hP hD hS hl
      refine lv_iload hx hb dX10_upTo_10 (lv_at hl 4 rfl) ?_
      refine z_if_le (tgt := 41) hx hb (by omega) dX10_upTo_12 (by decide) (fun cq1 => ?_) (fun cq1 => ?_)
      · refine lv_iload_n hx hb dX10_upTo_41 rfl (lv_at hl 3 rfl) ?_
        have hw0 : w = 0 := by omega
        subst hw0
        exact z_reti () [0, 1, 2] hx hb hr rfl hlocks hK hP hD hS (by rw [zS_0] at hz; omega) trivial rfl rfl (rfl) (Nat.le_of_ble_eq_true rfl) (Nat.le_of_ble_eq_true rfl) dX10_upTo_42
      · refine lv_iload_n hx hb dX10_upTo_15 rfl (lv_at hl 3 rfl) ?_
        refine lv_aload_n hx hb dX10_upTo_16 rfl (lv_at hl 0 rfl) ?_
        refine z_get hx hb hts hin10_ hown hK hP 0 rfl rfl 5 (by decide) (hts _ (List.mem_of_getElem? (i := 1) rfl)) rfl dX10_upTo_17 ?_
        refine z_iconst hx hb dX10_upTo_20 rfl ?_
        refine lv_iload hx hb dX10_upTo_21 (lv_at hl 4 rfl) ?_
        refine z_imul hx hb (((3 * w) : Nat) : Int) (by omega) dX10_upTo_23 ?_
        refine lv_iload_n hx hb dX10_upTo_24 rfl (lv_at hl 2 rfl) ?_
        refine z_iadd hx hb ((((3 * w) + d) : Nat) : Int) (by omega) dX10_upTo_25 ?_
        refine z_toI (((w * 3 + d) : Nat) : Int) (by omega) ?_
        refine z_iald hx hb hK hP 2 rfl (w * 3 + d) (by omega) (by omega) (by decide) dX10_upTo_26 ?_
        refine z_iadd hx hb (z + (o (w * 3 + d))) rfl dX10_upTo_27 ?_
        refine z_nmI (fun x_2 hx_2 => ?_)
        refine lv_istore_n (lv' := [(3, vI x_2), (0, .ref q), (1, vI ((i : Nat) : Int)), (2, vI ((d : Nat) : Int)), (4, vI ((w : Nat) : Int))]) hx hb dX10_upTo_28 rfl hl (by decide) rfl (fun ls hl => ?_)
        refine lv_aload_n hx hb dX10_upTo_29 rfl (lv_at hl 1 rfl) ?_
        refine z_get hx hb hts hin10_ hown hK hP 0 rfl rfl 4 (by decide) (hts _ (List.mem_of_getElem? (i := 2) rfl)) rfl dX10_upTo_30 ?_
        refine lv_iload hx hb dX10_upTo_33 (lv_at hl 4 rfl) ?_
        refine z_iald hx hb hK hP 1 rfl w (by omega) (by omega) (by decide) dX10_upTo_35 ?_
        have hh := hn5 w (by omega) (by omega)
        refine z_toI ((((h w).toNat) : Nat) : Int) (by omega) ?_
        refine lv_istore (lv' := [(4, vI ((((h w).toNat) : Nat) : Int)), (3, vI x_2), (0, .ref q), (1, vI ((i : Nat) : Int)), (2, vI ((d : Nat) : Int))]) hx hb dX10_upTo_36 hl (by decide) rfl (fun ls hl => ?_)
        refine lv_goto (tgt := 10) hx hb dX10_upTo_38 (by decide) ?_
        exact ih10 (n + 1) (h w).toNat x_2 _ _ _ (by omega) (by have e := zS_step (h := h) (o := o) (d := d) (n := 6 - n) (w := w) (by omega) (by omega); rw [show 6 - n - 1 = 6 - (n + 1) by omega] at e; omega) (by omega) hP hD hS (lv_sub hl [2, 3, 4, 1, 0] rfl)
  exact loop10 _ 0 i (o d) _ _ _ (by omega) (by unfold zUp; rfl) (Nat.lt_succ_self _) hP hD hS (lv_sub hl [2, 3, 4, 1, 0] rfl)

set_option maxHeartbeats 4000000 in
set_option maxRecDepth 100000 in
theorem c_X10_linesTo (l : Launch) (g : zG) (q : Nat) (a : Nat → Nat) (x : Nat → Int) (h : Nat → Int) (i : Nat) (hn5 : ∀ i : Nat, 1 ≤ i → i < 6 → 0 ≤ h i ∧ h i < i) (hi : i < 6) : zMet l g yX10_linesTo wsX10_linesTo 0 0 0 [.ref q, vI ((i : Nat) : Int)] zX0 [[mdl q a x], [((a 2), .inl (g.2 0, 6, .inl (aI h)))]] (qi g (fun (_ : Unit) => (((zL h 6 i) : Nat) : Int)) (fun (_ : Unit) => True) (fun (_ : Unit) => [[mdl q a x], [((a 2), .inl (g.2 0, 6, .inl (aI h)))]])) := by
  refine z_ent (cc := cX10_linesTo) (maxL := 4) (ret := (some .int)) (by decide) rfl (Nat.le_of_ble_eq_true rfl) ?_
  intro p e s m below meth c A ls hx hb hr hml hown hts hlocks hin0 hA hK hP hD hS hXX hl
  have hown : s.vm.findClass RX10 = some m.cls := hown
  have hin10_ : ∀ w ∈ wsX100, w ∈ wsX10_linesTo := zw_in [2, 3, 4, 5, 6, 7, 8, 9, 10, 11, 12, 13, 14, 15, 16, 17, 18, 19, 20, 21, 22, 23, 24, 25, 26, 27] rfl
  have hl : lv_has ls 4 [(0, .ref q), (1, vI ((i : Nat) : Int))] := hl
  refine z_iconst hx hb dX10_linesTo_0 rfl ?_
  refine lv_istore_n (lv' := [(2, vI 0), (0, .ref q), (1, vI ((i : Nat) : Int))]) hx hb dX10_linesTo_1 rfl hl (by decide) rfl (fun ls hl => ?_)
  refine lv_iload_n hx hb dX10_linesTo_2 rfl (lv_at hl 2 rfl) ?_
  refine lv_istore_n (lv' := [(3, vI ((i : Nat) : Int)), (2, vI 0), (0, .ref q), (1, vI ((i : Nat) : Int))]) hx hb dX10_linesTo_3 rfl hl (by decide) rfl (fun ls hl => ?_)
  have loop4 : ∀ (N : Nat) (n : Nat) (w : Nat) (H : Heap) (locs : List Loc) (ls : Array Slot), w + n ≤ 5 → n + zL h (6 - n) w = zL h 6 i → (6 - n) < N → zP g [[mdl q a x], [((a 2), .inl (g.2 0, 6, .inl (aI h)))]] H → zD A [[mdl q a x], [((a 2), .inl (g.2 0, 6, .inl (aI h)))]] → va_S A s.heap H locs → lv_has ls 4 [(0, .ref q), (1, vI ((i : Nat) : Int)), (2, vI ((n : Nat) : Int)), (3, vI ((w : Nat) : Int))] → W p l e (zRm 0 0 0) s m ([.ref q, vI ((i : Nat) : Int)] : List Value).toArray below meth c H locs (0) (0) (MQ below ((qi g (fun (_ : Unit) => (((zL h 6 i) : Nat) : Int)) (fun (_ : Unit) => True) (fun (_ : Unit) => [[mdl q a x], [((a 2), .inl (g.2 0, 6, .inl (aI h)))]])) A) ([.ref q, vI ((i : Nat) : Int)] : List Value).toArray s 0 0 A) (F0 m 4 ls []) := by
    intro N
    induction N with
    | zero => intro n w H locs ls hw hz hm; exact absurd hm (Nat.not_lt_zero _)
    | succ N ih4 =>
      intro n w H locs ls hw hz hm hP hD hS hl
      refine lv_iload_n hx hb dX10_linesTo_4 rfl (lv_at hl 3 rfl) ?_
      refine z_if_le (tgt := 21) hx hb (by omega) dX10_linesTo_5 (by decide) (fun cq1 => ?_) (fun cq1 => ?_)
      · refine lv_iload_n hx hb dX10_linesTo_21 rfl (lv_at hl 2 rfl) ?_
        have hw0 : w = 0 := by omega
        subst hw0
        exact z_reti () [0, 1] hx hb hr rfl hlocks hK hP hD hS (by rw [zL_0] at hz; omega) trivial rfl rfl (rfl) (Nat.le_of_ble_eq_true rfl) (Nat.le_of_ble_eq_true rfl) dX10_linesTo_22
      · refine z_iinc hx hb (((n + 1) : Nat) : Int) (lv' := [(2, vI (((n + 1) : Nat) : Int)), (0, .ref q), (1, vI ((i : Nat) : Int)), (3, vI ((w : Nat) : Int))]) dX10_linesTo_8 hl (k := 2) rfl (by omega) (by decide) rfl (fun ls hl => ?_)
        refine lv_aload_n hx hb dX10_linesTo_11 rfl (lv_at hl 1 rfl) ?_
        refine z_get hx hb hts hin10_ hown hK hP 0 rfl rfl 4 (by decide) (hts _ (List.mem_of_getElem? (i := 1) rfl)) rfl dX10_linesTo_12 ?_
        refine lv_iload_n hx hb dX10_linesTo_15 rfl (lv_at hl 3 rfl) ?_
        refine z_iald hx hb hK hP 1 rfl w (by omega) (by omega) (by decide) dX10_linesTo_16 ?_
        have hh := hn5 w (by omega) (by omega)
        refine z_toI ((((h w).toNat) : Nat) : Int) (by omega) ?_
        refine lv_istore_n (lv' := [(3, vI ((((h w).toNat) : Nat) : Int)), (2, vI (((n + 1) : Nat) : Int)), (0, .ref q), (1, vI ((i : Nat) : Int))]) hx hb dX10_linesTo_17 rfl hl (by decide) rfl (fun ls hl => ?_)
        refine lv_goto (tgt := 4) hx hb dX10_linesTo_18 (by decide) ?_
        exact ih4 (n + 1) (h w).toNat _ _ _ (by omega) (by have e := zL_step (h := h) (n := 6 - n) (w := w) (by omega) (by omega); rw [show 6 - n - 1 = 6 - (n + 1) by omega] at e; omega) (by omega) hP hD hS (lv_sub hl [2, 3, 1, 0] rfl)
  exact loop4 _ 0 i _ _ _ (by omega) (by simp) (Nat.lt_succ_self _) hP hD hS (lv_sub hl [2, 3, 1, 0] rfl)

set_option maxHeartbeats 4000000 in
set_option maxRecDepth 100000 in
theorem c_X10_common (l : Launch) (g : zG) (q : Nat) (a : Nat → Nat) (x : Nat → Int) (h : Nat → Int) (i : Nat) (j : Nat) (hn5 : ∀ i : Nat, 1 ≤ i → i < 6 → 0 ≤ h i ∧ h i < i) (hi : i < 6) (hj : j < 6) : zMet l g yX10_common wsX10_common 0 0 0 [.ref q, vI ((i : Nat) : Int), vI ((j : Nat) : Int)] zX0 [[mdl q a x], [((a 2), .inl (g.2 0, 6, .inl (aI h)))]] (qi g (fun (_ : Unit) => (((zM h 12 i j) : Nat) : Int)) (fun (_ : Unit) => True) (fun (_ : Unit) => [[mdl q a x], [((a 2), .inl (g.2 0, 6, .inl (aI h)))]])) := by
  refine z_ent (cc := cX10_common) (maxL := 6) (ret := (some .int)) (by decide) rfl (Nat.le_of_ble_eq_true rfl) ?_
  intro p e s m below meth c A ls hx hb hr hml hown hts hlocks hin0 hA hK hP hD hS hXX hl
  have hown : s.vm.findClass RX10 = some m.cls := hown
  have hin10_ : ∀ w ∈ wsX100, w ∈ wsX10_common := zw_in [2, 3, 4, 5, 6, 7, 8, 9, 10, 11, 12, 13, 14, 15, 16, 17, 18, 19, 20, 21, 22, 23, 24, 25, 26, 27] rfl
  have hl : lv_has ls 6 [(0, .ref q), (1, vI ((i : Nat) : Int)), (2, vI ((j : Nat) : Int))] := hl
  refine lv_iload_n hx hb dX10_common_0 rfl (lv_at hl 1 rfl) ?_
  refine lv_istore_n (lv' := [(3, vI ((i : Nat) : Int)), (0, .ref q), (1, vI ((i : Nat) : Int)), (2, vI ((j : Nat) : Int))]) hx hb dX10_common_1 rfl hl (by decide) rfl (fun ls hl => ?_)
  refine lv_iload_n hx hb dX10_common_2 rfl (lv_at hl 3 rfl) ?_
  refine lv_istore (lv' := [(4, vI ((j : Nat) : Int)), (3, vI ((i : Nat) : Int)), (0, .ref q), (1, vI ((i : Nat) : Int)), (2, vI ((j : Nat) : Int))]) hx hb dX10_common_3 hl (by decide) rfl (fun ls hl => ?_)
  have loop5 : ∀ (N : Nat) (n : Nat) (w : Nat) (w1 : Nat) (H : Heap) (locs : List Loc) (ls : Array Slot), w + w1 + n ≤ 10 → w < 6 ∧ w1 < 6 → zM h (12 - n) w w1 = zM h 12 i j → (12 - n) < N → zP g [[mdl q a x], [((a 2), .inl (g.2 0, 6, .inl (aI h)))]] H → zD A [[mdl q a x], [((a 2), .inl (g.2 0, 6, .inl (aI h)))]] → va_S A s.heap H locs → lv_has ls 6 [(0, .ref q), (1, vI ((i : Nat) : Int)), (2, vI ((j : Nat) : Int)), (3, vI ((w : Nat) : Int)), (4, vI ((w1 : Nat) : Int))] → W p l e (zRm 0 0 0) s m ([.ref q, vI ((i : Nat) : Int), vI ((j : Nat) : Int)] : List Value).toArray below meth c H locs (0) (0) (MQ below ((qi g (fun (_ : Unit) => (((zM h 12 i j) : Nat) : Int)) (fun (_ : Unit) => True) (fun (_ : Unit) => [[mdl q a x], [((a 2), .inl (g.2 0, 6, .inl (aI h)))]])) A) ([.ref q, vI ((i : Nat) : Int), vI ((j : Nat) : Int)] : List Value).toArray s 0 0 A) (F0 m 5 ls []) := by
    intro N
    induction N with
    | zero => intro n w w1 H locs ls hw hw2 hz hm; exact absurd hm (Nat.not_lt_zero _)
    | succ N ih5 =>
      intro n w w1 H locs ls hw hw2 hz hm hP hD hS hl
      refine lv_iload_n hx hb dX10_common_5 rfl (lv_at hl 3 rfl) ?_
      refine lv_iload hx hb dX10_common_6 (lv_at hl 4 rfl) ?_
      refine z_icmp_eq (tgt := 62) hx hb (by omega) (by omega) dX10_common_8 (by decide) (fun cq1 => ?_) (fun cq1 => ?_)
      · refine lv_iload_n hx hb dX10_common_62 rfl (lv_at hl 3 rfl) ?_
        have hw0 : w = w1 := by omega
        subst hw0
        exact z_reti () [0, 1] hx hb hr rfl hlocks hK hP hD hS (by rw [zM_e (by omega)] at hz; omega) trivial rfl rfl (rfl) (Nat.le_of_ble_eq_true rfl) (Nat.le_of_ble_eq_true rfl) dX10_common_63
      · refine lv_iload_n hx hb dX10_common_11 rfl (lv_at hl 3 rfl) ?_
        refine lv_iload hx hb dX10_common_12 (lv_at hl 4 rfl) ?_
        refine z_icmp_le (tgt := 21) hx hb (by omega) (by omega) dX10_common_14 (by decide) (fun cq2 => ?_) (fun cq2 => ?_)
        · refine z_iconst hx hb dX10_common_21 rfl ?_
          refine lv_istore (lv' := [(5, vI 0), (0, .ref q), (1, vI ((i : Nat) : Int)), (2, vI ((j : Nat) : Int)), (3, vI ((w : Nat) : Int)), (4, vI ((w1 : Nat) : Int))]) hx hb dX10_common_22 hl (by decide) rfl (fun ls hl => ?_)
          refine lv_iload hx hb dX10_common_24 (lv_at hl 0 rfl) ?_
          refine z_if_eq (tgt := 38) hx hb (by decide) dX10_common_26 (by decide) (fun cq3 => ?_) (fun cq3 => False.elim (by omega))
          refine lv_iload_n hx hb dX10_common_38 rfl (lv_at hl 4 rfl) ?_
          refine lv_istore_n (lv' := [(3, vI ((w : Nat) : Int)), (5, vI 0), (0, .ref q), (1, vI ((i : Nat) : Int)), (2, vI ((j : Nat) : Int)), (4, vI ((w1 : Nat) : Int))]) hx hb dX10_common_39 rfl hl (by decide) rfl (fun ls hl => ?_)
          refine lv_iload hx hb dX10_common_40 (lv_at hl 1 rfl) ?_
          refine z_if_eq (tgt := 50) hx hb (by decide) dX10_common_42 (by decide) (fun cq4 => ?_) (fun cq4 => False.elim (by omega))
          refine lv_aload_n hx hb dX10_common_50 rfl (lv_at hl 2 rfl) ?_
          refine z_get hx hb hts hin10_ hown hK hP 0 rfl rfl 4 (by decide) (hts _ (List.mem_of_getElem? (i := 1) rfl)) rfl dX10_common_51 ?_
          refine lv_iload hx hb dX10_common_54 (lv_at hl 5 rfl) ?_
          refine z_iald hx hb hK hP 1 rfl w1 (by omega) (by omega) (by decide) dX10_common_56 ?_
          have hh1 := hn5 w1 (by omega) (by omega)
          refine z_toI ((((h w1).toNat) : Nat) : Int) (by omega) ?_
          refine lv_istore (lv' := [(4, vI ((((h w1).toNat) : Nat) : Int)), (3, vI ((w : Nat) : Int)), (5, vI 0), (0, .ref q), (1, vI ((i : Nat) : Int)), (2, vI ((j : Nat) : Int))]) hx hb dX10_common_57 hl (by decide) rfl (fun ls hl => ?_)
          refine lv_goto (tgt := 5) hx hb dX10_common_59 (by decide) ?_
          exact ih5 (n + 1) w ((h w1).toNat) _ _ _ (by omega) (by omega) (by have e := zM_y (h := h) (n := 12 - n) (w := w) (w1 := w1) (by omega) (by omega); rw [show 12 - n - 1 = 12 - (n + 1) by omega] at e; rw [← e]; exact hz) (by omega) hP hD hS (lv_sub hl [3, 4, 5, 1, 0] rfl)
        · refine z_iconst hx hb dX10_common_17 rfl ?_
          refine lv_goto (tgt := 22) hx hb dX10_common_18 (by decide) ?_
          refine lv_istore (lv' := [(5, vI 1), (0, .ref q), (1, vI ((i : Nat) : Int)), (2, vI ((j : Nat) : Int)), (3, vI ((w : Nat) : Int)), (4, vI ((w1 : Nat) : Int))]) hx hb dX10_common_22 hl (by decide) rfl (fun ls hl => ?_)
          refine lv_iload hx hb dX10_common_24 (lv_at hl 0 rfl) ?_
          refine z_if_eq (tgt := 38) hx hb (by decide) dX10_common_26 (by decide) (fun cq5 => False.elim (by omega)) (fun cq5 => ?_)
          refine lv_aload_n hx hb dX10_common_29 rfl (lv_at hl 1 rfl) ?_
          refine z_get hx hb hts hin10_ hown hK hP 0 rfl rfl 4 (by decide) (hts _ (List.mem_of_getElem? (i := 1) rfl)) rfl dX10_common_30 ?_
          refine lv_iload_n hx hb dX10_common_33 rfl (lv_at hl 4 rfl) ?_
          refine z_iald hx hb hK hP 1 rfl w (by omega) (by omega) (by decide) dX10_common_34 ?_
          have hh := hn5 w (by omega) (by omega)
          refine z_toI ((((h w).toNat) : Nat) : Int) (by omega) ?_
          refine lv_goto (tgt := 39) hx hb dX10_common_35 (by decide) ?_
          refine lv_istore_n (lv' := [(3, vI ((((h w).toNat) : Nat) : Int)), (5, vI 1), (0, .ref q), (1, vI ((i : Nat) : Int)), (2, vI ((j : Nat) : Int)), (4, vI ((w1 : Nat) : Int))]) hx hb dX10_common_39 rfl hl (by decide) rfl (fun ls hl => ?_)
          refine lv_iload hx hb dX10_common_40 (lv_at hl 1 rfl) ?_
          refine z_if_eq (tgt := 50) hx hb (by decide) dX10_common_42 (by decide) (fun cq6 => False.elim (by omega)) (fun cq6 => ?_)
          refine lv_iload hx hb dX10_common_45 (lv_at hl 5 rfl) ?_
          refine lv_goto (tgt := 57) hx hb dX10_common_47 (by decide) ?_
          refine lv_istore (lv' := [(4, vI ((w1 : Nat) : Int)), (3, vI ((((h w).toNat) : Nat) : Int)), (5, vI 1), (0, .ref q), (1, vI ((i : Nat) : Int)), (2, vI ((j : Nat) : Int))]) hx hb dX10_common_57 hl (by decide) rfl (fun ls hl => ?_)
          refine lv_goto (tgt := 5) hx hb dX10_common_59 (by decide) ?_
          exact ih5 (n + 1) ((h w).toNat) w1 _ _ _ (by omega) (by omega) (by have e := zM_x (h := h) (n := 12 - n) (w := w) (w1 := w1) (by omega) (by omega); rw [show 12 - n - 1 = 12 - (n + 1) by omega] at e; rw [← e]; exact hz) (by omega) hP hD hS (lv_sub hl [3, 4, 5, 1, 0] rfl)
  exact loop5 _ 0 i j _ _ _ (by omega) (by omega) rfl (Nat.lt_succ_self _) hP hD hS (lv_sub hl [2, 3, 4, 1, 0] rfl)
