set_option maxHeartbeats 4000000 in
set_option maxRecDepth 100000 in
theorem c_X1_divisorOf (l : Launch) (g : zG) (x0 : Int) (y0 : Int) (hx0 : -9223372036854775808 < x0 ∧ x0 < 9223372036854775808) (hy0 : -9223372036854775808 < y0 ∧ y0 < 9223372036854775808) : zMet l g yX1_divisorOf wsX1_divisorOf 0 0 0 [vL x0, vL y0] zX0 [] (ql g (fun (_ : Unit) => (gd x0 y0)) (fun (_ : Unit) => True) (fun (_ : Unit) => [])) := by
  refine z_ent (cc := cX1_divisorOf) (maxL := 11) (ret := (some .long)) (by decide) rfl (Nat.le_of_ble_eq_true rfl) ?_
  intro p e s m below meth c A ls hx hb hr hml hown hts hlocks hin0 hA hK hP hD hS hXX hl
  have hown : s.vm.findClass RX1 = some m.cls := hown
  have hl : lv_has ls 11 [(0, vL x0), (2, vL y0)] := hl
  have j12 : W p l e (zRm 0 0 0) s m ([vL x0, vL y0] : List Value).toArray below meth c s.heap [] (0) (0) (MQ below ((ql g (fun (_ : Unit) => (gd x0 y0)) (fun (_ : Unit) => True) (fun (_ : Unit) => [])) A) ([vL x0, vL y0] : List Value).toArray s 0 0 A) (F0 m 12 ls [vL ((x0.natAbs : Nat) : Int)]) := by
    refine lv_lstore (lv' := [(4, vL ((x0.natAbs : Nat) : Int)), (0, vL x0), (2, vL y0)]) hx hb dX1_divisorOf_12 hl (by decide) rfl (fun ls hl => ?_)
    have j26 : W p l e (zRm 0 0 0) s m ([vL x0, vL y0] : List Value).toArray below meth c s.heap [] (0) (0) (MQ below ((ql g (fun (_ : Unit) => (gd x0 y0)) (fun (_ : Unit) => True) (fun (_ : Unit) => [])) A) ([vL x0, vL y0] : List Value).toArray s 0 0 A) (F0 m 26 ls [vL ((y0.natAbs : Nat) : Int)]) := by
      refine lv_lstore (lv' := [(6, vL ((y0.natAbs : Nat) : Int)), (4, vL ((x0.natAbs : Nat) : Int)), (0, vL x0), (2, vL y0)]) hx hb dX1_divisorOf_26 hl (by decide) rfl (fun ls hl => ?_)
      refine z_iconst hx hb dX1_divisorOf_28 rfl ?_
      refine lv_istore (lv' := [(8, vI 0), (6, vL ((y0.natAbs : Nat) : Int)), (4, vL ((x0.natAbs : Nat) : Int)), (0, vL x0), (2, vL y0)]) hx hb dX1_divisorOf_29 hl (by decide) rfl (fun ls hl => ?_)
      have loop31 : ∀ (N : Nat) (a : Nat) (b : Nat) (i : Nat) (H : Heap) (locs : List Loc) (ls : Array Slot), Nat.gcd a b = x0.gcd y0 → a < 9223372036854775808 → b < 9223372036854775808 → i ≤ 100 → eul (100 - i) a b → (100 - i) < N → zP g [] H → zD A [] → va_S A s.heap H locs → lv_has ls 11 [(0, vL x0), (2, vL y0), (4, vL ((a : Nat) : Int)), (6, vL ((b : Nat) : Int)), (8, vI ((i : Nat) : Int))] → W p l e (zRm 0 0 0) s m ([vL x0, vL y0] : List Value).toArray below meth c H locs (0) (0) (MQ below ((ql g (fun (_ : Unit) => (gd x0 y0)) (fun (_ : Unit) => True) (fun (_ : Unit) => [])) A) ([vL x0, vL y0] : List Value).toArray s 0 0 A) (F0 m 31 ls []) := by
        intro N
        induction N with
        | zero => intro a b i H locs ls hab ha hb1 hi he hm; exact absurd hm (Nat.not_lt_zero _)
        | succ N ih =>
          intro a b i H locs ls hab ha hb1 hi he hm hP hD hS hl
          refine lv_iload hx hb dX1_divisorOf_31 (lv_at hl 4 rfl) ?_
          refine z_bipush hx hb 100 dX1_divisorOf_33 rfl ?_
          refine z_icmp_ge (tgt := 66) hx hb (by omega) (by decide) dX1_divisorOf_35 (by decide) (fun c1 => ?_) (fun c1 => ?_)
          · refine lv_lload hx hb dX1_divisorOf_66 (lv_at hl 2 rfl) ?_
            refine z_lconst hx hb 1 dX1_divisorOf_68 rfl ?_
            refine z_lcmp_ge (tgt := 77) hx hb (by omega) (by decide) dX1_divisorOf_69 dX1_divisorOf_70 (by decide) (fun c2 => ?_) (fun c2 => ?_)
            · refine lv_lload hx hb dX1_divisorOf_77 (lv_at hl 2 rfl) ?_
              have hb0 : b = 0 := by
                first
                | omega
                | (have h100 : i = 100 := by omega
                   subst h100; exact he)
              subst hb0
              rw [Nat.gcd_zero_right] at hab
              exact z_retl () [] hx hb hr hlocks hK hP hD hS (by unfold gd; rw [← hab]; split <;> omega) trivial rfl rfl (rfl) (Nat.le_of_ble_eq_true rfl) (Nat.le_of_ble_eq_true rfl) dX1_divisorOf_79
            · refine z_lconst hx hb 1 dX1_divisorOf_73 rfl ?_
              refine lv_goto (tgt := 79) hx hb dX1_divisorOf_74 (by decide) ?_
              have hb0 : b = 0 := by
                first
                | omega
                | (have h100 : i = 100 := by omega
                   subst h100; exact he)
              subst hb0
              rw [Nat.gcd_zero_right] at hab
              exact z_retl () [] hx hb hr hlocks hK hP hD hS (by unfold gd; rw [← hab]; split <;> omega) trivial rfl rfl (rfl) (Nat.le_of_ble_eq_true rfl) (Nat.le_of_ble_eq_true rfl) dX1_divisorOf_79
          · refine lv_lload hx hb dX1_divisorOf_38 (lv_at hl 3 rfl) ?_
            refine z_lconst hx hb 0 dX1_divisorOf_40 rfl ?_
            refine z_lcmp_eq (tgt := 66) hx hb (by omega) (by decide) dX1_divisorOf_41 dX1_divisorOf_42 (by decide) (fun c3 => ?_) (fun c3 => ?_)
            · refine lv_lload hx hb dX1_divisorOf_66 (lv_at hl 2 rfl) ?_
              refine z_lconst hx hb 1 dX1_divisorOf_68 rfl ?_
              refine z_lcmp_ge (tgt := 77) hx hb (by omega) (by decide) dX1_divisorOf_69 dX1_divisorOf_70 (by decide) (fun c4 => ?_) (fun c4 => ?_)
              · refine lv_lload hx hb dX1_divisorOf_77 (lv_at hl 2 rfl) ?_
                have hb0 : b = 0 := by
                  first
                  | omega
                  | (have h100 : i = 100 := by omega
                     subst h100; exact he)
                subst hb0
                rw [Nat.gcd_zero_right] at hab
                exact z_retl () [] hx hb hr hlocks hK hP hD hS (by unfold gd; rw [← hab]; split <;> omega) trivial rfl rfl (rfl) (Nat.le_of_ble_eq_true rfl) (Nat.le_of_ble_eq_true rfl) dX1_divisorOf_79
              · refine z_lconst hx hb 1 dX1_divisorOf_73 rfl ?_
                refine lv_goto (tgt := 79) hx hb dX1_divisorOf_74 (by decide) ?_
                have hb0 : b = 0 := by
                  first
                  | omega
                  | (have h100 : i = 100 := by omega
                     subst h100; exact he)
                subst hb0
                rw [Nat.gcd_zero_right] at hab
                exact z_retl () [] hx hb hr hlocks hK hP hD hS (by unfold gd; rw [← hab]; split <;> omega) trivial rfl rfl (rfl) (Nat.le_of_ble_eq_true rfl) (Nat.le_of_ble_eq_true rfl) dX1_divisorOf_79
            · refine lv_lload hx hb dX1_divisorOf_45 (lv_at hl 2 rfl) ?_
              refine lv_lload hx hb dX1_divisorOf_47 (lv_at hl 3 rfl) ?_
              refine z_lrem hx hb ((((a : Nat) : Int)).tmod ((b : Nat) : Int)) (by omega) (by omega) rfl dX1_divisorOf_49 ?_
              refine z_toL (((a % b) : Nat) : Int) (by rw [← Int.ofNat_tmod]) ?_
              refine lv_lstore (lv' := [(9, vL (((a % b) : Nat) : Int)), (0, vL x0), (2, vL y0), (4, vL ((a : Nat) : Int)), (6, vL ((b : Nat) : Int)), (8, vI ((i : Nat) : Int))]) hx hb dX1_divisorOf_50 hl (by decide) rfl (fun ls hl => ?_)
              refine lv_lload hx hb dX1_divisorOf_52 (lv_at hl 4 rfl) ?_
              refine lv_lstore (lv' := [(4, vL ((b : Nat) : Int)), (9, vL (((a % b) : Nat) : Int)), (0, vL x0), (2, vL y0), (6, vL ((b : Nat) : Int)), (8, vI ((i : Nat) : Int))]) hx hb dX1_divisorOf_54 hl (by decide) rfl (fun ls hl => ?_)
              refine lv_lload hx hb dX1_divisorOf_56 (lv_at hl 1 rfl) ?_
              refine lv_lstore (lv' := [(6, vL (((a % b) : Nat) : Int)), (4, vL ((b : Nat) : Int)), (9, vL (((a % b) : Nat) : Int)), (0, vL x0), (2, vL y0), (8, vI ((i : Nat) : Int))]) hx hb dX1_divisorOf_58 hl (by decide) rfl (fun ls hl => ?_)
              refine z_iinc hx hb (((i + 1) : Nat) : Int) (lv' := [(8, vI (((i + 1) : Nat) : Int)), (6, vL (((a % b) : Nat) : Int)), (4, vL ((b : Nat) : Int)), (9, vL (((a % b) : Nat) : Int)), (0, vL x0), (2, vL y0)]) dX1_divisorOf_60 hl (k := 5) rfl (by omega) (by decide) rfl (fun ls hl => ?_)
              refine lv_goto (tgt := 31) hx hb dX1_divisorOf_63 (by decide) ?_
              exact ih b (a % b) (i + 1) _ _ _ (by rw [← hab, Nat.gcd_comm a b, Nat.gcd_rec b a, Nat.gcd_comm]) (by omega) (by have := Nat.mod_lt a (show 0 < b by omega); omega) (by omega) (by obtain ⟨k, hk⟩ : ∃ k, 100 - i = k + 1 := ⟨99 - i, by omega⟩; rw [hk] at he; have := he.resolve_left (by omega); rw [show 100 - (i + 1) = k by omega]; exact this) (by omega) hP hD hS (lv_sub hl [4, 5, 2, 1, 0] rfl)
      exact loop31 _ x0.natAbs y0.natAbs 0 _ _ _ rfl (by omega) (by omega) (by omega) (eul_100 (by omega)) (Nat.lt_succ_self _) hP hD hS (lv_sub hl [3, 4, 2, 1, 0] rfl)
    refine lv_lload_n hx hb dX1_divisorOf_14 rfl (lv_at hl 2 rfl) ?_
    refine z_lconst hx hb 0 dX1_divisorOf_15 rfl ?_
    refine z_lcmp_ge (tgt := 25) hx hb (by omega) (by decide) dX1_divisorOf_16 dX1_divisorOf_17 (by decide) (fun c5 => ?_) (fun c5 => ?_)
    · refine lv_lload_n hx hb dX1_divisorOf_25 rfl (lv_at hl 2 rfl) ?_
      refine z_toL ((y0.natAbs : Nat) : Int) (by omega) ?_
      exact j26
    · refine lv_lload_n hx hb dX1_divisorOf_20 rfl (lv_at hl 2 rfl) ?_
      refine z_lneg hx hb (-y0) rfl dX1_divisorOf_21 ?_
      refine lv_goto (tgt := 26) hx hb dX1_divisorOf_22 (by decide) ?_
      refine z_toL ((y0.natAbs : Nat) : Int) (by omega) ?_
      exact j26
  refine lv_lload_n hx hb dX1_divisorOf_0 rfl (lv_at hl 0 rfl) ?_
  refine z_lconst hx hb 0 dX1_divisorOf_1 rfl ?_
  refine z_lcmp_ge (tgt := 11) hx hb (by omega) (by decide) dX1_divisorOf_2 dX1_divisorOf_3 (by decide) (fun c6 => ?_) (fun c6 => ?_)
  · refine lv_lload_n hx hb dX1_divisorOf_11 rfl (lv_at hl 0 rfl) ?_
    refine z_toL ((x0.natAbs : Nat) : Int) (by omega) ?_
    exact j12
  · refine lv_lload_n hx hb dX1_divisorOf_6 rfl (lv_at hl 0 rfl) ?_
    refine z_lneg hx hb (-x0) rfl dX1_divisorOf_7 ?_
    refine lv_goto (tgt := 12) hx hb dX1_divisorOf_8 (by decide) ?_
    refine z_toL ((x0.natAbs : Nat) : Int) (by omega) ?_
    exact j12

set_option maxHeartbeats 4000000 in
set_option maxRecDepth 100000 in
theorem c_X1_spoil (l : Launch) (g : zG) (q : Nat) (a : Int) (b : Int) (z : Int)  : zMet l g yX1_spoil wsX1_spoil 0 0 0 [.ref q] zX0 [[(q, .inr (1, [vL a, vL b, vI z]))]] (qv g (fun (_ : Unit) => True) (fun (_ : Unit) => [[fr q none]])) := by
  refine z_ent (cc := cX1_spoil) (maxL := 1) (ret := none) (by decide) rfl (Nat.le_of_ble_eq_true rfl) ?_
  intro p e s m below meth c A ls hx hb hr hml hown hts hlocks hin0 hA hK hP hD hS hXX hl
  have hown : s.vm.findClass RX1 = some m.cls := hown
  have hin1_ : ∀ w ∈ wsX10, w ∈ wsX1_spoil := zw_in [4, 5, 6] rfl
  have hl : lv_has ls 1 [(0, .ref q)] := hl
  refine lv_aload_n hx hb dX1_spoil_0 rfl (lv_at hl 0 rfl) ?_
  refine z_lconst hx hb 0 dX1_spoil_1 rfl ?_
  refine z_put hx hb hts hin1_ tyX1 tyX1_ok nmX1 hown hK hP hD hS 0 rfl rfl 0 (by decide) (hts _ (List.mem_of_getElem? (i := 1) rfl)) rfl rfl rfl (Nat.le_of_ble_eq_true rfl) dX1_spoil_2 [[(q, .inr (1, [vL 0, vL b, vI z]))]] rfl (fun H locs hP hD hS => ?_)
  refine lv_aload_n hx hb dX1_spoil_5 rfl (lv_at hl 0 rfl) ?_
  refine z_lconst hx hb 1 dX1_spoil_6 rfl ?_
  refine z_put hx hb hts hin1_ tyX1 tyX1_ok nmX1 hown hK hP hD hS 0 rfl rfl 1 (by decide) (hts _ (List.mem_of_getElem? (i := 2) rfl)) rfl rfl rfl (Nat.le_of_ble_eq_true rfl) dX1_spoil_7 [[(q, .inr (1, [vL 0, vL 1, vI z]))]] rfl (fun H locs hP hD hS => ?_)
  refine lv_aload_n hx hb dX1_spoil_10 rfl (lv_at hl 0 rfl) ?_
  refine z_iconst hx hb dX1_spoil_11 rfl ?_
  refine z_put hx hb hts hin1_ tyX1 tyX1_ok nmX1 hown hK hP hD hS 0 rfl rfl 2 (by decide) (hts _ (List.mem_of_getElem? (i := 3) rfl)) rfl (nar_z (by decide)) (fit_z (by decide)) (Nat.le_of_ble_eq_true rfl) dX1_spoil_12 [[(q, .inr (1, [vL 0, vL 1, vI 1]))]] rfl (fun H locs hP hD hS => ?_)
  exact z_retv () [0] hx hb hr hlocks hK hP hD hS trivial rfl rfl (rfl) (Nat.le_of_ble_eq_true rfl) (Nat.le_of_ble_eq_true rfl) dX1_spoil_15

set_option maxHeartbeats 4000000 in
set_option maxRecDepth 100000 in
theorem c_X1_spoilF (l : Launch) (g : zG) (q : Nat) (v : FO)  : zMet l g yX1_spoil wsX1_spoil 0 0 0 [.ref q] zX0 [[fr q v]] (qv g (fun (_ : Unit) => True) (fun (_ : Unit) => [[fr q none]])) := by
  refine z_ent (cc := cX1_spoil) (maxL := 1) (ret := none) (by decide) rfl (Nat.le_of_ble_eq_true rfl) ?_
  intro p e s m below meth c A ls hx hb hr hml hown hts hlocks hin0 hA hK hP hD hS hXX hl
  have hown : s.vm.findClass RX1 = some m.cls := hown
  have hin1_ : ∀ w ∈ wsX10, w ∈ wsX1_spoil := zw_in [4, 5, 6] rfl
  have hl : lv_has ls 1 [(0, .ref q)] := hl
  refine lv_aload_n hx hb dX1_spoil_0 rfl (lv_at hl 0 rfl) ?_
  refine z_lconst hx hb 0 dX1_spoil_1 rfl ?_
  refine z_put hx hb hts hin1_ tyX1 tyX1_ok nmX1 hown hK hP hD hS 0 rfl rfl 0 (by decide) (hts _ (List.mem_of_getElem? (i := 1) rfl)) rfl rfl rfl (Nat.le_of_ble_eq_true rfl) dX1_spoil_2 [[(q, .inr (1, [vL 0, vL (fB v), vI (fZ v)]))]] rfl (fun H locs hP hD hS => ?_)
  refine lv_aload_n hx hb dX1_spoil_5 rfl (lv_at hl 0 rfl) ?_
  refine z_lconst hx hb 1 dX1_spoil_6 rfl ?_
  refine z_put hx hb hts hin1_ tyX1 tyX1_ok nmX1 hown hK hP hD hS 0 rfl rfl 1 (by decide) (hts _ (List.mem_of_getElem? (i := 2) rfl)) rfl rfl rfl (Nat.le_of_ble_eq_true rfl) dX1_spoil_7 [[(q, .inr (1, [vL 0, vL 1, vI (fZ v)]))]] rfl (fun H locs hP hD hS => ?_)
  refine lv_aload_n hx hb dX1_spoil_10 rfl (lv_at hl 0 rfl) ?_
  refine z_iconst hx hb dX1_spoil_11 rfl ?_
  refine z_put hx hb hts hin1_ tyX1 tyX1_ok nmX1 hown hK hP hD hS 0 rfl rfl 2 (by decide) (hts _ (List.mem_of_getElem? (i := 3) rfl)) rfl (nar_z (by decide)) (fit_z (by decide)) (Nat.le_of_ble_eq_true rfl) dX1_spoil_12 [[(q, .inr (1, [vL 0, vL 1, vI 1]))]] rfl (fun H locs hP hD hS => ?_)
  exact z_retv () [0] hx hb hr hlocks hK hP hD hS trivial rfl rfl (rfl) (Nat.le_of_ble_eq_true rfl) (Nat.le_of_ble_eq_true rfl) dX1_spoil_15

set_option maxHeartbeats 4000000 in
set_option maxRecDepth 100000 in
theorem c_X1_become (l : Launch) (g : zG) (q : Nat) (v : FO) (r : Nat) (w : FO) (hw : fok w) : zMet l g yX1_become wsX1_become 0 0 0 [.ref q, .ref r] zX0 [[fr q v], [fr r w]] (qv g (fun (_ : Unit) => True) (fun (_ : Unit) => [[fr q w], [fr r w]])) := by
  refine z_ent (cc := cX1_become) (maxL := 2) (ret := none) (by decide) rfl (Nat.le_of_ble_eq_true rfl) ?_
  intro p e s m below meth c A ls hx hb hr hml hown hts hlocks hin0 hA hK hP hD hS hXX hl
  have hown : s.vm.findClass RX1 = some m.cls := hown
  have hin1_ : ∀ w ∈ wsX10, w ∈ wsX1_become := zw_in [4, 5, 6] rfl
  have hl : lv_has ls 2 [(0, .ref q), (1, .ref r)] := hl
  refine lv_aload_n hx hb dX1_become_0 rfl (lv_at hl 0 rfl) ?_
  refine lv_aload_n hx hb dX1_become_1 rfl (lv_at hl 1 rfl) ?_
  refine z_get hx hb hts hin1_ hown hK hP 1 rfl rfl 0 (by decide) (hts _ (List.mem_of_getElem? (i := 1) rfl)) rfl dX1_become_2 ?_
  refine z_put hx hb hts hin1_ tyX1 tyX1_ok nmX1 hown hK hP hD hS 0 rfl rfl 0 (by decide) (hts _ (List.mem_of_getElem? (i := 1) rfl)) rfl rfl rfl (Nat.le_of_ble_eq_true rfl) dX1_become_5 [[(q, .inr (1, [vL (fA w), vL (fB v), vI (fZ v)]))], [fr r w]] rfl (fun H locs hP hD hS => ?_)
  refine lv_aload_n hx hb dX1_become_8 rfl (lv_at hl 0 rfl) ?_
  refine lv_aload_n hx hb dX1_become_9 rfl (lv_at hl 1 rfl) ?_
  refine z_get hx hb hts hin1_ hown hK hP 1 rfl rfl 1 (by decide) (hts _ (List.mem_of_getElem? (i := 2) rfl)) rfl dX1_become_10 ?_
  refine z_put hx hb hts hin1_ tyX1 tyX1_ok nmX1 hown hK hP hD hS 0 rfl rfl 1 (by decide) (hts _ (List.mem_of_getElem? (i := 2) rfl)) rfl rfl rfl (Nat.le_of_ble_eq_true rfl) dX1_become_13 [[(q, .inr (1, [vL (fA w), vL (fB w), vI (fZ v)]))], [fr r w]] rfl (fun H locs hP hD hS => ?_)
  refine lv_aload_n hx hb dX1_become_16 rfl (lv_at hl 0 rfl) ?_
  refine lv_aload_n hx hb dX1_become_17 rfl (lv_at hl 1 rfl) ?_
  refine z_get hx hb hts hin1_ hown hK hP 1 rfl rfl 2 (by decide) (hts _ (List.mem_of_getElem? (i := 3) rfl)) rfl dX1_become_18 ?_
  refine z_put hx hb hts hin1_ tyX1 tyX1_ok nmX1 hown hK hP hD hS 0 rfl rfl 2 (by decide) (hts _ (List.mem_of_getElem? (i := 3) rfl)) rfl (nar_z hw.2.2.2.2.2.1) (fit_z hw.2.2.2.2.2.1) (Nat.le_of_ble_eq_true rfl) dX1_become_21 [[(q, .inr (1, [vL (fA w), vL (fB w), vI (fZ w)]))], [fr r w]] rfl (fun H locs hP hD hS => ?_)
  exact z_retv () [0, 1] hx hb hr hlocks hK hP hD hS trivial rfl rfl (rfl) (Nat.le_of_ble_eq_true rfl) (Nat.le_of_ble_eq_true rfl) dX1_become_24

set_option maxHeartbeats 4000000 in
set_option maxRecDepth 100000 in
theorem c_X1_become_ (l : Launch) (g : zG) (q : Nat) (v : FO) (n : Int) (d : Int) (hn : -9223372036854775808 < n ∧ n < 9223372036854775808) (hd : 1 ≤ d ∧ d < 9223372036854775808) : zMet l g yX1_become_ wsX1_become_ 1 0 0 [.ref q, vL n, vL d] zX0 [[fr q v]] (qv g (fun (_ : Unit) => True) (fun (_ : Unit) => [[fr q (fmk n d)]])) := by
  have hg := gd_pos n d
  have hg2 := gd_le (x := n) hd.1
  have hg3 := div_bd hg (gd_dvd_l (x := n) (y := d) (by omega))
  have hg4 := div_bd1 hg hd.1 (gd_dvd_r (x := n) (y := d) (by omega))
  refine z_ent (cc := cX1_become_) (maxL := 7) (ret := none) (by decide) rfl (Nat.le_of_ble_eq_true rfl) ?_
  intro p e s m below meth c A ls hx hb hr hml hown hts hlocks hin0 hA hK hP hD hS hXX hl
  have hown : s.vm.findClass RX1 = some m.cls := hown
  have hin1_ : ∀ w ∈ wsX10, w ∈ wsX1_become_ := zw_in [14, 15, 16] rfl
  have hl : lv_has ls 7 [(0, .ref q), (1, vL n), (3, vL d)] := hl
  refine lv_lload_n hx hb dX1_become__0 rfl (lv_at hl 1 rfl) ?_
  refine lv_lload_n hx hb dX1_become__1 rfl (lv_at hl 2 rfl) ?_
  refine z_cSl (As := [vL n, vL d]) (rest := []) ⟨hx, hb, hml, hown, hts⟩ hK hP hD hS hA [] [0] rfl rfl rfl (c_X1_divisorOf l g n d (by first | assumption | omega | decide) (by first | assumption | omega | decide)) (va_cwS 2 hts gX1_become__X1_divisorOf rfl rfl rfl (by decide +kernel) ⟨Nat.le_of_ble_eq_true rfl, Nat.le_of_ble_eq_true rfl⟩) (fun _ _ _ _ _ _ => trivial) (fun _ _ _ => trivial) rfl hl.1 (Nat.le_of_ble_eq_true rfl) rfl dX1_become__2 ⟨Nat.le_of_ble_eq_true rfl, Nat.le_of_ble_eq_true rfl⟩ (fun u_1 H locs hwu_1 hP hD hS => ?_)
  try dsimp only at hwu_1
  have hP : zP g [[fr q v]] H := hP
  have hD : zD A [[fr q v]] := hD
  refine z_toL (gd n d) rfl ?_
  refine lv_lstore (lv' := [(5, vL (gd n d)), (0, .ref q), (1, vL n), (3, vL d)]) hx hb dX1_become__5 hl (by decide) rfl (fun ls hl => ?_)
  refine lv_lload_n hx hb dX1_become__7 rfl (lv_at hl 3 rfl) ?_
  refine z_lconst hx hb 1 dX1_become__8 rfl ?_
  refine z_lcmp_lt (tgt := 20) hx hb (by omega) (by decide) dX1_become__9 dX1_become__10 (by decide) (fun c2 => absurd c2 (by omega)) (fun c2 => ?_)
  refine lv_lload hx hb dX1_become__13 (lv_at hl 0 rfl) ?_
  refine z_lconst hx hb 1 dX1_become__15 rfl ?_
  refine z_lcmp_ge (tgt := 25) hx hb (by omega) (by decide) dX1_become__16 dX1_become__17 (by decide) (fun c3 => ?_) (fun c3 => absurd (by omega) c3)
  refine lv_aload_n hx hb dX1_become__25 rfl (lv_at hl 1 rfl) ?_
  refine lv_lload_n hx hb dX1_become__26 rfl (lv_at hl 2 rfl) ?_
  refine lv_lload hx hb dX1_become__27 (lv_at hl 0 rfl) ?_
  refine z_ldiv hx hb ((n).tdiv (gd n d)) (by omega) (by omega) rfl dX1_become__29 ?_
  refine z_toL (n / gd n d) (gd_tdl (by omega)) ?_
  refine z_put hx hb hts hin1_ tyX1 tyX1_ok nmX1 hown hK hP hD hS 0 rfl rfl 0 (by decide) (hts _ (List.mem_of_getElem? (i := 1) rfl)) rfl rfl rfl (Nat.le_of_ble_eq_true rfl) dX1_become__30 [[(q, .inr (1, [vL (n / gd n d), vL (fB v), vI (fZ v)]))]] rfl (fun H locs hP hD hS => ?_)
  refine lv_aload_n hx hb dX1_become__33 rfl (lv_at hl 1 rfl) ?_
  refine lv_lload_n hx hb dX1_become__34 rfl (lv_at hl 3 rfl) ?_
  refine lv_lload hx hb dX1_become__35 (lv_at hl 0 rfl) ?_
  refine z_ldiv hx hb ((d).tdiv (gd n d)) (by omega) (by omega) rfl dX1_become__37 ?_
  refine z_toL (d / gd n d) (gd_tdr (by omega)) ?_
  refine z_put hx hb hts hin1_ tyX1 tyX1_ok nmX1 hown hK hP hD hS 0 rfl rfl 1 (by decide) (hts _ (List.mem_of_getElem? (i := 2) rfl)) rfl rfl rfl (Nat.le_of_ble_eq_true rfl) dX1_become__38 [[(q, .inr (1, [vL (n / gd n d), vL (d / gd n d), vI (fZ v)]))]] rfl (fun H locs hP hD hS => ?_)
  refine lv_aload_n hx hb dX1_become__41 rfl (lv_at hl 1 rfl) ?_
  refine z_iconst hx hb dX1_become__42 rfl ?_
  refine z_put hx hb hts hin1_ tyX1 tyX1_ok nmX1 hown hK hP hD hS 0 rfl rfl 2 (by decide) (hts _ (List.mem_of_getElem? (i := 3) rfl)) rfl (nar_z (by decide)) (fit_z (by decide)) (Nat.le_of_ble_eq_true rfl) dX1_become__43 [[(q, .inr (1, [vL (n / gd n d), vL (d / gd n d), vI 0]))]] rfl (fun H locs hP hD hS => ?_)
  refine lv_aload_n hx hb dX1_become__46 rfl (lv_at hl 1 rfl) ?_
  refine z_get hx hb hts hin1_ hown hK hP 0 rfl rfl 0 (by decide) (hts _ (List.mem_of_getElem? (i := 1) rfl)) rfl dX1_become__47 ?_
  refine z_ldc2 hx hb 1000000000 hown (hts _ (List.mem_of_getElem? (i := 4) rfl)) rfl dX1_become__50 ?_
  refine z_lcmp_gt (tgt := 79) hx hb (by omega) (by decide) dX1_become__53 dX1_become__54 (by decide) (fun c4 => ?_) (fun c4 => ?_)
  · refine lv_aload_n hx hb dX1_become__79 rfl (lv_at hl 1 rfl) ?_
    refine z_cVv (As := []) (rest := []) ⟨hx, hb, hml, hown, hts⟩ hK hP hD hS hA [0] [] rfl rfl rfl (c_X1_spoil l g q (n / gd n d) (d / gd n d) 0 ) (cwV 0 hts gX1_become__X1_spoil rfl rfl rfl (by decide +kernel) ⟨Nat.le_of_ble_eq_true rfl, Nat.le_of_ble_eq_true rfl⟩) 1 0 rfl rfl rfl (fun _ _ _ _ _ _ => trivial) (fun _ _ _ => trivial) rfl hl.1 (Nat.le_of_ble_eq_true rfl) rfl dX1_become__80 ⟨Nat.le_of_ble_eq_true rfl, Nat.le_of_ble_eq_true rfl⟩ (fun u_5 H locs hwu_5 hP hD hS => ?_)
    try dsimp only at hwu_5
    have hP : zP g [[fr q none]] H := hP
    have hD : zD A [[fr q none]] := hD
    exact z_retv () [0] hx hb hr hlocks hK hP hD hS trivial rfl rfl (by rw [fmk_none (by omega)]; rfl) (Nat.le_of_ble_eq_true rfl) (Nat.le_of_ble_eq_true rfl) dX1_become__83
  · refine lv_aload_n hx hb dX1_become__57 rfl (lv_at hl 1 rfl) ?_
    refine z_get hx hb hts hin1_ hown hK hP 0 rfl rfl 0 (by decide) (hts _ (List.mem_of_getElem? (i := 1) rfl)) rfl dX1_become__58 ?_
    refine z_ldc2 hx hb (-1000000000) hown (hts _ (List.mem_of_getElem? (i := 5) rfl)) rfl dX1_become__61 ?_
    refine z_lcmp_lt (tgt := 79) hx hb (by omega) (by decide) dX1_become__64 dX1_become__65 (by decide) (fun c6 => ?_) (fun c6 => ?_)
    · refine lv_aload_n hx hb dX1_become__79 rfl (lv_at hl 1 rfl) ?_
      refine z_cVv (As := []) (rest := []) ⟨hx, hb, hml, hown, hts⟩ hK hP hD hS hA [0] [] rfl rfl rfl (c_X1_spoil l g q (n / gd n d) (d / gd n d) 0 ) (cwV 0 hts gX1_become__X1_spoil rfl rfl rfl (by decide +kernel) ⟨Nat.le_of_ble_eq_true rfl, Nat.le_of_ble_eq_true rfl⟩) 1 0 rfl rfl rfl (fun _ _ _ _ _ _ => trivial) (fun _ _ _ => trivial) rfl hl.1 (Nat.le_of_ble_eq_true rfl) rfl dX1_become__80 ⟨Nat.le_of_ble_eq_true rfl, Nat.le_of_ble_eq_true rfl⟩ (fun u_7 H locs hwu_7 hP hD hS => ?_)
      try dsimp only at hwu_7
      have hP : zP g [[fr q none]] H := hP
      have hD : zD A [[fr q none]] := hD
      exact z_retv () [0] hx hb hr hlocks hK hP hD hS trivial rfl rfl (by rw [fmk_none (by omega)]; rfl) (Nat.le_of_ble_eq_true rfl) (Nat.le_of_ble_eq_true rfl) dX1_become__83
    · refine lv_aload_n hx hb dX1_become__68 rfl (lv_at hl 1 rfl) ?_
      refine z_get hx hb hts hin1_ hown hK hP 0 rfl rfl 1 (by decide) (hts _ (List.mem_of_getElem? (i := 2) rfl)) rfl dX1_become__69 ?_
      refine z_ldc2 hx hb 1000000000 hown (hts _ (List.mem_of_getElem? (i := 4) rfl)) rfl dX1_become__72 ?_
      refine z_lcmp_le (tgt := 83) hx hb (by omega) (by decide) dX1_become__75 dX1_become__76 (by decide) (fun c8 => ?_) (fun c8 => ?_)
      · exact z_retv () [0] hx hb hr hlocks hK hP hD hS trivial rfl rfl (by rw [fmk_some (by omega)]; rfl) (Nat.le_of_ble_eq_true rfl) (Nat.le_of_ble_eq_true rfl) dX1_become__83
      · refine lv_aload_n hx hb dX1_become__79 rfl (lv_at hl 1 rfl) ?_
        refine z_cVv (As := []) (rest := []) ⟨hx, hb, hml, hown, hts⟩ hK hP hD hS hA [0] [] rfl rfl rfl (c_X1_spoil l g q (n / gd n d) (d / gd n d) 0 ) (cwV 0 hts gX1_become__X1_spoil rfl rfl rfl (by decide +kernel) ⟨Nat.le_of_ble_eq_true rfl, Nat.le_of_ble_eq_true rfl⟩) 1 0 rfl rfl rfl (fun _ _ _ _ _ _ => trivial) (fun _ _ _ => trivial) rfl hl.1 (Nat.le_of_ble_eq_true rfl) rfl dX1_become__80 ⟨Nat.le_of_ble_eq_true rfl, Nat.le_of_ble_eq_true rfl⟩ (fun u_9 H locs hwu_9 hP hD hS => ?_)
        try dsimp only at hwu_9
        have hP : zP g [[fr q none]] H := hP
        have hD : zD A [[fr q none]] := hD
        exact z_retv () [0] hx hb hr hlocks hK hP hD hS trivial rfl rfl (by rw [fmk_none (by omega)]; rfl) (Nat.le_of_ble_eq_true rfl) (Nat.le_of_ble_eq_true rfl) dX1_become__83

set_option maxHeartbeats 4000000 in
set_option maxRecDepth 100000 in
theorem c_X1_add (l : Launch) (g : zG) (q : Nat) (v : FO) (r : Nat) (w : FO) (k : Int) (hv : fok v) (hw : fok w) (hk : k = 1 ∨ k = -1) : zMet l g yX1_add wsX1_add 2 0 0 [.ref q, .ref r, vI k] zX0 [[fr q v], [fr r w]] (qv g (fun (_ : Unit) => True) (fun (_ : Unit) => [[fr q (fadd k v w)], [fr r w]])) := by
  obtain ⟨hv1, hv2, hv3, hv4, hv5, hv6, hv7⟩ := id hv
  obtain ⟨hw1, hw2, hw3, hw4, hw5, hw6, hw7⟩ := id hw
  have hg := gd_pos (fB v) (fB w)
  have hg2 := gd_le (x := fB v) hw3
  refine z_ent (cc := cX1_add) (maxL := 9) (ret := none) (by decide) rfl (Nat.le_of_ble_eq_true rfl) ?_
  intro p e s m below meth c A ls hx hb hr hml hown hts hlocks hin0 hA hK hP hD hS hXX hl
  have hown : s.vm.findClass RX1 = some m.cls := hown
  have hin1_ : ∀ w ∈ wsX10, w ∈ wsX1_add := zw_in [18, 19, 20] rfl
  have hl : lv_has ls 9 [(0, .ref q), (1, .ref r), (2, vI k)] := hl
  refine lv_aload_n hx hb dX1_add_0 rfl (lv_at hl 0 rfl) ?_
  refine z_get hx hb hts hin1_ hown hK hP 0 rfl rfl 1 (by decide) (hts _ (List.mem_of_getElem? (i := 1) rfl)) rfl dX1_add_1 ?_
  refine lv_aload_n hx hb dX1_add_4 rfl (lv_at hl 1 rfl) ?_
  refine z_get hx hb hts hin1_ hown hK hP 1 rfl rfl 1 (by decide) (hts _ (List.mem_of_getElem? (i := 1) rfl)) rfl dX1_add_5 ?_
  refine z_cSl (As := [vL (fB v), vL (fB w)]) (rest := []) ⟨hx, hb, hml, hown, hts⟩ hK hP hD hS hA [] [0, 1] rfl rfl rfl (c_X1_divisorOf l g (fB v) (fB w) (by first | assumption | omega | decide) (by first | assumption | omega | decide)) (va_cwS 2 hts gX1_add_X1_divisorOf rfl rfl rfl (by decide +kernel) ⟨Nat.le_of_ble_eq_true rfl, Nat.le_of_ble_eq_true rfl⟩) (fun _ _ _ _ _ _ => trivial) (fun _ _ _ => trivial) rfl hl.1 (Nat.le_of_ble_eq_true rfl) rfl dX1_add_8 ⟨Nat.le_of_ble_eq_true rfl, Nat.le_of_ble_eq_true rfl⟩ (fun u_1 H locs hwu_1 hP hD hS => ?_)
  try dsimp only at hwu_1
  have hP : zP g [[fr q v], [fr r w]] H := hP
  have hD : zD A [[fr q v], [fr r w]] := hD
  refine z_toL (gd (fB v) (fB w)) rfl ?_
  refine lv_lstore_n (lv' := [(3, vL (gd (fB v) (fB w))), (0, .ref q), (1, .ref r), (2, vI k)]) hx hb dX1_add_11 rfl hl (by decide) rfl (fun ls hl => ?_)
  refine lv_aload_n hx hb dX1_add_12 rfl (lv_at hl 1 rfl) ?_
  refine z_get hx hb hts hin1_ hown hK hP 0 rfl rfl 2 (by decide) (hts _ (List.mem_of_getElem? (i := 2) rfl)) rfl dX1_add_13 ?_
  refine z_if_ne (tgt := 32) hx hb (by omega) dX1_add_16 (by decide) (fun c2 => ?_) (fun c2 => ?_)
  · refine lv_aload_n hx hb dX1_add_32 rfl (lv_at hl 1 rfl) ?_
    refine z_cVv (As := []) (rest := []) ⟨hx, hb, hml, hown, hts⟩ hK hP hD hS hA [0] [1] rfl rfl rfl (c_X1_spoilF l g q v ) (cwV 0 hts gX1_add_X1_spoil rfl rfl rfl (by decide +kernel) ⟨Nat.le_of_ble_eq_true rfl, Nat.le_of_ble_eq_true rfl⟩) 1 0 rfl rfl rfl (fun _ _ _ _ _ _ => trivial) (fun _ _ _ => trivial) rfl hl.1 (Nat.le_of_ble_eq_true rfl) rfl dX1_add_33 ⟨Nat.le_of_ble_eq_true rfl, Nat.le_of_ble_eq_true rfl⟩ (fun u_3 H locs hwu_3 hP hD hS => ?_)
    try dsimp only at hwu_3
    have hP : zP g [[fr r w], [fr q none]] H := hP
    have hD : zD A [[fr r w], [fr q none]] := hD
    exact z_retv () [1, 0] hx hb hr hlocks hK hP hD hS trivial rfl rfl (by rw [show fadd k v w = none by first | exact fadd_l (by assumption) | exact fadd_r (by assumption)]; rfl) (Nat.le_of_ble_eq_true rfl) (Nat.le_of_ble_eq_true rfl) dX1_add_36
  · refine lv_aload_n hx hb dX1_add_19 rfl (lv_at hl 2 rfl) ?_
    refine z_get hx hb hts hin1_ hown hK hP 1 rfl rfl 2 (by decide) (hts _ (List.mem_of_getElem? (i := 2) rfl)) rfl dX1_add_20 ?_
    refine z_if_ne (tgt := 32) hx hb (by omega) dX1_add_23 (by decide) (fun c4 => ?_) (fun c4 => ?_)
    · refine lv_aload_n hx hb dX1_add_32 rfl (lv_at hl 1 rfl) ?_
      refine z_cVv (As := []) (rest := []) ⟨hx, hb, hml, hown, hts⟩ hK hP hD hS hA [0] [1] rfl rfl rfl (c_X1_spoilF l g q v ) (cwV 0 hts gX1_add_X1_spoil rfl rfl rfl (by decide +kernel) ⟨Nat.le_of_ble_eq_true rfl, Nat.le_of_ble_eq_true rfl⟩) 1 0 rfl rfl rfl (fun _ _ _ _ _ _ => trivial) (fun _ _ _ => trivial) rfl hl.1 (Nat.le_of_ble_eq_true rfl) rfl dX1_add_33 ⟨Nat.le_of_ble_eq_true rfl, Nat.le_of_ble_eq_true rfl⟩ (fun u_5 H locs hwu_5 hP hD hS => ?_)
      try dsimp only at hwu_5
      have hP : zP g [[fr r w], [fr q none]] H := hP
      have hD : zD A [[fr r w], [fr q none]] := hD
      exact z_retv () [1, 0] hx hb hr hlocks hK hP hD hS trivial rfl rfl (by rw [show fadd k v w = none by first | exact fadd_l (by assumption) | exact fadd_r (by assumption)]; rfl) (Nat.le_of_ble_eq_true rfl) (Nat.le_of_ble_eq_true rfl) dX1_add_36
    · refine lv_lload_n hx hb dX1_add_26 rfl (lv_at hl 0 rfl) ?_
      refine z_lconst hx hb 1 dX1_add_27 rfl ?_
      refine z_lcmp_ge (tgt := 37) hx hb (by omega) (by decide) dX1_add_28 dX1_add_29 (by decide) (fun c6 => ?_) (fun c6 => absurd (by omega) c6)
      refine lv_aload_n hx hb dX1_add_37 rfl (lv_at hl 2 rfl) ?_
      refine z_get hx hb hts hin1_ hown hK hP 1 rfl rfl 1 (by decide) (hts _ (List.mem_of_getElem? (i := 1) rfl)) rfl dX1_add_38 ?_
      refine lv_lload_n hx hb dX1_add_41 rfl (lv_at hl 0 rfl) ?_
      refine z_ldiv hx hb (((fB w)).tdiv (gd (fB v) (fB w))) (by omega) (by omega) rfl dX1_add_42 ?_
      refine z_toL (fB w / gd (fB v) (fB w)) (gd_tdr (by omega)) ?_
      refine lv_lstore (lv' := [(5, vL (fB w / gd (fB v) (fB w))), (3, vL (gd (fB v) (fB w))), (0, .ref q), (1, .ref r), (2, vI k)]) hx hb dX1_add_43 hl (by decide) rfl (fun ls hl => ?_)
      refine lv_aload_n hx hb dX1_add_45 rfl (lv_at hl 2 rfl) ?_
      refine z_get hx hb hts hin1_ hown hK hP 0 rfl rfl 1 (by decide) (hts _ (List.mem_of_getElem? (i := 1) rfl)) rfl dX1_add_46 ?_
      refine lv_lload_n hx hb dX1_add_49 rfl (lv_at hl 1 rfl) ?_
      refine z_ldiv hx hb (((fB v)).tdiv (gd (fB v) (fB w))) (by omega) (by omega) rfl dX1_add_50 ?_
      refine z_toL (fB v / gd (fB v) (fB w)) (gd_tdl (by omega)) ?_
      refine lv_lstore (lv' := [(7, vL (fB v / gd (fB v) (fB w))), (5, vL (fB w / gd (fB v) (fB w))), (3, vL (gd (fB v) (fB w))), (0, .ref q), (1, .ref r), (2, vI k)]) hx hb dX1_add_51 hl (by decide) rfl (fun ls hl => ?_)
      refine lv_aload_n hx hb dX1_add_53 rfl (lv_at hl 3 rfl) ?_
      refine lv_aload_n hx hb dX1_add_54 rfl (lv_at hl 3 rfl) ?_
      refine z_get hx hb hts hin1_ hown hK hP 0 rfl rfl 0 (by decide) (hts _ (List.mem_of_getElem? (i := 3) rfl)) rfl dX1_add_55 ?_
      refine lv_lload hx hb dX1_add_58 (lv_at hl 1 rfl) ?_
      refine z_lmul hx hb ((fA v) * (fB w / gd (fB v) (fB w))) rfl dX1_add_60 ?_
      refine lv_iload_n hx hb dX1_add_61 rfl (lv_at hl 5 rfl) ?_
      refine z_i2l hx hb (by omega) dX1_add_62 ?_
      refine lv_aload_n hx hb dX1_add_63 rfl (lv_at hl 4 rfl) ?_
      refine z_get hx hb hts hin1_ hown hK hP 1 rfl rfl 0 (by decide) (hts _ (List.mem_of_getElem? (i := 3) rfl)) rfl dX1_add_64 ?_
      refine z_lmul hx hb (k * (fA w)) rfl dX1_add_67 ?_
      refine lv_lload hx hb dX1_add_68 (lv_at hl 0 rfl) ?_
      refine z_lmul hx hb ((k * (fA w)) * (fB v / gd (fB v) (fB w))) rfl dX1_add_70 ?_
      refine z_ladd hx hb (((fA v) * (fB w / gd (fB v) (fB w))) + ((k * (fA w)) * (fB v / gd (fB v) (fB w)))) rfl dX1_add_71 ?_
      refine lv_aload_n hx hb dX1_add_72 rfl (lv_at hl 3 rfl) ?_
      refine z_get hx hb hts hin1_ hown hK hP 0 rfl rfl 1 (by decide) (hts _ (List.mem_of_getElem? (i := 1) rfl)) rfl dX1_add_73 ?_
      refine lv_lload hx hb dX1_add_76 (lv_at hl 1 rfl) ?_
      refine z_lmul hx hb ((fB v) * (fB w / gd (fB v) (fB w))) rfl dX1_add_78 ?_
      have hM := fadd_mk hv hw (by omega) (by omega) hk
      refine z_cVv (As := [vL (((fA v) * (fB w / gd (fB v) (fB w))) + ((k * (fA w)) * (fB v / gd (fB v) (fB w)))), vL ((fB v) * (fB w / gd (fB v) (fB w)))]) (rest := []) ⟨hx, hb, hml, hown, hts⟩ hK hP hD hS hA [0] [1] rfl rfl rfl (c_X1_become_ l g q v (((fA v) * (fB w / gd (fB v) (fB w))) + ((k * (fA w)) * (fB v / gd (fB v) (fB w)))) ((fB v) * (fB w / gd (fB v) (fB w))) hM.1 hM.2.1) (cwV 2 hts gX1_add_X1_become_ rfl rfl rfl (by decide +kernel) ⟨Nat.le_of_ble_eq_true rfl, Nat.le_of_ble_eq_true rfl⟩) 1 0 rfl rfl rfl (fun _ _ _ _ _ _ => trivial) (fun _ _ _ => trivial) rfl hl.1 (Nat.le_of_ble_eq_true rfl) rfl dX1_add_79 ⟨Nat.le_of_ble_eq_true rfl, Nat.le_of_ble_eq_true rfl⟩ (fun u_7 H locs hwu_7 hP hD hS => ?_)
      try dsimp only at hwu_7
      have hP : zP g [[fr r w], [fr q (fmk (((fA v) * (fB w / gd (fB v) (fB w))) + ((k * (fA w)) * (fB v / gd (fB v) (fB w)))) ((fB v) * (fB w / gd (fB v) (fB w))))]] H := hP
      have hD : zD A [[fr r w], [fr q (fmk (((fA v) * (fB w / gd (fB v) (fB w))) + ((k * (fA w)) * (fB v / gd (fB v) (fB w)))) ((fB v) * (fB w / gd (fB v) (fB w))))]] := hD
      exact z_retv () [1, 0] hx hb hr hlocks hK hP hD hS trivial rfl rfl (by rw [hM.2.2]; rfl) (Nat.le_of_ble_eq_true rfl) (Nat.le_of_ble_eq_true rfl) dX1_add_82

set_option maxHeartbeats 4000000 in
set_option maxRecDepth 100000 in
theorem c_X1_multiply (l : Launch) (g : zG) (q : Nat) (v : FO) (r : Nat) (w : FO) (hv : fok v) (hw : fok w) : zMet l g yX1_multiply wsX1_multiply 2 0 0 [.ref q, .ref r] zX0 [[fr q v], [fr r w]] (qv g (fun (_ : Unit) => True) (fun (_ : Unit) => [[fr q (fmul v w)], [fr r w]])) := by
  obtain ⟨hv1, hv2, hv3, hv4, hv5, hv6, hv7⟩ := id hv
  obtain ⟨hw1, hw2, hw3, hw4, hw5, hw6, hw7⟩ := id hw
  refine z_ent (cc := cX1_multiply) (maxL := 2) (ret := none) (by decide) rfl (Nat.le_of_ble_eq_true rfl) ?_
  intro p e s m below meth c A ls hx hb hr hml hown hts hlocks hin0 hA hK hP hD hS hXX hl
  have hown : s.vm.findClass RX1 = some m.cls := hown
  have hin1_ : ∀ w ∈ wsX10, w ∈ wsX1_multiply := zw_in [18, 19, 20] rfl
  have hl : lv_has ls 2 [(0, .ref q), (1, .ref r)] := hl
  refine lv_aload_n hx hb dX1_multiply_0 rfl (lv_at hl 0 rfl) ?_
  refine z_get hx hb hts hin1_ hown hK hP 0 rfl rfl 2 (by decide) (hts _ (List.mem_of_getElem? (i := 1) rfl)) rfl dX1_multiply_1 ?_
  refine z_if_ne (tgt := 14) hx hb (by omega) dX1_multiply_4 (by decide) (fun c1 => ?_) (fun c1 => ?_)
  · refine lv_aload_n hx hb dX1_multiply_14 rfl (lv_at hl 0 rfl) ?_
    refine z_cVv (As := []) (rest := []) ⟨hx, hb, hml, hown, hts⟩ hK hP hD hS hA [0] [1] rfl rfl rfl (c_X1_spoilF l g q v ) (cwV 0 hts gX1_multiply_X1_spoil rfl rfl rfl (by decide +kernel) ⟨Nat.le_of_ble_eq_true rfl, Nat.le_of_ble_eq_true rfl⟩) 1 0 rfl rfl rfl (fun _ _ _ _ _ _ => trivial) (fun _ _ _ => trivial) rfl hl.1 (Nat.le_of_ble_eq_true rfl) rfl dX1_multiply_15 ⟨Nat.le_of_ble_eq_true rfl, Nat.le_of_ble_eq_true rfl⟩ (fun u_2 H locs hwu_2 hP hD hS => ?_)
    try dsimp only at hwu_2
    have hP : zP g [[fr r w], [fr q none]] H := hP
    have hD : zD A [[fr r w], [fr q none]] := hD
    exact z_retv () [1, 0] hx hb hr hlocks hK hP hD hS trivial rfl rfl (by rw [show fmul v w = none by first | exact fmul_l (by assumption) | exact fmul_r (by assumption)]; rfl) (Nat.le_of_ble_eq_true rfl) (Nat.le_of_ble_eq_true rfl) dX1_multiply_18
  · refine lv_aload_n hx hb dX1_multiply_7 rfl (lv_at hl 1 rfl) ?_
    refine z_get hx hb hts hin1_ hown hK hP 1 rfl rfl 2 (by decide) (hts _ (List.mem_of_getElem? (i := 1) rfl)) rfl dX1_multiply_8 ?_
    refine z_if_eq (tgt := 19) hx hb (by omega) dX1_multiply_11 (by decide) (fun c3 => ?_) (fun c3 => ?_)
    · refine lv_aload_n hx hb dX1_multiply_19 rfl (lv_at hl 0 rfl) ?_
      refine lv_aload_n hx hb dX1_multiply_20 rfl (lv_at hl 0 rfl) ?_
      refine z_get hx hb hts hin1_ hown hK hP 0 rfl rfl 0 (by decide) (hts _ (List.mem_of_getElem? (i := 2) rfl)) rfl dX1_multiply_21 ?_
      refine lv_aload_n hx hb dX1_multiply_24 rfl (lv_at hl 1 rfl) ?_
      refine z_get hx hb hts hin1_ hown hK hP 1 rfl rfl 0 (by decide) (hts _ (List.mem_of_getElem? (i := 2) rfl)) rfl dX1_multiply_25 ?_
      refine z_lmul hx hb ((fA v) * (fA w)) rfl dX1_multiply_28 ?_
      refine lv_aload_n hx hb dX1_multiply_29 rfl (lv_at hl 0 rfl) ?_
      refine z_get hx hb hts hin1_ hown hK hP 0 rfl rfl 1 (by decide) (hts _ (List.mem_of_getElem? (i := 3) rfl)) rfl dX1_multiply_30 ?_
      refine lv_aload_n hx hb dX1_multiply_33 rfl (lv_at hl 1 rfl) ?_
      refine z_get hx hb hts hin1_ hown hK hP 1 rfl rfl 1 (by decide) (hts _ (List.mem_of_getElem? (i := 3) rfl)) rfl dX1_multiply_34 ?_
      refine z_lmul hx hb ((fB v) * (fB w)) rfl dX1_multiply_37 ?_
      have hM := fmul_mk hv hw (by omega) (by omega)
      refine z_cVv (As := [vL ((fA v) * (fA w)), vL ((fB v) * (fB w))]) (rest := []) ⟨hx, hb, hml, hown, hts⟩ hK hP hD hS hA [0] [1] rfl rfl rfl (c_X1_become_ l g q v ((fA v) * (fA w)) ((fB v) * (fB w)) hM.1 hM.2.1) (cwV 2 hts gX1_multiply_X1_become_ rfl rfl rfl (by decide +kernel) ⟨Nat.le_of_ble_eq_true rfl, Nat.le_of_ble_eq_true rfl⟩) 1 0 rfl rfl rfl (fun _ _ _ _ _ _ => trivial) (fun _ _ _ => trivial) rfl hl.1 (Nat.le_of_ble_eq_true rfl) rfl dX1_multiply_38 ⟨Nat.le_of_ble_eq_true rfl, Nat.le_of_ble_eq_true rfl⟩ (fun u_4 H locs hwu_4 hP hD hS => ?_)
      try dsimp only at hwu_4
      have hP : zP g [[fr r w], [fr q (fmk ((fA v) * (fA w)) ((fB v) * (fB w)))]] H := hP
      have hD : zD A [[fr r w], [fr q (fmk ((fA v) * (fA w)) ((fB v) * (fB w)))]] := hD
      exact z_retv () [1, 0] hx hb hr hlocks hK hP hD hS trivial rfl rfl (by rw [hM.2.2]; rfl) (Nat.le_of_ble_eq_true rfl) (Nat.le_of_ble_eq_true rfl) dX1_multiply_41
    · refine lv_aload_n hx hb dX1_multiply_14 rfl (lv_at hl 0 rfl) ?_
      refine z_cVv (As := []) (rest := []) ⟨hx, hb, hml, hown, hts⟩ hK hP hD hS hA [0] [1] rfl rfl rfl (c_X1_spoilF l g q v ) (cwV 0 hts gX1_multiply_X1_spoil rfl rfl rfl (by decide +kernel) ⟨Nat.le_of_ble_eq_true rfl, Nat.le_of_ble_eq_true rfl⟩) 1 0 rfl rfl rfl (fun _ _ _ _ _ _ => trivial) (fun _ _ _ => trivial) rfl hl.1 (Nat.le_of_ble_eq_true rfl) rfl dX1_multiply_15 ⟨Nat.le_of_ble_eq_true rfl, Nat.le_of_ble_eq_true rfl⟩ (fun u_5 H locs hwu_5 hP hD hS => ?_)
      try dsimp only at hwu_5
      have hP : zP g [[fr r w], [fr q none]] H := hP
      have hD : zD A [[fr r w], [fr q none]] := hD
      exact z_retv () [1, 0] hx hb hr hlocks hK hP hD hS trivial rfl rfl (by rw [show fmul v w = none by first | exact fmul_l (by assumption) | exact fmul_r (by assumption)]; rfl) (Nat.le_of_ble_eq_true rfl) (Nat.le_of_ble_eq_true rfl) dX1_multiply_18

set_option maxHeartbeats 4000000 in
set_option maxRecDepth 100000 in
theorem c_X1_divideByThree (l : Launch) (g : zG) (q : Nat) (v : FO) (hv : fok v) : zMet l g yX1_divideByThree wsX1_divideByThree 2 0 0 [.ref q] zX0 [[fr q v]] (qv g (fun (_ : Unit) => True) (fun (_ : Unit) => [[fr q (fthird v)]])) := by
  obtain ⟨hv1, hv2, hv3, hv4, hv5, hv6, hv7⟩ := id hv
  refine z_ent (cc := cX1_divideByThree) (maxL := 1) (ret := none) (by decide) rfl (Nat.le_of_ble_eq_true rfl) ?_
  intro p e s m below meth c A ls hx hb hr hml hown hts hlocks hin0 hA hK hP hD hS hXX hl
  have hown : s.vm.findClass RX1 = some m.cls := hown
  have hin1_ : ∀ w ∈ wsX10, w ∈ wsX1_divideByThree := zw_in [19, 20, 21] rfl
  have hl : lv_has ls 1 [(0, .ref q)] := hl
  refine lv_aload_n hx hb dX1_divideByThree_0 rfl (lv_at hl 0 rfl) ?_
  refine z_get hx hb hts hin1_ hown hK hP 0 rfl rfl 2 (by decide) (hts _ (List.mem_of_getElem? (i := 1) rfl)) rfl dX1_divideByThree_1 ?_
  refine z_if_ne (tgt := 23) hx hb (by omega) dX1_divideByThree_4 (by decide) (fun c1 => ?_) (fun c1 => ?_)
  · exact z_retv () [0] hx hb hr hlocks hK hP hD hS trivial rfl rfl (by rw [show fthird v = v from (fthird_l (by assumption)).trans (fZ_none (by assumption)).symm]; rfl) (Nat.le_of_ble_eq_true rfl) (Nat.le_of_ble_eq_true rfl) dX1_divideByThree_23
  · refine lv_aload_n hx hb dX1_divideByThree_7 rfl (lv_at hl 0 rfl) ?_
    refine lv_aload_n hx hb dX1_divideByThree_8 rfl (lv_at hl 0 rfl) ?_
    refine z_get hx hb hts hin1_ hown hK hP 0 rfl rfl 0 (by decide) (hts _ (List.mem_of_getElem? (i := 2) rfl)) rfl dX1_divideByThree_9 ?_
    refine lv_aload_n hx hb dX1_divideByThree_12 rfl (lv_at hl 0 rfl) ?_
    refine z_get hx hb hts hin1_ hown hK hP 0 rfl rfl 1 (by decide) (hts _ (List.mem_of_getElem? (i := 3) rfl)) rfl dX1_divideByThree_13 ?_
    refine z_ldc2 hx hb 3 hown (hts _ (List.mem_of_getElem? (i := 4) rfl)) rfl dX1_divideByThree_16 ?_
    refine z_lmul hx hb ((fB v) * 3) rfl dX1_divideByThree_19 ?_
    refine z_cVv (As := [vL (fA v), vL ((fB v) * 3)]) (rest := []) ⟨hx, hb, hml, hown, hts⟩ hK hP hD hS hA [0] [] rfl rfl rfl (c_X1_become_ l g q v (fA v) ((fB v) * 3) (by first | assumption | omega | decide) (by first | assumption | omega | decide)) (cwV 2 hts gX1_divideByThree_X1_become_ rfl rfl rfl (by decide +kernel) ⟨Nat.le_of_ble_eq_true rfl, Nat.le_of_ble_eq_true rfl⟩) 1 0 rfl rfl rfl (fun _ _ _ _ _ _ => trivial) (fun _ _ _ => trivial) rfl hl.1 (Nat.le_of_ble_eq_true rfl) rfl dX1_divideByThree_20 ⟨Nat.le_of_ble_eq_true rfl, Nat.le_of_ble_eq_true rfl⟩ (fun u_2 H locs hwu_2 hP hD hS => ?_)
    try dsimp only at hwu_2
    have hP : zP g [[fr q (fmk (fA v) ((fB v) * 3))]] H := hP
    have hD : zD A [[fr q (fmk (fA v) ((fB v) * 3))]] := hD
    exact z_retv () [0] hx hb hr hlocks hK hP hD hS trivial rfl rfl (by rw [fthird_mk (by omega)]; rfl) (Nat.le_of_ble_eq_true rfl) (Nat.le_of_ble_eq_true rfl) dX1_divideByThree_23

set_option maxHeartbeats 4000000 in
set_option maxRecDepth 100000 in
theorem c_X1_negate (l : Launch) (g : zG) (q : Nat) (v : FO)  : zMet l g yX1_negate wsX1_negate 0 0 0 [.ref q] zX0 [[fr q v]] (qv g (fun (_ : Unit) => True) (fun (_ : Unit) => [[fr q (fneg v)]])) := by
  refine z_ent (cc := cX1_negate) (maxL := 1) (ret := none) (by decide) rfl (Nat.le_of_ble_eq_true rfl) ?_
  intro p e s m below meth c A ls hx hb hr hml hown hts hlocks hin0 hA hK hP hD hS hXX hl
  have hown : s.vm.findClass RX1 = some m.cls := hown
  have hin1_ : ∀ w ∈ wsX10, w ∈ wsX1_negate := zw_in [2, 3, 4] rfl
  have hl : lv_has ls 1 [(0, .ref q)] := hl
  refine lv_aload_n hx hb dX1_negate_0 rfl (lv_at hl 0 rfl) ?_
  refine lv_aload_n hx hb dX1_negate_1 rfl (lv_at hl 0 rfl) ?_
  refine z_get hx hb hts hin1_ hown hK hP 0 rfl rfl 0 (by decide) (hts _ (List.mem_of_getElem? (i := 1) rfl)) rfl dX1_negate_2 ?_
  refine z_lneg hx hb (-(fA v)) rfl dX1_negate_5 ?_
  refine z_put hx hb hts hin1_ tyX1 tyX1_ok nmX1 hown hK hP hD hS 0 rfl rfl 0 (by decide) (hts _ (List.mem_of_getElem? (i := 1) rfl)) rfl rfl rfl (Nat.le_of_ble_eq_true rfl) dX1_negate_6 [[(q, .inr (1, [vL (-(fA v)), vL (fB v), vI (fZ v)]))]] rfl (fun H locs hP hD hS => ?_)
  exact z_retv () [0] hx hb hr hlocks hK hP hD hS trivial rfl rfl (by simp only [fr, fneg_A, fneg_B, fneg_Z]; rfl) (Nat.le_of_ble_eq_true rfl) (Nat.le_of_ble_eq_true rfl) dX1_negate_9

set_option maxHeartbeats 4000000 in
set_option maxRecDepth 100000 in
theorem c_X1_isMoreThan (l : Launch) (g : zG) (q : Nat) (v : FO) (r : Nat) (w : FO) (hv : fok v) (hw : fok w) : zMet l g yX1_isMoreThan wsX1_isMoreThan 0 0 0 [.ref q, .ref r] zX0 [[fr q v], [fr r w]] (qi g (fun (_ : Unit) => (fgt v w)) (fun (_ : Unit) => True) (fun (_ : Unit) => [[fr q v], [fr r w]])) := by
  refine z_ent (cc := cX1_isMoreThan) (maxL := 2) (ret := (some .boolean)) (by decide) rfl (Nat.le_of_ble_eq_true rfl) ?_
  intro p e s m below meth c A ls hx hb hr hml hown hts hlocks hin0 hA hK hP hD hS hXX hl
  have hown : s.vm.findClass RX1 = some m.cls := hown
  have hin1_ : ∀ w ∈ wsX10, w ∈ wsX1_isMoreThan := zw_in [3, 4, 5] rfl
  have hl : lv_has ls 2 [(0, .ref q), (1, .ref r)] := hl
  refine lv_aload_n hx hb dX1_isMoreThan_0 rfl (lv_at hl 0 rfl) ?_
  refine z_get hx hb hts hin1_ hown hK hP 0 rfl rfl 0 (by decide) (hts _ (List.mem_of_getElem? (i := 1) rfl)) rfl dX1_isMoreThan_1 ?_
  refine lv_aload_n hx hb dX1_isMoreThan_4 rfl (lv_at hl 1 rfl) ?_
  refine z_get hx hb hts hin1_ hown hK hP 1 rfl rfl 1 (by decide) (hts _ (List.mem_of_getElem? (i := 2) rfl)) rfl dX1_isMoreThan_5 ?_
  refine z_lmul hx hb ((fA v) * (fB w)) rfl dX1_isMoreThan_8 ?_
  refine lv_aload_n hx hb dX1_isMoreThan_9 rfl (lv_at hl 1 rfl) ?_
  refine z_get hx hb hts hin1_ hown hK hP 1 rfl rfl 0 (by decide) (hts _ (List.mem_of_getElem? (i := 1) rfl)) rfl dX1_isMoreThan_10 ?_
  refine lv_aload_n hx hb dX1_isMoreThan_13 rfl (lv_at hl 0 rfl) ?_
  refine z_get hx hb hts hin1_ hown hK hP 0 rfl rfl 1 (by decide) (hts _ (List.mem_of_getElem? (i := 2) rfl)) rfl dX1_isMoreThan_14 ?_
  refine z_lmul hx hb ((fA w) * (fB v)) rfl dX1_isMoreThan_17 ?_
  refine z_lcmp_le (tgt := 26) hx hb (fgt_rng hv hw) (fgt_rng hw hv) dX1_isMoreThan_18 dX1_isMoreThan_19 (by decide) (fun c1 => ?_) (fun c1 => ?_)
  · refine z_iconst hx hb dX1_isMoreThan_26 rfl ?_
    exact z_reti () [0, 1] hx hb hr (nar_z (by first | decide | omega)) hlocks hK hP hD hS (by unfold fgt; split <;> omega) trivial rfl rfl (rfl) (Nat.le_of_ble_eq_true rfl) (Nat.le_of_ble_eq_true rfl) dX1_isMoreThan_27
  · refine z_iconst hx hb dX1_isMoreThan_22 rfl ?_
    refine lv_goto (tgt := 27) hx hb dX1_isMoreThan_23 (by decide) ?_
    exact z_reti () [0, 1] hx hb hr (nar_z (by first | decide | omega)) hlocks hK hP hD hS (by unfold fgt; split <;> omega) trivial rfl rfl (rfl) (Nat.le_of_ble_eq_true rfl) (Nat.le_of_ble_eq_true rfl) dX1_isMoreThan_27

set_option maxHeartbeats 4000000 in
set_option maxRecDepth 100000 in
theorem c_X1_isAs (l : Launch) (g : zG) (q : Nat) (v : FO) (r : Nat) (w : FO) (hv : fok v) (hw : fok w) : zMet l g yX1_isAs wsX1_isAs 0 0 0 [.ref q, .ref r] zX0 [[fr q v], [fr r w]] (qi g (fun (_ : Unit) => (feq v w)) (fun (_ : Unit) => True) (fun (_ : Unit) => [[fr q v], [fr r w]])) := by
  obtain ⟨hv1, hv2, hv3, hv4, hv5, hv6, hv7⟩ := id hv
  obtain ⟨hw1, hw2, hw3, hw4, hw5, hw6, hw7⟩ := id hw
  refine z_ent (cc := cX1_isAs) (maxL := 2) (ret := (some .boolean)) (by decide) rfl (Nat.le_of_ble_eq_true rfl) ?_
  intro p e s m below meth c A ls hx hb hr hml hown hts hlocks hin0 hA hK hP hD hS hXX hl
  have hown : s.vm.findClass RX1 = some m.cls := hown
  have hin1_ : ∀ w ∈ wsX10, w ∈ wsX1_isAs := zw_in [3, 4, 5] rfl
  have hl : lv_has ls 2 [(0, .ref q), (1, .ref r)] := hl
  refine lv_aload_n hx hb dX1_isAs_0 rfl (lv_at hl 0 rfl) ?_
  refine z_get hx hb hts hin1_ hown hK hP 0 rfl rfl 0 (by decide) (hts _ (List.mem_of_getElem? (i := 1) rfl)) rfl dX1_isAs_1 ?_
  refine lv_aload_n hx hb dX1_isAs_4 rfl (lv_at hl 1 rfl) ?_
  refine z_get hx hb hts hin1_ hown hK hP 1 rfl rfl 0 (by decide) (hts _ (List.mem_of_getElem? (i := 1) rfl)) rfl dX1_isAs_5 ?_
  refine z_lcmp_ne (tgt := 28) hx hb (by omega) (by omega) dX1_isAs_8 dX1_isAs_9 (by decide) (fun c1 => ?_) (fun c1 => ?_)
  · refine z_iconst hx hb dX1_isAs_28 rfl ?_
    exact z_reti () [0, 1] hx hb hr (nar_z (by first | decide | omega)) hlocks hK hP hD hS (by unfold feq; split <;> omega) trivial rfl rfl (rfl) (Nat.le_of_ble_eq_true rfl) (Nat.le_of_ble_eq_true rfl) dX1_isAs_29
  · refine lv_aload_n hx hb dX1_isAs_12 rfl (lv_at hl 0 rfl) ?_
    refine z_get hx hb hts hin1_ hown hK hP 0 rfl rfl 1 (by decide) (hts _ (List.mem_of_getElem? (i := 2) rfl)) rfl dX1_isAs_13 ?_
    refine lv_aload_n hx hb dX1_isAs_16 rfl (lv_at hl 1 rfl) ?_
    refine z_get hx hb hts hin1_ hown hK hP 1 rfl rfl 1 (by decide) (hts _ (List.mem_of_getElem? (i := 2) rfl)) rfl dX1_isAs_17 ?_
    refine z_lcmp_ne (tgt := 28) hx hb (by omega) (by omega) dX1_isAs_20 dX1_isAs_21 (by decide) (fun c2 => ?_) (fun c2 => ?_)
    · refine z_iconst hx hb dX1_isAs_28 rfl ?_
      exact z_reti () [0, 1] hx hb hr (nar_z (by first | decide | omega)) hlocks hK hP hD hS (by unfold feq; split <;> omega) trivial rfl rfl (rfl) (Nat.le_of_ble_eq_true rfl) (Nat.le_of_ble_eq_true rfl) dX1_isAs_29
    · refine z_iconst hx hb dX1_isAs_24 rfl ?_
      refine lv_goto (tgt := 29) hx hb dX1_isAs_25 (by decide) ?_
      exact z_reti () [0, 1] hx hb hr (nar_z (by first | decide | omega)) hlocks hK hP hD hS (by unfold feq; split <;> omega) trivial rfl rfl (rfl) (Nat.le_of_ble_eq_true rfl) (Nat.le_of_ble_eq_true rfl) dX1_isAs_29

set_option maxHeartbeats 4000000 in
set_option maxRecDepth 100000 in
theorem c_X1_tell (l : Launch) (g : zG) (q : Nat) (v : FO) (i : Int) (hv : fok v) (hi : -2147483648 ≤ i ∧ i < 2147483648) : zMet l g yX1_tell wsX1_tell 0 0 0 [.ref q, vI i] zX0 [[fr q v]] (ql g (fun (_ : Unit) => (ftell v i)) (fun (_ : Unit) => True) (fun (_ : Unit) => [[fr q v]])) := by
  obtain ⟨hv1, hv2, hv3, hv4, hv5, hv6, hv7⟩ := id hv
  refine z_ent (cc := cX1_tell) (maxL := 2) (ret := (some .long)) (by decide) rfl (Nat.le_of_ble_eq_true rfl) ?_
  intro p e s m below meth c A ls hx hb hr hml hown hts hlocks hin0 hA hK hP hD hS hXX hl
  have hown : s.vm.findClass RX1 = some m.cls := hown
  have hin1_ : ∀ w ∈ wsX10, w ∈ wsX1_tell := zw_in [5, 6, 7] rfl
  have hl : lv_has ls 2 [(0, .ref q), (1, vI i)] := hl
  refine lv_aload_n hx hb dX1_tell_0 rfl (lv_at hl 0 rfl) ?_
  refine z_get hx hb hts hin1_ hown hK hP 0 rfl rfl 2 (by decide) (hts _ (List.mem_of_getElem? (i := 1) rfl)) rfl dX1_tell_1 ?_
  refine z_if_eq (tgt := 11) hx hb (by omega) dX1_tell_4 (by decide) (fun c1 => ?_) (fun c1 => ?_)
  · refine lv_iload_n hx hb dX1_tell_11 rfl (lv_at hl 1 rfl) ?_
    refine z_if_ne (tgt := 22) hx hb (by omega) dX1_tell_12 (by decide) (fun c2 => ?_) (fun c2 => ?_)
    · refine lv_aload_n hx hb dX1_tell_22 rfl (lv_at hl 0 rfl) ?_
      refine z_get hx hb hts hin1_ hown hK hP 0 rfl rfl 1 (by decide) (hts _ (List.mem_of_getElem? (i := 4) rfl)) rfl dX1_tell_23 ?_
      exact z_retl () [0] hx hb hr hlocks hK hP hD hS (by unfold ftell; first | rw [if_pos (by omega)] | rw [if_neg (by omega), if_pos (by omega)] | rw [if_neg (by omega), if_neg (by omega)]) trivial rfl rfl (rfl) (Nat.le_of_ble_eq_true rfl) (Nat.le_of_ble_eq_true rfl) dX1_tell_26
    · refine lv_aload_n hx hb dX1_tell_15 rfl (lv_at hl 0 rfl) ?_
      refine z_get hx hb hts hin1_ hown hK hP 0 rfl rfl 0 (by decide) (hts _ (List.mem_of_getElem? (i := 3) rfl)) rfl dX1_tell_16 ?_
      refine lv_goto (tgt := 26) hx hb dX1_tell_19 (by decide) ?_
      exact z_retl () [0] hx hb hr hlocks hK hP hD hS (by unfold ftell; first | rw [if_pos (by omega)] | rw [if_neg (by omega), if_pos (by omega)] | rw [if_neg (by omega), if_neg (by omega)]) trivial rfl rfl (rfl) (Nat.le_of_ble_eq_true rfl) (Nat.le_of_ble_eq_true rfl) dX1_tell_26
  · refine z_ldc2 hx hb (-2000000004) hown (hts _ (List.mem_of_getElem? (i := 2) rfl)) rfl dX1_tell_7 ?_
    exact z_retl () [0] hx hb hr hlocks hK hP hD hS (by unfold ftell; first | rw [if_pos (by omega)] | rw [if_neg (by omega), if_pos (by omega)] | rw [if_neg (by omega), if_neg (by omega)]) trivial rfl rfl (rfl) (Nat.le_of_ble_eq_true rfl) (Nat.le_of_ble_eq_true rfl) dX1_tell_10
