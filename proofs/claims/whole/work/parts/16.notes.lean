set_option maxHeartbeats 4000000 in
set_option maxRecDepth 100000 in
theorem c_X3_add (l : Launch) (g : zG) (q : Nat) (e_ : Nat) (y : Nat → Nat) (X : Nat → Nat → Nat) (T : Nat → Nat → FO) (sz : Nat) (nx : Nat) (r : Nat) (x : Nat → Nat) (t : Nat → FO) (hsz : sz ≤ 8) (hnx : nx < 8) (ht : ∀ k, fok (t k)) : zMet l g yX3_add wsX3_add 3 0 0 [.ref q, .ref r] zX0 [(noteW g q e_ y X T sz nx), (threeW g r x t)] (qv g (fun (_ : Unit) => True) (fun (_ : Unit) => [(noteW g q e_ y X (upT T nx t) (min (sz + 1) 8) ((nx + 1) % 8)), (threeW g r x t)])) := by
  refine z_ent (cc := cX3_add) (maxL := 2) (ret := none) (by decide) rfl (Nat.le_of_ble_eq_true rfl) ?_
  intro p e s m below meth c A ls hx hb hr hml hown hts hlocks hin0 hA hK hP hD hS hXX hl
  have hown : s.vm.findClass RX3 = some m.cls := hown
  have hin3_ : ∀ w ∈ wsX30, w ∈ wsX3_add := zw_in [29, 30, 31] rfl
  have hl : lv_has ls 2 [(0, .ref q), (1, .ref r)] := hl
  rcases (show nx = 0 ∨ nx = 1 ∨ nx = 2 ∨ nx = 3 ∨ nx = 4 ∨ nx = 5 ∨ nx = 6 ∨ nx = 7 by omega) with rfl | rfl | rfl | rfl | rfl | rfl | rfl | rfl
  · refine lv_aload_n hx hb dX3_add_0 rfl (lv_at hl 0 rfl) ?_
    have hP : zP g [[(q, .inr (3, [.ref e_, vI ((sz : Nat) : Int), vI 0]))], [(e_, .inl (g.2 5, 8, .inr (.inr (.inr (.inr (rA [(y 0), (y 1), (y 2), (y 3), (y 4), (y 5), (y 6), (y 7)]))))))], (threeW g (y 0) (X 0) (T 0)), (threeW g (y 1) (X 1) (T 1)), (threeW g (y 2) (X 2) (T 2)), (threeW g (y 3) (X 3) (T 3)), (threeW g (y 4) (X 4) (T 4)), (threeW g (y 5) (X 5) (T 5)), (threeW g (y 6) (X 6) (T 6)), (threeW g (y 7) (X 7) (T 7)), (threeW g r x t)] s.heap := hP
    have hD : zD A [[(q, .inr (3, [.ref e_, vI ((sz : Nat) : Int), vI 0]))], [(e_, .inl (g.2 5, 8, .inr (.inr (.inr (.inr (rA [(y 0), (y 1), (y 2), (y 3), (y 4), (y 5), (y 6), (y 7)]))))))], (threeW g (y 0) (X 0) (T 0)), (threeW g (y 1) (X 1) (T 1)), (threeW g (y 2) (X 2) (T 2)), (threeW g (y 3) (X 3) (T 3)), (threeW g (y 4) (X 4) (T 4)), (threeW g (y 5) (X 5) (T 5)), (threeW g (y 6) (X 6) (T 6)), (threeW g (y 7) (X 7) (T 7)), (threeW g r x t)] := hD
    refine z_get hx hb hts hin3_ hown hK hP 0 rfl rfl 0 (by decide) (hts _ (List.mem_of_getElem? (i := 1) rfl)) rfl dX3_add_1 ?_
    refine lv_aload_n hx hb dX3_add_4 rfl (lv_at hl 0 rfl) ?_
    refine z_get hx hb hts hin3_ hown hK hP 0 rfl rfl 2 (by decide) (hts _ (List.mem_of_getElem? (i := 2) rfl)) rfl dX3_add_5 ?_
    refine z_aald hx hb hK hP 1 5 rfl rfl 0 rfl (by decide) (by decide) (y 0) rfl dX3_add_8 ?_
    refine lv_aload_n hx hb dX3_add_9 rfl (lv_at hl 1 rfl) ?_
    refine z_cVv (As := [.ref r]) (rest := []) ⟨hx, hb, hml, hown, hts⟩ hK hP hD hS hA [2, 10] [0, 1, 3, 4, 5, 6, 7, 8, 9] rfl rfl rfl (c_X8_become l g (y 0) (X 0) (T 0) r x t ht) (cwV 1 hts gX3_add_X8_become rfl rfl rfl (by decide +kernel) ⟨Nat.le_of_ble_eq_true rfl, Nat.le_of_ble_eq_true rfl⟩) 8 0 rfl rfl rfl (fun _ _ _ _ _ _ => trivial) (fun _ _ _ => trivial) rfl hl.1 (Nat.le_of_ble_eq_true rfl) rfl dX3_add_10 ⟨Nat.le_of_ble_eq_true rfl, Nat.le_of_ble_eq_true rfl⟩ (fun u_1 H locs hwu_1 hP hD hS => ?_)
    try dsimp only at hwu_1
    have hP : zP g [[(q, .inr (3, [.ref e_, vI ((sz : Nat) : Int), vI 0]))], [(e_, .inl (g.2 5, 8, .inr (.inr (.inr (.inr (rA [(y 0), (y 1), (y 2), (y 3), (y 4), (y 5), (y 6), (y 7)]))))))], (threeW g (y 1) (X 1) (T 1)), (threeW g (y 2) (X 2) (T 2)), (threeW g (y 3) (X 3) (T 3)), (threeW g (y 4) (X 4) (T 4)), (threeW g (y 5) (X 5) (T 5)), (threeW g (y 6) (X 6) (T 6)), (threeW g (y 7) (X 7) (T 7)), (threeW g (y 0) (X 0) t), (threeW g r x t)] H := hP
    have hD : zD A [[(q, .inr (3, [.ref e_, vI ((sz : Nat) : Int), vI 0]))], [(e_, .inl (g.2 5, 8, .inr (.inr (.inr (.inr (rA [(y 0), (y 1), (y 2), (y 3), (y 4), (y 5), (y 6), (y 7)]))))))], (threeW g (y 1) (X 1) (T 1)), (threeW g (y 2) (X 2) (T 2)), (threeW g (y 3) (X 3) (T 3)), (threeW g (y 4) (X 4) (T 4)), (threeW g (y 5) (X 5) (T 5)), (threeW g (y 6) (X 6) (T 6)), (threeW g (y 7) (X 7) (T 7)), (threeW g (y 0) (X 0) t), (threeW g r x t)] := hD
    refine lv_aload_n hx hb dX3_add_13 rfl (lv_at hl 0 rfl) ?_
    refine lv_aload_n hx hb dX3_add_14 rfl (lv_at hl 0 rfl) ?_
    refine z_get hx hb hts hin3_ hown hK hP 0 rfl rfl 2 (by decide) (hts _ (List.mem_of_getElem? (i := 2) rfl)) rfl dX3_add_15 ?_
    refine z_iconst hx hb dX3_add_18 rfl ?_
    refine z_iadd hx hb 1 rfl dX3_add_19 ?_
    refine z_bipush hx hb 8 dX3_add_20 rfl ?_
    refine z_irem hx hb 1 (by decide) (by decide) rfl dX3_add_22 ?_
    refine z_put hx hb hts hin3_ tyX3 tyX3_ok nmX3 hown hK hP hD hS 0 rfl rfl 2 (by decide) (hts _ (List.mem_of_getElem? (i := 2) rfl)) rfl rfl rfl (Nat.le_of_ble_eq_true rfl) dX3_add_23 [[(q, .inr (3, [.ref e_, vI ((sz : Nat) : Int), vI 1]))], [(e_, .inl (g.2 5, 8, .inr (.inr (.inr (.inr (rA [(y 0), (y 1), (y 2), (y 3), (y 4), (y 5), (y 6), (y 7)]))))))], (threeW g (y 1) (X 1) (T 1)), (threeW g (y 2) (X 2) (T 2)), (threeW g (y 3) (X 3) (T 3)), (threeW g (y 4) (X 4) (T 4)), (threeW g (y 5) (X 5) (T 5)), (threeW g (y 6) (X 6) (T 6)), (threeW g (y 7) (X 7) (T 7)), (threeW g (y 0) (X 0) t), (threeW g r x t)] rfl (fun H locs hP hD hS => ?_)
    refine lv_aload_n hx hb dX3_add_26 rfl (lv_at hl 0 rfl) ?_
    refine lv_aload_n hx hb dX3_add_27 rfl (lv_at hl 0 rfl) ?_
    refine z_get hx hb hts hin3_ hown hK hP 0 rfl rfl 1 (by decide) (hts _ (List.mem_of_getElem? (i := 3) rfl)) rfl dX3_add_28 ?_
    refine z_iconst hx hb dX3_add_31 rfl ?_
    refine z_iadd hx hb (((sz + 1) : Nat) : Int) (by omega) dX3_add_32 ?_
    refine z_bipush hx hb 8 dX3_add_33 rfl ?_
    refine va_mmin hx hb (hml.trans hl.1.symm) hown (hts _ (List.mem_of_getElem? (i := 4) rfl)) (hts _ (List.mem_of_getElem? (i := 5) rfl)) (hts _ (List.mem_of_getElem? (i := 6) rfl)) (hts _ (List.mem_of_getElem? (i := 7) rfl)) (Nat.le_of_ble_eq_true rfl) (Nat.le_of_ble_eq_true rfl) (Nat.le_of_ble_eq_true rfl) (Nat.le_of_ble_eq_true rfl) dX3_add_35 ?_
    refine z_asI (min (((sz + 1) : Nat) : Int) 8) (i_min (by omega) (by decide)) ?_
    refine z_toI (((min (sz + 1) 8) : Nat) : Int) (by omega) ?_
    refine z_put hx hb hts hin3_ tyX3 tyX3_ok nmX3 hown hK hP hD hS 0 rfl rfl 1 (by decide) (hts _ (List.mem_of_getElem? (i := 3) rfl)) rfl rfl rfl (Nat.le_of_ble_eq_true rfl) dX3_add_38 [[(q, .inr (3, [.ref e_, vI (((min (sz + 1) 8) : Nat) : Int), vI 1]))], [(e_, .inl (g.2 5, 8, .inr (.inr (.inr (.inr (rA [(y 0), (y 1), (y 2), (y 3), (y 4), (y 5), (y 6), (y 7)]))))))], (threeW g (y 1) (X 1) (T 1)), (threeW g (y 2) (X 2) (T 2)), (threeW g (y 3) (X 3) (T 3)), (threeW g (y 4) (X 4) (T 4)), (threeW g (y 5) (X 5) (T 5)), (threeW g (y 6) (X 6) (T 6)), (threeW g (y 7) (X 7) (T 7)), (threeW g (y 0) (X 0) t), (threeW g r x t)] rfl (fun H locs hP hD hS => ?_)
    have hP : zP g [[(q, .inr (3, [.ref e_, vI (((min (sz + 1) 8) : Nat) : Int), vI 1]))], [(e_, .inl (g.2 5, 8, .inr (.inr (.inr (.inr (rA [(y 0), (y 1), (y 2), (y 3), (y 4), (y 5), (y 6), (y 7)]))))))], (threeW g (y 0) (X 0) t), (threeW g (y 1) (X 1) (T 1)), (threeW g (y 2) (X 2) (T 2)), (threeW g (y 3) (X 3) (T 3)), (threeW g (y 4) (X 4) (T 4)), (threeW g (y 5) (X 5) (T 5)), (threeW g (y 6) (X 6) (T 6)), (threeW g (y 7) (X 7) (T 7)), (threeW g r x t)] H := zP_sub hP [0, 1, 9, 2, 3, 4, 5, 6, 7, 8, 10] rfl
    have hD : zD A [[(q, .inr (3, [.ref e_, vI (((min (sz + 1) 8) : Nat) : Int), vI 1]))], [(e_, .inl (g.2 5, 8, .inr (.inr (.inr (.inr (rA [(y 0), (y 1), (y 2), (y 3), (y 4), (y 5), (y 6), (y 7)]))))))], (threeW g (y 0) (X 0) t), (threeW g (y 1) (X 1) (T 1)), (threeW g (y 2) (X 2) (T 2)), (threeW g (y 3) (X 3) (T 3)), (threeW g (y 4) (X 4) (T 4)), (threeW g (y 5) (X 5) (T 5)), (threeW g (y 6) (X 6) (T 6)), (threeW g (y 7) (X 7) (T 7)), (threeW g r x t)] := zD_sub hD [0, 1, 9, 2, 3, 4, 5, 6, 7, 8, 10] rfl rfl
    have hP : zP g [(noteW g q e_ y X (upT T 0 t) (min (sz + 1) 8) 1), (threeW g r x t)] H := hP
    have hD : zD A [(noteW g q e_ y X (upT T 0 t) (min (sz + 1) 8) 1), (threeW g r x t)] := hD
    exact z_retv () [0, 1] hx hb hr hlocks hK hP hD hS trivial rfl rfl (rfl) (Nat.le_of_ble_eq_true rfl) (Nat.le_of_ble_eq_true rfl) dX3_add_41
  · refine lv_aload_n hx hb dX3_add_0 rfl (lv_at hl 0 rfl) ?_
    have hP : zP g [[(q, .inr (3, [.ref e_, vI ((sz : Nat) : Int), vI 1]))], [(e_, .inl (g.2 5, 8, .inr (.inr (.inr (.inr (rA [(y 0), (y 1), (y 2), (y 3), (y 4), (y 5), (y 6), (y 7)]))))))], (threeW g (y 0) (X 0) (T 0)), (threeW g (y 1) (X 1) (T 1)), (threeW g (y 2) (X 2) (T 2)), (threeW g (y 3) (X 3) (T 3)), (threeW g (y 4) (X 4) (T 4)), (threeW g (y 5) (X 5) (T 5)), (threeW g (y 6) (X 6) (T 6)), (threeW g (y 7) (X 7) (T 7)), (threeW g r x t)] s.heap := hP
    have hD : zD A [[(q, .inr (3, [.ref e_, vI ((sz : Nat) : Int), vI 1]))], [(e_, .inl (g.2 5, 8, .inr (.inr (.inr (.inr (rA [(y 0), (y 1), (y 2), (y 3), (y 4), (y 5), (y 6), (y 7)]))))))], (threeW g (y 0) (X 0) (T 0)), (threeW g (y 1) (X 1) (T 1)), (threeW g (y 2) (X 2) (T 2)), (threeW g (y 3) (X 3) (T 3)), (threeW g (y 4) (X 4) (T 4)), (threeW g (y 5) (X 5) (T 5)), (threeW g (y 6) (X 6) (T 6)), (threeW g (y 7) (X 7) (T 7)), (threeW g r x t)] := hD
    refine z_get hx hb hts hin3_ hown hK hP 0 rfl rfl 0 (by decide) (hts _ (List.mem_of_getElem? (i := 1) rfl)) rfl dX3_add_1 ?_
    refine lv_aload_n hx hb dX3_add_4 rfl (lv_at hl 0 rfl) ?_
    refine z_get hx hb hts hin3_ hown hK hP 0 rfl rfl 2 (by decide) (hts _ (List.mem_of_getElem? (i := 2) rfl)) rfl dX3_add_5 ?_
    refine z_aald hx hb hK hP 1 5 rfl rfl 1 rfl (by decide) (by decide) (y 1) rfl dX3_add_8 ?_
    refine lv_aload_n hx hb dX3_add_9 rfl (lv_at hl 1 rfl) ?_
    refine z_cVv (As := [.ref r]) (rest := []) ⟨hx, hb, hml, hown, hts⟩ hK hP hD hS hA [3, 10] [0, 1, 2, 4, 5, 6, 7, 8, 9] rfl rfl rfl (c_X8_become l g (y 1) (X 1) (T 1) r x t ht) (cwV 1 hts gX3_add_X8_become rfl rfl rfl (by decide +kernel) ⟨Nat.le_of_ble_eq_true rfl, Nat.le_of_ble_eq_true rfl⟩) 8 0 rfl rfl rfl (fun _ _ _ _ _ _ => trivial) (fun _ _ _ => trivial) rfl hl.1 (Nat.le_of_ble_eq_true rfl) rfl dX3_add_10 ⟨Nat.le_of_ble_eq_true rfl, Nat.le_of_ble_eq_true rfl⟩ (fun u_2 H locs hwu_2 hP hD hS => ?_)
    try dsimp only at hwu_2
    have hP : zP g [[(q, .inr (3, [.ref e_, vI ((sz : Nat) : Int), vI 1]))], [(e_, .inl (g.2 5, 8, .inr (.inr (.inr (.inr (rA [(y 0), (y 1), (y 2), (y 3), (y 4), (y 5), (y 6), (y 7)]))))))], (threeW g (y 0) (X 0) (T 0)), (threeW g (y 2) (X 2) (T 2)), (threeW g (y 3) (X 3) (T 3)), (threeW g (y 4) (X 4) (T 4)), (threeW g (y 5) (X 5) (T 5)), (threeW g (y 6) (X 6) (T 6)), (threeW g (y 7) (X 7) (T 7)), (threeW g (y 1) (X 1) t), (threeW g r x t)] H := hP
    have hD : zD A [[(q, .inr (3, [.ref e_, vI ((sz : Nat) : Int), vI 1]))], [(e_, .inl (g.2 5, 8, .inr (.inr (.inr (.inr (rA [(y 0), (y 1), (y 2), (y 3), (y 4), (y 5), (y 6), (y 7)]))))))], (threeW g (y 0) (X 0) (T 0)), (threeW g (y 2) (X 2) (T 2)), (threeW g (y 3) (X 3) (T 3)), (threeW g (y 4) (X 4) (T 4)), (threeW g (y 5) (X 5) (T 5)), (threeW g (y 6) (X 6) (T 6)), (threeW g (y 7) (X 7) (T 7)), (threeW g (y 1) (X 1) t), (threeW g r x t)] := hD
    refine lv_aload_n hx hb dX3_add_13 rfl (lv_at hl 0 rfl) ?_
    refine lv_aload_n hx hb dX3_add_14 rfl (lv_at hl 0 rfl) ?_
    refine z_get hx hb hts hin3_ hown hK hP 0 rfl rfl 2 (by decide) (hts _ (List.mem_of_getElem? (i := 2) rfl)) rfl dX3_add_15 ?_
    refine z_iconst hx hb dX3_add_18 rfl ?_
    refine z_iadd hx hb 2 rfl dX3_add_19 ?_
    refine z_bipush hx hb 8 dX3_add_20 rfl ?_
    refine z_irem hx hb 2 (by decide) (by decide) rfl dX3_add_22 ?_
    refine z_put hx hb hts hin3_ tyX3 tyX3_ok nmX3 hown hK hP hD hS 0 rfl rfl 2 (by decide) (hts _ (List.mem_of_getElem? (i := 2) rfl)) rfl rfl rfl (Nat.le_of_ble_eq_true rfl) dX3_add_23 [[(q, .inr (3, [.ref e_, vI ((sz : Nat) : Int), vI 2]))], [(e_, .inl (g.2 5, 8, .inr (.inr (.inr (.inr (rA [(y 0), (y 1), (y 2), (y 3), (y 4), (y 5), (y 6), (y 7)]))))))], (threeW g (y 0) (X 0) (T 0)), (threeW g (y 2) (X 2) (T 2)), (threeW g (y 3) (X 3) (T 3)), (threeW g (y 4) (X 4) (T 4)), (threeW g (y 5) (X 5) (T 5)), (threeW g (y 6) (X 6) (T 6)), (threeW g (y 7) (X 7) (T 7)), (threeW g (y 1) (X 1) t), (threeW g r x t)] rfl (fun H locs hP hD hS => ?_)
    refine lv_aload_n hx hb dX3_add_26 rfl (lv_at hl 0 rfl) ?_
    refine lv_aload_n hx hb dX3_add_27 rfl (lv_at hl 0 rfl) ?_
    refine z_get hx hb hts hin3_ hown hK hP 0 rfl rfl 1 (by decide) (hts _ (List.mem_of_getElem? (i := 3) rfl)) rfl dX3_add_28 ?_
    refine z_iconst hx hb dX3_add_31 rfl ?_
    refine z_iadd hx hb (((sz + 1) : Nat) : Int) (by omega) dX3_add_32 ?_
    refine z_bipush hx hb 8 dX3_add_33 rfl ?_
    refine va_mmin hx hb (hml.trans hl.1.symm) hown (hts _ (List.mem_of_getElem? (i := 4) rfl)) (hts _ (List.mem_of_getElem? (i := 5) rfl)) (hts _ (List.mem_of_getElem? (i := 6) rfl)) (hts _ (List.mem_of_getElem? (i := 7) rfl)) (Nat.le_of_ble_eq_true rfl) (Nat.le_of_ble_eq_true rfl) (Nat.le_of_ble_eq_true rfl) (Nat.le_of_ble_eq_true rfl) dX3_add_35 ?_
    refine z_asI (min (((sz + 1) : Nat) : Int) 8) (i_min (by omega) (by decide)) ?_
    refine z_toI (((min (sz + 1) 8) : Nat) : Int) (by omega) ?_
    refine z_put hx hb hts hin3_ tyX3 tyX3_ok nmX3 hown hK hP hD hS 0 rfl rfl 1 (by decide) (hts _ (List.mem_of_getElem? (i := 3) rfl)) rfl rfl rfl (Nat.le_of_ble_eq_true rfl) dX3_add_38 [[(q, .inr (3, [.ref e_, vI (((min (sz + 1) 8) : Nat) : Int), vI 2]))], [(e_, .inl (g.2 5, 8, .inr (.inr (.inr (.inr (rA [(y 0), (y 1), (y 2), (y 3), (y 4), (y 5), (y 6), (y 7)]))))))], (threeW g (y 0) (X 0) (T 0)), (threeW g (y 2) (X 2) (T 2)), (threeW g (y 3) (X 3) (T 3)), (threeW g (y 4) (X 4) (T 4)), (threeW g (y 5) (X 5) (T 5)), (threeW g (y 6) (X 6) (T 6)), (threeW g (y 7) (X 7) (T 7)), (threeW g (y 1) (X 1) t), (threeW g r x t)] rfl (fun H locs hP hD hS => ?_)
    have hP : zP g [[(q, .inr (3, [.ref e_, vI (((min (sz + 1) 8) : Nat) : Int), vI 2]))], [(e_, .inl (g.2 5, 8, .inr (.inr (.inr (.inr (rA [(y 0), (y 1), (y 2), (y 3), (y 4), (y 5), (y 6), (y 7)]))))))], (threeW g (y 0) (X 0) (T 0)), (threeW g (y 1) (X 1) t), (threeW g (y 2) (X 2) (T 2)), (threeW g (y 3) (X 3) (T 3)), (threeW g (y 4) (X 4) (T 4)), (threeW g (y 5) (X 5) (T 5)), (threeW g (y 6) (X 6) (T 6)), (threeW g (y 7) (X 7) (T 7)), (threeW g r x t)] H := zP_sub hP [0, 1, 2, 9, 3, 4, 5, 6, 7, 8, 10] rfl
    have hD : zD A [[(q, .inr (3, [.ref e_, vI (((min (sz + 1) 8) : Nat) : Int), vI 2]))], [(e_, .inl (g.2 5, 8, .inr (.inr (.inr (.inr (rA [(y 0), (y 1), (y 2), (y 3), (y 4), (y 5), (y 6), (y 7)]))))))], (threeW g (y 0) (X 0) (T 0)), (threeW g (y 1) (X 1) t), (threeW g (y 2) (X 2) (T 2)), (threeW g (y 3) (X 3) (T 3)), (threeW g (y 4) (X 4) (T 4)), (threeW g (y 5) (X 5) (T 5)), (threeW g (y 6) (X 6) (T 6)), (threeW g (y 7) (X 7) (T 7)), (threeW g r x t)] := zD_sub hD [0, 1, 2, 9, 3, 4, 5, 6, 7, 8, 10] rfl rfl
    have hP : zP g [(noteW g q e_ y X (upT T 1 t) (min (sz + 1) 8) 2), (threeW g r x t)] H := hP
    have hD : zD A [(noteW g q e_ y X (upT T 1 t) (min (sz + 1) 8) 2), (threeW g r x t)] := hD
    exact z_retv () [0, 1] hx hb hr hlocks hK hP hD hS trivial rfl rfl (rfl) (Nat.le_of_ble_eq_true rfl) (Nat.le_of_ble_eq_true rfl) dX3_add_41
  · refine lv_aload_n hx hb dX3_add_0 rfl (lv_at hl 0 rfl) ?_
    have hP : zP g [[(q, .inr (3, [.ref e_, vI ((sz : Nat) : Int), vI 2]))], [(e_, .inl (g.2 5, 8, .inr (.inr (.inr (.inr (rA [(y 0), (y 1), (y 2), (y 3), (y 4), (y 5), (y 6), (y 7)]))))))], (threeW g (y 0) (X 0) (T 0)), (threeW g (y 1) (X 1) (T 1)), (threeW g (y 2) (X 2) (T 2)), (threeW g (y 3) (X 3) (T 3)), (threeW g (y 4) (X 4) (T 4)), (threeW g (y 5) (X 5) (T 5)), (threeW g (y 6) (X 6) (T 6)), (threeW g (y 7) (X 7) (T 7)), (threeW g r x t)] s.heap := hP
    have hD : zD A [[(q, .inr (3, [.ref e_, vI ((sz : Nat) : Int), vI 2]))], [(e_, .inl (g.2 5, 8, .inr (.inr (.inr (.inr (rA [(y 0), (y 1), (y 2), (y 3), (y 4), (y 5), (y 6), (y 7)]))))))], (threeW g (y 0) (X 0) (T 0)), (threeW g (y 1) (X 1) (T 1)), (threeW g (y 2) (X 2) (T 2)), (threeW g (y 3) (X 3) (T 3)), (threeW g (y 4) (X 4) (T 4)), (threeW g (y 5) (X 5) (T 5)), (threeW g (y 6) (X 6) (T 6)), (threeW g (y 7) (X 7) (T 7)), (threeW g r x t)] := hD
    refine z_get hx hb hts hin3_ hown hK hP 0 rfl rfl 0 (by decide) (hts _ (List.mem_of_getElem? (i := 1) rfl)) rfl dX3_add_1 ?_
    refine lv_aload_n hx hb dX3_add_4 rfl (lv_at hl 0 rfl) ?_
    refine z_get hx hb hts hin3_ hown hK hP 0 rfl rfl 2 (by decide) (hts _ (List.mem_of_getElem? (i := 2) rfl)) rfl dX3_add_5 ?_
    refine z_aald hx hb hK hP 1 5 rfl rfl 2 rfl (by decide) (by decide) (y 2) rfl dX3_add_8 ?_
    refine lv_aload_n hx hb dX3_add_9 rfl (lv_at hl 1 rfl) ?_
    refine z_cVv (As := [.ref r]) (rest := []) ⟨hx, hb, hml, hown, hts⟩ hK hP hD hS hA [4, 10] [0, 1, 2, 3, 5, 6, 7, 8, 9] rfl rfl rfl (c_X8_become l g (y 2) (X 2) (T 2) r x t ht) (cwV 1 hts gX3_add_X8_become rfl rfl rfl (by decide +kernel) ⟨Nat.le_of_ble_eq_true rfl, Nat.le_of_ble_eq_true rfl⟩) 8 0 rfl rfl rfl (fun _ _ _ _ _ _ => trivial) (fun _ _ _ => trivial) rfl hl.1 (Nat.le_of_ble_eq_true rfl) rfl dX3_add_10 ⟨Nat.le_of_ble_eq_true rfl, Nat.le_of_ble_eq_true rfl⟩ (fun u_3 H locs hwu_3 hP hD hS => ?_)
    try dsimp only at hwu_3
    have hP : zP g [[(q, .inr (3, [.ref e_, vI ((sz : Nat) : Int), vI 2]))], [(e_, .inl (g.2 5, 8, .inr (.inr (.inr (.inr (rA [(y 0), (y 1), (y 2), (y 3), (y 4), (y 5), (y 6), (y 7)]))))))], (threeW g (y 0) (X 0) (T 0)), (threeW g (y 1) (X 1) (T 1)), (threeW g (y 3) (X 3) (T 3)), (threeW g (y 4) (X 4) (T 4)), (threeW g (y 5) (X 5) (T 5)), (threeW g (y 6) (X 6) (T 6)), (threeW g (y 7) (X 7) (T 7)), (threeW g (y 2) (X 2) t), (threeW g r x t)] H := hP
    have hD : zD A [[(q, .inr (3, [.ref e_, vI ((sz : Nat) : Int), vI 2]))], [(e_, .inl (g.2 5, 8, .inr (.inr (.inr (.inr (rA [(y 0), (y 1), (y 2), (y 3), (y 4), (y 5), (y 6), (y 7)]))))))], (threeW g (y 0) (X 0) (T 0)), (threeW g (y 1) (X 1) (T 1)), (threeW g (y 3) (X 3) (T 3)), (threeW g (y 4) (X 4) (T 4)), (threeW g (y 5) (X 5) (T 5)), (threeW g (y 6) (X 6) (T 6)), (threeW g (y 7) (X 7) (T 7)), (threeW g (y 2) (X 2) t), (threeW g r x t)] := hD
    refine lv_aload_n hx hb dX3_add_13 rfl (lv_at hl 0 rfl) ?_
    refine lv_aload_n hx hb dX3_add_14 rfl (lv_at hl 0 rfl) ?_
    refine z_get hx hb hts hin3_ hown hK hP 0 rfl rfl 2 (by decide) (hts _ (List.mem_of_getElem? (i := 2) rfl)) rfl dX3_add_15 ?_
    refine z_iconst hx hb dX3_add_18 rfl ?_
    refine z_iadd hx hb 3 rfl dX3_add_19 ?_
    refine z_bipush hx hb 8 dX3_add_20 rfl ?_
    refine z_irem hx hb 3 (by decide) (by decide) rfl dX3_add_22 ?_
    refine z_put hx hb hts hin3_ tyX3 tyX3_ok nmX3 hown hK hP hD hS 0 rfl rfl 2 (by decide) (hts _ (List.mem_of_getElem? (i := 2) rfl)) rfl rfl rfl (Nat.le_of_ble_eq_true rfl) dX3_add_23 [[(q, .inr (3, [.ref e_, vI ((sz : Nat) : Int), vI 3]))], [(e_, .inl (g.2 5, 8, .inr (.inr (.inr (.inr (rA [(y 0), (y 1), (y 2), (y 3), (y 4), (y 5), (y 6), (y 7)]))))))], (threeW g (y 0) (X 0) (T 0)), (threeW g (y 1) (X 1) (T 1)), (threeW g (y 3) (X 3) (T 3)), (threeW g (y 4) (X 4) (T 4)), (threeW g (y 5) (X 5) (T 5)), (threeW g (y 6) (X 6) (T 6)), (threeW g (y 7) (X 7) (T 7)), (threeW g (y 2) (X 2) t), (threeW g r x t)] rfl (fun H locs hP hD hS => ?_)
    refine lv_aload_n hx hb dX3_add_26 rfl (lv_at hl 0 rfl) ?_
    refine lv_aload_n hx hb dX3_add_27 rfl (lv_at hl 0 rfl) ?_
    refine z_get hx hb hts hin3_ hown hK hP 0 rfl rfl 1 (by decide) (hts _ (List.mem_of_getElem? (i := 3) rfl)) rfl dX3_add_28 ?_
    refine z_iconst hx hb dX3_add_31 rfl ?_
    refine z_iadd hx hb (((sz + 1) : Nat) : Int) (by omega) dX3_add_32 ?_
    refine z_bipush hx hb 8 dX3_add_33 rfl ?_
    refine va_mmin hx hb (hml.trans hl.1.symm) hown (hts _ (List.mem_of_getElem? (i := 4) rfl)) (hts _ (List.mem_of_getElem? (i := 5) rfl)) (hts _ (List.mem_of_getElem? (i := 6) rfl)) (hts _ (List.mem_of_getElem? (i := 7) rfl)) (Nat.le_of_ble_eq_true rfl) (Nat.le_of_ble_eq_true rfl) (Nat.le_of_ble_eq_true rfl) (Nat.le_of_ble_eq_true rfl) dX3_add_35 ?_
    refine z_asI (min (((sz + 1) : Nat) : Int) 8) (i_min (by omega) (by decide)) ?_
    refine z_toI (((min (sz + 1) 8) : Nat) : Int) (by omega) ?_
    refine z_put hx hb hts hin3_ tyX3 tyX3_ok nmX3 hown hK hP hD hS 0 rfl rfl 1 (by decide) (hts _ (List.mem_of_getElem? (i := 3) rfl)) rfl rfl rfl (Nat.le_of_ble_eq_true rfl) dX3_add_38 [[(q, .inr (3, [.ref e_, vI (((min (sz + 1) 8) : Nat) : Int), vI 3]))], [(e_, .inl (g.2 5, 8, .inr (.inr (.inr (.inr (rA [(y 0), (y 1), (y 2), (y 3), (y 4), (y 5), (y 6), (y 7)]))))))], (threeW g (y 0) (X 0) (T 0)), (threeW g (y 1) (X 1) (T 1)), (threeW g (y 3) (X 3) (T 3)), (threeW g (y 4) (X 4) (T 4)), (threeW g (y 5) (X 5) (T 5)), (threeW g (y 6) (X 6) (T 6)), (threeW g (y 7) (X 7) (T 7)), (threeW g (y 2) (X 2) t), (threeW g r x t)] rfl (fun H locs hP hD hS => ?_)
    have hP : zP g [[(q, .inr (3, [.ref e_, vI (((min (sz + 1) 8) : Nat) : Int), vI 3]))], [(e_, .inl (g.2 5, 8, .inr (.inr (.inr (.inr (rA [(y 0), (y 1), (y 2), (y 3), (y 4), (y 5), (y 6), (y 7)]))))))], (threeW g (y 0) (X 0) (T 0)), (threeW g (y 1) (X 1) (T 1)), (threeW g (y 2) (X 2) t), (threeW g (y 3) (X 3) (T 3)), (threeW g (y 4) (X 4) (T 4)), (threeW g (y 5) (X 5) (T 5)), (threeW g (y 6) (X 6) (T 6)), (threeW g (y 7) (X 7) (T 7)), (threeW g r x t)] H := zP_sub hP [0, 1, 2, 3, 9, 4, 5, 6, 7, 8, 10] rfl
    have hD : zD A [[(q, .inr (3, [.ref e_, vI (((min (sz + 1) 8) : Nat) : Int), vI 3]))], [(e_, .inl (g.2 5, 8, .inr (.inr (.inr (.inr (rA [(y 0), (y 1), (y 2), (y 3), (y 4), (y 5), (y 6), (y 7)]))))))], (threeW g (y 0) (X 0) (T 0)), (threeW g (y 1) (X 1) (T 1)), (threeW g (y 2) (X 2) t), (threeW g (y 3) (X 3) (T 3)), (threeW g (y 4) (X 4) (T 4)), (threeW g (y 5) (X 5) (T 5)), (threeW g (y 6) (X 6) (T 6)), (threeW g (y 7) (X 7) (T 7)), (threeW g r x t)] := zD_sub hD [0, 1, 2, 3, 9, 4, 5, 6, 7, 8, 10] rfl rfl
    have hP : zP g [(noteW g q e_ y X (upT T 2 t) (min (sz + 1) 8) 3), (threeW g r x t)] H := hP
    have hD : zD A [(noteW g q e_ y X (upT T 2 t) (min (sz + 1) 8) 3), (threeW g r x t)] := hD
    exact z_retv () [0, 1] hx hb hr hlocks hK hP hD hS trivial rfl rfl (rfl) (Nat.le_of_ble_eq_true rfl) (Nat.le_of_ble_eq_true rfl) dX3_add_41
  · refine lv_aload_n hx hb dX3_add_0 rfl (lv_at hl 0 rfl) ?_
    have hP : zP g [[(q, .inr (3, [.ref e_, vI ((sz : Nat) : Int), vI 3]))], [(e_, .inl (g.2 5, 8, .inr (.inr (.inr (.inr (rA [(y 0), (y 1), (y 2), (y 3), (y 4), (y 5), (y 6), (y 7)]))))))], (threeW g (y 0) (X 0) (T 0)), (threeW g (y 1) (X 1) (T 1)), (threeW g (y 2) (X 2) (T 2)), (threeW g (y 3) (X 3) (T 3)), (threeW g (y 4) (X 4) (T 4)), (threeW g (y 5) (X 5) (T 5)), (threeW g (y 6) (X 6) (T 6)), (threeW g (y 7) (X 7) (T 7)), (threeW g r x t)] s.heap := hP
    have hD : zD A [[(q, .inr (3, [.ref e_, vI ((sz : Nat) : Int), vI 3]))], [(e_, .inl (g.2 5, 8, .inr (.inr (.inr (.inr (rA [(y 0), (y 1), (y 2), (y 3), (y 4), (y 5), (y 6), (y 7)]))))))], (threeW g (y 0) (X 0) (T 0)), (threeW g (y 1) (X 1) (T 1)), (threeW g (y 2) (X 2) (T 2)), (threeW g (y 3) (X 3) (T 3)), (threeW g (y 4) (X 4) (T 4)), (threeW g (y 5) (X 5) (T 5)), (threeW g (y 6) (X 6) (T 6)), (threeW g (y 7) (X 7) (T 7)), (threeW g r x t)] := hD
    refine z_get hx hb hts hin3_ hown hK hP 0 rfl rfl 0 (by decide) (hts _ (List.mem_of_getElem? (i := 1) rfl)) rfl dX3_add_1 ?_
    refine lv_aload_n hx hb dX3_add_4 rfl (lv_at hl 0 rfl) ?_
    refine z_get hx hb hts hin3_ hown hK hP 0 rfl rfl 2 (by decide) (hts _ (List.mem_of_getElem? (i := 2) rfl)) rfl dX3_add_5 ?_
    refine z_aald hx hb hK hP 1 5 rfl rfl 3 rfl (by decide) (by decide) (y 3) rfl dX3_add_8 ?_
    refine lv_aload_n hx hb dX3_add_9 rfl (lv_at hl 1 rfl) ?_
    refine z_cVv (As := [.ref r]) (rest := []) ⟨hx, hb, hml, hown, hts⟩ hK hP hD hS hA [5, 10] [0, 1, 2, 3, 4, 6, 7, 8, 9] rfl rfl rfl (c_X8_become l g (y 3) (X 3) (T 3) r x t ht) (cwV 1 hts gX3_add_X8_become rfl rfl rfl (by decide +kernel) ⟨Nat.le_of_ble_eq_true rfl, Nat.le_of_ble_eq_true rfl⟩) 8 0 rfl rfl rfl (fun _ _ _ _ _ _ => trivial) (fun _ _ _ => trivial) rfl hl.1 (Nat.le_of_ble_eq_true rfl) rfl dX3_add_10 ⟨Nat.le_of_ble_eq_true rfl, Nat.le_of_ble_eq_true rfl⟩ (fun u_4 H locs hwu_4 hP hD hS => ?_)
    try dsimp only at hwu_4
    have hP : zP g [[(q, .inr (3, [.ref e_, vI ((sz : Nat) : Int), vI 3]))], [(e_, .inl (g.2 5, 8, .inr (.inr (.inr (.inr (rA [(y 0), (y 1), (y 2), (y 3), (y 4), (y 5), (y 6), (y 7)]))))))], (threeW g (y 0) (X 0) (T 0)), (threeW g (y 1) (X 1) (T 1)), (threeW g (y 2) (X 2) (T 2)), (threeW g (y 4) (X 4) (T 4)), (threeW g (y 5) (X 5) (T 5)), (threeW g (y 6) (X 6) (T 6)), (threeW g (y 7) (X 7) (T 7)), (threeW g (y 3) (X 3) t), (threeW g r x t)] H := hP
    have hD : zD A [[(q, .inr (3, [.ref e_, vI ((sz : Nat) : Int), vI 3]))], [(e_, .inl (g.2 5, 8, .inr (.inr (.inr (.inr (rA [(y 0), (y 1), (y 2), (y 3), (y 4), (y 5), (y 6), (y 7)]))))))], (threeW g (y 0) (X 0) (T 0)), (threeW g (y 1) (X 1) (T 1)), (threeW g (y 2) (X 2) (T 2)), (threeW g (y 4) (X 4) (T 4)), (threeW g (y 5) (X 5) (T 5)), (threeW g (y 6) (X 6) (T 6)), (threeW g (y 7) (X 7) (T 7)), (threeW g (y 3) (X 3) t), (threeW g r x t)] := hD
    refine lv_aload_n hx hb dX3_add_13 rfl (lv_at hl 0 rfl) ?_
    refine lv_aload_n hx hb dX3_add_14 rfl (lv_at hl 0 rfl) ?_
    refine z_get hx hb hts hin3_ hown hK hP 0 rfl rfl 2 (by decide) (hts _ (List.mem_of_getElem? (i := 2) rfl)) rfl dX3_add_15 ?_
    refine z_iconst hx hb dX3_add_18 rfl ?_
    refine z_iadd hx hb 4 rfl dX3_add_19 ?_
    refine z_bipush hx hb 8 dX3_add_20 rfl ?_
    refine z_irem hx hb 4 (by decide) (by decide) rfl dX3_add_22 ?_
    refine z_put hx hb hts hin3_ tyX3 tyX3_ok nmX3 hown hK hP hD hS 0 rfl rfl 2 (by decide) (hts _ (List.mem_of_getElem? (i := 2) rfl)) rfl rfl rfl (Nat.le_of_ble_eq_true rfl) dX3_add_23 [[(q, .inr (3, [.ref e_, vI ((sz : Nat) : Int), vI 4]))], [(e_, .inl (g.2 5, 8, .inr (.inr (.inr (.inr (rA [(y 0), (y 1), (y 2), (y 3), (y 4), (y 5), (y 6), (y 7)]))))))], (threeW g (y 0) (X 0) (T 0)), (threeW g (y 1) (X 1) (T 1)), (threeW g (y 2) (X 2) (T 2)), (threeW g (y 4) (X 4) (T 4)), (threeW g (y 5) (X 5) (T 5)), (threeW g (y 6) (X 6) (T 6)), (threeW g (y 7) (X 7) (T 7)), (threeW g (y 3) (X 3) t), (threeW g r x t)] rfl (fun H locs hP hD hS => ?_)
    refine lv_aload_n hx hb dX3_add_26 rfl (lv_at hl 0 rfl) ?_
    refine lv_aload_n hx hb dX3_add_27 rfl (lv_at hl 0 rfl) ?_
    refine z_get hx hb hts hin3_ hown hK hP 0 rfl rfl 1 (by decide) (hts _ (List.mem_of_getElem? (i := 3) rfl)) rfl dX3_add_28 ?_
    refine z_iconst hx hb dX3_add_31 rfl ?_
    refine z_iadd hx hb (((sz + 1) : Nat) : Int) (by omega) dX3_add_32 ?_
    refine z_bipush hx hb 8 dX3_add_33 rfl ?_
    refine va_mmin hx hb (hml.trans hl.1.symm) hown (hts _ (List.mem_of_getElem? (i := 4) rfl)) (hts _ (List.mem_of_getElem? (i := 5) rfl)) (hts _ (List.mem_of_getElem? (i := 6) rfl)) (hts _ (List.mem_of_getElem? (i := 7) rfl)) (Nat.le_of_ble_eq_true rfl) (Nat.le_of_ble_eq_true rfl) (Nat.le_of_ble_eq_true rfl) (Nat.le_of_ble_eq_true rfl) dX3_add_35 ?_
    refine z_asI (min (((sz + 1) : Nat) : Int) 8) (i_min (by omega) (by decide)) ?_
    refine z_toI (((min (sz + 1) 8) : Nat) : Int) (by omega) ?_
    refine z_put hx hb hts hin3_ tyX3 tyX3_ok nmX3 hown hK hP hD hS 0 rfl rfl 1 (by decide) (hts _ (List.mem_of_getElem? (i := 3) rfl)) rfl rfl rfl (Nat.le_of_ble_eq_true rfl) dX3_add_38 [[(q, .inr (3, [.ref e_, vI (((min (sz + 1) 8) : Nat) : Int), vI 4]))], [(e_, .inl (g.2 5, 8, .inr (.inr (.inr (.inr (rA [(y 0), (y 1), (y 2), (y 3), (y 4), (y 5), (y 6), (y 7)]))))))], (threeW g (y 0) (X 0) (T 0)), (threeW g (y 1) (X 1) (T 1)), (threeW g (y 2) (X 2) (T 2)), (threeW g (y 4) (X 4) (T 4)), (threeW g (y 5) (X 5) (T 5)), (threeW g (y 6) (X 6) (T 6)), (threeW g (y 7) (X 7) (T 7)), (threeW g (y 3) (X 3) t), (threeW g r x t)] rfl (fun H locs hP hD hS => ?_)
    have hP : zP g [[(q, .inr (3, [.ref e_, vI (((min (sz + 1) 8) : Nat) : Int), vI 4]))], [(e_, .inl (g.2 5, 8, .inr (.inr (.inr (.inr (rA [(y 0), (y 1), (y 2), (y 3), (y 4), (y 5), (y 6), (y 7)]))))))], (threeW g (y 0) (X 0) (T 0)), (threeW g (y 1) (X 1) (T 1)), (threeW g (y 2) (X 2) (T 2)), (threeW g (y 3) (X 3) t), (threeW g (y 4) (X 4) (T 4)), (threeW g (y 5) (X 5) (T 5)), (threeW g (y 6) (X 6) (T 6)), (threeW g (y 7) (X 7) (T 7)), (threeW g r x t)] H := zP_sub hP [0, 1, 2, 3, 4, 9, 5, 6, 7, 8, 10] rfl
    have hD : zD A [[(q, .inr (3, [.ref e_, vI (((min (sz + 1) 8) : Nat) : Int), vI 4]))], [(e_, .inl (g.2 5, 8, .inr (.inr (.inr (.inr (rA [(y 0), (y 1), (y 2), (y 3), (y 4), (y 5), (y 6), (y 7)]))))))], (threeW g (y 0) (X 0) (T 0)), (threeW g (y 1) (X 1) (T 1)), (threeW g (y 2) (X 2) (T 2)), (threeW g (y 3) (X 3) t), (threeW g (y 4) (X 4) (T 4)), (threeW g (y 5) (X 5) (T 5)), (threeW g (y 6) (X 6) (T 6)), (threeW g (y 7) (X 7) (T 7)), (threeW g r x t)] := zD_sub hD [0, 1, 2, 3, 4, 9, 5, 6, 7, 8, 10] rfl rfl
    have hP : zP g [(noteW g q e_ y X (upT T 3 t) (min (sz + 1) 8) 4), (threeW g r x t)] H := hP
    have hD : zD A [(noteW g q e_ y X (upT T 3 t) (min (sz + 1) 8) 4), (threeW g r x t)] := hD
    exact z_retv () [0, 1] hx hb hr hlocks hK hP hD hS trivial rfl rfl (rfl) (Nat.le_of_ble_eq_true rfl) (Nat.le_of_ble_eq_true rfl) dX3_add_41
  · refine lv_aload_n hx hb dX3_add_0 rfl (lv_at hl 0 rfl) ?_
    have hP : zP g [[(q, .inr (3, [.ref e_, vI ((sz : Nat) : Int), vI 4]))], [(e_, .inl (g.2 5, 8, .inr (.inr (.inr (.inr (rA [(y 0), (y 1), (y 2), (y 3), (y 4), (y 5), (y 6), (y 7)]))))))], (threeW g (y 0) (X 0) (T 0)), (threeW g (y 1) (X 1) (T 1)), (threeW g (y 2) (X 2) (T 2)), (threeW g (y 3) (X 3) (T 3)), (threeW g (y 4) (X 4) (T 4)), (threeW g (y 5) (X 5) (T 5)), (threeW g (y 6) (X 6) (T 6)), (threeW g (y 7) (X 7) (T 7)), (threeW g r x t)] s.heap := hP
    have hD : zD A [[(q, .inr (3, [.ref e_, vI ((sz : Nat) : Int), vI 4]))], [(e_, .inl (g.2 5, 8, .inr (.inr (.inr (.inr (rA [(y 0), (y 1), (y 2), (y 3), (y 4), (y 5), (y 6), (y 7)]))))))], (threeW g (y 0) (X 0) (T 0)), (threeW g (y 1) (X 1) (T 1)), (threeW g (y 2) (X 2) (T 2)), (threeW g (y 3) (X 3) (T 3)), (threeW g (y 4) (X 4) (T 4)), (threeW g (y 5) (X 5) (T 5)), (threeW g (y 6) (X 6) (T 6)), (threeW g (y 7) (X 7) (T 7)), (threeW g r x t)] := hD
    refine z_get hx hb hts hin3_ hown hK hP 0 rfl rfl 0 (by decide) (hts _ (List.mem_of_getElem? (i := 1) rfl)) rfl dX3_add_1 ?_
    refine lv_aload_n hx hb dX3_add_4 rfl (lv_at hl 0 rfl) ?_
    refine z_get hx hb hts hin3_ hown hK hP 0 rfl rfl 2 (by decide) (hts _ (List.mem_of_getElem? (i := 2) rfl)) rfl dX3_add_5 ?_
    refine z_aald hx hb hK hP 1 5 rfl rfl 4 rfl (by decide) (by decide) (y 4) rfl dX3_add_8 ?_
    refine lv_aload_n hx hb dX3_add_9 rfl (lv_at hl 1 rfl) ?_
    refine z_cVv (As := [.ref r]) (rest := []) ⟨hx, hb, hml, hown, hts⟩ hK hP hD hS hA [6, 10] [0, 1, 2, 3, 4, 5, 7, 8, 9] rfl rfl rfl (c_X8_become l g (y 4) (X 4) (T 4) r x t ht) (cwV 1 hts gX3_add_X8_become rfl rfl rfl (by decide +kernel) ⟨Nat.le_of_ble_eq_true rfl, Nat.le_of_ble_eq_true rfl⟩) 8 0 rfl rfl rfl (fun _ _ _ _ _ _ => trivial) (fun _ _ _ => trivial) rfl hl.1 (Nat.le_of_ble_eq_true rfl) rfl dX3_add_10 ⟨Nat.le_of_ble_eq_true rfl, Nat.le_of_ble_eq_true rfl⟩ (fun u_5 H locs hwu_5 hP hD hS => ?_)
    try dsimp only at hwu_5
    have hP : zP g [[(q, .inr (3, [.ref e_, vI ((sz : Nat) : Int), vI 4]))], [(e_, .inl (g.2 5, 8, .inr (.inr (.inr (.inr (rA [(y 0), (y 1), (y 2), (y 3), (y 4), (y 5), (y 6), (y 7)]))))))], (threeW g (y 0) (X 0) (T 0)), (threeW g (y 1) (X 1) (T 1)), (threeW g (y 2) (X 2) (T 2)), (threeW g (y 3) (X 3) (T 3)), (threeW g (y 5) (X 5) (T 5)), (threeW g (y 6) (X 6) (T 6)), (threeW g (y 7) (X 7) (T 7)), (threeW g (y 4) (X 4) t), (threeW g r x t)] H := hP
    have hD : zD A [[(q, .inr (3, [.ref e_, vI ((sz : Nat) : Int), vI 4]))], [(e_, .inl (g.2 5, 8, .inr (.inr (.inr (.inr (rA [(y 0), (y 1), (y 2), (y 3), (y 4), (y 5), (y 6), (y 7)]))))))], (threeW g (y 0) (X 0) (T 0)), (threeW g (y 1) (X 1) (T 1)), (threeW g (y 2) (X 2) (T 2)), (threeW g (y 3) (X 3) (T 3)), (threeW g (y 5) (X 5) (T 5)), (threeW g (y 6) (X 6) (T 6)), (threeW g (y 7) (X 7) (T 7)), (threeW g (y 4) (X 4) t), (threeW g r x t)] := hD
    refine lv_aload_n hx hb dX3_add_13 rfl (lv_at hl 0 rfl) ?_
    refine lv_aload_n hx hb dX3_add_14 rfl (lv_at hl 0 rfl) ?_
    refine z_get hx hb hts hin3_ hown hK hP 0 rfl rfl 2 (by decide) (hts _ (List.mem_of_getElem? (i := 2) rfl)) rfl dX3_add_15 ?_
    refine z_iconst hx hb dX3_add_18 rfl ?_
    refine z_iadd hx hb 5 rfl dX3_add_19 ?_
    refine z_bipush hx hb 8 dX3_add_20 rfl ?_
    refine z_irem hx hb 5 (by decide) (by decide) rfl dX3_add_22 ?_
    refine z_put hx hb hts hin3_ tyX3 tyX3_ok nmX3 hown hK hP hD hS 0 rfl rfl 2 (by decide) (hts _ (List.mem_of_getElem? (i := 2) rfl)) rfl rfl rfl (Nat.le_of_ble_eq_true rfl) dX3_add_23 [[(q, .inr (3, [.ref e_, vI ((sz : Nat) : Int), vI 5]))], [(e_, .inl (g.2 5, 8, .inr (.inr (.inr (.inr (rA [(y 0), (y 1), (y 2), (y 3), (y 4), (y 5), (y 6), (y 7)]))))))], (threeW g (y 0) (X 0) (T 0)), (threeW g (y 1) (X 1) (T 1)), (threeW g (y 2) (X 2) (T 2)), (threeW g (y 3) (X 3) (T 3)), (threeW g (y 5) (X 5) (T 5)), (threeW g (y 6) (X 6) (T 6)), (threeW g (y 7) (X 7) (T 7)), (threeW g (y 4) (X 4) t), (threeW g r x t)] rfl (fun H locs hP hD hS => ?_)
    refine lv_aload_n hx hb dX3_add_26 rfl (lv_at hl 0 rfl) ?_
    refine lv_aload_n hx hb dX3_add_27 rfl (lv_at hl 0 rfl) ?_
    refine z_get hx hb hts hin3_ hown hK hP 0 rfl rfl 1 (by decide) (hts _ (List.mem_of_getElem? (i := 3) rfl)) rfl dX3_add_28 ?_
    refine z_iconst hx hb dX3_add_31 rfl ?_
    refine z_iadd hx hb (((sz + 1) : Nat) : Int) (by omega) dX3_add_32 ?_
    refine z_bipush hx hb 8 dX3_add_33 rfl ?_
    refine va_mmin hx hb (hml.trans hl.1.symm) hown (hts _ (List.mem_of_getElem? (i := 4) rfl)) (hts _ (List.mem_of_getElem? (i := 5) rfl)) (hts _ (List.mem_of_getElem? (i := 6) rfl)) (hts _ (List.mem_of_getElem? (i := 7) rfl)) (Nat.le_of_ble_eq_true rfl) (Nat.le_of_ble_eq_true rfl) (Nat.le_of_ble_eq_true rfl) (Nat.le_of_ble_eq_true rfl) dX3_add_35 ?_
    refine z_asI (min (((sz + 1) : Nat) : Int) 8) (i_min (by omega) (by decide)) ?_
    refine z_toI (((min (sz + 1) 8) : Nat) : Int) (by omega) ?_
    refine z_put hx hb hts hin3_ tyX3 tyX3_ok nmX3 hown hK hP hD hS 0 rfl rfl 1 (by decide) (hts _ (List.mem_of_getElem? (i := 3) rfl)) rfl rfl rfl (Nat.le_of_ble_eq_true rfl) dX3_add_38 [[(q, .inr (3, [.ref e_, vI (((min (sz + 1) 8) : Nat) : Int), vI 5]))], [(e_, .inl (g.2 5, 8, .inr (.inr (.inr (.inr (rA [(y 0), (y 1), (y 2), (y 3), (y 4), (y 5), (y 6), (y 7)]))))))], (threeW g (y 0) (X 0) (T 0)), (threeW g (y 1) (X 1) (T 1)), (threeW g (y 2) (X 2) (T 2)), (threeW g (y 3) (X 3) (T 3)), (threeW g (y 5) (X 5) (T 5)), (threeW g (y 6) (X 6) (T 6)), (threeW g (y 7) (X 7) (T 7)), (threeW g (y 4) (X 4) t), (threeW g r x t)] rfl (fun H locs hP hD hS => ?_)
    have hP : zP g [[(q, .inr (3, [.ref e_, vI (((min (sz + 1) 8) : Nat) : Int), vI 5]))], [(e_, .inl (g.2 5, 8, .inr (.inr (.inr (.inr (rA [(y 0), (y 1), (y 2), (y 3), (y 4), (y 5), (y 6), (y 7)]))))))], (threeW g (y 0) (X 0) (T 0)), (threeW g (y 1) (X 1) (T 1)), (threeW g (y 2) (X 2) (T 2)), (threeW g (y 3) (X 3) (T 3)), (threeW g (y 4) (X 4) t), (threeW g (y 5) (X 5) (T 5)), (threeW g (y 6) (X 6) (T 6)), (threeW g (y 7) (X 7) (T 7)), (threeW g r x t)] H := zP_sub hP [0, 1, 2, 3, 4, 5, 9, 6, 7, 8, 10] rfl
    have hD : zD A [[(q, .inr (3, [.ref e_, vI (((min (sz + 1) 8) : Nat) : Int), vI 5]))], [(e_, .inl (g.2 5, 8, .inr (.inr (.inr (.inr (rA [(y 0), (y 1), (y 2), (y 3), (y 4), (y 5), (y 6), (y 7)]))))))], (threeW g (y 0) (X 0) (T 0)), (threeW g (y 1) (X 1) (T 1)), (threeW g (y 2) (X 2) (T 2)), (threeW g (y 3) (X 3) (T 3)), (threeW g (y 4) (X 4) t), (threeW g (y 5) (X 5) (T 5)), (threeW g (y 6) (X 6) (T 6)), (threeW g (y 7) (X 7) (T 7)), (threeW g r x t)] := zD_sub hD [0, 1, 2, 3, 4, 5, 9, 6, 7, 8, 10] rfl rfl
    have hP : zP g [(noteW g q e_ y X (upT T 4 t) (min (sz + 1) 8) 5), (threeW g r x t)] H := hP
    have hD : zD A [(noteW g q e_ y X (upT T 4 t) (min (sz + 1) 8) 5), (threeW g r x t)] := hD
    exact z_retv () [0, 1] hx hb hr hlocks hK hP hD hS trivial rfl rfl (rfl) (Nat.le_of_ble_eq_true rfl) (Nat.le_of_ble_eq_true rfl) dX3_add_41
  · refine lv_aload_n hx hb dX3_add_0 rfl (lv_at hl 0 rfl) ?_
    have hP : zP g [[(q, .inr (3, [.ref e_, vI ((sz : Nat) : Int), vI 5]))], [(e_, .inl (g.2 5, 8, .inr (.inr (.inr (.inr (rA [(y 0), (y 1), (y 2), (y 3), (y 4), (y 5), (y 6), (y 7)]))))))], (threeW g (y 0) (X 0) (T 0)), (threeW g (y 1) (X 1) (T 1)), (threeW g (y 2) (X 2) (T 2)), (threeW g (y 3) (X 3) (T 3)), (threeW g (y 4) (X 4) (T 4)), (threeW g (y 5) (X 5) (T 5)), (threeW g (y 6) (X 6) (T 6)), (threeW g (y 7) (X 7) (T 7)), (threeW g r x t)] s.heap := hP
    have hD : zD A [[(q, .inr (3, [.ref e_, vI ((sz : Nat) : Int), vI 5]))], [(e_, .inl (g.2 5, 8, .inr (.inr (.inr (.inr (rA [(y 0), (y 1), (y 2), (y 3), (y 4), (y 5), (y 6), (y 7)]))))))], (threeW g (y 0) (X 0) (T 0)), (threeW g (y 1) (X 1) (T 1)), (threeW g (y 2) (X 2) (T 2)), (threeW g (y 3) (X 3) (T 3)), (threeW g (y 4) (X 4) (T 4)), (threeW g (y 5) (X 5) (T 5)), (threeW g (y 6) (X 6) (T 6)), (threeW g (y 7) (X 7) (T 7)), (threeW g r x t)] := hD
    refine z_get hx hb hts hin3_ hown hK hP 0 rfl rfl 0 (by decide) (hts _ (List.mem_of_getElem? (i := 1) rfl)) rfl dX3_add_1 ?_
    refine lv_aload_n hx hb dX3_add_4 rfl (lv_at hl 0 rfl) ?_
    refine z_get hx hb hts hin3_ hown hK hP 0 rfl rfl 2 (by decide) (hts _ (List.mem_of_getElem? (i := 2) rfl)) rfl dX3_add_5 ?_
    refine z_aald hx hb hK hP 1 5 rfl rfl 5 rfl (by decide) (by decide) (y 5) rfl dX3_add_8 ?_
    refine lv_aload_n hx hb dX3_add_9 rfl (lv_at hl 1 rfl) ?_
    refine z_cVv (As := [.ref r]) (rest := []) ⟨hx, hb, hml, hown, hts⟩ hK hP hD hS hA [7, 10] [0, 1, 2, 3, 4, 5, 6, 8, 9] rfl rfl rfl (c_X8_become l g (y 5) (X 5) (T 5) r x t ht) (cwV 1 hts gX3_add_X8_become rfl rfl rfl (by decide +kernel) ⟨Nat.le_of_ble_eq_true rfl, Nat.le_of_ble_eq_true rfl⟩) 8 0 rfl rfl rfl (fun _ _ _ _ _ _ => trivial) (fun _ _ _ => trivial) rfl hl.1 (Nat.le_of_ble_eq_true rfl) rfl dX3_add_10 ⟨Nat.le_of_ble_eq_true rfl, Nat.le_of_ble_eq_true rfl⟩ (fun u_6 H locs hwu_6 hP hD hS => ?_)
    try dsimp only at hwu_6
    have hP : zP g [[(q, .inr (3, [.ref e_, vI ((sz : Nat) : Int), vI 5]))], [(e_, .inl (g.2 5, 8, .inr (.inr (.inr (.inr (rA [(y 0), (y 1), (y 2), (y 3), (y 4), (y 5), (y 6), (y 7)]))))))], (threeW g (y 0) (X 0) (T 0)), (threeW g (y 1) (X 1) (T 1)), (threeW g (y 2) (X 2) (T 2)), (threeW g (y 3) (X 3) (T 3)), (threeW g (y 4) (X 4) (T 4)), (threeW g (y 6) (X 6) (T 6)), (threeW g (y 7) (X 7) (T 7)), (threeW g (y 5) (X 5) t), (threeW g r x t)] H := hP
    have hD : zD A [[(q, .inr (3, [.ref e_, vI ((sz : Nat) : Int), vI 5]))], [(e_, .inl (g.2 5, 8, .inr (.inr (.inr (.inr (rA [(y 0), (y 1), (y 2), (y 3), (y 4), (y 5), (y 6), (y 7)]))))))], (threeW g (y 0) (X 0) (T 0)), (threeW g (y 1) (X 1) (T 1)), (threeW g (y 2) (X 2) (T 2)), (threeW g (y 3) (X 3) (T 3)), (threeW g (y 4) (X 4) (T 4)), (threeW g (y 6) (X 6) (T 6)), (threeW g (y 7) (X 7) (T 7)), (threeW g (y 5) (X 5) t), (threeW g r x t)] := hD
    refine lv_aload_n hx hb dX3_add_13 rfl (lv_at hl 0 rfl) ?_
    refine lv_aload_n hx hb dX3_add_14 rfl (lv_at hl 0 rfl) ?_
    refine z_get hx hb hts hin3_ hown hK hP 0 rfl rfl 2 (by decide) (hts _ (List.mem_of_getElem? (i := 2) rfl)) rfl dX3_add_15 ?_
    refine z_iconst hx hb dX3_add_18 rfl ?_
    refine z_iadd hx hb 6 rfl dX3_add_19 ?_
    refine z_bipush hx hb 8 dX3_add_20 rfl ?_
    refine z_irem hx hb 6 (by decide) (by decide) rfl dX3_add_22 ?_
    refine z_put hx hb hts hin3_ tyX3 tyX3_ok nmX3 hown hK hP hD hS 0 rfl rfl 2 (by decide) (hts _ (List.mem_of_getElem? (i := 2) rfl)) rfl rfl rfl (Nat.le_of_ble_eq_true rfl) dX3_add_23 [[(q, .inr (3, [.ref e_, vI ((sz : Nat) : Int), vI 6]))], [(e_, .inl (g.2 5, 8, .inr (.inr (.inr (.inr (rA [(y 0), (y 1), (y 2), (y 3), (y 4), (y 5), (y 6), (y 7)]))))))], (threeW g (y 0) (X 0) (T 0)), (threeW g (y 1) (X 1) (T 1)), (threeW g (y 2) (X 2) (T 2)), (threeW g (y 3) (X 3) (T 3)), (threeW g (y 4) (X 4) (T 4)), (threeW g (y 6) (X 6) (T 6)), (threeW g (y 7) (X 7) (T 7)), (threeW g (y 5) (X 5) t), (threeW g r x t)] rfl (fun H locs hP hD hS => ?_)
    refine lv_aload_n hx hb dX3_add_26 rfl (lv_at hl 0 rfl) ?_
    refine lv_aload_n hx hb dX3_add_27 rfl (lv_at hl 0 rfl) ?_
    refine z_get hx hb hts hin3_ hown hK hP 0 rfl rfl 1 (by decide) (hts _ (List.mem_of_getElem? (i := 3) rfl)) rfl dX3_add_28 ?_
    refine z_iconst hx hb dX3_add_31 rfl ?_
    refine z_iadd hx hb (((sz + 1) : Nat) : Int) (by omega) dX3_add_32 ?_
    refine z_bipush hx hb 8 dX3_add_33 rfl ?_
    refine va_mmin hx hb (hml.trans hl.1.symm) hown (hts _ (List.mem_of_getElem? (i := 4) rfl)) (hts _ (List.mem_of_getElem? (i := 5) rfl)) (hts _ (List.mem_of_getElem? (i := 6) rfl)) (hts _ (List.mem_of_getElem? (i := 7) rfl)) (Nat.le_of_ble_eq_true rfl) (Nat.le_of_ble_eq_true rfl) (Nat.le_of_ble_eq_true rfl) (Nat.le_of_ble_eq_true rfl) dX3_add_35 ?_
    refine z_asI (min (((sz + 1) : Nat) : Int) 8) (i_min (by omega) (by decide)) ?_
    refine z_toI (((min (sz + 1) 8) : Nat) : Int) (by omega) ?_
    refine z_put hx hb hts hin3_ tyX3 tyX3_ok nmX3 hown hK hP hD hS 0 rfl rfl 1 (by decide) (hts _ (List.mem_of_getElem? (i := 3) rfl)) rfl rfl rfl (Nat.le_of_ble_eq_true rfl) dX3_add_38 [[(q, .inr (3, [.ref e_, vI (((min (sz + 1) 8) : Nat) : Int), vI 6]))], [(e_, .inl (g.2 5, 8, .inr (.inr (.inr (.inr (rA [(y 0), (y 1), (y 2), (y 3), (y 4), (y 5), (y 6), (y 7)]))))))], (threeW g (y 0) (X 0) (T 0)), (threeW g (y 1) (X 1) (T 1)), (threeW g (y 2) (X 2) (T 2)), (threeW g (y 3) (X 3) (T 3)), (threeW g (y 4) (X 4) (T 4)), (threeW g (y 6) (X 6) (T 6)), (threeW g (y 7) (X 7) (T 7)), (threeW g (y 5) (X 5) t), (threeW g r x t)] rfl (fun H locs hP hD hS => ?_)
    have hP : zP g [[(q, .inr (3, [.ref e_, vI (((min (sz + 1) 8) : Nat) : Int), vI 6]))], [(e_, .inl (g.2 5, 8, .inr (.inr (.inr (.inr (rA [(y 0), (y 1), (y 2), (y 3), (y 4), (y 5), (y 6), (y 7)]))))))], (threeW g (y 0) (X 0) (T 0)), (threeW g (y 1) (X 1) (T 1)), (threeW g (y 2) (X 2) (T 2)), (threeW g (y 3) (X 3) (T 3)), (threeW g (y 4) (X 4) (T 4)), (threeW g (y 5) (X 5) t), (threeW g (y 6) (X 6) (T 6)), (threeW g (y 7) (X 7) (T 7)), (threeW g r x t)] H := zP_sub hP [0, 1, 2, 3, 4, 5, 6, 9, 7, 8, 10] rfl
    have hD : zD A [[(q, .inr (3, [.ref e_, vI (((min (sz + 1) 8) : Nat) : Int), vI 6]))], [(e_, .inl (g.2 5, 8, .inr (.inr (.inr (.inr (rA [(y 0), (y 1), (y 2), (y 3), (y 4), (y 5), (y 6), (y 7)]))))))], (threeW g (y 0) (X 0) (T 0)), (threeW g (y 1) (X 1) (T 1)), (threeW g (y 2) (X 2) (T 2)), (threeW g (y 3) (X 3) (T 3)), (threeW g (y 4) (X 4) (T 4)), (threeW g (y 5) (X 5) t), (threeW g (y 6) (X 6) (T 6)), (threeW g (y 7) (X 7) (T 7)), (threeW g r x t)] := zD_sub hD [0, 1, 2, 3, 4, 5, 6, 9, 7, 8, 10] rfl rfl
    have hP : zP g [(noteW g q e_ y X (upT T 5 t) (min (sz + 1) 8) 6), (threeW g r x t)] H := hP
    have hD : zD A [(noteW g q e_ y X (upT T 5 t) (min (sz + 1) 8) 6), (threeW g r x t)] := hD
    exact z_retv () [0, 1] hx hb hr hlocks hK hP hD hS trivial rfl rfl (rfl) (Nat.le_of_ble_eq_true rfl) (Nat.le_of_ble_eq_true rfl) dX3_add_41
  · refine lv_aload_n hx hb dX3_add_0 rfl (lv_at hl 0 rfl) ?_
    have hP : zP g [[(q, .inr (3, [.ref e_, vI ((sz : Nat) : Int), vI 6]))], [(e_, .inl (g.2 5, 8, .inr (.inr (.inr (.inr (rA [(y 0), (y 1), (y 2), (y 3), (y 4), (y 5), (y 6), (y 7)]))))))], (threeW g (y 0) (X 0) (T 0)), (threeW g (y 1) (X 1) (T 1)), (threeW g (y 2) (X 2) (T 2)), (threeW g (y 3) (X 3) (T 3)), (threeW g (y 4) (X 4) (T 4)), (threeW g (y 5) (X 5) (T 5)), (threeW g (y 6) (X 6) (T 6)), (threeW g (y 7) (X 7) (T 7)), (threeW g r x t)] s.heap := hP
    have hD : zD A [[(q, .inr (3, [.ref e_, vI ((sz : Nat) : Int), vI 6]))], [(e_, .inl (g.2 5, 8, .inr (.inr (.inr (.inr (rA [(y 0), (y 1), (y 2), (y 3), (y 4), (y 5), (y 6), (y 7)]))))))], (threeW g (y 0) (X 0) (T 0)), (threeW g (y 1) (X 1) (T 1)), (threeW g (y 2) (X 2) (T 2)), (threeW g (y 3) (X 3) (T 3)), (threeW g (y 4) (X 4) (T 4)), (threeW g (y 5) (X 5) (T 5)), (threeW g (y 6) (X 6) (T 6)), (threeW g (y 7) (X 7) (T 7)), (threeW g r x t)] := hD
    refine z_get hx hb hts hin3_ hown hK hP 0 rfl rfl 0 (by decide) (hts _ (List.mem_of_getElem? (i := 1) rfl)) rfl dX3_add_1 ?_
    refine lv_aload_n hx hb dX3_add_4 rfl (lv_at hl 0 rfl) ?_
    refine z_get hx hb hts hin3_ hown hK hP 0 rfl rfl 2 (by decide) (hts _ (List.mem_of_getElem? (i := 2) rfl)) rfl dX3_add_5 ?_
    refine z_aald hx hb hK hP 1 5 rfl rfl 6 rfl (by decide) (by decide) (y 6) rfl dX3_add_8 ?_
    refine lv_aload_n hx hb dX3_add_9 rfl (lv_at hl 1 rfl) ?_
    refine z_cVv (As := [.ref r]) (rest := []) ⟨hx, hb, hml, hown, hts⟩ hK hP hD hS hA [8, 10] [0, 1, 2, 3, 4, 5, 6, 7, 9] rfl rfl rfl (c_X8_become l g (y 6) (X 6) (T 6) r x t ht) (cwV 1 hts gX3_add_X8_become rfl rfl rfl (by decide +kernel) ⟨Nat.le_of_ble_eq_true rfl, Nat.le_of_ble_eq_true rfl⟩) 8 0 rfl rfl rfl (fun _ _ _ _ _ _ => trivial) (fun _ _ _ => trivial) rfl hl.1 (Nat.le_of_ble_eq_true rfl) rfl dX3_add_10 ⟨Nat.le_of_ble_eq_true rfl, Nat.le_of_ble_eq_true rfl⟩ (fun u_7 H locs hwu_7 hP hD hS => ?_)
    try dsimp only at hwu_7
    have hP : zP g [[(q, .inr (3, [.ref e_, vI ((sz : Nat) : Int), vI 6]))], [(e_, .inl (g.2 5, 8, .inr (.inr (.inr (.inr (rA [(y 0), (y 1), (y 2), (y 3), (y 4), (y 5), (y 6), (y 7)]))))))], (threeW g (y 0) (X 0) (T 0)), (threeW g (y 1) (X 1) (T 1)), (threeW g (y 2) (X 2) (T 2)), (threeW g (y 3) (X 3) (T 3)), (threeW g (y 4) (X 4) (T 4)), (threeW g (y 5) (X 5) (T 5)), (threeW g (y 7) (X 7) (T 7)), (threeW g (y 6) (X 6) t), (threeW g r x t)] H := hP
    have hD : zD A [[(q, .inr (3, [.ref e_, vI ((sz : Nat) : Int), vI 6]))], [(e_, .inl (g.2 5, 8, .inr (.inr (.inr (.inr (rA [(y 0), (y 1), (y 2), (y 3), (y 4), (y 5), (y 6), (y 7)]))))))], (threeW g (y 0) (X 0) (T 0)), (threeW g (y 1) (X 1) (T 1)), (threeW g (y 2) (X 2) (T 2)), (threeW g (y 3) (X 3) (T 3)), (threeW g (y 4) (X 4) (T 4)), (threeW g (y 5) (X 5) (T 5)), (threeW g (y 7) (X 7) (T 7)), (threeW g (y 6) (X 6) t), (threeW g r x t)] := hD
    refine lv_aload_n hx hb dX3_add_13 rfl (lv_at hl 0 rfl) ?_
    refine lv_aload_n hx hb dX3_add_14 rfl (lv_at hl 0 rfl) ?_
    refine z_get hx hb hts hin3_ hown hK hP 0 rfl rfl 2 (by decide) (hts _ (List.mem_of_getElem? (i := 2) rfl)) rfl dX3_add_15 ?_
    refine z_iconst hx hb dX3_add_18 rfl ?_
    refine z_iadd hx hb 7 rfl dX3_add_19 ?_
    refine z_bipush hx hb 8 dX3_add_20 rfl ?_
    refine z_irem hx hb 7 (by decide) (by decide) rfl dX3_add_22 ?_
    refine z_put hx hb hts hin3_ tyX3 tyX3_ok nmX3 hown hK hP hD hS 0 rfl rfl 2 (by decide) (hts _ (List.mem_of_getElem? (i := 2) rfl)) rfl rfl rfl (Nat.le_of_ble_eq_true rfl) dX3_add_23 [[(q, .inr (3, [.ref e_, vI ((sz : Nat) : Int), vI 7]))], [(e_, .inl (g.2 5, 8, .inr (.inr (.inr (.inr (rA [(y 0), (y 1), (y 2), (y 3), (y 4), (y 5), (y 6), (y 7)]))))))], (threeW g (y 0) (X 0) (T 0)), (threeW g (y 1) (X 1) (T 1)), (threeW g (y 2) (X 2) (T 2)), (threeW g (y 3) (X 3) (T 3)), (threeW g (y 4) (X 4) (T 4)), (threeW g (y 5) (X 5) (T 5)), (threeW g (y 7) (X 7) (T 7)), (threeW g (y 6) (X 6) t), (threeW g r x t)] rfl (fun H locs hP hD hS => ?_)
    refine lv_aload_n hx hb dX3_add_26 rfl (lv_at hl 0 rfl) ?_
    refine lv_aload_n hx hb dX3_add_27 rfl (lv_at hl 0 rfl) ?_
    refine z_get hx hb hts hin3_ hown hK hP 0 rfl rfl 1 (by decide) (hts _ (List.mem_of_getElem? (i := 3) rfl)) rfl dX3_add_28 ?_
    refine z_iconst hx hb dX3_add_31 rfl ?_
    refine z_iadd hx hb (((sz + 1) : Nat) : Int) (by omega) dX3_add_32 ?_
    refine z_bipush hx hb 8 dX3_add_33 rfl ?_
    refine va_mmin hx hb (hml.trans hl.1.symm) hown (hts _ (List.mem_of_getElem? (i := 4) rfl)) (hts _ (List.mem_of_getElem? (i := 5) rfl)) (hts _ (List.mem_of_getElem? (i := 6) rfl)) (hts _ (List.mem_of_getElem? (i := 7) rfl)) (Nat.le_of_ble_eq_true rfl) (Nat.le_of_ble_eq_true rfl) (Nat.le_of_ble_eq_true rfl) (Nat.le_of_ble_eq_true rfl) dX3_add_35 ?_
    refine z_asI (min (((sz + 1) : Nat) : Int) 8) (i_min (by omega) (by decide)) ?_
    refine z_toI (((min (sz + 1) 8) : Nat) : Int) (by omega) ?_
    refine z_put hx hb hts hin3_ tyX3 tyX3_ok nmX3 hown hK hP hD hS 0 rfl rfl 1 (by decide) (hts _ (List.mem_of_getElem? (i := 3) rfl)) rfl rfl rfl (Nat.le_of_ble_eq_true rfl) dX3_add_38 [[(q, .inr (3, [.ref e_, vI (((min (sz + 1) 8) : Nat) : Int), vI 7]))], [(e_, .inl (g.2 5, 8, .inr (.inr (.inr (.inr (rA [(y 0), (y 1), (y 2), (y 3), (y 4), (y 5), (y 6), (y 7)]))))))], (threeW g (y 0) (X 0) (T 0)), (threeW g (y 1) (X 1) (T 1)), (threeW g (y 2) (X 2) (T 2)), (threeW g (y 3) (X 3) (T 3)), (threeW g (y 4) (X 4) (T 4)), (threeW g (y 5) (X 5) (T 5)), (threeW g (y 7) (X 7) (T 7)), (threeW g (y 6) (X 6) t), (threeW g r x t)] rfl (fun H locs hP hD hS => ?_)
    have hP : zP g [[(q, .inr (3, [.ref e_, vI (((min (sz + 1) 8) : Nat) : Int), vI 7]))], [(e_, .inl (g.2 5, 8, .inr (.inr (.inr (.inr (rA [(y 0), (y 1), (y 2), (y 3), (y 4), (y 5), (y 6), (y 7)]))))))], (threeW g (y 0) (X 0) (T 0)), (threeW g (y 1) (X 1) (T 1)), (threeW g (y 2) (X 2) (T 2)), (threeW g (y 3) (X 3) (T 3)), (threeW g (y 4) (X 4) (T 4)), (threeW g (y 5) (X 5) (T 5)), (threeW g (y 6) (X 6) t), (threeW g (y 7) (X 7) (T 7)), (threeW g r x t)] H := zP_sub hP [0, 1, 2, 3, 4, 5, 6, 7, 9, 8, 10] rfl
    have hD : zD A [[(q, .inr (3, [.ref e_, vI (((min (sz + 1) 8) : Nat) : Int), vI 7]))], [(e_, .inl (g.2 5, 8, .inr (.inr (.inr (.inr (rA [(y 0), (y 1), (y 2), (y 3), (y 4), (y 5), (y 6), (y 7)]))))))], (threeW g (y 0) (X 0) (T 0)), (threeW g (y 1) (X 1) (T 1)), (threeW g (y 2) (X 2) (T 2)), (threeW g (y 3) (X 3) (T 3)), (threeW g (y 4) (X 4) (T 4)), (threeW g (y 5) (X 5) (T 5)), (threeW g (y 6) (X 6) t), (threeW g (y 7) (X 7) (T 7)), (threeW g r x t)] := zD_sub hD [0, 1, 2, 3, 4, 5, 6, 7, 9, 8, 10] rfl rfl
    have hP : zP g [(noteW g q e_ y X (upT T 6 t) (min (sz + 1) 8) 7), (threeW g r x t)] H := hP
    have hD : zD A [(noteW g q e_ y X (upT T 6 t) (min (sz + 1) 8) 7), (threeW g r x t)] := hD
    exact z_retv () [0, 1] hx hb hr hlocks hK hP hD hS trivial rfl rfl (rfl) (Nat.le_of_ble_eq_true rfl) (Nat.le_of_ble_eq_true rfl) dX3_add_41
  · refine lv_aload_n hx hb dX3_add_0 rfl (lv_at hl 0 rfl) ?_
    have hP : zP g [[(q, .inr (3, [.ref e_, vI ((sz : Nat) : Int), vI 7]))], [(e_, .inl (g.2 5, 8, .inr (.inr (.inr (.inr (rA [(y 0), (y 1), (y 2), (y 3), (y 4), (y 5), (y 6), (y 7)]))))))], (threeW g (y 0) (X 0) (T 0)), (threeW g (y 1) (X 1) (T 1)), (threeW g (y 2) (X 2) (T 2)), (threeW g (y 3) (X 3) (T 3)), (threeW g (y 4) (X 4) (T 4)), (threeW g (y 5) (X 5) (T 5)), (threeW g (y 6) (X 6) (T 6)), (threeW g (y 7) (X 7) (T 7)), (threeW g r x t)] s.heap := hP
    have hD : zD A [[(q, .inr (3, [.ref e_, vI ((sz : Nat) : Int), vI 7]))], [(e_, .inl (g.2 5, 8, .inr (.inr (.inr (.inr (rA [(y 0), (y 1), (y 2), (y 3), (y 4), (y 5), (y 6), (y 7)]))))))], (threeW g (y 0) (X 0) (T 0)), (threeW g (y 1) (X 1) (T 1)), (threeW g (y 2) (X 2) (T 2)), (threeW g (y 3) (X 3) (T 3)), (threeW g (y 4) (X 4) (T 4)), (threeW g (y 5) (X 5) (T 5)), (threeW g (y 6) (X 6) (T 6)), (threeW g (y 7) (X 7) (T 7)), (threeW g r x t)] := hD
    refine z_get hx hb hts hin3_ hown hK hP 0 rfl rfl 0 (by decide) (hts _ (List.mem_of_getElem? (i := 1) rfl)) rfl dX3_add_1 ?_
    refine lv_aload_n hx hb dX3_add_4 rfl (lv_at hl 0 rfl) ?_
    refine z_get hx hb hts hin3_ hown hK hP 0 rfl rfl 2 (by decide) (hts _ (List.mem_of_getElem? (i := 2) rfl)) rfl dX3_add_5 ?_
    refine z_aald hx hb hK hP 1 5 rfl rfl 7 rfl (by decide) (by decide) (y 7) rfl dX3_add_8 ?_
    refine lv_aload_n hx hb dX3_add_9 rfl (lv_at hl 1 rfl) ?_
    refine z_cVv (As := [.ref r]) (rest := []) ⟨hx, hb, hml, hown, hts⟩ hK hP hD hS hA [9, 10] [0, 1, 2, 3, 4, 5, 6, 7, 8] rfl rfl rfl (c_X8_become l g (y 7) (X 7) (T 7) r x t ht) (cwV 1 hts gX3_add_X8_become rfl rfl rfl (by decide +kernel) ⟨Nat.le_of_ble_eq_true rfl, Nat.le_of_ble_eq_true rfl⟩) 8 0 rfl rfl rfl (fun _ _ _ _ _ _ => trivial) (fun _ _ _ => trivial) rfl hl.1 (Nat.le_of_ble_eq_true rfl) rfl dX3_add_10 ⟨Nat.le_of_ble_eq_true rfl, Nat.le_of_ble_eq_true rfl⟩ (fun u_8 H locs hwu_8 hP hD hS => ?_)
    try dsimp only at hwu_8
    have hP : zP g [[(q, .inr (3, [.ref e_, vI ((sz : Nat) : Int), vI 7]))], [(e_, .inl (g.2 5, 8, .inr (.inr (.inr (.inr (rA [(y 0), (y 1), (y 2), (y 3), (y 4), (y 5), (y 6), (y 7)]))))))], (threeW g (y 0) (X 0) (T 0)), (threeW g (y 1) (X 1) (T 1)), (threeW g (y 2) (X 2) (T 2)), (threeW g (y 3) (X 3) (T 3)), (threeW g (y 4) (X 4) (T 4)), (threeW g (y 5) (X 5) (T 5)), (threeW g (y 6) (X 6) (T 6)), (threeW g (y 7) (X 7) t), (threeW g r x t)] H := hP
    have hD : zD A [[(q, .inr (3, [.ref e_, vI ((sz : Nat) : Int), vI 7]))], [(e_, .inl (g.2 5, 8, .inr (.inr (.inr (.inr (rA [(y 0), (y 1), (y 2), (y 3), (y 4), (y 5), (y 6), (y 7)]))))))], (threeW g (y 0) (X 0) (T 0)), (threeW g (y 1) (X 1) (T 1)), (threeW g (y 2) (X 2) (T 2)), (threeW g (y 3) (X 3) (T 3)), (threeW g (y 4) (X 4) (T 4)), (threeW g (y 5) (X 5) (T 5)), (threeW g (y 6) (X 6) (T 6)), (threeW g (y 7) (X 7) t), (threeW g r x t)] := hD
    refine lv_aload_n hx hb dX3_add_13 rfl (lv_at hl 0 rfl) ?_
    refine lv_aload_n hx hb dX3_add_14 rfl (lv_at hl 0 rfl) ?_
    refine z_get hx hb hts hin3_ hown hK hP 0 rfl rfl 2 (by decide) (hts _ (List.mem_of_getElem? (i := 2) rfl)) rfl dX3_add_15 ?_
    refine z_iconst hx hb dX3_add_18 rfl ?_
    refine z_iadd hx hb 8 rfl dX3_add_19 ?_
    refine z_bipush hx hb 8 dX3_add_20 rfl ?_
    refine z_irem hx hb 0 (by decide) (by decide) rfl dX3_add_22 ?_
    refine z_put hx hb hts hin3_ tyX3 tyX3_ok nmX3 hown hK hP hD hS 0 rfl rfl 2 (by decide) (hts _ (List.mem_of_getElem? (i := 2) rfl)) rfl rfl rfl (Nat.le_of_ble_eq_true rfl) dX3_add_23 [[(q, .inr (3, [.ref e_, vI ((sz : Nat) : Int), vI 0]))], [(e_, .inl (g.2 5, 8, .inr (.inr (.inr (.inr (rA [(y 0), (y 1), (y 2), (y 3), (y 4), (y 5), (y 6), (y 7)]))))))], (threeW g (y 0) (X 0) (T 0)), (threeW g (y 1) (X 1) (T 1)), (threeW g (y 2) (X 2) (T 2)), (threeW g (y 3) (X 3) (T 3)), (threeW g (y 4) (X 4) (T 4)), (threeW g (y 5) (X 5) (T 5)), (threeW g (y 6) (X 6) (T 6)), (threeW g (y 7) (X 7) t), (threeW g r x t)] rfl (fun H locs hP hD hS => ?_)
    refine lv_aload_n hx hb dX3_add_26 rfl (lv_at hl 0 rfl) ?_
    refine lv_aload_n hx hb dX3_add_27 rfl (lv_at hl 0 rfl) ?_
    refine z_get hx hb hts hin3_ hown hK hP 0 rfl rfl 1 (by decide) (hts _ (List.mem_of_getElem? (i := 3) rfl)) rfl dX3_add_28 ?_
    refine z_iconst hx hb dX3_add_31 rfl ?_
    refine z_iadd hx hb (((sz + 1) : Nat) : Int) (by omega) dX3_add_32 ?_
    refine z_bipush hx hb 8 dX3_add_33 rfl ?_
    refine va_mmin hx hb (hml.trans hl.1.symm) hown (hts _ (List.mem_of_getElem? (i := 4) rfl)) (hts _ (List.mem_of_getElem? (i := 5) rfl)) (hts _ (List.mem_of_getElem? (i := 6) rfl)) (hts _ (List.mem_of_getElem? (i := 7) rfl)) (Nat.le_of_ble_eq_true rfl) (Nat.le_of_ble_eq_true rfl) (Nat.le_of_ble_eq_true rfl) (Nat.le_of_ble_eq_true rfl) dX3_add_35 ?_
    refine z_asI (min (((sz + 1) : Nat) : Int) 8) (i_min (by omega) (by decide)) ?_
    refine z_toI (((min (sz + 1) 8) : Nat) : Int) (by omega) ?_
    refine z_put hx hb hts hin3_ tyX3 tyX3_ok nmX3 hown hK hP hD hS 0 rfl rfl 1 (by decide) (hts _ (List.mem_of_getElem? (i := 3) rfl)) rfl rfl rfl (Nat.le_of_ble_eq_true rfl) dX3_add_38 [[(q, .inr (3, [.ref e_, vI (((min (sz + 1) 8) : Nat) : Int), vI 0]))], [(e_, .inl (g.2 5, 8, .inr (.inr (.inr (.inr (rA [(y 0), (y 1), (y 2), (y 3), (y 4), (y 5), (y 6), (y 7)]))))))], (threeW g (y 0) (X 0) (T 0)), (threeW g (y 1) (X 1) (T 1)), (threeW g (y 2) (X 2) (T 2)), (threeW g (y 3) (X 3) (T 3)), (threeW g (y 4) (X 4) (T 4)), (threeW g (y 5) (X 5) (T 5)), (threeW g (y 6) (X 6) (T 6)), (threeW g (y 7) (X 7) t), (threeW g r x t)] rfl (fun H locs hP hD hS => ?_)
    have hP : zP g [(noteW g q e_ y X (upT T 7 t) (min (sz + 1) 8) 0), (threeW g r x t)] H := hP
    have hD : zD A [(noteW g q e_ y X (upT T 7 t) (min (sz + 1) 8) 0), (threeW g r x t)] := hD
    exact z_retv () [0, 1] hx hb hr hlocks hK hP hD hS trivial rfl rfl (rfl) (Nat.le_of_ble_eq_true rfl) (Nat.le_of_ble_eq_true rfl) dX3_add_41

set_option maxHeartbeats 4000000 in
set_option maxRecDepth 100000 in
theorem c_X3_giveBack0 (l : Launch) (g : zG) (q : Nat) (e_ : Nat) (y : Nat → Nat) (X : Nat → Nat → Nat) (T : Nat → Nat → FO) (sz : Nat) (nx : Nat) (r : Nat) (x : Nat → Nat) (t : Nat → FO) (hsz : sz = 0) : zMet l g yX3_giveBack wsX3_giveBack 0 0 0 [.ref q, .ref r] zX0 [(noteW g q e_ y X T sz nx), (threeW g r x t)] (qi g (fun (_ : Unit) => 0) (fun (_ : Unit) => True) (fun (_ : Unit) => [(noteW g q e_ y X T sz nx), (threeW g r x t)])) := by
  refine z_ent (cc := cX3_giveBack) (maxL := 2) (ret := (some .boolean)) (by decide) rfl (Nat.le_of_ble_eq_true rfl) ?_
  intro p e s m below meth c A ls hx hb hr hml hown hts hlocks hin0 hA hK hP hD hS hXX hl
  have hown : s.vm.findClass RX3 = some m.cls := hown
  have hin3_ : ∀ w ∈ wsX30, w ∈ wsX3_giveBack := zw_in [25, 26, 27] rfl
  have hl : lv_has ls 2 [(0, .ref q), (1, .ref r)] := hl
  have hP : zP g [[(q, .inr (3, [.ref e_, vI ((sz : Nat) : Int), vI ((nx : Nat) : Int)]))], [(e_, .inl (g.2 5, 8, .inr (.inr (.inr (.inr (rA [(y 0), (y 1), (y 2), (y 3), (y 4), (y 5), (y 6), (y 7)]))))))], (threeW g (y 0) (X 0) (T 0)), (threeW g (y 1) (X 1) (T 1)), (threeW g (y 2) (X 2) (T 2)), (threeW g (y 3) (X 3) (T 3)), (threeW g (y 4) (X 4) (T 4)), (threeW g (y 5) (X 5) (T 5)), (threeW g (y 6) (X 6) (T 6)), (threeW g (y 7) (X 7) (T 7)), (threeW g r x t)] s.heap := hP
  have hD : zD A [[(q, .inr (3, [.ref e_, vI ((sz : Nat) : Int), vI ((nx : Nat) : Int)]))], [(e_, .inl (g.2 5, 8, .inr (.inr (.inr (.inr (rA [(y 0), (y 1), (y 2), (y 3), (y 4), (y 5), (y 6), (y 7)]))))))], (threeW g (y 0) (X 0) (T 0)), (threeW g (y 1) (X 1) (T 1)), (threeW g (y 2) (X 2) (T 2)), (threeW g (y 3) (X 3) (T 3)), (threeW g (y 4) (X 4) (T 4)), (threeW g (y 5) (X 5) (T 5)), (threeW g (y 6) (X 6) (T 6)), (threeW g (y 7) (X 7) (T 7)), (threeW g r x t)] := hD
  refine lv_aload_n hx hb dX3_giveBack_0 rfl (lv_at hl 0 rfl) ?_
  refine z_get hx hb hts hin3_ hown hK hP 0 rfl rfl 1 (by decide) (hts _ (List.mem_of_getElem? (i := 1) rfl)) rfl dX3_giveBack_1 ?_
  refine z_if_ne (tgt := 9) hx hb (by omega) dX3_giveBack_4 (by decide) (fun c1 => False.elim (by omega)) (fun c1 => ?_)
  refine z_iconst hx hb dX3_giveBack_7 rfl ?_
  have hP : zP g [(noteW g q e_ y X T sz nx), (threeW g r x t)] s.heap := hP
  have hD : zD A [(noteW g q e_ y X T sz nx), (threeW g r x t)] := hD
  exact z_reti () [0, 1] hx hb hr (nar_z (by first | decide | omega)) hlocks hK hP hD hS (rfl) trivial rfl rfl (rfl) (Nat.le_of_ble_eq_true rfl) (Nat.le_of_ble_eq_true rfl) dX3_giveBack_8

set_option maxHeartbeats 4000000 in
set_option maxRecDepth 100000 in
theorem c_X3_giveBack (l : Launch) (g : zG) (q : Nat) (e_ : Nat) (y : Nat → Nat) (X : Nat → Nat → Nat) (T : Nat → Nat → FO) (sz : Nat) (nx : Nat) (r : Nat) (x : Nat → Nat) (t : Nat → FO) (hsz : 1 ≤ sz ∧ sz ≤ 8) (hnx : nx < 8) (hT : ∀ i k, fok (T i k)) : zMet l g yX3_giveBack wsX3_giveBack 3 0 0 [.ref q, .ref r] zX0 [(noteW g q e_ y X T sz nx), (threeW g r x t)] (qi g (fun (_ : Unit) => 1) (fun (_ : Unit) => True) (fun (_ : Unit) => [(noteW g q e_ y X T (sz - 1) ((nx + 7) % 8)), (threeW g r x (T ((nx + 7) % 8)))])) := by
  refine z_ent (cc := cX3_giveBack) (maxL := 2) (ret := (some .boolean)) (by decide) rfl (Nat.le_of_ble_eq_true rfl) ?_
  intro p e s m below meth c A ls hx hb hr hml hown hts hlocks hin0 hA hK hP hD hS hXX hl
  have hown : s.vm.findClass RX3 = some m.cls := hown
  have hin3_ : ∀ w ∈ wsX30, w ∈ wsX3_giveBack := zw_in [25, 26, 27] rfl
  have hl : lv_has ls 2 [(0, .ref q), (1, .ref r)] := hl
  rcases (show nx = 0 ∨ nx = 1 ∨ nx = 2 ∨ nx = 3 ∨ nx = 4 ∨ nx = 5 ∨ nx = 6 ∨ nx = 7 by omega) with rfl | rfl | rfl | rfl | rfl | rfl | rfl | rfl
  · refine lv_aload_n hx hb dX3_giveBack_0 rfl (lv_at hl 0 rfl) ?_
    have hP : zP g [[(q, .inr (3, [.ref e_, vI ((sz : Nat) : Int), vI 0]))], [(e_, .inl (g.2 5, 8, .inr (.inr (.inr (.inr (rA [(y 0), (y 1), (y 2), (y 3), (y 4), (y 5), (y 6), (y 7)]))))))], (threeW g (y 0) (X 0) (T 0)), (threeW g (y 1) (X 1) (T 1)), (threeW g (y 2) (X 2) (T 2)), (threeW g (y 3) (X 3) (T 3)), (threeW g (y 4) (X 4) (T 4)), (threeW g (y 5) (X 5) (T 5)), (threeW g (y 6) (X 6) (T 6)), (threeW g (y 7) (X 7) (T 7)), (threeW g r x t)] s.heap := hP
    have hD : zD A [[(q, .inr (3, [.ref e_, vI ((sz : Nat) : Int), vI 0]))], [(e_, .inl (g.2 5, 8, .inr (.inr (.inr (.inr (rA [(y 0), (y 1), (y 2), (y 3), (y 4), (y 5), (y 6), (y 7)]))))))], (threeW g (y 0) (X 0) (T 0)), (threeW g (y 1) (X 1) (T 1)), (threeW g (y 2) (X 2) (T 2)), (threeW g (y 3) (X 3) (T 3)), (threeW g (y 4) (X 4) (T 4)), (threeW g (y 5) (X 5) (T 5)), (threeW g (y 6) (X 6) (T 6)), (threeW g (y 7) (X 7) (T 7)), (threeW g r x t)] := hD
    refine z_get hx hb hts hin3_ hown hK hP 0 rfl rfl 1 (by decide) (hts _ (List.mem_of_getElem? (i := 1) rfl)) rfl dX3_giveBack_1 ?_
    refine z_if_ne (tgt := 9) hx hb (by omega) dX3_giveBack_4 (by decide) (fun c1 => ?_) (fun c1 => False.elim (by omega))
    refine lv_aload_n hx hb dX3_giveBack_9 rfl (lv_at hl 0 rfl) ?_
    refine lv_aload_n hx hb dX3_giveBack_10 rfl (lv_at hl 0 rfl) ?_
    refine z_get hx hb hts hin3_ hown hK hP 0 rfl rfl 2 (by decide) (hts _ (List.mem_of_getElem? (i := 2) rfl)) rfl dX3_giveBack_11 ?_
    refine z_bipush hx hb 8 dX3_giveBack_14 rfl ?_
    refine z_iadd hx hb 8 rfl dX3_giveBack_16 ?_
    refine z_iconst hx hb dX3_giveBack_17 rfl ?_
    refine z_isub hx hb 7 rfl dX3_giveBack_18 ?_
    refine z_bipush hx hb 8 dX3_giveBack_19 rfl ?_
    refine z_irem hx hb 7 (by decide) (by decide) rfl dX3_giveBack_21 ?_
    refine z_put hx hb hts hin3_ tyX3 tyX3_ok nmX3 hown hK hP hD hS 0 rfl rfl 2 (by decide) (hts _ (List.mem_of_getElem? (i := 2) rfl)) rfl rfl rfl (Nat.le_of_ble_eq_true rfl) dX3_giveBack_22 [[(q, .inr (3, [.ref e_, vI ((sz : Nat) : Int), vI 7]))], [(e_, .inl (g.2 5, 8, .inr (.inr (.inr (.inr (rA [(y 0), (y 1), (y 2), (y 3), (y 4), (y 5), (y 6), (y 7)]))))))], (threeW g (y 0) (X 0) (T 0)), (threeW g (y 1) (X 1) (T 1)), (threeW g (y 2) (X 2) (T 2)), (threeW g (y 3) (X 3) (T 3)), (threeW g (y 4) (X 4) (T 4)), (threeW g (y 5) (X 5) (T 5)), (threeW g (y 6) (X 6) (T 6)), (threeW g (y 7) (X 7) (T 7)), (threeW g r x t)] rfl (fun H locs hP hD hS => ?_)
    refine lv_aload_n hx hb dX3_giveBack_25 rfl (lv_at hl 0 rfl) ?_
    refine lv_dup hx hb dX3_giveBack_26 rfl ?_
    refine z_get hx hb hts hin3_ hown hK hP 0 rfl rfl 1 (by decide) (hts _ (List.mem_of_getElem? (i := 1) rfl)) rfl dX3_giveBack_27 ?_
    refine z_iconst hx hb dX3_giveBack_30 rfl ?_
    refine z_isub hx hb (((sz : Nat) : Int) - 1) rfl dX3_giveBack_31 ?_
    refine z_toI (((sz - 1) : Nat) : Int) (by omega) ?_
    refine z_put hx hb hts hin3_ tyX3 tyX3_ok nmX3 hown hK hP hD hS 0 rfl rfl 1 (by decide) (hts _ (List.mem_of_getElem? (i := 1) rfl)) rfl rfl rfl (Nat.le_of_ble_eq_true rfl) dX3_giveBack_32 [[(q, .inr (3, [.ref e_, vI (((sz - 1) : Nat) : Int), vI 7]))], [(e_, .inl (g.2 5, 8, .inr (.inr (.inr (.inr (rA [(y 0), (y 1), (y 2), (y 3), (y 4), (y 5), (y 6), (y 7)]))))))], (threeW g (y 0) (X 0) (T 0)), (threeW g (y 1) (X 1) (T 1)), (threeW g (y 2) (X 2) (T 2)), (threeW g (y 3) (X 3) (T 3)), (threeW g (y 4) (X 4) (T 4)), (threeW g (y 5) (X 5) (T 5)), (threeW g (y 6) (X 6) (T 6)), (threeW g (y 7) (X 7) (T 7)), (threeW g r x t)] rfl (fun H locs hP hD hS => ?_)
    refine lv_aload_n hx hb dX3_giveBack_35 rfl (lv_at hl 1 rfl) ?_
    refine lv_aload_n hx hb dX3_giveBack_36 rfl (lv_at hl 0 rfl) ?_
    refine z_get hx hb hts hin3_ hown hK hP 0 rfl rfl 0 (by decide) (hts _ (List.mem_of_getElem? (i := 3) rfl)) rfl dX3_giveBack_37 ?_
    refine lv_aload_n hx hb dX3_giveBack_40 rfl (lv_at hl 0 rfl) ?_
    refine z_get hx hb hts hin3_ hown hK hP 0 rfl rfl 2 (by decide) (hts _ (List.mem_of_getElem? (i := 2) rfl)) rfl dX3_giveBack_41 ?_
    refine z_aald hx hb hK hP 1 5 rfl rfl 7 rfl (by decide) (by decide) (y 7) rfl dX3_giveBack_44 ?_
    refine z_cVv (As := [.ref (y 7)]) (rest := []) ⟨hx, hb, hml, hown, hts⟩ hK hP hD hS hA [10, 9] [0, 1, 2, 3, 4, 5, 6, 7, 8] rfl rfl rfl (c_X8_become l g r x t (y 7) (X 7) (T 7) (hT _)) (cwV 1 hts gX3_giveBack_X8_become rfl rfl rfl (by decide +kernel) ⟨Nat.le_of_ble_eq_true rfl, Nat.le_of_ble_eq_true rfl⟩) 8 0 rfl rfl rfl (fun _ _ _ _ _ _ => trivial) (fun _ _ _ => trivial) rfl hl.1 (Nat.le_of_ble_eq_true rfl) rfl dX3_giveBack_45 ⟨Nat.le_of_ble_eq_true rfl, Nat.le_of_ble_eq_true rfl⟩ (fun u_2 H locs hwu_2 hP hD hS => ?_)
    try dsimp only at hwu_2
    have hP : zP g [[(q, .inr (3, [.ref e_, vI (((sz - 1) : Nat) : Int), vI 7]))], [(e_, .inl (g.2 5, 8, .inr (.inr (.inr (.inr (rA [(y 0), (y 1), (y 2), (y 3), (y 4), (y 5), (y 6), (y 7)]))))))], (threeW g (y 0) (X 0) (T 0)), (threeW g (y 1) (X 1) (T 1)), (threeW g (y 2) (X 2) (T 2)), (threeW g (y 3) (X 3) (T 3)), (threeW g (y 4) (X 4) (T 4)), (threeW g (y 5) (X 5) (T 5)), (threeW g (y 6) (X 6) (T 6)), (threeW g r x (T 7)), (threeW g (y 7) (X 7) (T 7))] H := hP
    have hD : zD A [[(q, .inr (3, [.ref e_, vI (((sz - 1) : Nat) : Int), vI 7]))], [(e_, .inl (g.2 5, 8, .inr (.inr (.inr (.inr (rA [(y 0), (y 1), (y 2), (y 3), (y 4), (y 5), (y 6), (y 7)]))))))], (threeW g (y 0) (X 0) (T 0)), (threeW g (y 1) (X 1) (T 1)), (threeW g (y 2) (X 2) (T 2)), (threeW g (y 3) (X 3) (T 3)), (threeW g (y 4) (X 4) (T 4)), (threeW g (y 5) (X 5) (T 5)), (threeW g (y 6) (X 6) (T 6)), (threeW g r x (T 7)), (threeW g (y 7) (X 7) (T 7))] := hD
    refine z_iconst hx hb dX3_giveBack_48 rfl ?_
    have hP : zP g [[(q, .inr (3, [.ref e_, vI (((sz - 1) : Nat) : Int), vI 7]))], [(e_, .inl (g.2 5, 8, .inr (.inr (.inr (.inr (rA [(y 0), (y 1), (y 2), (y 3), (y 4), (y 5), (y 6), (y 7)]))))))], (threeW g (y 0) (X 0) (T 0)), (threeW g (y 1) (X 1) (T 1)), (threeW g (y 2) (X 2) (T 2)), (threeW g (y 3) (X 3) (T 3)), (threeW g (y 4) (X 4) (T 4)), (threeW g (y 5) (X 5) (T 5)), (threeW g (y 6) (X 6) (T 6)), (threeW g (y 7) (X 7) (T 7)), (threeW g r x (T 7))] H := zP_sub hP [0, 1, 2, 3, 4, 5, 6, 7, 8, 10, 9] rfl
    have hD : zD A [[(q, .inr (3, [.ref e_, vI (((sz - 1) : Nat) : Int), vI 7]))], [(e_, .inl (g.2 5, 8, .inr (.inr (.inr (.inr (rA [(y 0), (y 1), (y 2), (y 3), (y 4), (y 5), (y 6), (y 7)]))))))], (threeW g (y 0) (X 0) (T 0)), (threeW g (y 1) (X 1) (T 1)), (threeW g (y 2) (X 2) (T 2)), (threeW g (y 3) (X 3) (T 3)), (threeW g (y 4) (X 4) (T 4)), (threeW g (y 5) (X 5) (T 5)), (threeW g (y 6) (X 6) (T 6)), (threeW g (y 7) (X 7) (T 7)), (threeW g r x (T 7))] := zD_sub hD [0, 1, 2, 3, 4, 5, 6, 7, 8, 10, 9] rfl rfl
    have hP : zP g [(noteW g q e_ y X T (sz - 1) 7), (threeW g r x (T 7))] H := hP
    have hD : zD A [(noteW g q e_ y X T (sz - 1) 7), (threeW g r x (T 7))] := hD
    exact z_reti () [0, 1] hx hb hr (nar_z (by first | decide | omega)) hlocks hK hP hD hS (rfl) trivial rfl rfl (rfl) (Nat.le_of_ble_eq_true rfl) (Nat.le_of_ble_eq_true rfl) dX3_giveBack_49
  · refine lv_aload_n hx hb dX3_giveBack_0 rfl (lv_at hl 0 rfl) ?_
    have hP : zP g [[(q, .inr (3, [.ref e_, vI ((sz : Nat) : Int), vI 1]))], [(e_, .inl (g.2 5, 8, .inr (.inr (.inr (.inr (rA [(y 0), (y 1), (y 2), (y 3), (y 4), (y 5), (y 6), (y 7)]))))))], (threeW g (y 0) (X 0) (T 0)), (threeW g (y 1) (X 1) (T 1)), (threeW g (y 2) (X 2) (T 2)), (threeW g (y 3) (X 3) (T 3)), (threeW g (y 4) (X 4) (T 4)), (threeW g (y 5) (X 5) (T 5)), (threeW g (y 6) (X 6) (T 6)), (threeW g (y 7) (X 7) (T 7)), (threeW g r x t)] s.heap := hP
    have hD : zD A [[(q, .inr (3, [.ref e_, vI ((sz : Nat) : Int), vI 1]))], [(e_, .inl (g.2 5, 8, .inr (.inr (.inr (.inr (rA [(y 0), (y 1), (y 2), (y 3), (y 4), (y 5), (y 6), (y 7)]))))))], (threeW g (y 0) (X 0) (T 0)), (threeW g (y 1) (X 1) (T 1)), (threeW g (y 2) (X 2) (T 2)), (threeW g (y 3) (X 3) (T 3)), (threeW g (y 4) (X 4) (T 4)), (threeW g (y 5) (X 5) (T 5)), (threeW g (y 6) (X 6) (T 6)), (threeW g (y 7) (X 7) (T 7)), (threeW g r x t)] := hD
    refine z_get hx hb hts hin3_ hown hK hP 0 rfl rfl 1 (by decide) (hts _ (List.mem_of_getElem? (i := 1) rfl)) rfl dX3_giveBack_1 ?_
    refine z_if_ne (tgt := 9) hx hb (by omega) dX3_giveBack_4 (by decide) (fun c3 => ?_) (fun c3 => False.elim (by omega))
    refine lv_aload_n hx hb dX3_giveBack_9 rfl (lv_at hl 0 rfl) ?_
    refine lv_aload_n hx hb dX3_giveBack_10 rfl (lv_at hl 0 rfl) ?_
    refine z_get hx hb hts hin3_ hown hK hP 0 rfl rfl 2 (by decide) (hts _ (List.mem_of_getElem? (i := 2) rfl)) rfl dX3_giveBack_11 ?_
    refine z_bipush hx hb 8 dX3_giveBack_14 rfl ?_
    refine z_iadd hx hb 9 rfl dX3_giveBack_16 ?_
    refine z_iconst hx hb dX3_giveBack_17 rfl ?_
    refine z_isub hx hb 8 rfl dX3_giveBack_18 ?_
    refine z_bipush hx hb 8 dX3_giveBack_19 rfl ?_
    refine z_irem hx hb 0 (by decide) (by decide) rfl dX3_giveBack_21 ?_
    refine z_put hx hb hts hin3_ tyX3 tyX3_ok nmX3 hown hK hP hD hS 0 rfl rfl 2 (by decide) (hts _ (List.mem_of_getElem? (i := 2) rfl)) rfl rfl rfl (Nat.le_of_ble_eq_true rfl) dX3_giveBack_22 [[(q, .inr (3, [.ref e_, vI ((sz : Nat) : Int), vI 0]))], [(e_, .inl (g.2 5, 8, .inr (.inr (.inr (.inr (rA [(y 0), (y 1), (y 2), (y 3), (y 4), (y 5), (y 6), (y 7)]))))))], (threeW g (y 0) (X 0) (T 0)), (threeW g (y 1) (X 1) (T 1)), (threeW g (y 2) (X 2) (T 2)), (threeW g (y 3) (X 3) (T 3)), (threeW g (y 4) (X 4) (T 4)), (threeW g (y 5) (X 5) (T 5)), (threeW g (y 6) (X 6) (T 6)), (threeW g (y 7) (X 7) (T 7)), (threeW g r x t)] rfl (fun H locs hP hD hS => ?_)
    refine lv_aload_n hx hb dX3_giveBack_25 rfl (lv_at hl 0 rfl) ?_
    refine lv_dup hx hb dX3_giveBack_26 rfl ?_
    refine z_get hx hb hts hin3_ hown hK hP 0 rfl rfl 1 (by decide) (hts _ (List.mem_of_getElem? (i := 1) rfl)) rfl dX3_giveBack_27 ?_
    refine z_iconst hx hb dX3_giveBack_30 rfl ?_
    refine z_isub hx hb (((sz : Nat) : Int) - 1) rfl dX3_giveBack_31 ?_
    refine z_toI (((sz - 1) : Nat) : Int) (by omega) ?_
    refine z_put hx hb hts hin3_ tyX3 tyX3_ok nmX3 hown hK hP hD hS 0 rfl rfl 1 (by decide) (hts _ (List.mem_of_getElem? (i := 1) rfl)) rfl rfl rfl (Nat.le_of_ble_eq_true rfl) dX3_giveBack_32 [[(q, .inr (3, [.ref e_, vI (((sz - 1) : Nat) : Int), vI 0]))], [(e_, .inl (g.2 5, 8, .inr (.inr (.inr (.inr (rA [(y 0), (y 1), (y 2), (y 3), (y 4), (y 5), (y 6), (y 7)]))))))], (threeW g (y 0) (X 0) (T 0)), (threeW g (y 1) (X 1) (T 1)), (threeW g (y 2) (X 2) (T 2)), (threeW g (y 3) (X 3) (T 3)), (threeW g (y 4) (X 4) (T 4)), (threeW g (y 5) (X 5) (T 5)), (threeW g (y 6) (X 6) (T 6)), (threeW g (y 7) (X 7) (T 7)), (threeW g r x t)] rfl (fun H locs hP hD hS => ?_)
    refine lv_aload_n hx hb dX3_giveBack_35 rfl (lv_at hl 1 rfl) ?_
    refine lv_aload_n hx hb dX3_giveBack_36 rfl (lv_at hl 0 rfl) ?_
    refine z_get hx hb hts hin3_ hown hK hP 0 rfl rfl 0 (by decide) (hts _ (List.mem_of_getElem? (i := 3) rfl)) rfl dX3_giveBack_37 ?_
    refine lv_aload_n hx hb dX3_giveBack_40 rfl (lv_at hl 0 rfl) ?_
    refine z_get hx hb hts hin3_ hown hK hP 0 rfl rfl 2 (by decide) (hts _ (List.mem_of_getElem? (i := 2) rfl)) rfl dX3_giveBack_41 ?_
    refine z_aald hx hb hK hP 1 5 rfl rfl 0 rfl (by decide) (by decide) (y 0) rfl dX3_giveBack_44 ?_
    refine z_cVv (As := [.ref (y 0)]) (rest := []) ⟨hx, hb, hml, hown, hts⟩ hK hP hD hS hA [10, 2] [0, 1, 3, 4, 5, 6, 7, 8, 9] rfl rfl rfl (c_X8_become l g r x t (y 0) (X 0) (T 0) (hT _)) (cwV 1 hts gX3_giveBack_X8_become rfl rfl rfl (by decide +kernel) ⟨Nat.le_of_ble_eq_true rfl, Nat.le_of_ble_eq_true rfl⟩) 8 0 rfl rfl rfl (fun _ _ _ _ _ _ => trivial) (fun _ _ _ => trivial) rfl hl.1 (Nat.le_of_ble_eq_true rfl) rfl dX3_giveBack_45 ⟨Nat.le_of_ble_eq_true rfl, Nat.le_of_ble_eq_true rfl⟩ (fun u_4 H locs hwu_4 hP hD hS => ?_)
    try dsimp only at hwu_4
    have hP : zP g [[(q, .inr (3, [.ref e_, vI (((sz - 1) : Nat) : Int), vI 0]))], [(e_, .inl (g.2 5, 8, .inr (.inr (.inr (.inr (rA [(y 0), (y 1), (y 2), (y 3), (y 4), (y 5), (y 6), (y 7)]))))))], (threeW g (y 1) (X 1) (T 1)), (threeW g (y 2) (X 2) (T 2)), (threeW g (y 3) (X 3) (T 3)), (threeW g (y 4) (X 4) (T 4)), (threeW g (y 5) (X 5) (T 5)), (threeW g (y 6) (X 6) (T 6)), (threeW g (y 7) (X 7) (T 7)), (threeW g r x (T 0)), (threeW g (y 0) (X 0) (T 0))] H := hP
    have hD : zD A [[(q, .inr (3, [.ref e_, vI (((sz - 1) : Nat) : Int), vI 0]))], [(e_, .inl (g.2 5, 8, .inr (.inr (.inr (.inr (rA [(y 0), (y 1), (y 2), (y 3), (y 4), (y 5), (y 6), (y 7)]))))))], (threeW g (y 1) (X 1) (T 1)), (threeW g (y 2) (X 2) (T 2)), (threeW g (y 3) (X 3) (T 3)), (threeW g (y 4) (X 4) (T 4)), (threeW g (y 5) (X 5) (T 5)), (threeW g (y 6) (X 6) (T 6)), (threeW g (y 7) (X 7) (T 7)), (threeW g r x (T 0)), (threeW g (y 0) (X 0) (T 0))] := hD
    refine z_iconst hx hb dX3_giveBack_48 rfl ?_
    have hP : zP g [[(q, .inr (3, [.ref e_, vI (((sz - 1) : Nat) : Int), vI 0]))], [(e_, .inl (g.2 5, 8, .inr (.inr (.inr (.inr (rA [(y 0), (y 1), (y 2), (y 3), (y 4), (y 5), (y 6), (y 7)]))))))], (threeW g (y 0) (X 0) (T 0)), (threeW g (y 1) (X 1) (T 1)), (threeW g (y 2) (X 2) (T 2)), (threeW g (y 3) (X 3) (T 3)), (threeW g (y 4) (X 4) (T 4)), (threeW g (y 5) (X 5) (T 5)), (threeW g (y 6) (X 6) (T 6)), (threeW g (y 7) (X 7) (T 7)), (threeW g r x (T 0))] H := zP_sub hP [0, 1, 10, 2, 3, 4, 5, 6, 7, 8, 9] rfl
    have hD : zD A [[(q, .inr (3, [.ref e_, vI (((sz - 1) : Nat) : Int), vI 0]))], [(e_, .inl (g.2 5, 8, .inr (.inr (.inr (.inr (rA [(y 0), (y 1), (y 2), (y 3), (y 4), (y 5), (y 6), (y 7)]))))))], (threeW g (y 0) (X 0) (T 0)), (threeW g (y 1) (X 1) (T 1)), (threeW g (y 2) (X 2) (T 2)), (threeW g (y 3) (X 3) (T 3)), (threeW g (y 4) (X 4) (T 4)), (threeW g (y 5) (X 5) (T 5)), (threeW g (y 6) (X 6) (T 6)), (threeW g (y 7) (X 7) (T 7)), (threeW g r x (T 0))] := zD_sub hD [0, 1, 10, 2, 3, 4, 5, 6, 7, 8, 9] rfl rfl
    have hP : zP g [(noteW g q e_ y X T (sz - 1) 0), (threeW g r x (T 0))] H := hP
    have hD : zD A [(noteW g q e_ y X T (sz - 1) 0), (threeW g r x (T 0))] := hD
    exact z_reti () [0, 1] hx hb hr (nar_z (by first | decide | omega)) hlocks hK hP hD hS (rfl) trivial rfl rfl (rfl) (Nat.le_of_ble_eq_true rfl) (Nat.le_of_ble_eq_true rfl) dX3_giveBack_49
  · refine lv_aload_n hx hb dX3_giveBack_0 rfl (lv_at hl 0 rfl) ?_
    have hP : zP g [[(q, .inr (3, [.ref e_, vI ((sz : Nat) : Int), vI 2]))], [(e_, .inl (g.2 5, 8, .inr (.inr (.inr (.inr (rA [(y 0), (y 1), (y 2), (y 3), (y 4), (y 5), (y 6), (y 7)]))))))], (threeW g (y 0) (X 0) (T 0)), (threeW g (y 1) (X 1) (T 1)), (threeW g (y 2) (X 2) (T 2)), (threeW g (y 3) (X 3) (T 3)), (threeW g (y 4) (X 4) (T 4)), (threeW g (y 5) (X 5) (T 5)), (threeW g (y 6) (X 6) (T 6)), (threeW g (y 7) (X 7) (T 7)), (threeW g r x t)] s.heap := hP
    have hD : zD A [[(q, .inr (3, [.ref e_, vI ((sz : Nat) : Int), vI 2]))], [(e_, .inl (g.2 5, 8, .inr (.inr (.inr (.inr (rA [(y 0), (y 1), (y 2), (y 3), (y 4), (y 5), (y 6), (y 7)]))))))], (threeW g (y 0) (X 0) (T 0)), (threeW g (y 1) (X 1) (T 1)), (threeW g (y 2) (X 2) (T 2)), (threeW g (y 3) (X 3) (T 3)), (threeW g (y 4) (X 4) (T 4)), (threeW g (y 5) (X 5) (T 5)), (threeW g (y 6) (X 6) (T 6)), (threeW g (y 7) (X 7) (T 7)), (threeW g r x t)] := hD
    refine z_get hx hb hts hin3_ hown hK hP 0 rfl rfl 1 (by decide) (hts _ (List.mem_of_getElem? (i := 1) rfl)) rfl dX3_giveBack_1 ?_
    refine z_if_ne (tgt := 9) hx hb (by omega) dX3_giveBack_4 (by decide) (fun c5 => ?_) (fun c5 => False.elim (by omega))
    refine lv_aload_n hx hb dX3_giveBack_9 rfl (lv_at hl 0 rfl) ?_
    refine lv_aload_n hx hb dX3_giveBack_10 rfl (lv_at hl 0 rfl) ?_
    refine z_get hx hb hts hin3_ hown hK hP 0 rfl rfl 2 (by decide) (hts _ (List.mem_of_getElem? (i := 2) rfl)) rfl dX3_giveBack_11 ?_
    refine z_bipush hx hb 8 dX3_giveBack_14 rfl ?_
    refine z_iadd hx hb 10 rfl dX3_giveBack_16 ?_
    refine z_iconst hx hb dX3_giveBack_17 rfl ?_
    refine z_isub hx hb 9 rfl dX3_giveBack_18 ?_
    refine z_bipush hx hb 8 dX3_giveBack_19 rfl ?_
    refine z_irem hx hb 1 (by decide) (by decide) rfl dX3_giveBack_21 ?_
    refine z_put hx hb hts hin3_ tyX3 tyX3_ok nmX3 hown hK hP hD hS 0 rfl rfl 2 (by decide) (hts _ (List.mem_of_getElem? (i := 2) rfl)) rfl rfl rfl (Nat.le_of_ble_eq_true rfl) dX3_giveBack_22 [[(q, .inr (3, [.ref e_, vI ((sz : Nat) : Int), vI 1]))], [(e_, .inl (g.2 5, 8, .inr (.inr (.inr (.inr (rA [(y 0), (y 1), (y 2), (y 3), (y 4), (y 5), (y 6), (y 7)]))))))], (threeW g (y 0) (X 0) (T 0)), (threeW g (y 1) (X 1) (T 1)), (threeW g (y 2) (X 2) (T 2)), (threeW g (y 3) (X 3) (T 3)), (threeW g (y 4) (X 4) (T 4)), (threeW g (y 5) (X 5) (T 5)), (threeW g (y 6) (X 6) (T 6)), (threeW g (y 7) (X 7) (T 7)), (threeW g r x t)] rfl (fun H locs hP hD hS => ?_)
    refine lv_aload_n hx hb dX3_giveBack_25 rfl (lv_at hl 0 rfl) ?_
    refine lv_dup hx hb dX3_giveBack_26 rfl ?_
    refine z_get hx hb hts hin3_ hown hK hP 0 rfl rfl 1 (by decide) (hts _ (List.mem_of_getElem? (i := 1) rfl)) rfl dX3_giveBack_27 ?_
    refine z_iconst hx hb dX3_giveBack_30 rfl ?_
    refine z_isub hx hb (((sz : Nat) : Int) - 1) rfl dX3_giveBack_31 ?_
    refine z_toI (((sz - 1) : Nat) : Int) (by omega) ?_
    refine z_put hx hb hts hin3_ tyX3 tyX3_ok nmX3 hown hK hP hD hS 0 rfl rfl 1 (by decide) (hts _ (List.mem_of_getElem? (i := 1) rfl)) rfl rfl rfl (Nat.le_of_ble_eq_true rfl) dX3_giveBack_32 [[(q, .inr (3, [.ref e_, vI (((sz - 1) : Nat) : Int), vI 1]))], [(e_, .inl (g.2 5, 8, .inr (.inr (.inr (.inr (rA [(y 0), (y 1), (y 2), (y 3), (y 4), (y 5), (y 6), (y 7)]))))))], (threeW g (y 0) (X 0) (T 0)), (threeW g (y 1) (X 1) (T 1)), (threeW g (y 2) (X 2) (T 2)), (threeW g (y 3) (X 3) (T 3)), (threeW g (y 4) (X 4) (T 4)), (threeW g (y 5) (X 5) (T 5)), (threeW g (y 6) (X 6) (T 6)), (threeW g (y 7) (X 7) (T 7)), (threeW g r x t)] rfl (fun H locs hP hD hS => ?_)
    refine lv_aload_n hx hb dX3_giveBack_35 rfl (lv_at hl 1 rfl) ?_
    refine lv_aload_n hx hb dX3_giveBack_36 rfl (lv_at hl 0 rfl) ?_
    refine z_get hx hb hts hin3_ hown hK hP 0 rfl rfl 0 (by decide) (hts _ (List.mem_of_getElem? (i := 3) rfl)) rfl dX3_giveBack_37 ?_
    refine lv_aload_n hx hb dX3_giveBack_40 rfl (lv_at hl 0 rfl) ?_
    refine z_get hx hb hts hin3_ hown hK hP 0 rfl rfl 2 (by decide) (hts _ (List.mem_of_getElem? (i := 2) rfl)) rfl dX3_giveBack_41 ?_
    refine z_aald hx hb hK hP 1 5 rfl rfl 1 rfl (by decide) (by decide) (y 1) rfl dX3_giveBack_44 ?_
    refine z_cVv (As := [.ref (y 1)]) (rest := []) ⟨hx, hb, hml, hown, hts⟩ hK hP hD hS hA [10, 3] [0, 1, 2, 4, 5, 6, 7, 8, 9] rfl rfl rfl (c_X8_become l g r x t (y 1) (X 1) (T 1) (hT _)) (cwV 1 hts gX3_giveBack_X8_become rfl rfl rfl (by decide +kernel) ⟨Nat.le_of_ble_eq_true rfl, Nat.le_of_ble_eq_true rfl⟩) 8 0 rfl rfl rfl (fun _ _ _ _ _ _ => trivial) (fun _ _ _ => trivial) rfl hl.1 (Nat.le_of_ble_eq_true rfl) rfl dX3_giveBack_45 ⟨Nat.le_of_ble_eq_true rfl, Nat.le_of_ble_eq_true rfl⟩ (fun u_6 H locs hwu_6 hP hD hS => ?_)
    try dsimp only at hwu_6
    have hP : zP g [[(q, .inr (3, [.ref e_, vI (((sz - 1) : Nat) : Int), vI 1]))], [(e_, .inl (g.2 5, 8, .inr (.inr (.inr (.inr (rA [(y 0), (y 1), (y 2), (y 3), (y 4), (y 5), (y 6), (y 7)]))))))], (threeW g (y 0) (X 0) (T 0)), (threeW g (y 2) (X 2) (T 2)), (threeW g (y 3) (X 3) (T 3)), (threeW g (y 4) (X 4) (T 4)), (threeW g (y 5) (X 5) (T 5)), (threeW g (y 6) (X 6) (T 6)), (threeW g (y 7) (X 7) (T 7)), (threeW g r x (T 1)), (threeW g (y 1) (X 1) (T 1))] H := hP
    have hD : zD A [[(q, .inr (3, [.ref e_, vI (((sz - 1) : Nat) : Int), vI 1]))], [(e_, .inl (g.2 5, 8, .inr (.inr (.inr (.inr (rA [(y 0), (y 1), (y 2), (y 3), (y 4), (y 5), (y 6), (y 7)]))))))], (threeW g (y 0) (X 0) (T 0)), (threeW g (y 2) (X 2) (T 2)), (threeW g (y 3) (X 3) (T 3)), (threeW g (y 4) (X 4) (T 4)), (threeW g (y 5) (X 5) (T 5)), (threeW g (y 6) (X 6) (T 6)), (threeW g (y 7) (X 7) (T 7)), (threeW g r x (T 1)), (threeW g (y 1) (X 1) (T 1))] := hD
    refine z_iconst hx hb dX3_giveBack_48 rfl ?_
    have hP : zP g [[(q, .inr (3, [.ref e_, vI (((sz - 1) : Nat) : Int), vI 1]))], [(e_, .inl (g.2 5, 8, .inr (.inr (.inr (.inr (rA [(y 0), (y 1), (y 2), (y 3), (y 4), (y 5), (y 6), (y 7)]))))))], (threeW g (y 0) (X 0) (T 0)), (threeW g (y 1) (X 1) (T 1)), (threeW g (y 2) (X 2) (T 2)), (threeW g (y 3) (X 3) (T 3)), (threeW g (y 4) (X 4) (T 4)), (threeW g (y 5) (X 5) (T 5)), (threeW g (y 6) (X 6) (T 6)), (threeW g (y 7) (X 7) (T 7)), (threeW g r x (T 1))] H := zP_sub hP [0, 1, 2, 10, 3, 4, 5, 6, 7, 8, 9] rfl
    have hD : zD A [[(q, .inr (3, [.ref e_, vI (((sz - 1) : Nat) : Int), vI 1]))], [(e_, .inl (g.2 5, 8, .inr (.inr (.inr (.inr (rA [(y 0), (y 1), (y 2), (y 3), (y 4), (y 5), (y 6), (y 7)]))))))], (threeW g (y 0) (X 0) (T 0)), (threeW g (y 1) (X 1) (T 1)), (threeW g (y 2) (X 2) (T 2)), (threeW g (y 3) (X 3) (T 3)), (threeW g (y 4) (X 4) (T 4)), (threeW g (y 5) (X 5) (T 5)), (threeW g (y 6) (X 6) (T 6)), (threeW g (y 7) (X 7) (T 7)), (threeW g r x (T 1))] := zD_sub hD [0, 1, 2, 10, 3, 4, 5, 6, 7, 8, 9] rfl rfl
    have hP : zP g [(noteW g q e_ y X T (sz - 1) 1), (threeW g r x (T 1))] H := hP
    have hD : zD A [(noteW g q e_ y X T (sz - 1) 1), (threeW g r x (T 1))] := hD
    exact z_reti () [0, 1] hx hb hr (nar_z (by first | decide | omega)) hlocks hK hP hD hS (rfl) trivial rfl rfl (rfl) (Nat.le_of_ble_eq_true rfl) (Nat.le_of_ble_eq_true rfl) dX3_giveBack_49
  · refine lv_aload_n hx hb dX3_giveBack_0 rfl (lv_at hl 0 rfl) ?_
    have hP : zP g [[(q, .inr (3, [.ref e_, vI ((sz : Nat) : Int), vI 3]))], [(e_, .inl (g.2 5, 8, .inr (.inr (.inr (.inr (rA [(y 0), (y 1), (y 2), (y 3), (y 4), (y 5), (y 6), (y 7)]))))))], (threeW g (y 0) (X 0) (T 0)), (threeW g (y 1) (X 1) (T 1)), (threeW g (y 2) (X 2) (T 2)), (threeW g (y 3) (X 3) (T 3)), (threeW g (y 4) (X 4) (T 4)), (threeW g (y 5) (X 5) (T 5)), (threeW g (y 6) (X 6) (T 6)), (threeW g (y 7) (X 7) (T 7)), (threeW g r x t)] s.heap := hP
    have hD : zD A [[(q, .inr (3, [.ref e_, vI ((sz : Nat) : Int), vI 3]))], [(e_, .inl (g.2 5, 8, .inr (.inr (.inr (.inr (rA [(y 0), (y 1), (y 2), (y 3), (y 4), (y 5), (y 6), (y 7)]))))))], (threeW g (y 0) (X 0) (T 0)), (threeW g (y 1) (X 1) (T 1)), (threeW g (y 2) (X 2) (T 2)), (threeW g (y 3) (X 3) (T 3)), (threeW g (y 4) (X 4) (T 4)), (threeW g (y 5) (X 5) (T 5)), (threeW g (y 6) (X 6) (T 6)), (threeW g (y 7) (X 7) (T 7)), (threeW g r x t)] := hD
    refine z_get hx hb hts hin3_ hown hK hP 0 rfl rfl 1 (by decide) (hts _ (List.mem_of_getElem? (i := 1) rfl)) rfl dX3_giveBack_1 ?_
    refine z_if_ne (tgt := 9) hx hb (by omega) dX3_giveBack_4 (by decide) (fun c7 => ?_) (fun c7 => False.elim (by omega))
    refine lv_aload_n hx hb dX3_giveBack_9 rfl (lv_at hl 0 rfl) ?_
    refine lv_aload_n hx hb dX3_giveBack_10 rfl (lv_at hl 0 rfl) ?_
    refine z_get hx hb hts hin3_ hown hK hP 0 rfl rfl 2 (by decide) (hts _ (List.mem_of_getElem? (i := 2) rfl)) rfl dX3_giveBack_11 ?_
    refine z_bipush hx hb 8 dX3_giveBack_14 rfl ?_
    refine z_iadd hx hb 11 rfl dX3_giveBack_16 ?_
    refine z_iconst hx hb dX3_giveBack_17 rfl ?_
    refine z_isub hx hb 10 rfl dX3_giveBack_18 ?_
    refine z_bipush hx hb 8 dX3_giveBack_19 rfl ?_
    refine z_irem hx hb 2 (by decide) (by decide) rfl dX3_giveBack_21 ?_
    refine z_put hx hb hts hin3_ tyX3 tyX3_ok nmX3 hown hK hP hD hS 0 rfl rfl 2 (by decide) (hts _ (List.mem_of_getElem? (i := 2) rfl)) rfl rfl rfl (Nat.le_of_ble_eq_true rfl) dX3_giveBack_22 [[(q, .inr (3, [.ref e_, vI ((sz : Nat) : Int), vI 2]))], [(e_, .inl (g.2 5, 8, .inr (.inr (.inr (.inr (rA [(y 0), (y 1), (y 2), (y 3), (y 4), (y 5), (y 6), (y 7)]))))))], (threeW g (y 0) (X 0) (T 0)), (threeW g (y 1) (X 1) (T 1)), (threeW g (y 2) (X 2) (T 2)), (threeW g (y 3) (X 3) (T 3)), (threeW g (y 4) (X 4) (T 4)), (threeW g (y 5) (X 5) (T 5)), (threeW g (y 6) (X 6) (T 6)), (threeW g (y 7) (X 7) (T 7)), (threeW g r x t)] rfl (fun H locs hP hD hS => ?_)
    refine lv_aload_n hx hb dX3_giveBack_25 rfl (lv_at hl 0 rfl) ?_
    refine lv_dup hx hb dX3_giveBack_26 rfl ?_
    refine z_get hx hb hts hin3_ hown hK hP 0 rfl rfl 1 (by decide) (hts _ (List.mem_of_getElem? (i := 1) rfl)) rfl dX3_giveBack_27 ?_
    refine z_iconst hx hb dX3_giveBack_30 rfl ?_
    refine z_isub hx hb (((sz : Nat) : Int) - 1) rfl dX3_giveBack_31 ?_
    refine z_toI (((sz - 1) : Nat) : Int) (by omega) ?_
    refine z_put hx hb hts hin3_ tyX3 tyX3_ok nmX3 hown hK hP hD hS 0 rfl rfl 1 (by decide) (hts _ (List.mem_of_getElem? (i := 1) rfl)) rfl rfl rfl (Nat.le_of_ble_eq_true rfl) dX3_giveBack_32 [[(q, .inr (3, [.ref e_, vI (((sz - 1) : Nat) : Int), vI 2]))], [(e_, .inl (g.2 5, 8, .inr (.inr (.inr (.inr (rA [(y 0), (y 1), (y 2), (y 3), (y 4), (y 5), (y 6), (y 7)]))))))], (threeW g (y 0) (X 0) (T 0)), (threeW g (y 1) (X 1) (T 1)), (threeW g (y 2) (X 2) (T 2)), (threeW g (y 3) (X 3) (T 3)), (threeW g (y 4) (X 4) (T 4)), (threeW g (y 5) (X 5) (T 5)), (threeW g (y 6) (X 6) (T 6)), (threeW g (y 7) (X 7) (T 7)), (threeW g r x t)] rfl (fun H locs hP hD hS => ?_)
    refine lv_aload_n hx hb dX3_giveBack_35 rfl (lv_at hl 1 rfl) ?_
    refine lv_aload_n hx hb dX3_giveBack_36 rfl (lv_at hl 0 rfl) ?_
    refine z_get hx hb hts hin3_ hown hK hP 0 rfl rfl 0 (by decide) (hts _ (List.mem_of_getElem? (i := 3) rfl)) rfl dX3_giveBack_37 ?_
    refine lv_aload_n hx hb dX3_giveBack_40 rfl (lv_at hl 0 rfl) ?_
    refine z_get hx hb hts hin3_ hown hK hP 0 rfl rfl 2 (by decide) (hts _ (List.mem_of_getElem? (i := 2) rfl)) rfl dX3_giveBack_41 ?_
    refine z_aald hx hb hK hP 1 5 rfl rfl 2 rfl (by decide) (by decide) (y 2) rfl dX3_giveBack_44 ?_
    refine z_cVv (As := [.ref (y 2)]) (rest := []) ⟨hx, hb, hml, hown, hts⟩ hK hP hD hS hA [10, 4] [0, 1, 2, 3, 5, 6, 7, 8, 9] rfl rfl rfl (c_X8_become l g r x t (y 2) (X 2) (T 2) (hT _)) (cwV 1 hts gX3_giveBack_X8_become rfl rfl rfl (by decide +kernel) ⟨Nat.le_of_ble_eq_true rfl, Nat.le_of_ble_eq_true rfl⟩) 8 0 rfl rfl rfl (fun _ _ _ _ _ _ => trivial) (fun _ _ _ => trivial) rfl hl.1 (Nat.le_of_ble_eq_true rfl) rfl dX3_giveBack_45 ⟨Nat.le_of_ble_eq_true rfl, Nat.le_of_ble_eq_true rfl⟩ (fun u_8 H locs hwu_8 hP hD hS => ?_)
    try dsimp only at hwu_8
    have hP : zP g [[(q, .inr (3, [.ref e_, vI (((sz - 1) : Nat) : Int), vI 2]))], [(e_, .inl (g.2 5, 8, .inr (.inr (.inr (.inr (rA [(y 0), (y 1), (y 2), (y 3), (y 4), (y 5), (y 6), (y 7)]))))))], (threeW g (y 0) (X 0) (T 0)), (threeW g (y 1) (X 1) (T 1)), (threeW g (y 3) (X 3) (T 3)), (threeW g (y 4) (X 4) (T 4)), (threeW g (y 5) (X 5) (T 5)), (threeW g (y 6) (X 6) (T 6)), (threeW g (y 7) (X 7) (T 7)), (threeW g r x (T 2)), (threeW g (y 2) (X 2) (T 2))] H := hP
    have hD : zD A [[(q, .inr (3, [.ref e_, vI (((sz - 1) : Nat) : Int), vI 2]))], [(e_, .inl (g.2 5, 8, .inr (.inr (.inr (.inr (rA [(y 0), (y 1), (y 2), (y 3), (y 4), (y 5), (y 6), (y 7)]))))))], (threeW g (y 0) (X 0) (T 0)), (threeW g (y 1) (X 1) (T 1)), (threeW g (y 3) (X 3) (T 3)), (threeW g (y 4) (X 4) (T 4)), (threeW g (y 5) (X 5) (T 5)), (threeW g (y 6) (X 6) (T 6)), (threeW g (y 7) (X 7) (T 7)), (threeW g r x (T 2)), (threeW g (y 2) (X 2) (T 2))] := hD
    refine z_iconst hx hb dX3_giveBack_48 rfl ?_
    have hP : zP g [[(q, .inr (3, [.ref e_, vI (((sz - 1) : Nat) : Int), vI 2]))], [(e_, .inl (g.2 5, 8, .inr (.inr (.inr (.inr (rA [(y 0), (y 1), (y 2), (y 3), (y 4), (y 5), (y 6), (y 7)]))))))], (threeW g (y 0) (X 0) (T 0)), (threeW g (y 1) (X 1) (T 1)), (threeW g (y 2) (X 2) (T 2)), (threeW g (y 3) (X 3) (T 3)), (threeW g (y 4) (X 4) (T 4)), (threeW g (y 5) (X 5) (T 5)), (threeW g (y 6) (X 6) (T 6)), (threeW g (y 7) (X 7) (T 7)), (threeW g r x (T 2))] H := zP_sub hP [0, 1, 2, 3, 10, 4, 5, 6, 7, 8, 9] rfl
    have hD : zD A [[(q, .inr (3, [.ref e_, vI (((sz - 1) : Nat) : Int), vI 2]))], [(e_, .inl (g.2 5, 8, .inr (.inr (.inr (.inr (rA [(y 0), (y 1), (y 2), (y 3), (y 4), (y 5), (y 6), (y 7)]))))))], (threeW g (y 0) (X 0) (T 0)), (threeW g (y 1) (X 1) (T 1)), (threeW g (y 2) (X 2) (T 2)), (threeW g (y 3) (X 3) (T 3)), (threeW g (y 4) (X 4) (T 4)), (threeW g (y 5) (X 5) (T 5)), (threeW g (y 6) (X 6) (T 6)), (threeW g (y 7) (X 7) (T 7)), (threeW g r x (T 2))] := zD_sub hD [0, 1, 2, 3, 10, 4, 5, 6, 7, 8, 9] rfl rfl
    have hP : zP g [(noteW g q e_ y X T (sz - 1) 2), (threeW g r x (T 2))] H := hP
    have hD : zD A [(noteW g q e_ y X T (sz - 1) 2), (threeW g r x (T 2))] := hD
    exact z_reti () [0, 1] hx hb hr (nar_z (by first | decide | omega)) hlocks hK hP hD hS (rfl) trivial rfl rfl (rfl) (Nat.le_of_ble_eq_true rfl) (Nat.le_of_ble_eq_true rfl) dX3_giveBack_49
  · refine lv_aload_n hx hb dX3_giveBack_0 rfl (lv_at hl 0 rfl) ?_
    have hP : zP g [[(q, .inr (3, [.ref e_, vI ((sz : Nat) : Int), vI 4]))], [(e_, .inl (g.2 5, 8, .inr (.inr (.inr (.inr (rA [(y 0), (y 1), (y 2), (y 3), (y 4), (y 5), (y 6), (y 7)]))))))], (threeW g (y 0) (X 0) (T 0)), (threeW g (y 1) (X 1) (T 1)), (threeW g (y 2) (X 2) (T 2)), (threeW g (y 3) (X 3) (T 3)), (threeW g (y 4) (X 4) (T 4)), (threeW g (y 5) (X 5) (T 5)), (threeW g (y 6) (X 6) (T 6)), (threeW g (y 7) (X 7) (T 7)), (threeW g r x t)] s.heap := hP
    have hD : zD A [[(q, .inr (3, [.ref e_, vI ((sz : Nat) : Int), vI 4]))], [(e_, .inl (g.2 5, 8, .inr (.inr (.inr (.inr (rA [(y 0), (y 1), (y 2), (y 3), (y 4), (y 5), (y 6), (y 7)]))))))], (threeW g (y 0) (X 0) (T 0)), (threeW g (y 1) (X 1) (T 1)), (threeW g (y 2) (X 2) (T 2)), (threeW g (y 3) (X 3) (T 3)), (threeW g (y 4) (X 4) (T 4)), (threeW g (y 5) (X 5) (T 5)), (threeW g (y 6) (X 6) (T 6)), (threeW g (y 7) (X 7) (T 7)), (threeW g r x t)] := hD
    refine z_get hx hb hts hin3_ hown hK hP 0 rfl rfl 1 (by decide) (hts _ (List.mem_of_getElem? (i := 1) rfl)) rfl dX3_giveBack_1 ?_
    refine z_if_ne (tgt := 9) hx hb (by omega) dX3_giveBack_4 (by decide) (fun c9 => ?_) (fun c9 => False.elim (by omega))
    refine lv_aload_n hx hb dX3_giveBack_9 rfl (lv_at hl 0 rfl) ?_
    refine lv_aload_n hx hb dX3_giveBack_10 rfl (lv_at hl 0 rfl) ?_
    refine z_get hx hb hts hin3_ hown hK hP 0 rfl rfl 2 (by decide) (hts _ (List.mem_of_getElem? (i := 2) rfl)) rfl dX3_giveBack_11 ?_
    refine z_bipush hx hb 8 dX3_giveBack_14 rfl ?_
    refine z_iadd hx hb 12 rfl dX3_giveBack_16 ?_
    refine z_iconst hx hb dX3_giveBack_17 rfl ?_
    refine z_isub hx hb 11 rfl dX3_giveBack_18 ?_
    refine z_bipush hx hb 8 dX3_giveBack_19 rfl ?_
    refine z_irem hx hb 3 (by decide) (by decide) rfl dX3_giveBack_21 ?_
    refine z_put hx hb hts hin3_ tyX3 tyX3_ok nmX3 hown hK hP hD hS 0 rfl rfl 2 (by decide) (hts _ (List.mem_of_getElem? (i := 2) rfl)) rfl rfl rfl (Nat.le_of_ble_eq_true rfl) dX3_giveBack_22 [[(q, .inr (3, [.ref e_, vI ((sz : Nat) : Int), vI 3]))], [(e_, .inl (g.2 5, 8, .inr (.inr (.inr (.inr (rA [(y 0), (y 1), (y 2), (y 3), (y 4), (y 5), (y 6), (y 7)]))))))], (threeW g (y 0) (X 0) (T 0)), (threeW g (y 1) (X 1) (T 1)), (threeW g (y 2) (X 2) (T 2)), (threeW g (y 3) (X 3) (T 3)), (threeW g (y 4) (X 4) (T 4)), (threeW g (y 5) (X 5) (T 5)), (threeW g (y 6) (X 6) (T 6)), (threeW g (y 7) (X 7) (T 7)), (threeW g r x t)] rfl (fun H locs hP hD hS => ?_)
    refine lv_aload_n hx hb dX3_giveBack_25 rfl (lv_at hl 0 rfl) ?_
    refine lv_dup hx hb dX3_giveBack_26 rfl ?_
    refine z_get hx hb hts hin3_ hown hK hP 0 rfl rfl 1 (by decide) (hts _ (List.mem_of_getElem? (i := 1) rfl)) rfl dX3_giveBack_27 ?_
    refine z_iconst hx hb dX3_giveBack_30 rfl ?_
    refine z_isub hx hb (((sz : Nat) : Int) - 1) rfl dX3_giveBack_31 ?_
    refine z_toI (((sz - 1) : Nat) : Int) (by omega) ?_
    refine z_put hx hb hts hin3_ tyX3 tyX3_ok nmX3 hown hK hP hD hS 0 rfl rfl 1 (by decide) (hts _ (List.mem_of_getElem? (i := 1) rfl)) rfl rfl rfl (Nat.le_of_ble_eq_true rfl) dX3_giveBack_32 [[(q, .inr (3, [.ref e_, vI (((sz - 1) : Nat) : Int), vI 3]))], [(e_, .inl (g.2 5, 8, .inr (.inr (.inr (.inr (rA [(y 0), (y 1), (y 2), (y 3), (y 4), (y 5), (y 6), (y 7)]))))))], (threeW g (y 0) (X 0) (T 0)), (threeW g (y 1) (X 1) (T 1)), (threeW g (y 2) (X 2) (T 2)), (threeW g (y 3) (X 3) (T 3)), (threeW g (y 4) (X 4) (T 4)), (threeW g (y 5) (X 5) (T 5)), (threeW g (y 6) (X 6) (T 6)), (threeW g (y 7) (X 7) (T 7)), (threeW g r x t)] rfl (fun H locs hP hD hS => ?_)
    refine lv_aload_n hx hb dX3_giveBack_35 rfl (lv_at hl 1 rfl) ?_
    refine lv_aload_n hx hb dX3_giveBack_36 rfl (lv_at hl 0 rfl) ?_
    refine z_get hx hb hts hin3_ hown hK hP 0 rfl rfl 0 (by decide) (hts _ (List.mem_of_getElem? (i := 3) rfl)) rfl dX3_giveBack_37 ?_
    refine lv_aload_n hx hb dX3_giveBack_40 rfl (lv_at hl 0 rfl) ?_
    refine z_get hx hb hts hin3_ hown hK hP 0 rfl rfl 2 (by decide) (hts _ (List.mem_of_getElem? (i := 2) rfl)) rfl dX3_giveBack_41 ?_
    refine z_aald hx hb hK hP 1 5 rfl rfl 3 rfl (by decide) (by decide) (y 3) rfl dX3_giveBack_44 ?_
    refine z_cVv (As := [.ref (y 3)]) (rest := []) ⟨hx, hb, hml, hown, hts⟩ hK hP hD hS hA [10, 5] [0, 1, 2, 3, 4, 6, 7, 8, 9] rfl rfl rfl (c_X8_become l g r x t (y 3) (X 3) (T 3) (hT _)) (cwV 1 hts gX3_giveBack_X8_become rfl rfl rfl (by decide +kernel) ⟨Nat.le_of_ble_eq_true rfl, Nat.le_of_ble_eq_true rfl⟩) 8 0 rfl rfl rfl (fun _ _ _ _ _ _ => trivial) (fun _ _ _ => trivial) rfl hl.1 (Nat.le_of_ble_eq_true rfl) rfl dX3_giveBack_45 ⟨Nat.le_of_ble_eq_true rfl, Nat.le_of_ble_eq_true rfl⟩ (fun u_10 H locs hwu_10 hP hD hS => ?_)
    try dsimp only at hwu_10
    have hP : zP g [[(q, .inr (3, [.ref e_, vI (((sz - 1) : Nat) : Int), vI 3]))], [(e_, .inl (g.2 5, 8, .inr (.inr (.inr (.inr (rA [(y 0), (y 1), (y 2), (y 3), (y 4), (y 5), (y 6), (y 7)]))))))], (threeW g (y 0) (X 0) (T 0)), (threeW g (y 1) (X 1) (T 1)), (threeW g (y 2) (X 2) (T 2)), (threeW g (y 4) (X 4) (T 4)), (threeW g (y 5) (X 5) (T 5)), (threeW g (y 6) (X 6) (T 6)), (threeW g (y 7) (X 7) (T 7)), (threeW g r x (T 3)), (threeW g (y 3) (X 3) (T 3))] H := hP
    have hD : zD A [[(q, .inr (3, [.ref e_, vI (((sz - 1) : Nat) : Int), vI 3]))], [(e_, .inl (g.2 5, 8, .inr (.inr (.inr (.inr (rA [(y 0), (y 1), (y 2), (y 3), (y 4), (y 5), (y 6), (y 7)]))))))], (threeW g (y 0) (X 0) (T 0)), (threeW g (y 1) (X 1) (T 1)), (threeW g (y 2) (X 2) (T 2)), (threeW g (y 4) (X 4) (T 4)), (threeW g (y 5) (X 5) (T 5)), (threeW g (y 6) (X 6) (T 6)), (threeW g (y 7) (X 7) (T 7)), (threeW g r x (T 3)), (threeW g (y 3) (X 3) (T 3))] := hD
    refine z_iconst hx hb dX3_giveBack_48 rfl ?_
    have hP : zP g [[(q, .inr (3, [.ref e_, vI (((sz - 1) : Nat) : Int), vI 3]))], [(e_, .inl (g.2 5, 8, .inr (.inr (.inr (.inr (rA [(y 0), (y 1), (y 2), (y 3), (y 4), (y 5), (y 6), (y 7)]))))))], (threeW g (y 0) (X 0) (T 0)), (threeW g (y 1) (X 1) (T 1)), (threeW g (y 2) (X 2) (T 2)), (threeW g (y 3) (X 3) (T 3)), (threeW g (y 4) (X 4) (T 4)), (threeW g (y 5) (X 5) (T 5)), (threeW g (y 6) (X 6) (T 6)), (threeW g (y 7) (X 7) (T 7)), (threeW g r x (T 3))] H := zP_sub hP [0, 1, 2, 3, 4, 10, 5, 6, 7, 8, 9] rfl
    have hD : zD A [[(q, .inr (3, [.ref e_, vI (((sz - 1) : Nat) : Int), vI 3]))], [(e_, .inl (g.2 5, 8, .inr (.inr (.inr (.inr (rA [(y 0), (y 1), (y 2), (y 3), (y 4), (y 5), (y 6), (y 7)]))))))], (threeW g (y 0) (X 0) (T 0)), (threeW g (y 1) (X 1) (T 1)), (threeW g (y 2) (X 2) (T 2)), (threeW g (y 3) (X 3) (T 3)), (threeW g (y 4) (X 4) (T 4)), (threeW g (y 5) (X 5) (T 5)), (threeW g (y 6) (X 6) (T 6)), (threeW g (y 7) (X 7) (T 7)), (threeW g r x (T 3))] := zD_sub hD [0, 1, 2, 3, 4, 10, 5, 6, 7, 8, 9] rfl rfl
    have hP : zP g [(noteW g q e_ y X T (sz - 1) 3), (threeW g r x (T 3))] H := hP
    have hD : zD A [(noteW g q e_ y X T (sz - 1) 3), (threeW g r x (T 3))] := hD
    exact z_reti () [0, 1] hx hb hr (nar_z (by first | decide | omega)) hlocks hK hP hD hS (rfl) trivial rfl rfl (rfl) (Nat.le_of_ble_eq_true rfl) (Nat.le_of_ble_eq_true rfl) dX3_giveBack_49
  · refine lv_aload_n hx hb dX3_giveBack_0 rfl (lv_at hl 0 rfl) ?_
    have hP : zP g [[(q, .inr (3, [.ref e_, vI ((sz : Nat) : Int), vI 5]))], [(e_, .inl (g.2 5, 8, .inr (.inr (.inr (.inr (rA [(y 0), (y 1), (y 2), (y 3), (y 4), (y 5), (y 6), (y 7)]))))))], (threeW g (y 0) (X 0) (T 0)), (threeW g (y 1) (X 1) (T 1)), (threeW g (y 2) (X 2) (T 2)), (threeW g (y 3) (X 3) (T 3)), (threeW g (y 4) (X 4) (T 4)), (threeW g (y 5) (X 5) (T 5)), (threeW g (y 6) (X 6) (T 6)), (threeW g (y 7) (X 7) (T 7)), (threeW g r x t)] s.heap := hP
    have hD : zD A [[(q, .inr (3, [.ref e_, vI ((sz : Nat) : Int), vI 5]))], [(e_, .inl (g.2 5, 8, .inr (.inr (.inr (.inr (rA [(y 0), (y 1), (y 2), (y 3), (y 4), (y 5), (y 6), (y 7)]))))))], (threeW g (y 0) (X 0) (T 0)), (threeW g (y 1) (X 1) (T 1)), (threeW g (y 2) (X 2) (T 2)), (threeW g (y 3) (X 3) (T 3)), (threeW g (y 4) (X 4) (T 4)), (threeW g (y 5) (X 5) (T 5)), (threeW g (y 6) (X 6) (T 6)), (threeW g (y 7) (X 7) (T 7)), (threeW g r x t)] := hD
    refine z_get hx hb hts hin3_ hown hK hP 0 rfl rfl 1 (by decide) (hts _ (List.mem_of_getElem? (i := 1) rfl)) rfl dX3_giveBack_1 ?_
    refine z_if_ne (tgt := 9) hx hb (by omega) dX3_giveBack_4 (by decide) (fun c11 => ?_) (fun c11 => False.elim (by omega))
    refine lv_aload_n hx hb dX3_giveBack_9 rfl (lv_at hl 0 rfl) ?_
    refine lv_aload_n hx hb dX3_giveBack_10 rfl (lv_at hl 0 rfl) ?_
    refine z_get hx hb hts hin3_ hown hK hP 0 rfl rfl 2 (by decide) (hts _ (List.mem_of_getElem? (i := 2) rfl)) rfl dX3_giveBack_11 ?_
    refine z_bipush hx hb 8 dX3_giveBack_14 rfl ?_
    refine z_iadd hx hb 13 rfl dX3_giveBack_16 ?_
    refine z_iconst hx hb dX3_giveBack_17 rfl ?_
    refine z_isub hx hb 12 rfl dX3_giveBack_18 ?_
    refine z_bipush hx hb 8 dX3_giveBack_19 rfl ?_
    refine z_irem hx hb 4 (by decide) (by decide) rfl dX3_giveBack_21 ?_
    refine z_put hx hb hts hin3_ tyX3 tyX3_ok nmX3 hown hK hP hD hS 0 rfl rfl 2 (by decide) (hts _ (List.mem_of_getElem? (i := 2) rfl)) rfl rfl rfl (Nat.le_of_ble_eq_true rfl) dX3_giveBack_22 [[(q, .inr (3, [.ref e_, vI ((sz : Nat) : Int), vI 4]))], [(e_, .inl (g.2 5, 8, .inr (.inr (.inr (.inr (rA [(y 0), (y 1), (y 2), (y 3), (y 4), (y 5), (y 6), (y 7)]))))))], (threeW g (y 0) (X 0) (T 0)), (threeW g (y 1) (X 1) (T 1)), (threeW g (y 2) (X 2) (T 2)), (threeW g (y 3) (X 3) (T 3)), (threeW g (y 4) (X 4) (T 4)), (threeW g (y 5) (X 5) (T 5)), (threeW g (y 6) (X 6) (T 6)), (threeW g (y 7) (X 7) (T 7)), (threeW g r x t)] rfl (fun H locs hP hD hS => ?_)
    refine lv_aload_n hx hb dX3_giveBack_25 rfl (lv_at hl 0 rfl) ?_
    refine lv_dup hx hb dX3_giveBack_26 rfl ?_
    refine z_get hx hb hts hin3_ hown hK hP 0 rfl rfl 1 (by decide) (hts _ (List.mem_of_getElem? (i := 1) rfl)) rfl dX3_giveBack_27 ?_
    refine z_iconst hx hb dX3_giveBack_30 rfl ?_
    refine z_isub hx hb (((sz : Nat) : Int) - 1) rfl dX3_giveBack_31 ?_
    refine z_toI (((sz - 1) : Nat) : Int) (by omega) ?_
    refine z_put hx hb hts hin3_ tyX3 tyX3_ok nmX3 hown hK hP hD hS 0 rfl rfl 1 (by decide) (hts _ (List.mem_of_getElem? (i := 1) rfl)) rfl rfl rfl (Nat.le_of_ble_eq_true rfl) dX3_giveBack_32 [[(q, .inr (3, [.ref e_, vI (((sz - 1) : Nat) : Int), vI 4]))], [(e_, .inl (g.2 5, 8, .inr (.inr (.inr (.inr (rA [(y 0), (y 1), (y 2), (y 3), (y 4), (y 5), (y 6), (y 7)]))))))], (threeW g (y 0) (X 0) (T 0)), (threeW g (y 1) (X 1) (T 1)), (threeW g (y 2) (X 2) (T 2)), (threeW g (y 3) (X 3) (T 3)), (threeW g (y 4) (X 4) (T 4)), (threeW g (y 5) (X 5) (T 5)), (threeW g (y 6) (X 6) (T 6)), (threeW g (y 7) (X 7) (T 7)), (threeW g r x t)] rfl (fun H locs hP hD hS => ?_)
    refine lv_aload_n hx hb dX3_giveBack_35 rfl (lv_at hl 1 rfl) ?_
    refine lv_aload_n hx hb dX3_giveBack_36 rfl (lv_at hl 0 rfl) ?_
    refine z_get hx hb hts hin3_ hown hK hP 0 rfl rfl 0 (by decide) (hts _ (List.mem_of_getElem? (i := 3) rfl)) rfl dX3_giveBack_37 ?_
    refine lv_aload_n hx hb dX3_giveBack_40 rfl (lv_at hl 0 rfl) ?_
    refine z_get hx hb hts hin3_ hown hK hP 0 rfl rfl 2 (by decide) (hts _ (List.mem_of_getElem? (i := 2) rfl)) rfl dX3_giveBack_41 ?_
    refine z_aald hx hb hK hP 1 5 rfl rfl 4 rfl (by decide) (by decide) (y 4) rfl dX3_giveBack_44 ?_
    refine z_cVv (As := [.ref (y 4)]) (rest := []) ⟨hx, hb, hml, hown, hts⟩ hK hP hD hS hA [10, 6] [0, 1, 2, 3, 4, 5, 7, 8, 9] rfl rfl rfl (c_X8_become l g r x t (y 4) (X 4) (T 4) (hT _)) (cwV 1 hts gX3_giveBack_X8_become rfl rfl rfl (by decide +kernel) ⟨Nat.le_of_ble_eq_true rfl, Nat.le_of_ble_eq_true rfl⟩) 8 0 rfl rfl rfl (fun _ _ _ _ _ _ => trivial) (fun _ _ _ => trivial) rfl hl.1 (Nat.le_of_ble_eq_true rfl) rfl dX3_giveBack_45 ⟨Nat.le_of_ble_eq_true rfl, Nat.le_of_ble_eq_true rfl⟩ (fun u_12 H locs hwu_12 hP hD hS => ?_)
    try dsimp only at hwu_12
    have hP : zP g [[(q, .inr (3, [.ref e_, vI (((sz - 1) : Nat) : Int), vI 4]))], [(e_, .inl (g.2 5, 8, .inr (.inr (.inr (.inr (rA [(y 0), (y 1), (y 2), (y 3), (y 4), (y 5), (y 6), (y 7)]))))))], (threeW g (y 0) (X 0) (T 0)), (threeW g (y 1) (X 1) (T 1)), (threeW g (y 2) (X 2) (T 2)), (threeW g (y 3) (X 3) (T 3)), (threeW g (y 5) (X 5) (T 5)), (threeW g (y 6) (X 6) (T 6)), (threeW g (y 7) (X 7) (T 7)), (threeW g r x (T 4)), (threeW g (y 4) (X 4) (T 4))] H := hP
    have hD : zD A [[(q, .inr (3, [.ref e_, vI (((sz - 1) : Nat) : Int), vI 4]))], [(e_, .inl (g.2 5, 8, .inr (.inr (.inr (.inr (rA [(y 0), (y 1), (y 2), (y 3), (y 4), (y 5), (y 6), (y 7)]))))))], (threeW g (y 0) (X 0) (T 0)), (threeW g (y 1) (X 1) (T 1)), (threeW g (y 2) (X 2) (T 2)), (threeW g (y 3) (X 3) (T 3)), (threeW g (y 5) (X 5) (T 5)), (threeW g (y 6) (X 6) (T 6)), (threeW g (y 7) (X 7) (T 7)), (threeW g r x (T 4)), (threeW g (y 4) (X 4) (T 4))] := hD
    refine z_iconst hx hb dX3_giveBack_48 rfl ?_
    have hP : zP g [[(q, .inr (3, [.ref e_, vI (((sz - 1) : Nat) : Int), vI 4]))], [(e_, .inl (g.2 5, 8, .inr (.inr (.inr (.inr (rA [(y 0), (y 1), (y 2), (y 3), (y 4), (y 5), (y 6), (y 7)]))))))], (threeW g (y 0) (X 0) (T 0)), (threeW g (y 1) (X 1) (T 1)), (threeW g (y 2) (X 2) (T 2)), (threeW g (y 3) (X 3) (T 3)), (threeW g (y 4) (X 4) (T 4)), (threeW g (y 5) (X 5) (T 5)), (threeW g (y 6) (X 6) (T 6)), (threeW g (y 7) (X 7) (T 7)), (threeW g r x (T 4))] H := zP_sub hP [0, 1, 2, 3, 4, 5, 10, 6, 7, 8, 9] rfl
    have hD : zD A [[(q, .inr (3, [.ref e_, vI (((sz - 1) : Nat) : Int), vI 4]))], [(e_, .inl (g.2 5, 8, .inr (.inr (.inr (.inr (rA [(y 0), (y 1), (y 2), (y 3), (y 4), (y 5), (y 6), (y 7)]))))))], (threeW g (y 0) (X 0) (T 0)), (threeW g (y 1) (X 1) (T 1)), (threeW g (y 2) (X 2) (T 2)), (threeW g (y 3) (X 3) (T 3)), (threeW g (y 4) (X 4) (T 4)), (threeW g (y 5) (X 5) (T 5)), (threeW g (y 6) (X 6) (T 6)), (threeW g (y 7) (X 7) (T 7)), (threeW g r x (T 4))] := zD_sub hD [0, 1, 2, 3, 4, 5, 10, 6, 7, 8, 9] rfl rfl
    have hP : zP g [(noteW g q e_ y X T (sz - 1) 4), (threeW g r x (T 4))] H := hP
    have hD : zD A [(noteW g q e_ y X T (sz - 1) 4), (threeW g r x (T 4))] := hD
    exact z_reti () [0, 1] hx hb hr (nar_z (by first | decide | omega)) hlocks hK hP hD hS (rfl) trivial rfl rfl (rfl) (Nat.le_of_ble_eq_true rfl) (Nat.le_of_ble_eq_true rfl) dX3_giveBack_49
  · refine lv_aload_n hx hb dX3_giveBack_0 rfl (lv_at hl 0 rfl) ?_
    have hP : zP g [[(q, .inr (3, [.ref e_, vI ((sz : Nat) : Int), vI 6]))], [(e_, .inl (g.2 5, 8, .inr (.inr (.inr (.inr (rA [(y 0), (y 1), (y 2), (y 3), (y 4), (y 5), (y 6), (y 7)]))))))], (threeW g (y 0) (X 0) (T 0)), (threeW g (y 1) (X 1) (T 1)), (threeW g (y 2) (X 2) (T 2)), (threeW g (y 3) (X 3) (T 3)), (threeW g (y 4) (X 4) (T 4)), (threeW g (y 5) (X 5) (T 5)), (threeW g (y 6) (X 6) (T 6)), (threeW g (y 7) (X 7) (T 7)), (threeW g r x t)] s.heap := hP
    have hD : zD A [[(q, .inr (3, [.ref e_, vI ((sz : Nat) : Int), vI 6]))], [(e_, .inl (g.2 5, 8, .inr (.inr (.inr (.inr (rA [(y 0), (y 1), (y 2), (y 3), (y 4), (y 5), (y 6), (y 7)]))))))], (threeW g (y 0) (X 0) (T 0)), (threeW g (y 1) (X 1) (T 1)), (threeW g (y 2) (X 2) (T 2)), (threeW g (y 3) (X 3) (T 3)), (threeW g (y 4) (X 4) (T 4)), (threeW g (y 5) (X 5) (T 5)), (threeW g (y 6) (X 6) (T 6)), (threeW g (y 7) (X 7) (T 7)), (threeW g r x t)] := hD
    refine z_get hx hb hts hin3_ hown hK hP 0 rfl rfl 1 (by decide) (hts _ (List.mem_of_getElem? (i := 1) rfl)) rfl dX3_giveBack_1 ?_
    refine z_if_ne (tgt := 9) hx hb (by omega) dX3_giveBack_4 (by decide) (fun c13 => ?_) (fun c13 => False.elim (by omega))
    refine lv_aload_n hx hb dX3_giveBack_9 rfl (lv_at hl 0 rfl) ?_
    refine lv_aload_n hx hb dX3_giveBack_10 rfl (lv_at hl 0 rfl) ?_
    refine z_get hx hb hts hin3_ hown hK hP 0 rfl rfl 2 (by decide) (hts _ (List.mem_of_getElem? (i := 2) rfl)) rfl dX3_giveBack_11 ?_
    refine z_bipush hx hb 8 dX3_giveBack_14 rfl ?_
    refine z_iadd hx hb 14 rfl dX3_giveBack_16 ?_
    refine z_iconst hx hb dX3_giveBack_17 rfl ?_
    refine z_isub hx hb 13 rfl dX3_giveBack_18 ?_
    refine z_bipush hx hb 8 dX3_giveBack_19 rfl ?_
    refine z_irem hx hb 5 (by decide) (by decide) rfl dX3_giveBack_21 ?_
    refine z_put hx hb hts hin3_ tyX3 tyX3_ok nmX3 hown hK hP hD hS 0 rfl rfl 2 (by decide) (hts _ (List.mem_of_getElem? (i := 2) rfl)) rfl rfl rfl (Nat.le_of_ble_eq_true rfl) dX3_giveBack_22 [[(q, .inr (3, [.ref e_, vI ((sz : Nat) : Int), vI 5]))], [(e_, .inl (g.2 5, 8, .inr (.inr (.inr (.inr (rA [(y 0), (y 1), (y 2), (y 3), (y 4), (y 5), (y 6), (y 7)]))))))], (threeW g (y 0) (X 0) (T 0)), (threeW g (y 1) (X 1) (T 1)), (threeW g (y 2) (X 2) (T 2)), (threeW g (y 3) (X 3) (T 3)), (threeW g (y 4) (X 4) (T 4)), (threeW g (y 5) (X 5) (T 5)), (threeW g (y 6) (X 6) (T 6)), (threeW g (y 7) (X 7) (T 7)), (threeW g r x t)] rfl (fun H locs hP hD hS => ?_)
    refine lv_aload_n hx hb dX3_giveBack_25 rfl (lv_at hl 0 rfl) ?_
    refine lv_dup hx hb dX3_giveBack_26 rfl ?_
    refine z_get hx hb hts hin3_ hown hK hP 0 rfl rfl 1 (by decide) (hts _ (List.mem_of_getElem? (i := 1) rfl)) rfl dX3_giveBack_27 ?_
    refine z_iconst hx hb dX3_giveBack_30 rfl ?_
    refine z_isub hx hb (((sz : Nat) : Int) - 1) rfl dX3_giveBack_31 ?_
    refine z_toI (((sz - 1) : Nat) : Int) (by omega) ?_
    refine z_put hx hb hts hin3_ tyX3 tyX3_ok nmX3 hown hK hP hD hS 0 rfl rfl 1 (by decide) (hts _ (List.mem_of_getElem? (i := 1) rfl)) rfl rfl rfl (Nat.le_of_ble_eq_true rfl) dX3_giveBack_32 [[(q, .inr (3, [.ref e_, vI (((sz - 1) : Nat) : Int), vI 5]))], [(e_, .inl (g.2 5, 8, .inr (.inr (.inr (.inr (rA [(y 0), (y 1), (y 2), (y 3), (y 4), (y 5), (y 6), (y 7)]))))))], (threeW g (y 0) (X 0) (T 0)), (threeW g (y 1) (X 1) (T 1)), (threeW g (y 2) (X 2) (T 2)), (threeW g (y 3) (X 3) (T 3)), (threeW g (y 4) (X 4) (T 4)), (threeW g (y 5) (X 5) (T 5)), (threeW g (y 6) (X 6) (T 6)), (threeW g (y 7) (X 7) (T 7)), (threeW g r x t)] rfl (fun H locs hP hD hS => ?_)
    refine lv_aload_n hx hb dX3_giveBack_35 rfl (lv_at hl 1 rfl) ?_
    refine lv_aload_n hx hb dX3_giveBack_36 rfl (lv_at hl 0 rfl) ?_
    refine z_get hx hb hts hin3_ hown hK hP 0 rfl rfl 0 (by decide) (hts _ (List.mem_of_getElem? (i := 3) rfl)) rfl dX3_giveBack_37 ?_
    refine lv_aload_n hx hb dX3_giveBack_40 rfl (lv_at hl 0 rfl) ?_
    refine z_get hx hb hts hin3_ hown hK hP 0 rfl rfl 2 (by decide) (hts _ (List.mem_of_getElem? (i := 2) rfl)) rfl dX3_giveBack_41 ?_
    refine z_aald hx hb hK hP 1 5 rfl rfl 5 rfl (by decide) (by decide) (y 5) rfl dX3_giveBack_44 ?_
    refine z_cVv (As := [.ref (y 5)]) (rest := []) ⟨hx, hb, hml, hown, hts⟩ hK hP hD hS hA [10, 7] [0, 1, 2, 3, 4, 5, 6, 8, 9] rfl rfl rfl (c_X8_become l g r x t (y 5) (X 5) (T 5) (hT _)) (cwV 1 hts gX3_giveBack_X8_become rfl rfl rfl (by decide +kernel) ⟨Nat.le_of_ble_eq_true rfl, Nat.le_of_ble_eq_true rfl⟩) 8 0 rfl rfl rfl (fun _ _ _ _ _ _ => trivial) (fun _ _ _ => trivial) rfl hl.1 (Nat.le_of_ble_eq_true rfl) rfl dX3_giveBack_45 ⟨Nat.le_of_ble_eq_true rfl, Nat.le_of_ble_eq_true rfl⟩ (fun u_14 H locs hwu_14 hP hD hS => ?_)
    try dsimp only at hwu_14
    have hP : zP g [[(q, .inr (3, [.ref e_, vI (((sz - 1) : Nat) : Int), vI 5]))], [(e_, .inl (g.2 5, 8, .inr (.inr (.inr (.inr (rA [(y 0), (y 1), (y 2), (y 3), (y 4), (y 5), (y 6), (y 7)]))))))], (threeW g (y 0) (X 0) (T 0)), (threeW g (y 1) (X 1) (T 1)), (threeW g (y 2) (X 2) (T 2)), (threeW g (y 3) (X 3) (T 3)), (threeW g (y 4) (X 4) (T 4)), (threeW g (y 6) (X 6) (T 6)), (threeW g (y 7) (X 7) (T 7)), (threeW g r x (T 5)), (threeW g (y 5) (X 5) (T 5))] H := hP
    have hD : zD A [[(q, .inr (3, [.ref e_, vI (((sz - 1) : Nat) : Int), vI 5]))], [(e_, .inl (g.2 5, 8, .inr (.inr (.inr (.inr (rA [(y 0), (y 1), (y 2), (y 3), (y 4), (y 5), (y 6), (y 7)]))))))], (threeW g (y 0) (X 0) (T 0)), (threeW g (y 1) (X 1) (T 1)), (threeW g (y 2) (X 2) (T 2)), (threeW g (y 3) (X 3) (T 3)), (threeW g (y 4) (X 4) (T 4)), (threeW g (y 6) (X 6) (T 6)), (threeW g (y 7) (X 7) (T 7)), (threeW g r x (T 5)), (threeW g (y 5) (X 5) (T 5))] := hD
    refine z_iconst hx hb dX3_giveBack_48 rfl ?_
    have hP : zP g [[(q, .inr (3, [.ref e_, vI (((sz - 1) : Nat) : Int), vI 5]))], [(e_, .inl (g.2 5, 8, .inr (.inr (.inr (.inr (rA [(y 0), (y 1), (y 2), (y 3), (y 4), (y 5), (y 6), (y 7)]))))))], (threeW g (y 0) (X 0) (T 0)), (threeW g (y 1) (X 1) (T 1)), (threeW g (y 2) (X 2) (T 2)), (threeW g (y 3) (X 3) (T 3)), (threeW g (y 4) (X 4) (T 4)), (threeW g (y 5) (X 5) (T 5)), (threeW g (y 6) (X 6) (T 6)), (threeW g (y 7) (X 7) (T 7)), (threeW g r x (T 5))] H := zP_sub hP [0, 1, 2, 3, 4, 5, 6, 10, 7, 8, 9] rfl
    have hD : zD A [[(q, .inr (3, [.ref e_, vI (((sz - 1) : Nat) : Int), vI 5]))], [(e_, .inl (g.2 5, 8, .inr (.inr (.inr (.inr (rA [(y 0), (y 1), (y 2), (y 3), (y 4), (y 5), (y 6), (y 7)]))))))], (threeW g (y 0) (X 0) (T 0)), (threeW g (y 1) (X 1) (T 1)), (threeW g (y 2) (X 2) (T 2)), (threeW g (y 3) (X 3) (T 3)), (threeW g (y 4) (X 4) (T 4)), (threeW g (y 5) (X 5) (T 5)), (threeW g (y 6) (X 6) (T 6)), (threeW g (y 7) (X 7) (T 7)), (threeW g r x (T 5))] := zD_sub hD [0, 1, 2, 3, 4, 5, 6, 10, 7, 8, 9] rfl rfl
    have hP : zP g [(noteW g q e_ y X T (sz - 1) 5), (threeW g r x (T 5))] H := hP
    have hD : zD A [(noteW g q e_ y X T (sz - 1) 5), (threeW g r x (T 5))] := hD
    exact z_reti () [0, 1] hx hb hr (nar_z (by first | decide | omega)) hlocks hK hP hD hS (rfl) trivial rfl rfl (rfl) (Nat.le_of_ble_eq_true rfl) (Nat.le_of_ble_eq_true rfl) dX3_giveBack_49
  · refine lv_aload_n hx hb dX3_giveBack_0 rfl (lv_at hl 0 rfl) ?_
    have hP : zP g [[(q, .inr (3, [.ref e_, vI ((sz : Nat) : Int), vI 7]))], [(e_, .inl (g.2 5, 8, .inr (.inr (.inr (.inr (rA [(y 0), (y 1), (y 2), (y 3), (y 4), (y 5), (y 6), (y 7)]))))))], (threeW g (y 0) (X 0) (T 0)), (threeW g (y 1) (X 1) (T 1)), (threeW g (y 2) (X 2) (T 2)), (threeW g (y 3) (X 3) (T 3)), (threeW g (y 4) (X 4) (T 4)), (threeW g (y 5) (X 5) (T 5)), (threeW g (y 6) (X 6) (T 6)), (threeW g (y 7) (X 7) (T 7)), (threeW g r x t)] s.heap := hP
    have hD : zD A [[(q, .inr (3, [.ref e_, vI ((sz : Nat) : Int), vI 7]))], [(e_, .inl (g.2 5, 8, .inr (.inr (.inr (.inr (rA [(y 0), (y 1), (y 2), (y 3), (y 4), (y 5), (y 6), (y 7)]))))))], (threeW g (y 0) (X 0) (T 0)), (threeW g (y 1) (X 1) (T 1)), (threeW g (y 2) (X 2) (T 2)), (threeW g (y 3) (X 3) (T 3)), (threeW g (y 4) (X 4) (T 4)), (threeW g (y 5) (X 5) (T 5)), (threeW g (y 6) (X 6) (T 6)), (threeW g (y 7) (X 7) (T 7)), (threeW g r x t)] := hD
    refine z_get hx hb hts hin3_ hown hK hP 0 rfl rfl 1 (by decide) (hts _ (List.mem_of_getElem? (i := 1) rfl)) rfl dX3_giveBack_1 ?_
    refine z_if_ne (tgt := 9) hx hb (by omega) dX3_giveBack_4 (by decide) (fun c15 => ?_) (fun c15 => False.elim (by omega))
    refine lv_aload_n hx hb dX3_giveBack_9 rfl (lv_at hl 0 rfl) ?_
    refine lv_aload_n hx hb dX3_giveBack_10 rfl (lv_at hl 0 rfl) ?_
    refine z_get hx hb hts hin3_ hown hK hP 0 rfl rfl 2 (by decide) (hts _ (List.mem_of_getElem? (i := 2) rfl)) rfl dX3_giveBack_11 ?_
    refine z_bipush hx hb 8 dX3_giveBack_14 rfl ?_
    refine z_iadd hx hb 15 rfl dX3_giveBack_16 ?_
    refine z_iconst hx hb dX3_giveBack_17 rfl ?_
    refine z_isub hx hb 14 rfl dX3_giveBack_18 ?_
    refine z_bipush hx hb 8 dX3_giveBack_19 rfl ?_
    refine z_irem hx hb 6 (by decide) (by decide) rfl dX3_giveBack_21 ?_
    refine z_put hx hb hts hin3_ tyX3 tyX3_ok nmX3 hown hK hP hD hS 0 rfl rfl 2 (by decide) (hts _ (List.mem_of_getElem? (i := 2) rfl)) rfl rfl rfl (Nat.le_of_ble_eq_true rfl) dX3_giveBack_22 [[(q, .inr (3, [.ref e_, vI ((sz : Nat) : Int), vI 6]))], [(e_, .inl (g.2 5, 8, .inr (.inr (.inr (.inr (rA [(y 0), (y 1), (y 2), (y 3), (y 4), (y 5), (y 6), (y 7)]))))))], (threeW g (y 0) (X 0) (T 0)), (threeW g (y 1) (X 1) (T 1)), (threeW g (y 2) (X 2) (T 2)), (threeW g (y 3) (X 3) (T 3)), (threeW g (y 4) (X 4) (T 4)), (threeW g (y 5) (X 5) (T 5)), (threeW g (y 6) (X 6) (T 6)), (threeW g (y 7) (X 7) (T 7)), (threeW g r x t)] rfl (fun H locs hP hD hS => ?_)
    refine lv_aload_n hx hb dX3_giveBack_25 rfl (lv_at hl 0 rfl) ?_
    refine lv_dup hx hb dX3_giveBack_26 rfl ?_
    refine z_get hx hb hts hin3_ hown hK hP 0 rfl rfl 1 (by decide) (hts _ (List.mem_of_getElem? (i := 1) rfl)) rfl dX3_giveBack_27 ?_
    refine z_iconst hx hb dX3_giveBack_30 rfl ?_
    refine z_isub hx hb (((sz : Nat) : Int) - 1) rfl dX3_giveBack_31 ?_
    refine z_toI (((sz - 1) : Nat) : Int) (by omega) ?_
    refine z_put hx hb hts hin3_ tyX3 tyX3_ok nmX3 hown hK hP hD hS 0 rfl rfl 1 (by decide) (hts _ (List.mem_of_getElem? (i := 1) rfl)) rfl rfl rfl (Nat.le_of_ble_eq_true rfl) dX3_giveBack_32 [[(q, .inr (3, [.ref e_, vI (((sz - 1) : Nat) : Int), vI 6]))], [(e_, .inl (g.2 5, 8, .inr (.inr (.inr (.inr (rA [(y 0), (y 1), (y 2), (y 3), (y 4), (y 5), (y 6), (y 7)]))))))], (threeW g (y 0) (X 0) (T 0)), (threeW g (y 1) (X 1) (T 1)), (threeW g (y 2) (X 2) (T 2)), (threeW g (y 3) (X 3) (T 3)), (threeW g (y 4) (X 4) (T 4)), (threeW g (y 5) (X 5) (T 5)), (threeW g (y 6) (X 6) (T 6)), (threeW g (y 7) (X 7) (T 7)), (threeW g r x t)] rfl (fun H locs hP hD hS => ?_)
    refine lv_aload_n hx hb dX3_giveBack_35 rfl (lv_at hl 1 rfl) ?_
    refine lv_aload_n hx hb dX3_giveBack_36 rfl (lv_at hl 0 rfl) ?_
    refine z_get hx hb hts hin3_ hown hK hP 0 rfl rfl 0 (by decide) (hts _ (List.mem_of_getElem? (i := 3) rfl)) rfl dX3_giveBack_37 ?_
    refine lv_aload_n hx hb dX3_giveBack_40 rfl (lv_at hl 0 rfl) ?_
    refine z_get hx hb hts hin3_ hown hK hP 0 rfl rfl 2 (by decide) (hts _ (List.mem_of_getElem? (i := 2) rfl)) rfl dX3_giveBack_41 ?_
    refine z_aald hx hb hK hP 1 5 rfl rfl 6 rfl (by decide) (by decide) (y 6) rfl dX3_giveBack_44 ?_
    refine z_cVv (As := [.ref (y 6)]) (rest := []) ⟨hx, hb, hml, hown, hts⟩ hK hP hD hS hA [10, 8] [0, 1, 2, 3, 4, 5, 6, 7, 9] rfl rfl rfl (c_X8_become l g r x t (y 6) (X 6) (T 6) (hT _)) (cwV 1 hts gX3_giveBack_X8_become rfl rfl rfl (by decide +kernel) ⟨Nat.le_of_ble_eq_true rfl, Nat.le_of_ble_eq_true rfl⟩) 8 0 rfl rfl rfl (fun _ _ _ _ _ _ => trivial) (fun _ _ _ => trivial) rfl hl.1 (Nat.le_of_ble_eq_true rfl) rfl dX3_giveBack_45 ⟨Nat.le_of_ble_eq_true rfl, Nat.le_of_ble_eq_true rfl⟩ (fun u_16 H locs hwu_16 hP hD hS => ?_)
    try dsimp only at hwu_16
    have hP : zP g [[(q, .inr (3, [.ref e_, vI (((sz - 1) : Nat) : Int), vI 6]))], [(e_, .inl (g.2 5, 8, .inr (.inr (.inr (.inr (rA [(y 0), (y 1), (y 2), (y 3), (y 4), (y 5), (y 6), (y 7)]))))))], (threeW g (y 0) (X 0) (T 0)), (threeW g (y 1) (X 1) (T 1)), (threeW g (y 2) (X 2) (T 2)), (threeW g (y 3) (X 3) (T 3)), (threeW g (y 4) (X 4) (T 4)), (threeW g (y 5) (X 5) (T 5)), (threeW g (y 7) (X 7) (T 7)), (threeW g r x (T 6)), (threeW g (y 6) (X 6) (T 6))] H := hP
    have hD : zD A [[(q, .inr (3, [.ref e_, vI (((sz - 1) : Nat) : Int), vI 6]))], [(e_, .inl (g.2 5, 8, .inr (.inr (.inr (.inr (rA [(y 0), (y 1), (y 2), (y 3), (y 4), (y 5), (y 6), (y 7)]))))))], (threeW g (y 0) (X 0) (T 0)), (threeW g (y 1) (X 1) (T 1)), (threeW g (y 2) (X 2) (T 2)), (threeW g (y 3) (X 3) (T 3)), (threeW g (y 4) (X 4) (T 4)), (threeW g (y 5) (X 5) (T 5)), (threeW g (y 7) (X 7) (T 7)), (threeW g r x (T 6)), (threeW g (y 6) (X 6) (T 6))] := hD
    refine z_iconst hx hb dX3_giveBack_48 rfl ?_
    have hP : zP g [[(q, .inr (3, [.ref e_, vI (((sz - 1) : Nat) : Int), vI 6]))], [(e_, .inl (g.2 5, 8, .inr (.inr (.inr (.inr (rA [(y 0), (y 1), (y 2), (y 3), (y 4), (y 5), (y 6), (y 7)]))))))], (threeW g (y 0) (X 0) (T 0)), (threeW g (y 1) (X 1) (T 1)), (threeW g (y 2) (X 2) (T 2)), (threeW g (y 3) (X 3) (T 3)), (threeW g (y 4) (X 4) (T 4)), (threeW g (y 5) (X 5) (T 5)), (threeW g (y 6) (X 6) (T 6)), (threeW g (y 7) (X 7) (T 7)), (threeW g r x (T 6))] H := zP_sub hP [0, 1, 2, 3, 4, 5, 6, 7, 10, 8, 9] rfl
    have hD : zD A [[(q, .inr (3, [.ref e_, vI (((sz - 1) : Nat) : Int), vI 6]))], [(e_, .inl (g.2 5, 8, .inr (.inr (.inr (.inr (rA [(y 0), (y 1), (y 2), (y 3), (y 4), (y 5), (y 6), (y 7)]))))))], (threeW g (y 0) (X 0) (T 0)), (threeW g (y 1) (X 1) (T 1)), (threeW g (y 2) (X 2) (T 2)), (threeW g (y 3) (X 3) (T 3)), (threeW g (y 4) (X 4) (T 4)), (threeW g (y 5) (X 5) (T 5)), (threeW g (y 6) (X 6) (T 6)), (threeW g (y 7) (X 7) (T 7)), (threeW g r x (T 6))] := zD_sub hD [0, 1, 2, 3, 4, 5, 6, 7, 10, 8, 9] rfl rfl
    have hP : zP g [(noteW g q e_ y X T (sz - 1) 6), (threeW g r x (T 6))] H := hP
    have hD : zD A [(noteW g q e_ y X T (sz - 1) 6), (threeW g r x (T 6))] := hD
    exact z_reti () [0, 1] hx hb hr (nar_z (by first | decide | omega)) hlocks hK hP hD hS (rfl) trivial rfl rfl (rfl) (Nat.le_of_ble_eq_true rfl) (Nat.le_of_ble_eq_true rfl) dX3_giveBack_49
