set_option maxHeartbeats 4000000 in
set_option maxRecDepth 100000 in
theorem c_X1_init (l : Launch) (g : zG) (q : Nat)  : zMet l g yX1_init wsX1_init 1 0 0 [.ref q] zX0 [[(q, .inr (1, [vL 0, vL 0, vI 0]))]] (qv g (fun (_ : Unit) => True) (fun (_ : Unit) => [[fr q (some (0, 1))]])) := by
  refine z_ent (cc := cX1_init) (maxL := 1) (ret := none) (by decide) rfl (Nat.le_of_ble_eq_true rfl) ?_
  intro p e s m below meth c A ls hx hb hr hml hown hts hlocks hin0 hA hK hP hD hS hXX hl
  have hown : s.vm.findClass RX1 = some m.cls := hown
  have hin1_ : ∀ w ∈ wsX10, w ∈ wsX1_init := zw_in [7, 8, 9] rfl
  have hl : lv_has ls 1 [(0, .ref q)] := hl
  refine lv_aload_n hx hb dX1_init_0 rfl (lv_at hl 0 rfl) ?_
  refine W.objInit hx hb hown (hts _ (List.mem_of_getElem? (i := 1) rfl)) (hts _ (List.mem_of_getElem? (i := 2) rfl)) (hts _ (List.mem_of_getElem? (i := 3) rfl)) rfl (by rw [hml]; exact hl.1) rfl dX1_init_1 (Nat.le_of_ble_eq_true rfl) (Nat.le_of_ble_eq_true rfl) ?_
  refine W.eq (g2 := F0 m 4 ls []) rfl ?_
  refine lv_aload_n hx hb dX1_init_4 rfl (lv_at hl 0 rfl) ?_
  refine z_lconst hx hb 0 dX1_init_5 rfl ?_
  refine z_put hx hb hts hin1_ tyX1 tyX1_ok nmX1 hown hK hP hD hS 0 rfl rfl 0 (by decide) (hts _ (List.mem_of_getElem? (i := 4) rfl)) rfl rfl rfl (Nat.le_of_ble_eq_true rfl) dX1_init_6 [[(q, .inr (1, [vL 0, vL 0, vI 0]))]] rfl (fun H locs hP hD hS => ?_)
  refine lv_aload_n hx hb dX1_init_9 rfl (lv_at hl 0 rfl) ?_
  refine z_lconst hx hb 1 dX1_init_10 rfl ?_
  refine z_put hx hb hts hin1_ tyX1 tyX1_ok nmX1 hown hK hP hD hS 0 rfl rfl 1 (by decide) (hts _ (List.mem_of_getElem? (i := 5) rfl)) rfl rfl rfl (Nat.le_of_ble_eq_true rfl) dX1_init_11 [[(q, .inr (1, [vL 0, vL 1, vI 0]))]] rfl (fun H locs hP hD hS => ?_)
  refine lv_aload_n hx hb dX1_init_14 rfl (lv_at hl 0 rfl) ?_
  refine z_iconst hx hb dX1_init_15 rfl ?_
  refine z_put hx hb hts hin1_ tyX1 tyX1_ok nmX1 hown hK hP hD hS 0 rfl rfl 2 (by decide) (hts _ (List.mem_of_getElem? (i := 6) rfl)) rfl (nar_z (by decide)) (fit_z (by decide)) (Nat.le_of_ble_eq_true rfl) dX1_init_16 [[(q, .inr (1, [vL 0, vL 1, vI 0]))]] rfl (fun H locs hP hD hS => ?_)
  exact z_retv () [0] hx hb hr hlocks hK hP hD hS trivial rfl rfl (rfl) (Nat.le_of_ble_eq_true rfl) (Nat.le_of_ble_eq_true rfl) dX1_init_19

set_option maxHeartbeats 4000000 in
set_option maxRecDepth 100000 in
theorem c_X4_init (l : Launch) (g : zG) (q : Nat)  : zMet l g yX4_init wsX4_init 2 2 6 [.ref q] zXN [[(q, .inr (4, [.null, .null]))]] (qv g (fun (u_ : Nat × Nat) => True) (fun (u_ : Nat × Nat) => [[(q, .inr (4, [.ref u_.1, .ref u_.2]))], [fr u_.1 (some (0, 1))], [fr u_.2 (some (0, 1))]])) := by
  refine z_ent (cc := cX4_init) (maxL := 1) (ret := none) (by decide) rfl (Nat.le_of_ble_eq_true rfl) ?_
  intro p e s m below meth c A ls hx hb hr hml hown hts hlocks hin0 hA hK hP hD hS hXX hl
  have hown : s.vm.findClass RX4 = some m.cls := hown
  have hin1_ : ∀ w ∈ wsX10, w ∈ wsX4_init := zw_in [15, 16, 17] rfl
  have hin4_ : ∀ w ∈ wsX40, w ∈ wsX4_init := zw_in [18, 19] rfl
  have hl : lv_has ls 1 [(0, .ref q)] := hl
  refine lv_aload_n hx hb dX4_init_0 rfl (lv_at hl 0 rfl) ?_
  refine W.objInit hx hb hown (hts _ (List.mem_of_getElem? (i := 1) rfl)) (hts _ (List.mem_of_getElem? (i := 2) rfl)) (hts _ (List.mem_of_getElem? (i := 3) rfl)) rfl (by rw [hml]; exact hl.1) rfl dX4_init_1 (Nat.le_of_ble_eq_true rfl) (Nat.le_of_ble_eq_true rfl) ?_
  refine W.eq (g2 := F0 m 4 ls []) rfl ?_
  refine lv_aload_n hx hb dX4_init_4 rfl (lv_at hl 0 rfl) ?_
  refine z_new hx hb hts hin1_ tyX1 tyX1_ok hown (hts _ (List.mem_of_getElem? (i := 4) rfl)) (hts _ (List.mem_of_getElem? (i := 5) rfl)) (hts _ (List.mem_of_getElem? (i := 6) rfl)) hK hP hD hS hA (ci := 1) rfl (fs := [vL 0, vL 0, vI 0]) (by decide) (Nat.le_of_ble_eq_true rfl) (Nat.le_of_ble_eq_true rfl) dX4_init_5 (fun q_1 H hP hD hS => ?_)
  have hP : zP g [[(q, .inr (4, [.null, .null]))], [(q_1, .inr (1, [vL 0, vL 0, vI 0]))]] H := hP
  have hD : zD A [[(q, .inr (4, [.null, .null]))], [(q_1, .inr (1, [vL 0, vL 0, vI 0]))]] := hD
  refine lv_dup hx hb dX4_init_8 rfl ?_
  refine z_cINv (As := []) (rest := [.ref q_1, .ref q]) ⟨hx, hb, hml, hown, hts⟩ hK hP hD hS hA [1] [0] rfl rfl rfl (c_X1_init l g q_1 ) ⟨va_cnB 0 hts gX4_init_X1_init_n9 rfl rfl rfl (hXX.1 _ (List.mem_of_getElem? (i := 3) rfl)) (hts _ (List.mem_of_getElem? (i := 6) rfl)) (by decide +kernel) ⟨Nat.le_of_ble_eq_true rfl, Nat.le_of_ble_eq_true rfl⟩, rfl, (hts _ (List.mem_of_getElem? (i := 9) rfl))⟩ (fun _ _ _ _ _ _ => trivial) (fun _ _ _ => trivial) rfl hl.1 (Nat.le_of_ble_eq_true rfl) rfl dX4_init_9 ⟨Nat.le_of_ble_eq_true rfl, Nat.le_of_ble_eq_true rfl⟩ (fun u_2 H locs hwu_2 hP hD hS => ?_)
  try dsimp only at hwu_2
  have hP : zP g [[(q, .inr (4, [.null, .null]))], [fr q_1 (some (0, 1))]] H := hP
  have hD : zD A [[(q, .inr (4, [.null, .null]))], [fr q_1 (some (0, 1))]] := hD
  refine z_put hx hb hts hin4_ tyX4 tyX4_ok nmX4 hown hK hP hD hS 0 rfl rfl 0 (by decide) (hts _ (List.mem_of_getElem? (i := 7) rfl)) rfl rfl rfl (Nat.le_of_ble_eq_true rfl) dX4_init_12 [[(q, .inr (4, [.ref q_1, .null]))], [fr q_1 (some (0, 1))]] rfl (fun H locs hP hD hS => ?_)
  refine lv_aload_n hx hb dX4_init_15 rfl (lv_at hl 0 rfl) ?_
  refine z_new hx hb hts hin1_ tyX1 tyX1_ok hown (hts _ (List.mem_of_getElem? (i := 4) rfl)) (hts _ (List.mem_of_getElem? (i := 5) rfl)) (hts _ (List.mem_of_getElem? (i := 6) rfl)) hK hP hD hS hA (ci := 1) rfl (fs := [vL 0, vL 0, vI 0]) (by decide) (Nat.le_of_ble_eq_true rfl) (Nat.le_of_ble_eq_true rfl) dX4_init_16 (fun q_3 H hP hD hS => ?_)
  have hP : zP g [[(q, .inr (4, [.ref q_1, .null]))], [fr q_1 (some (0, 1))], [(q_3, .inr (1, [vL 0, vL 0, vI 0]))]] H := hP
  have hD : zD A [[(q, .inr (4, [.ref q_1, .null]))], [fr q_1 (some (0, 1))], [(q_3, .inr (1, [vL 0, vL 0, vI 0]))]] := hD
  refine lv_dup hx hb dX4_init_19 rfl ?_
  refine z_cINv (As := []) (rest := [.ref q_3, .ref q]) ⟨hx, hb, hml, hown, hts⟩ hK hP hD hS hA [2] [0, 1] rfl rfl rfl (c_X1_init l g q_3 ) ⟨va_cnB 0 hts gX4_init_X1_init_n9 rfl rfl rfl (hXX.1 _ (List.mem_of_getElem? (i := 3) rfl)) (hts _ (List.mem_of_getElem? (i := 6) rfl)) (by decide +kernel) ⟨Nat.le_of_ble_eq_true rfl, Nat.le_of_ble_eq_true rfl⟩, rfl, (hts _ (List.mem_of_getElem? (i := 9) rfl))⟩ (fun _ _ _ _ _ _ => trivial) (fun _ _ _ => trivial) rfl hl.1 (Nat.le_of_ble_eq_true rfl) rfl dX4_init_20 ⟨Nat.le_of_ble_eq_true rfl, Nat.le_of_ble_eq_true rfl⟩ (fun u_4 H locs hwu_4 hP hD hS => ?_)
  try dsimp only at hwu_4
  have hP : zP g [[(q, .inr (4, [.ref q_1, .null]))], [fr q_1 (some (0, 1))], [fr q_3 (some (0, 1))]] H := hP
  have hD : zD A [[(q, .inr (4, [.ref q_1, .null]))], [fr q_1 (some (0, 1))], [fr q_3 (some (0, 1))]] := hD
  refine z_put hx hb hts hin4_ tyX4 tyX4_ok nmX4 hown hK hP hD hS 0 rfl rfl 1 (by decide) (hts _ (List.mem_of_getElem? (i := 8) rfl)) rfl rfl rfl (Nat.le_of_ble_eq_true rfl) dX4_init_23 [[(q, .inr (4, [.ref q_1, .ref q_3]))], [fr q_1 (some (0, 1))], [fr q_3 (some (0, 1))]] rfl (fun H locs hP hD hS => ?_)
  exact z_retv (q_1, q_3) [0, 1, 2] hx hb hr hlocks hK hP hD hS trivial rfl rfl (rfl) (Nat.le_of_ble_eq_true rfl) (Nat.le_of_ble_eq_true rfl) dX4_init_26

set_option maxHeartbeats 4000000 in
set_option maxRecDepth 100000 in
theorem c_X8_init (l : Launch) (g : zG) (q : Nat)  : zMet l g yX8_init wsX8_init 3 10 27 [.ref q] zXN [[(q, .inr (8, [.null]))]] (qv g (fun (x : Nat → Nat) => True) (fun (x : Nat → Nat) => [(threeW g q x zT0)])) := by
  refine z_ent (cc := cX8_init) (maxL := 1) (ret := none) (by decide) rfl (Nat.le_of_ble_eq_true rfl) ?_
  intro p e s m below meth c A ls hx hb hr hml hown hts hlocks hin0 hA hK hP hD hS hXX hl
  have hown : s.vm.findClass RX8 = some m.cls := hown
  have hin4_ : ∀ w ∈ wsX40, w ∈ wsX8_init := zw_in [22, 23] rfl
  have hin8_ : ∀ w ∈ wsX80, w ∈ wsX8_init := zw_in [24] rfl
  have hl : lv_has ls 1 [(0, .ref q)] := hl
  refine lv_aload_n hx hb dX8_init_0 rfl (lv_at hl 0 rfl) ?_
  refine W.objInit hx hb hown (hts _ (List.mem_of_getElem? (i := 1) rfl)) (hts _ (List.mem_of_getElem? (i := 2) rfl)) (hts _ (List.mem_of_getElem? (i := 3) rfl)) rfl (by rw [hml]; exact hl.1) rfl dX8_init_1 (Nat.le_of_ble_eq_true rfl) (Nat.le_of_ble_eq_true rfl) ?_
  refine W.eq (g2 := F0 m 4 ls []) rfl ?_
  refine lv_aload_n hx hb dX8_init_4 rfl (lv_at hl 0 rfl) ?_
  refine z_iconst hx hb dX8_init_5 rfl ?_
  refine z_newqNum hx hb hown (hts _ (List.mem_of_getElem? (i := 4) rfl)) hXX.2.1 hK hP hD hS hA (3) rfl (by decide) (Nat.le_of_ble_eq_true rfl) (Nat.le_of_ble_eq_true rfl) dX8_init_6 (fun q_1 H hP hD hS => ?_)
  have hP : zP g [[(q, .inr (8, [.null]))], [(q_1, .inl (g.2 3, 3, .inr (.inr (.inr (.inr (fun _ => none))))))]] H := hP
  have hD : zD A [[(q, .inr (8, [.null]))], [(q_1, .inl (g.2 3, 3, .inr (.inr (.inr (.inr (fun _ => none))))))]] := hD
  refine lv_dup hx hb dX8_init_9 rfl ?_
  refine z_iconst hx hb dX8_init_10 rfl ?_
  refine z_new hx hb hts hin4_ tyX4 tyX4_ok hown (hts _ (List.mem_of_getElem? (i := 4) rfl)) (hts _ (List.mem_of_getElem? (i := 5) rfl)) (hts _ (List.mem_of_getElem? (i := 6) rfl)) hK hP hD hS hA (ci := 4) rfl (fs := [.null, .null]) (by decide) (Nat.le_of_ble_eq_true rfl) (Nat.le_of_ble_eq_true rfl) dX8_init_11 (fun q_2 H hP hD hS => ?_)
  have hP : zP g [[(q, .inr (8, [.null]))], [(q_1, .inl (g.2 3, 3, .inr (.inr (.inr (.inr (fun _ => none))))))], [(q_2, .inr (4, [.null, .null]))]] H := hP
  have hD : zD A [[(q, .inr (8, [.null]))], [(q_1, .inl (g.2 3, 3, .inr (.inr (.inr (.inr (fun _ => none))))))], [(q_2, .inr (4, [.null, .null]))]] := hD
  refine lv_dup hx hb dX8_init_14 rfl ?_
  refine z_cINv (As := []) (rest := [.ref q_2, vI 0, .ref q_1, .ref q_1, .ref q]) ⟨hx, hb, hml, hown, hts⟩ hK hP hD hS hA [2] [0, 1] rfl rfl rfl (c_X4_init l g q_2 ) ⟨va_cnB 0 hts gX8_init_X4_init_n11 rfl rfl rfl (hXX.1 _ (List.mem_of_getElem? (i := 2) rfl)) (hts _ (List.mem_of_getElem? (i := 6) rfl)) (by decide +kernel) ⟨Nat.le_of_ble_eq_true rfl, Nat.le_of_ble_eq_true rfl⟩, rfl, (hts _ (List.mem_of_getElem? (i := 8) rfl))⟩ zXN_b (zXN_s hXX) rfl hl.1 (Nat.le_of_ble_eq_true rfl) rfl dX8_init_15 ⟨Nat.le_of_ble_eq_true rfl, Nat.le_of_ble_eq_true rfl⟩ (fun u_3 H locs hwu_3 hP hD hS => ?_)
  obtain ⟨a_4, b_5⟩ := u_3
  try dsimp only at hwu_3
  have hP : zP g [[(q, .inr (8, [.null]))], [(q_1, .inl (g.2 3, 3, .inr (.inr (.inr (.inr (fun _ => none))))))], [(q_2, .inr (4, [.ref a_4, .ref b_5]))], [fr a_4 (some (0, 1))], [fr b_5 (some (0, 1))]] H := hP
  have hD : zD A [[(q, .inr (8, [.null]))], [(q_1, .inl (g.2 3, 3, .inr (.inr (.inr (.inr (fun _ => none))))))], [(q_2, .inr (4, [.ref a_4, .ref b_5]))], [fr a_4 (some (0, 1))], [fr b_5 (some (0, 1))]] := hD
  refine z_aast hx hb hK hP 1 3 2 4 hD hS rfl rfl rfl rfl 0 rfl (by decide) (by decide) dX8_init_18 [[(q, .inr (8, [.null]))], [(q_1, .inl (g.2 3, 3, .inr (.inr (.inr (.inr (va_up (fun _ => none) 0 (some q_2)))))))], [(q_2, .inr (4, [.ref a_4, .ref b_5]))], [fr a_4 (some (0, 1))], [fr b_5 (some (0, 1))]] rfl (fun H locs hP hD hS => ?_)
  refine lv_dup hx hb dX8_init_19 rfl ?_
  refine z_iconst hx hb dX8_init_20 rfl ?_
  refine z_new hx hb hts hin4_ tyX4 tyX4_ok hown (hts _ (List.mem_of_getElem? (i := 4) rfl)) (hts _ (List.mem_of_getElem? (i := 5) rfl)) (hts _ (List.mem_of_getElem? (i := 6) rfl)) hK hP hD hS hA (ci := 4) rfl (fs := [.null, .null]) (by decide) (Nat.le_of_ble_eq_true rfl) (Nat.le_of_ble_eq_true rfl) dX8_init_21 (fun q_6 H hP hD hS => ?_)
  have hP : zP g [[(q, .inr (8, [.null]))], [(q_1, .inl (g.2 3, 3, .inr (.inr (.inr (.inr (va_up (fun _ => none) 0 (some q_2)))))))], [(q_2, .inr (4, [.ref a_4, .ref b_5]))], [fr a_4 (some (0, 1))], [fr b_5 (some (0, 1))], [(q_6, .inr (4, [.null, .null]))]] H := hP
  have hD : zD A [[(q, .inr (8, [.null]))], [(q_1, .inl (g.2 3, 3, .inr (.inr (.inr (.inr (va_up (fun _ => none) 0 (some q_2)))))))], [(q_2, .inr (4, [.ref a_4, .ref b_5]))], [fr a_4 (some (0, 1))], [fr b_5 (some (0, 1))], [(q_6, .inr (4, [.null, .null]))]] := hD
  refine lv_dup hx hb dX8_init_24 rfl ?_
  refine z_cINv (As := []) (rest := [.ref q_6, vI 1, .ref q_1, .ref q_1, .ref q]) ⟨hx, hb, hml, hown, hts⟩ hK hP hD hS hA [5] [0, 1, 2, 3, 4] rfl rfl rfl (c_X4_init l g q_6 ) ⟨va_cnB 0 hts gX8_init_X4_init_n11 rfl rfl rfl (hXX.1 _ (List.mem_of_getElem? (i := 2) rfl)) (hts _ (List.mem_of_getElem? (i := 6) rfl)) (by decide +kernel) ⟨Nat.le_of_ble_eq_true rfl, Nat.le_of_ble_eq_true rfl⟩, rfl, (hts _ (List.mem_of_getElem? (i := 8) rfl))⟩ zXN_b (zXN_s hXX) rfl hl.1 (Nat.le_of_ble_eq_true rfl) rfl dX8_init_25 ⟨Nat.le_of_ble_eq_true rfl, Nat.le_of_ble_eq_true rfl⟩ (fun u_7 H locs hwu_7 hP hD hS => ?_)
  obtain ⟨a_8, b_9⟩ := u_7
  try dsimp only at hwu_7
  have hP : zP g [[(q, .inr (8, [.null]))], [(q_1, .inl (g.2 3, 3, .inr (.inr (.inr (.inr (va_up (fun _ => none) 0 (some q_2)))))))], [(q_2, .inr (4, [.ref a_4, .ref b_5]))], [fr a_4 (some (0, 1))], [fr b_5 (some (0, 1))], [(q_6, .inr (4, [.ref a_8, .ref b_9]))], [fr a_8 (some (0, 1))], [fr b_9 (some (0, 1))]] H := hP
  have hD : zD A [[(q, .inr (8, [.null]))], [(q_1, .inl (g.2 3, 3, .inr (.inr (.inr (.inr (va_up (fun _ => none) 0 (some q_2)))))))], [(q_2, .inr (4, [.ref a_4, .ref b_5]))], [fr a_4 (some (0, 1))], [fr b_5 (some (0, 1))], [(q_6, .inr (4, [.ref a_8, .ref b_9]))], [fr a_8 (some (0, 1))], [fr b_9 (some (0, 1))]] := hD
  refine z_aast hx hb hK hP 1 3 5 4 hD hS rfl rfl rfl rfl 1 rfl (by decide) (by decide) dX8_init_28 [[(q, .inr (8, [.null]))], [(q_1, .inl (g.2 3, 3, .inr (.inr (.inr (.inr (va_up (va_up (fun _ => none) 0 (some q_2)) 1 (some q_6)))))))], [(q_2, .inr (4, [.ref a_4, .ref b_5]))], [fr a_4 (some (0, 1))], [fr b_5 (some (0, 1))], [(q_6, .inr (4, [.ref a_8, .ref b_9]))], [fr a_8 (some (0, 1))], [fr b_9 (some (0, 1))]] rfl (fun H locs hP hD hS => ?_)
  refine lv_dup hx hb dX8_init_29 rfl ?_
  refine z_iconst hx hb dX8_init_30 rfl ?_
  refine z_new hx hb hts hin4_ tyX4 tyX4_ok hown (hts _ (List.mem_of_getElem? (i := 4) rfl)) (hts _ (List.mem_of_getElem? (i := 5) rfl)) (hts _ (List.mem_of_getElem? (i := 6) rfl)) hK hP hD hS hA (ci := 4) rfl (fs := [.null, .null]) (by decide) (Nat.le_of_ble_eq_true rfl) (Nat.le_of_ble_eq_true rfl) dX8_init_31 (fun q_10 H hP hD hS => ?_)
  have hP : zP g [[(q, .inr (8, [.null]))], [(q_1, .inl (g.2 3, 3, .inr (.inr (.inr (.inr (va_up (va_up (fun _ => none) 0 (some q_2)) 1 (some q_6)))))))], [(q_2, .inr (4, [.ref a_4, .ref b_5]))], [fr a_4 (some (0, 1))], [fr b_5 (some (0, 1))], [(q_6, .inr (4, [.ref a_8, .ref b_9]))], [fr a_8 (some (0, 1))], [fr b_9 (some (0, 1))], [(q_10, .inr (4, [.null, .null]))]] H := hP
  have hD : zD A [[(q, .inr (8, [.null]))], [(q_1, .inl (g.2 3, 3, .inr (.inr (.inr (.inr (va_up (va_up (fun _ => none) 0 (some q_2)) 1 (some q_6)))))))], [(q_2, .inr (4, [.ref a_4, .ref b_5]))], [fr a_4 (some (0, 1))], [fr b_5 (some (0, 1))], [(q_6, .inr (4, [.ref a_8, .ref b_9]))], [fr a_8 (some (0, 1))], [fr b_9 (some (0, 1))], [(q_10, .inr (4, [.null, .null]))]] := hD
  refine lv_dup hx hb dX8_init_34 rfl ?_
  refine z_cINv (As := []) (rest := [.ref q_10, vI 2, .ref q_1, .ref q_1, .ref q]) ⟨hx, hb, hml, hown, hts⟩ hK hP hD hS hA [8] [0, 1, 2, 3, 4, 5, 6, 7] rfl rfl rfl (c_X4_init l g q_10 ) ⟨va_cnB 0 hts gX8_init_X4_init_n11 rfl rfl rfl (hXX.1 _ (List.mem_of_getElem? (i := 2) rfl)) (hts _ (List.mem_of_getElem? (i := 6) rfl)) (by decide +kernel) ⟨Nat.le_of_ble_eq_true rfl, Nat.le_of_ble_eq_true rfl⟩, rfl, (hts _ (List.mem_of_getElem? (i := 8) rfl))⟩ zXN_b (zXN_s hXX) rfl hl.1 (Nat.le_of_ble_eq_true rfl) rfl dX8_init_35 ⟨Nat.le_of_ble_eq_true rfl, Nat.le_of_ble_eq_true rfl⟩ (fun u_11 H locs hwu_11 hP hD hS => ?_)
  obtain ⟨a_12, b_13⟩ := u_11
  try dsimp only at hwu_11
  have hP : zP g [[(q, .inr (8, [.null]))], [(q_1, .inl (g.2 3, 3, .inr (.inr (.inr (.inr (va_up (va_up (fun _ => none) 0 (some q_2)) 1 (some q_6)))))))], [(q_2, .inr (4, [.ref a_4, .ref b_5]))], [fr a_4 (some (0, 1))], [fr b_5 (some (0, 1))], [(q_6, .inr (4, [.ref a_8, .ref b_9]))], [fr a_8 (some (0, 1))], [fr b_9 (some (0, 1))], [(q_10, .inr (4, [.ref a_12, .ref b_13]))], [fr a_12 (some (0, 1))], [fr b_13 (some (0, 1))]] H := hP
  have hD : zD A [[(q, .inr (8, [.null]))], [(q_1, .inl (g.2 3, 3, .inr (.inr (.inr (.inr (va_up (va_up (fun _ => none) 0 (some q_2)) 1 (some q_6)))))))], [(q_2, .inr (4, [.ref a_4, .ref b_5]))], [fr a_4 (some (0, 1))], [fr b_5 (some (0, 1))], [(q_6, .inr (4, [.ref a_8, .ref b_9]))], [fr a_8 (some (0, 1))], [fr b_9 (some (0, 1))], [(q_10, .inr (4, [.ref a_12, .ref b_13]))], [fr a_12 (some (0, 1))], [fr b_13 (some (0, 1))]] := hD
  refine z_aast hx hb hK hP 1 3 8 4 hD hS rfl rfl rfl rfl 2 rfl (by decide) (by decide) dX8_init_38 [[(q, .inr (8, [.null]))], [(q_1, .inl (g.2 3, 3, .inr (.inr (.inr (.inr (va_up (va_up (va_up (fun _ => none) 0 (some q_2)) 1 (some q_6)) 2 (some q_10)))))))], [(q_2, .inr (4, [.ref a_4, .ref b_5]))], [fr a_4 (some (0, 1))], [fr b_5 (some (0, 1))], [(q_6, .inr (4, [.ref a_8, .ref b_9]))], [fr a_8 (some (0, 1))], [fr b_9 (some (0, 1))], [(q_10, .inr (4, [.ref a_12, .ref b_13]))], [fr a_12 (some (0, 1))], [fr b_13 (some (0, 1))]] rfl (fun H locs hP hD hS => ?_)
  rw [up3] at hP hD
  have hP : zP g [[(q, .inr (8, [.null]))], [(q_1, .inl (g.2 3, 3, .inr (.inr (.inr (.inr (rA [q_2, q_6, q_10]))))))], [(q_2, .inr (4, [.ref a_4, .ref b_5]))], [fr a_4 (some (0, 1))], [fr b_5 (some (0, 1))], [(q_6, .inr (4, [.ref a_8, .ref b_9]))], [fr a_8 (some (0, 1))], [fr b_9 (some (0, 1))], [(q_10, .inr (4, [.ref a_12, .ref b_13]))], [fr a_12 (some (0, 1))], [fr b_13 (some (0, 1))]] H := hP
  have hD : zD A [[(q, .inr (8, [.null]))], [(q_1, .inl (g.2 3, 3, .inr (.inr (.inr (.inr (rA [q_2, q_6, q_10]))))))], [(q_2, .inr (4, [.ref a_4, .ref b_5]))], [fr a_4 (some (0, 1))], [fr b_5 (some (0, 1))], [(q_6, .inr (4, [.ref a_8, .ref b_9]))], [fr a_8 (some (0, 1))], [fr b_9 (some (0, 1))], [(q_10, .inr (4, [.ref a_12, .ref b_13]))], [fr a_12 (some (0, 1))], [fr b_13 (some (0, 1))]] := hD
  refine z_putF hx hb hts hin8_ tyX8 tyX8_ok nmX8 hown hK hP hD hS 0 rfl rfl 0 (by decide) (hts _ (List.mem_of_getElem? (i := 7) rfl)) rfl hin0 rfl rfl rfl (Nat.le_of_ble_eq_true rfl) dX8_init_39 [[(q, .inr (8, [.ref q_1]))], [(q_1, .inl (g.2 3, 3, .inr (.inr (.inr (.inr (rA [q_2, q_6, q_10]))))))], [(q_2, .inr (4, [.ref a_4, .ref b_5]))], [fr a_4 (some (0, 1))], [fr b_5 (some (0, 1))], [(q_6, .inr (4, [.ref a_8, .ref b_9]))], [fr a_8 (some (0, 1))], [fr b_9 (some (0, 1))], [(q_10, .inr (4, [.ref a_12, .ref b_13]))], [fr a_12 (some (0, 1))], [fr b_13 (some (0, 1))]] rfl (fun H locs hP hD hS => ?_)
  have hP : zP g [(threeW g q (lA [q_1, q_2, a_4, b_5, q_6, a_8, b_9, q_10, a_12, b_13]) (lF [(some (0, 1)), (some (0, 1)), (some (0, 1)), (some (0, 1)), (some (0, 1)), (some (0, 1))]))] H := hP
  have hD : zD A [(threeW g q (lA [q_1, q_2, a_4, b_5, q_6, a_8, b_9, q_10, a_12, b_13]) (lF [(some (0, 1)), (some (0, 1)), (some (0, 1)), (some (0, 1)), (some (0, 1)), (some (0, 1))]))] := hD
  exact z_retv (lA [q_1, q_2, a_4, b_5, q_6, a_8, b_9, q_10, a_12, b_13]) [0] hx hb hr hlocks hK hP hD hS trivial rfl rfl (rfl) (Nat.le_of_ble_eq_true rfl) (Nat.le_of_ble_eq_true rfl) dX8_init_42

set_option maxHeartbeats 4000000 in
set_option maxRecDepth 100000 in
theorem c_X5_init (l : Launch) (g : zG) (q : Nat)  : zMet l g yX5_init wsX5_init 3 9 25 [.ref q] zXN [[(q, .inr (5, [.null, .null, .null, .null, .null]))]] (qv g (fun (x : Nat → Nat) => True) (fun (x : Nat → Nat) => [(recW g q x (lF [(some (0, 1)), (some (0, 1)), (some (0, 1)), (some (0, 1)), (some (0, 1)), (some (0, 1)), (some (0, 1))]))])) := by
  refine z_ent (cc := cX5_init) (maxL := 1) (ret := none) (by decide) rfl (Nat.le_of_ble_eq_true rfl) ?_
  intro p e s m below meth c A ls hx hb hr hml hown hts hlocks hin0 hA hK hP hD hS hXX hl
  have hown : s.vm.findClass RX5 = some m.cls := hown
  have hin1_ : ∀ w ∈ wsX10, w ∈ wsX5_init := zw_in [34, 35, 36] rfl
  have hin4_ : ∀ w ∈ wsX40, w ∈ wsX5_init := zw_in [27, 28] rfl
  have hin5_ : ∀ w ∈ wsX50, w ∈ wsX5_init := zw_in [29, 30, 31, 32, 33] rfl
  have hl : lv_has ls 1 [(0, .ref q)] := hl
  refine lv_aload_n hx hb dX5_init_0 rfl (lv_at hl 0 rfl) ?_
  refine W.objInit hx hb hown (hts _ (List.mem_of_getElem? (i := 1) rfl)) (hts _ (List.mem_of_getElem? (i := 2) rfl)) (hts _ (List.mem_of_getElem? (i := 3) rfl)) rfl (by rw [hml]; exact hl.1) rfl dX5_init_1 (Nat.le_of_ble_eq_true rfl) (Nat.le_of_ble_eq_true rfl) ?_
  refine W.eq (g2 := F0 m 4 ls []) rfl ?_
  refine lv_aload_n hx hb dX5_init_4 rfl (lv_at hl 0 rfl) ?_
  refine z_new hx hb hts hin4_ tyX4 tyX4_ok hown (hts _ (List.mem_of_getElem? (i := 4) rfl)) (hts _ (List.mem_of_getElem? (i := 5) rfl)) (hts _ (List.mem_of_getElem? (i := 6) rfl)) hK hP hD hS hA (ci := 4) rfl (fs := [.null, .null]) (by decide) (Nat.le_of_ble_eq_true rfl) (Nat.le_of_ble_eq_true rfl) dX5_init_5 (fun q_1 H hP hD hS => ?_)
  have hP : zP g [[(q, .inr (5, [.null, .null, .null, .null, .null]))], [(q_1, .inr (4, [.null, .null]))]] H := hP
  have hD : zD A [[(q, .inr (5, [.null, .null, .null, .null, .null]))], [(q_1, .inr (4, [.null, .null]))]] := hD
  refine lv_dup hx hb dX5_init_8 rfl ?_
  refine z_cINv (As := []) (rest := [.ref q_1, .ref q]) ⟨hx, hb, hml, hown, hts⟩ hK hP hD hS hA [1] [0] rfl rfl rfl (c_X4_init l g q_1 ) ⟨va_cnB 0 hts gX5_init_X4_init_n11 rfl rfl rfl (hXX.1 _ (List.mem_of_getElem? (i := 6) rfl)) (hts _ (List.mem_of_getElem? (i := 6) rfl)) (by decide +kernel) ⟨Nat.le_of_ble_eq_true rfl, Nat.le_of_ble_eq_true rfl⟩, rfl, (hts _ (List.mem_of_getElem? (i := 15) rfl))⟩ zXN_b (zXN_s hXX) rfl hl.1 (Nat.le_of_ble_eq_true rfl) rfl dX5_init_9 ⟨Nat.le_of_ble_eq_true rfl, Nat.le_of_ble_eq_true rfl⟩ (fun u_2 H locs hwu_2 hP hD hS => ?_)
  obtain ⟨a_3, b_4⟩ := u_2
  try dsimp only at hwu_2
  have hP : zP g [[(q, .inr (5, [.null, .null, .null, .null, .null]))], [(q_1, .inr (4, [.ref a_3, .ref b_4]))], [fr a_3 (some (0, 1))], [fr b_4 (some (0, 1))]] H := hP
  have hD : zD A [[(q, .inr (5, [.null, .null, .null, .null, .null]))], [(q_1, .inr (4, [.ref a_3, .ref b_4]))], [fr a_3 (some (0, 1))], [fr b_4 (some (0, 1))]] := hD
  refine z_putF hx hb hts hin5_ tyX5 tyX5_ok nmX5 hown hK hP hD hS 0 rfl rfl 0 (by decide) (hts _ (List.mem_of_getElem? (i := 7) rfl)) rfl hin0 rfl rfl rfl (Nat.le_of_ble_eq_true rfl) dX5_init_12 [[(q, .inr (5, [.ref q_1, .null, .null, .null, .null]))], [(q_1, .inr (4, [.ref a_3, .ref b_4]))], [fr a_3 (some (0, 1))], [fr b_4 (some (0, 1))]] rfl (fun H locs hP hD hS => ?_)
  refine lv_aload_n hx hb dX5_init_15 rfl (lv_at hl 0 rfl) ?_
  refine z_new hx hb hts hin4_ tyX4 tyX4_ok hown (hts _ (List.mem_of_getElem? (i := 4) rfl)) (hts _ (List.mem_of_getElem? (i := 5) rfl)) (hts _ (List.mem_of_getElem? (i := 6) rfl)) hK hP hD hS hA (ci := 4) rfl (fs := [.null, .null]) (by decide) (Nat.le_of_ble_eq_true rfl) (Nat.le_of_ble_eq_true rfl) dX5_init_16 (fun q_5 H hP hD hS => ?_)
  have hP : zP g [[(q, .inr (5, [.ref q_1, .null, .null, .null, .null]))], [(q_1, .inr (4, [.ref a_3, .ref b_4]))], [fr a_3 (some (0, 1))], [fr b_4 (some (0, 1))], [(q_5, .inr (4, [.null, .null]))]] H := hP
  have hD : zD A [[(q, .inr (5, [.ref q_1, .null, .null, .null, .null]))], [(q_1, .inr (4, [.ref a_3, .ref b_4]))], [fr a_3 (some (0, 1))], [fr b_4 (some (0, 1))], [(q_5, .inr (4, [.null, .null]))]] := hD
  refine lv_dup hx hb dX5_init_19 rfl ?_
  refine z_cINv (As := []) (rest := [.ref q_5, .ref q]) ⟨hx, hb, hml, hown, hts⟩ hK hP hD hS hA [4] [0, 1, 2, 3] rfl rfl rfl (c_X4_init l g q_5 ) ⟨va_cnB 0 hts gX5_init_X4_init_n11 rfl rfl rfl (hXX.1 _ (List.mem_of_getElem? (i := 6) rfl)) (hts _ (List.mem_of_getElem? (i := 6) rfl)) (by decide +kernel) ⟨Nat.le_of_ble_eq_true rfl, Nat.le_of_ble_eq_true rfl⟩, rfl, (hts _ (List.mem_of_getElem? (i := 15) rfl))⟩ zXN_b (zXN_s hXX) rfl hl.1 (Nat.le_of_ble_eq_true rfl) rfl dX5_init_20 ⟨Nat.le_of_ble_eq_true rfl, Nat.le_of_ble_eq_true rfl⟩ (fun u_6 H locs hwu_6 hP hD hS => ?_)
  obtain ⟨a_7, b_8⟩ := u_6
  try dsimp only at hwu_6
  have hP : zP g [[(q, .inr (5, [.ref q_1, .null, .null, .null, .null]))], [(q_1, .inr (4, [.ref a_3, .ref b_4]))], [fr a_3 (some (0, 1))], [fr b_4 (some (0, 1))], [(q_5, .inr (4, [.ref a_7, .ref b_8]))], [fr a_7 (some (0, 1))], [fr b_8 (some (0, 1))]] H := hP
  have hD : zD A [[(q, .inr (5, [.ref q_1, .null, .null, .null, .null]))], [(q_1, .inr (4, [.ref a_3, .ref b_4]))], [fr a_3 (some (0, 1))], [fr b_4 (some (0, 1))], [(q_5, .inr (4, [.ref a_7, .ref b_8]))], [fr a_7 (some (0, 1))], [fr b_8 (some (0, 1))]] := hD
  refine z_putF hx hb hts hin5_ tyX5 tyX5_ok nmX5 hown hK hP hD hS 0 rfl rfl 1 (by decide) (hts _ (List.mem_of_getElem? (i := 8) rfl)) rfl hin0 rfl rfl rfl (Nat.le_of_ble_eq_true rfl) dX5_init_23 [[(q, .inr (5, [.ref q_1, .ref q_5, .null, .null, .null]))], [(q_1, .inr (4, [.ref a_3, .ref b_4]))], [fr a_3 (some (0, 1))], [fr b_4 (some (0, 1))], [(q_5, .inr (4, [.ref a_7, .ref b_8]))], [fr a_7 (some (0, 1))], [fr b_8 (some (0, 1))]] rfl (fun H locs hP hD hS => ?_)
  refine lv_aload_n hx hb dX5_init_26 rfl (lv_at hl 0 rfl) ?_
  refine z_new hx hb hts hin1_ tyX1 tyX1_ok hown (hts _ (List.mem_of_getElem? (i := 9) rfl)) (hts _ (List.mem_of_getElem? (i := 10) rfl)) (hts _ (List.mem_of_getElem? (i := 11) rfl)) hK hP hD hS hA (ci := 1) rfl (fs := [vL 0, vL 0, vI 0]) (by decide) (Nat.le_of_ble_eq_true rfl) (Nat.le_of_ble_eq_true rfl) dX5_init_27 (fun q_9 H hP hD hS => ?_)
  have hP : zP g [[(q, .inr (5, [.ref q_1, .ref q_5, .null, .null, .null]))], [(q_1, .inr (4, [.ref a_3, .ref b_4]))], [fr a_3 (some (0, 1))], [fr b_4 (some (0, 1))], [(q_5, .inr (4, [.ref a_7, .ref b_8]))], [fr a_7 (some (0, 1))], [fr b_8 (some (0, 1))], [(q_9, .inr (1, [vL 0, vL 0, vI 0]))]] H := hP
  have hD : zD A [[(q, .inr (5, [.ref q_1, .ref q_5, .null, .null, .null]))], [(q_1, .inr (4, [.ref a_3, .ref b_4]))], [fr a_3 (some (0, 1))], [fr b_4 (some (0, 1))], [(q_5, .inr (4, [.ref a_7, .ref b_8]))], [fr a_7 (some (0, 1))], [fr b_8 (some (0, 1))], [(q_9, .inr (1, [vL 0, vL 0, vI 0]))]] := hD
  refine lv_dup hx hb dX5_init_30 rfl ?_
  refine z_cINv (As := []) (rest := [.ref q_9, .ref q]) ⟨hx, hb, hml, hown, hts⟩ hK hP hD hS hA [7] [0, 1, 2, 3, 4, 5, 6] rfl rfl rfl (c_X1_init l g q_9 ) ⟨va_cnB 0 hts gX5_init_X1_init_n23 rfl rfl rfl (hXX.1 _ (List.mem_of_getElem? (i := 7) rfl)) (hts _ (List.mem_of_getElem? (i := 11) rfl)) (by decide +kernel) ⟨Nat.le_of_ble_eq_true rfl, Nat.le_of_ble_eq_true rfl⟩, rfl, (hts _ (List.mem_of_getElem? (i := 21) rfl))⟩ (fun _ _ _ _ _ _ => trivial) (fun _ _ _ => trivial) rfl hl.1 (Nat.le_of_ble_eq_true rfl) rfl dX5_init_31 ⟨Nat.le_of_ble_eq_true rfl, Nat.le_of_ble_eq_true rfl⟩ (fun u_10 H locs hwu_10 hP hD hS => ?_)
  try dsimp only at hwu_10
  have hP : zP g [[(q, .inr (5, [.ref q_1, .ref q_5, .null, .null, .null]))], [(q_1, .inr (4, [.ref a_3, .ref b_4]))], [fr a_3 (some (0, 1))], [fr b_4 (some (0, 1))], [(q_5, .inr (4, [.ref a_7, .ref b_8]))], [fr a_7 (some (0, 1))], [fr b_8 (some (0, 1))], [fr q_9 (some (0, 1))]] H := hP
  have hD : zD A [[(q, .inr (5, [.ref q_1, .ref q_5, .null, .null, .null]))], [(q_1, .inr (4, [.ref a_3, .ref b_4]))], [fr a_3 (some (0, 1))], [fr b_4 (some (0, 1))], [(q_5, .inr (4, [.ref a_7, .ref b_8]))], [fr a_7 (some (0, 1))], [fr b_8 (some (0, 1))], [fr q_9 (some (0, 1))]] := hD
  refine z_putF hx hb hts hin5_ tyX5 tyX5_ok nmX5 hown hK hP hD hS 0 rfl rfl 2 (by decide) (hts _ (List.mem_of_getElem? (i := 12) rfl)) rfl hin0 rfl rfl rfl (Nat.le_of_ble_eq_true rfl) dX5_init_34 [[(q, .inr (5, [.ref q_1, .ref q_5, .ref q_9, .null, .null]))], [(q_1, .inr (4, [.ref a_3, .ref b_4]))], [fr a_3 (some (0, 1))], [fr b_4 (some (0, 1))], [(q_5, .inr (4, [.ref a_7, .ref b_8]))], [fr a_7 (some (0, 1))], [fr b_8 (some (0, 1))], [fr q_9 (some (0, 1))]] rfl (fun H locs hP hD hS => ?_)
  refine lv_aload_n hx hb dX5_init_37 rfl (lv_at hl 0 rfl) ?_
  refine z_new hx hb hts hin1_ tyX1 tyX1_ok hown (hts _ (List.mem_of_getElem? (i := 9) rfl)) (hts _ (List.mem_of_getElem? (i := 10) rfl)) (hts _ (List.mem_of_getElem? (i := 11) rfl)) hK hP hD hS hA (ci := 1) rfl (fs := [vL 0, vL 0, vI 0]) (by decide) (Nat.le_of_ble_eq_true rfl) (Nat.le_of_ble_eq_true rfl) dX5_init_38 (fun q_11 H hP hD hS => ?_)
  have hP : zP g [[(q, .inr (5, [.ref q_1, .ref q_5, .ref q_9, .null, .null]))], [(q_1, .inr (4, [.ref a_3, .ref b_4]))], [fr a_3 (some (0, 1))], [fr b_4 (some (0, 1))], [(q_5, .inr (4, [.ref a_7, .ref b_8]))], [fr a_7 (some (0, 1))], [fr b_8 (some (0, 1))], [fr q_9 (some (0, 1))], [(q_11, .inr (1, [vL 0, vL 0, vI 0]))]] H := hP
  have hD : zD A [[(q, .inr (5, [.ref q_1, .ref q_5, .ref q_9, .null, .null]))], [(q_1, .inr (4, [.ref a_3, .ref b_4]))], [fr a_3 (some (0, 1))], [fr b_4 (some (0, 1))], [(q_5, .inr (4, [.ref a_7, .ref b_8]))], [fr a_7 (some (0, 1))], [fr b_8 (some (0, 1))], [fr q_9 (some (0, 1))], [(q_11, .inr (1, [vL 0, vL 0, vI 0]))]] := hD
  refine lv_dup hx hb dX5_init_41 rfl ?_
  refine z_cINv (As := []) (rest := [.ref q_11, .ref q]) ⟨hx, hb, hml, hown, hts⟩ hK hP hD hS hA [8] [0, 1, 2, 3, 4, 5, 6, 7] rfl rfl rfl (c_X1_init l g q_11 ) ⟨va_cnB 0 hts gX5_init_X1_init_n23 rfl rfl rfl (hXX.1 _ (List.mem_of_getElem? (i := 7) rfl)) (hts _ (List.mem_of_getElem? (i := 11) rfl)) (by decide +kernel) ⟨Nat.le_of_ble_eq_true rfl, Nat.le_of_ble_eq_true rfl⟩, rfl, (hts _ (List.mem_of_getElem? (i := 21) rfl))⟩ (fun _ _ _ _ _ _ => trivial) (fun _ _ _ => trivial) rfl hl.1 (Nat.le_of_ble_eq_true rfl) rfl dX5_init_42 ⟨Nat.le_of_ble_eq_true rfl, Nat.le_of_ble_eq_true rfl⟩ (fun u_12 H locs hwu_12 hP hD hS => ?_)
  try dsimp only at hwu_12
  have hP : zP g [[(q, .inr (5, [.ref q_1, .ref q_5, .ref q_9, .null, .null]))], [(q_1, .inr (4, [.ref a_3, .ref b_4]))], [fr a_3 (some (0, 1))], [fr b_4 (some (0, 1))], [(q_5, .inr (4, [.ref a_7, .ref b_8]))], [fr a_7 (some (0, 1))], [fr b_8 (some (0, 1))], [fr q_9 (some (0, 1))], [fr q_11 (some (0, 1))]] H := hP
  have hD : zD A [[(q, .inr (5, [.ref q_1, .ref q_5, .ref q_9, .null, .null]))], [(q_1, .inr (4, [.ref a_3, .ref b_4]))], [fr a_3 (some (0, 1))], [fr b_4 (some (0, 1))], [(q_5, .inr (4, [.ref a_7, .ref b_8]))], [fr a_7 (some (0, 1))], [fr b_8 (some (0, 1))], [fr q_9 (some (0, 1))], [fr q_11 (some (0, 1))]] := hD
  refine z_putF hx hb hts hin5_ tyX5 tyX5_ok nmX5 hown hK hP hD hS 0 rfl rfl 3 (by decide) (hts _ (List.mem_of_getElem? (i := 13) rfl)) rfl hin0 rfl rfl rfl (Nat.le_of_ble_eq_true rfl) dX5_init_45 [[(q, .inr (5, [.ref q_1, .ref q_5, .ref q_9, .ref q_11, .null]))], [(q_1, .inr (4, [.ref a_3, .ref b_4]))], [fr a_3 (some (0, 1))], [fr b_4 (some (0, 1))], [(q_5, .inr (4, [.ref a_7, .ref b_8]))], [fr a_7 (some (0, 1))], [fr b_8 (some (0, 1))], [fr q_9 (some (0, 1))], [fr q_11 (some (0, 1))]] rfl (fun H locs hP hD hS => ?_)
  refine lv_aload_n hx hb dX5_init_48 rfl (lv_at hl 0 rfl) ?_
  refine z_new hx hb hts hin1_ tyX1 tyX1_ok hown (hts _ (List.mem_of_getElem? (i := 9) rfl)) (hts _ (List.mem_of_getElem? (i := 10) rfl)) (hts _ (List.mem_of_getElem? (i := 11) rfl)) hK hP hD hS hA (ci := 1) rfl (fs := [vL 0, vL 0, vI 0]) (by decide) (Nat.le_of_ble_eq_true rfl) (Nat.le_of_ble_eq_true rfl) dX5_init_49 (fun q_13 H hP hD hS => ?_)
  have hP : zP g [[(q, .inr (5, [.ref q_1, .ref q_5, .ref q_9, .ref q_11, .null]))], [(q_1, .inr (4, [.ref a_3, .ref b_4]))], [fr a_3 (some (0, 1))], [fr b_4 (some (0, 1))], [(q_5, .inr (4, [.ref a_7, .ref b_8]))], [fr a_7 (some (0, 1))], [fr b_8 (some (0, 1))], [fr q_9 (some (0, 1))], [fr q_11 (some (0, 1))], [(q_13, .inr (1, [vL 0, vL 0, vI 0]))]] H := hP
  have hD : zD A [[(q, .inr (5, [.ref q_1, .ref q_5, .ref q_9, .ref q_11, .null]))], [(q_1, .inr (4, [.ref a_3, .ref b_4]))], [fr a_3 (some (0, 1))], [fr b_4 (some (0, 1))], [(q_5, .inr (4, [.ref a_7, .ref b_8]))], [fr a_7 (some (0, 1))], [fr b_8 (some (0, 1))], [fr q_9 (some (0, 1))], [fr q_11 (some (0, 1))], [(q_13, .inr (1, [vL 0, vL 0, vI 0]))]] := hD
  refine lv_dup hx hb dX5_init_52 rfl ?_
  refine z_cINv (As := []) (rest := [.ref q_13, .ref q]) ⟨hx, hb, hml, hown, hts⟩ hK hP hD hS hA [9] [0, 1, 2, 3, 4, 5, 6, 7, 8] rfl rfl rfl (c_X1_init l g q_13 ) ⟨va_cnB 0 hts gX5_init_X1_init_n23 rfl rfl rfl (hXX.1 _ (List.mem_of_getElem? (i := 7) rfl)) (hts _ (List.mem_of_getElem? (i := 11) rfl)) (by decide +kernel) ⟨Nat.le_of_ble_eq_true rfl, Nat.le_of_ble_eq_true rfl⟩, rfl, (hts _ (List.mem_of_getElem? (i := 21) rfl))⟩ (fun _ _ _ _ _ _ => trivial) (fun _ _ _ => trivial) rfl hl.1 (Nat.le_of_ble_eq_true rfl) rfl dX5_init_53 ⟨Nat.le_of_ble_eq_true rfl, Nat.le_of_ble_eq_true rfl⟩ (fun u_14 H locs hwu_14 hP hD hS => ?_)
  try dsimp only at hwu_14
  have hP : zP g [[(q, .inr (5, [.ref q_1, .ref q_5, .ref q_9, .ref q_11, .null]))], [(q_1, .inr (4, [.ref a_3, .ref b_4]))], [fr a_3 (some (0, 1))], [fr b_4 (some (0, 1))], [(q_5, .inr (4, [.ref a_7, .ref b_8]))], [fr a_7 (some (0, 1))], [fr b_8 (some (0, 1))], [fr q_9 (some (0, 1))], [fr q_11 (some (0, 1))], [fr q_13 (some (0, 1))]] H := hP
  have hD : zD A [[(q, .inr (5, [.ref q_1, .ref q_5, .ref q_9, .ref q_11, .null]))], [(q_1, .inr (4, [.ref a_3, .ref b_4]))], [fr a_3 (some (0, 1))], [fr b_4 (some (0, 1))], [(q_5, .inr (4, [.ref a_7, .ref b_8]))], [fr a_7 (some (0, 1))], [fr b_8 (some (0, 1))], [fr q_9 (some (0, 1))], [fr q_11 (some (0, 1))], [fr q_13 (some (0, 1))]] := hD
  refine z_putF hx hb hts hin5_ tyX5 tyX5_ok nmX5 hown hK hP hD hS 0 rfl rfl 4 (by decide) (hts _ (List.mem_of_getElem? (i := 14) rfl)) rfl hin0 rfl rfl rfl (Nat.le_of_ble_eq_true rfl) dX5_init_56 [[(q, .inr (5, [.ref q_1, .ref q_5, .ref q_9, .ref q_11, .ref q_13]))], [(q_1, .inr (4, [.ref a_3, .ref b_4]))], [fr a_3 (some (0, 1))], [fr b_4 (some (0, 1))], [(q_5, .inr (4, [.ref a_7, .ref b_8]))], [fr a_7 (some (0, 1))], [fr b_8 (some (0, 1))], [fr q_9 (some (0, 1))], [fr q_11 (some (0, 1))], [fr q_13 (some (0, 1))]] rfl (fun H locs hP hD hS => ?_)
  have hP : zP g [(recW g q (lA [q_1, a_3, b_4, q_5, a_7, b_8, q_9, q_11, q_13]) (lF [(some (0, 1)), (some (0, 1)), (some (0, 1)), (some (0, 1)), (some (0, 1)), (some (0, 1)), (some (0, 1))]))] H := hP
  have hD : zD A [(recW g q (lA [q_1, a_3, b_4, q_5, a_7, b_8, q_9, q_11, q_13]) (lF [(some (0, 1)), (some (0, 1)), (some (0, 1)), (some (0, 1)), (some (0, 1)), (some (0, 1)), (some (0, 1))]))] := hD
  exact z_retv (lA [q_1, a_3, b_4, q_5, a_7, b_8, q_9, q_11, q_13]) [0] hx hb hr hlocks hK hP hD hS trivial rfl rfl (rfl) (Nat.le_of_ble_eq_true rfl) (Nat.le_of_ble_eq_true rfl) dX5_init_59

set_option maxHeartbeats 4000000 in
set_option maxRecDepth 100000 in
theorem c_X0_init (l : Launch) (g : zG) (q : Nat)  : zMet l g yX0_init wsX0_init 1 0 0 [.ref q] zX0 [[(q, .inr (0, [vL 0, vL 0, vL 0, vL 0]))]] (qv g (fun (_ : Unit) => True) (fun (_ : Unit) => [[flw q 0 0 0 1]])) := by
  refine z_ent (cc := cX0_init) (maxL := 1) (ret := none) (by decide) rfl (Nat.le_of_ble_eq_true rfl) ?_
  intro p e s m below meth c A ls hx hb hr hml hown hts hlocks hin0 hA hK hP hD hS hXX hl
  have hown : s.vm.findClass RX0 = some m.cls := hown
  have hin0_ : ∀ w ∈ wsX00, w ∈ wsX0_init := zw_in [8, 9, 10, 11] rfl
  have hl : lv_has ls 1 [(0, .ref q)] := hl
  refine lv_aload_n hx hb dX0_init_0 rfl (lv_at hl 0 rfl) ?_
  refine W.objInit hx hb hown (hts _ (List.mem_of_getElem? (i := 1) rfl)) (hts _ (List.mem_of_getElem? (i := 2) rfl)) (hts _ (List.mem_of_getElem? (i := 3) rfl)) rfl (by rw [hml]; exact hl.1) rfl dX0_init_1 (Nat.le_of_ble_eq_true rfl) (Nat.le_of_ble_eq_true rfl) ?_
  refine W.eq (g2 := F0 m 4 ls []) rfl ?_
  refine lv_aload_n hx hb dX0_init_4 rfl (lv_at hl 0 rfl) ?_
  refine z_lconst hx hb 0 dX0_init_5 rfl ?_
  refine z_put hx hb hts hin0_ tyX0 tyX0_ok nmX0 hown hK hP hD hS 0 rfl rfl 0 (by decide) (hts _ (List.mem_of_getElem? (i := 4) rfl)) rfl rfl rfl (Nat.le_of_ble_eq_true rfl) dX0_init_6 [[(q, .inr (0, [vL 0, vL 0, vL 0, vL 0]))]] rfl (fun H locs hP hD hS => ?_)
  refine lv_aload_n hx hb dX0_init_9 rfl (lv_at hl 0 rfl) ?_
  refine z_lconst hx hb 0 dX0_init_10 rfl ?_
  refine z_put hx hb hts hin0_ tyX0 tyX0_ok nmX0 hown hK hP hD hS 0 rfl rfl 1 (by decide) (hts _ (List.mem_of_getElem? (i := 5) rfl)) rfl rfl rfl (Nat.le_of_ble_eq_true rfl) dX0_init_11 [[(q, .inr (0, [vL 0, vL 0, vL 0, vL 0]))]] rfl (fun H locs hP hD hS => ?_)
  refine lv_aload_n hx hb dX0_init_14 rfl (lv_at hl 0 rfl) ?_
  refine z_lconst hx hb 0 dX0_init_15 rfl ?_
  refine z_put hx hb hts hin0_ tyX0 tyX0_ok nmX0 hown hK hP hD hS 0 rfl rfl 2 (by decide) (hts _ (List.mem_of_getElem? (i := 6) rfl)) rfl rfl rfl (Nat.le_of_ble_eq_true rfl) dX0_init_16 [[(q, .inr (0, [vL 0, vL 0, vL 0, vL 0]))]] rfl (fun H locs hP hD hS => ?_)
  refine lv_aload_n hx hb dX0_init_19 rfl (lv_at hl 0 rfl) ?_
  refine z_lconst hx hb 1 dX0_init_20 rfl ?_
  refine z_put hx hb hts hin0_ tyX0 tyX0_ok nmX0 hown hK hP hD hS 0 rfl rfl 3 (by decide) (hts _ (List.mem_of_getElem? (i := 7) rfl)) rfl rfl rfl (Nat.le_of_ble_eq_true rfl) dX0_init_21 [[(q, .inr (0, [vL 0, vL 0, vL 0, vL 1]))]] rfl (fun H locs hP hD hS => ?_)
  exact z_retv () [0] hx hb hr hlocks hK hP hD hS trivial rfl rfl (rfl) (Nat.le_of_ble_eq_true rfl) (Nat.le_of_ble_eq_true rfl) dX0_init_24

set_option maxHeartbeats 4000000 in
set_option maxRecDepth 100000 in
theorem c_X6_init (l : Launch) (g : zG) (q : Nat)  : zMet l g yX6_init wsX6_init 1 3 24 [.ref q] zX0 [[(q, .inr (6, [vI 0, vI 0, .null, .null, .null]))]] (qv g (fun (x : Nat → Nat) => True) (fun (x : Nat → Nat) => [(storeW g q x 0 0 (fun _ => 0) (fun _ => 0) (fun _ => 0))])) := by
  refine z_ent (cc := cX6_init) (maxL := 1) (ret := none) (by decide) rfl (Nat.le_of_ble_eq_true rfl) ?_
  intro p e s m below meth c A ls hx hb hr hml hown hts hlocks hin0 hA hK hP hD hS hXX hl
  have hown : s.vm.findClass RX6 = some m.cls := hown
  have hin6_ : ∀ w ∈ wsX60, w ∈ wsX6_init := zw_in [11, 12, 13, 14, 15] rfl
  have hl : lv_has ls 1 [(0, .ref q)] := hl
  refine lv_aload_n hx hb dX6_init_0 rfl (lv_at hl 0 rfl) ?_
  refine W.objInit hx hb hown (hts _ (List.mem_of_getElem? (i := 1) rfl)) (hts _ (List.mem_of_getElem? (i := 2) rfl)) (hts _ (List.mem_of_getElem? (i := 3) rfl)) rfl (by rw [hml]; exact hl.1) rfl dX6_init_1 (Nat.le_of_ble_eq_true rfl) (Nat.le_of_ble_eq_true rfl) ?_
  refine W.eq (g2 := F0 m 4 ls []) rfl ?_
  refine lv_aload_n hx hb dX6_init_4 rfl (lv_at hl 0 rfl) ?_
  refine z_iconst hx hb dX6_init_5 rfl ?_
  refine z_put hx hb hts hin6_ tyX6 tyX6_ok nmX6 hown hK hP hD hS 0 rfl rfl 0 (by decide) (hts _ (List.mem_of_getElem? (i := 4) rfl)) rfl (nar_z (by decide)) (fit_z (by decide)) (Nat.le_of_ble_eq_true rfl) dX6_init_6 [[(q, .inr (6, [vI 0, vI 0, .null, .null, .null]))]] rfl (fun H locs hP hD hS => ?_)
  refine lv_aload_n hx hb dX6_init_9 rfl (lv_at hl 0 rfl) ?_
  refine z_iconst hx hb dX6_init_10 rfl ?_
  refine z_put hx hb hts hin6_ tyX6 tyX6_ok nmX6 hown hK hP hD hS 0 rfl rfl 1 (by decide) (hts _ (List.mem_of_getElem? (i := 5) rfl)) rfl rfl rfl (Nat.le_of_ble_eq_true rfl) dX6_init_11 [[(q, .inr (6, [vI 0, vI 0, .null, .null, .null]))]] rfl (fun H locs hP hD hS => ?_)
  refine lv_aload_n hx hb dX6_init_14 rfl (lv_at hl 0 rfl) ?_
  refine z_bipush hx hb 8 dX6_init_15 rfl ?_
  refine z_newaI hx hb (hts _ (List.mem_of_getElem? (i := 6) rfl)) hK hP hD hS hA (8) rfl (by decide) (Nat.le_of_ble_eq_true rfl) (Nat.le_of_ble_eq_true rfl) dX6_init_17 (fun q_1 H hP hD hS => ?_)
  have hP : zP g [[(q, .inr (6, [vI 0, vI 0, .null, .null, .null]))], [(q_1, .inl (g.2 0, 8, .inl (aI (fun _ => 0))))]] H := hP
  have hD : zD A [[(q, .inr (6, [vI 0, vI 0, .null, .null, .null]))], [(q_1, .inl (g.2 0, 8, .inl (aI (fun _ => 0))))]] := hD
  refine z_putF hx hb hts hin6_ tyX6 tyX6_ok nmX6 hown hK hP hD hS 0 rfl rfl 2 (by decide) (hts _ (List.mem_of_getElem? (i := 7) rfl)) rfl hin0 rfl rfl rfl (Nat.le_of_ble_eq_true rfl) dX6_init_19 [[(q, .inr (6, [vI 0, vI 0, .ref q_1, .null, .null]))], [(q_1, .inl (g.2 0, 8, .inl (aI (fun _ => 0))))]] rfl (fun H locs hP hD hS => ?_)
  refine lv_aload_n hx hb dX6_init_22 rfl (lv_at hl 0 rfl) ?_
  refine z_bipush hx hb 8 dX6_init_23 rfl ?_
  refine z_newaI hx hb (hts _ (List.mem_of_getElem? (i := 6) rfl)) hK hP hD hS hA (8) rfl (by decide) (Nat.le_of_ble_eq_true rfl) (Nat.le_of_ble_eq_true rfl) dX6_init_25 (fun q_2 H hP hD hS => ?_)
  have hP : zP g [[(q, .inr (6, [vI 0, vI 0, .ref q_1, .null, .null]))], [(q_1, .inl (g.2 0, 8, .inl (aI (fun _ => 0))))], [(q_2, .inl (g.2 0, 8, .inl (aI (fun _ => 0))))]] H := hP
  have hD : zD A [[(q, .inr (6, [vI 0, vI 0, .ref q_1, .null, .null]))], [(q_1, .inl (g.2 0, 8, .inl (aI (fun _ => 0))))], [(q_2, .inl (g.2 0, 8, .inl (aI (fun _ => 0))))]] := hD
  refine z_putF hx hb hts hin6_ tyX6 tyX6_ok nmX6 hown hK hP hD hS 0 rfl rfl 3 (by decide) (hts _ (List.mem_of_getElem? (i := 8) rfl)) rfl hin0 rfl rfl rfl (Nat.le_of_ble_eq_true rfl) dX6_init_27 [[(q, .inr (6, [vI 0, vI 0, .ref q_1, .ref q_2, .null]))], [(q_1, .inl (g.2 0, 8, .inl (aI (fun _ => 0))))], [(q_2, .inl (g.2 0, 8, .inl (aI (fun _ => 0))))]] rfl (fun H locs hP hD hS => ?_)
  refine lv_aload_n hx hb dX6_init_30 rfl (lv_at hl 0 rfl) ?_
  refine z_bipush hx hb 8 dX6_init_31 rfl ?_
  refine z_newaZ hx hb (hts _ (List.mem_of_getElem? (i := 9) rfl)) hK hP hD hS hA (8) rfl (by decide) (Nat.le_of_ble_eq_true rfl) (Nat.le_of_ble_eq_true rfl) dX6_init_33 (fun q_3 H hP hD hS => ?_)
  have hP : zP g [[(q, .inr (6, [vI 0, vI 0, .ref q_1, .ref q_2, .null]))], [(q_1, .inl (g.2 0, 8, .inl (aI (fun _ => 0))))], [(q_2, .inl (g.2 0, 8, .inl (aI (fun _ => 0))))], [(q_3, .inl (g.2 2, 8, .inl (aI (fun _ => 0))))]] H := hP
  have hD : zD A [[(q, .inr (6, [vI 0, vI 0, .ref q_1, .ref q_2, .null]))], [(q_1, .inl (g.2 0, 8, .inl (aI (fun _ => 0))))], [(q_2, .inl (g.2 0, 8, .inl (aI (fun _ => 0))))], [(q_3, .inl (g.2 2, 8, .inl (aI (fun _ => 0))))]] := hD
  refine z_putF hx hb hts hin6_ tyX6 tyX6_ok nmX6 hown hK hP hD hS 0 rfl rfl 4 (by decide) (hts _ (List.mem_of_getElem? (i := 10) rfl)) rfl hin0 rfl rfl rfl (Nat.le_of_ble_eq_true rfl) dX6_init_35 [[(q, .inr (6, [vI 0, vI 0, .ref q_1, .ref q_2, .ref q_3]))], [(q_1, .inl (g.2 0, 8, .inl (aI (fun _ => 0))))], [(q_2, .inl (g.2 0, 8, .inl (aI (fun _ => 0))))], [(q_3, .inl (g.2 2, 8, .inl (aI (fun _ => 0))))]] rfl (fun H locs hP hD hS => ?_)
  have hP : zP g [(storeW g q (lA [q_1, q_2, q_3]) 0 0 (fun _ => 0) (fun _ => 0) (fun _ => 0))] H := hP
  have hD : zD A [(storeW g q (lA [q_1, q_2, q_3]) 0 0 (fun _ => 0) (fun _ => 0) (fun _ => 0))] := hD
  exact z_retv (lA [q_1, q_2, q_3]) [0] hx hb hr hlocks hK hP hD hS trivial rfl rfl (rfl) (Nat.le_of_ble_eq_true rfl) (Nat.le_of_ble_eq_true rfl) dX6_init_38

set_option maxHeartbeats 4000000 in
set_option maxRecDepth 100000 in
theorem c_X7_init (l : Launch) (g : zG) (q : Nat)  : zMet l g yX7_init wsX7_init 1 2 204 [.ref q] zX0 [[(q, .inr (7, [.null, vI 0, vI 0, vI 0, vI 0, vI 0, .null]))]] (qv g (fun (x : Nat → Nat) => True) (fun (x : Nat → Nat) => [(textW g q x 0 0 0 0 0 (fun _ => 0) (fun _ => 0))])) := by
  refine z_ent (cc := cX7_init) (maxL := 1) (ret := none) (by decide) rfl (Nat.le_of_ble_eq_true rfl) ?_
  intro p e s m below meth c A ls hx hb hr hml hown hts hlocks hin0 hA hK hP hD hS hXX hl
  have hown : s.vm.findClass RX7 = some m.cls := hown
  have hin7_ : ∀ w ∈ wsX70, w ∈ wsX7_init := zw_in [12, 13, 14, 15, 16, 17, 18] rfl
  have hl : lv_has ls 1 [(0, .ref q)] := hl
  refine lv_aload_n hx hb dX7_init_0 rfl (lv_at hl 0 rfl) ?_
  refine W.objInit hx hb hown (hts _ (List.mem_of_getElem? (i := 1) rfl)) (hts _ (List.mem_of_getElem? (i := 2) rfl)) (hts _ (List.mem_of_getElem? (i := 3) rfl)) rfl (by rw [hml]; exact hl.1) rfl dX7_init_1 (Nat.le_of_ble_eq_true rfl) (Nat.le_of_ble_eq_true rfl) ?_
  refine W.eq (g2 := F0 m 4 ls []) rfl ?_
  refine lv_aload_n hx hb dX7_init_4 rfl (lv_at hl 0 rfl) ?_
  refine z_sipush hx hb 200 dX7_init_5 rfl ?_
  refine z_newaI hx hb (hts _ (List.mem_of_getElem? (i := 4) rfl)) hK hP hD hS hA (200) rfl (by decide) (Nat.le_of_ble_eq_true rfl) (Nat.le_of_ble_eq_true rfl) dX7_init_8 (fun q_1 H hP hD hS => ?_)
  have hP : zP g [[(q, .inr (7, [.null, vI 0, vI 0, vI 0, vI 0, vI 0, .null]))], [(q_1, .inl (g.2 0, 200, .inl (aI (fun _ => 0))))]] H := hP
  have hD : zD A [[(q, .inr (7, [.null, vI 0, vI 0, vI 0, vI 0, vI 0, .null]))], [(q_1, .inl (g.2 0, 200, .inl (aI (fun _ => 0))))]] := hD
  refine z_putF hx hb hts hin7_ tyX7 tyX7_ok nmX7 hown hK hP hD hS 0 rfl rfl 0 (by decide) (hts _ (List.mem_of_getElem? (i := 5) rfl)) rfl hin0 rfl rfl rfl (Nat.le_of_ble_eq_true rfl) dX7_init_10 [[(q, .inr (7, [.ref q_1, vI 0, vI 0, vI 0, vI 0, vI 0, .null]))], [(q_1, .inl (g.2 0, 200, .inl (aI (fun _ => 0))))]] rfl (fun H locs hP hD hS => ?_)
  refine lv_aload_n hx hb dX7_init_13 rfl (lv_at hl 0 rfl) ?_
  refine z_iconst hx hb dX7_init_14 rfl ?_
  refine z_put hx hb hts hin7_ tyX7 tyX7_ok nmX7 hown hK hP hD hS 0 rfl rfl 1 (by decide) (hts _ (List.mem_of_getElem? (i := 6) rfl)) rfl rfl rfl (Nat.le_of_ble_eq_true rfl) dX7_init_15 [[(q, .inr (7, [.ref q_1, vI 0, vI 0, vI 0, vI 0, vI 0, .null]))], [(q_1, .inl (g.2 0, 200, .inl (aI (fun _ => 0))))]] rfl (fun H locs hP hD hS => ?_)
  refine lv_aload_n hx hb dX7_init_18 rfl (lv_at hl 0 rfl) ?_
  refine z_iconst hx hb dX7_init_19 rfl ?_
  refine z_put hx hb hts hin7_ tyX7 tyX7_ok nmX7 hown hK hP hD hS 0 rfl rfl 2 (by decide) (hts _ (List.mem_of_getElem? (i := 7) rfl)) rfl rfl rfl (Nat.le_of_ble_eq_true rfl) dX7_init_20 [[(q, .inr (7, [.ref q_1, vI 0, vI 0, vI 0, vI 0, vI 0, .null]))], [(q_1, .inl (g.2 0, 200, .inl (aI (fun _ => 0))))]] rfl (fun H locs hP hD hS => ?_)
  refine lv_aload_n hx hb dX7_init_23 rfl (lv_at hl 0 rfl) ?_
  refine z_iconst hx hb dX7_init_24 rfl ?_
  refine z_put hx hb hts hin7_ tyX7 tyX7_ok nmX7 hown hK hP hD hS 0 rfl rfl 3 (by decide) (hts _ (List.mem_of_getElem? (i := 8) rfl)) rfl rfl rfl (Nat.le_of_ble_eq_true rfl) dX7_init_25 [[(q, .inr (7, [.ref q_1, vI 0, vI 0, vI 0, vI 0, vI 0, .null]))], [(q_1, .inl (g.2 0, 200, .inl (aI (fun _ => 0))))]] rfl (fun H locs hP hD hS => ?_)
  refine lv_aload_n hx hb dX7_init_28 rfl (lv_at hl 0 rfl) ?_
  refine z_iconst hx hb dX7_init_29 rfl ?_
  refine z_put hx hb hts hin7_ tyX7 tyX7_ok nmX7 hown hK hP hD hS 0 rfl rfl 4 (by decide) (hts _ (List.mem_of_getElem? (i := 9) rfl)) rfl rfl rfl (Nat.le_of_ble_eq_true rfl) dX7_init_30 [[(q, .inr (7, [.ref q_1, vI 0, vI 0, vI 0, vI 0, vI 0, .null]))], [(q_1, .inl (g.2 0, 200, .inl (aI (fun _ => 0))))]] rfl (fun H locs hP hD hS => ?_)
  refine lv_aload_n hx hb dX7_init_33 rfl (lv_at hl 0 rfl) ?_
  refine z_iconst hx hb dX7_init_34 rfl ?_
  refine z_put hx hb hts hin7_ tyX7 tyX7_ok nmX7 hown hK hP hD hS 0 rfl rfl 5 (by decide) (hts _ (List.mem_of_getElem? (i := 10) rfl)) rfl rfl rfl (Nat.le_of_ble_eq_true rfl) dX7_init_35 [[(q, .inr (7, [.ref q_1, vI 0, vI 0, vI 0, vI 0, vI 0, .null]))], [(q_1, .inl (g.2 0, 200, .inl (aI (fun _ => 0))))]] rfl (fun H locs hP hD hS => ?_)
  refine lv_aload_n hx hb dX7_init_38 rfl (lv_at hl 0 rfl) ?_
  refine z_iconst hx hb dX7_init_39 rfl ?_
  refine z_newaI hx hb (hts _ (List.mem_of_getElem? (i := 4) rfl)) hK hP hD hS hA (4) rfl (by decide) (Nat.le_of_ble_eq_true rfl) (Nat.le_of_ble_eq_true rfl) dX7_init_40 (fun q_2 H hP hD hS => ?_)
  have hP : zP g [[(q, .inr (7, [.ref q_1, vI 0, vI 0, vI 0, vI 0, vI 0, .null]))], [(q_1, .inl (g.2 0, 200, .inl (aI (fun _ => 0))))], [(q_2, .inl (g.2 0, 4, .inl (aI (fun _ => 0))))]] H := hP
  have hD : zD A [[(q, .inr (7, [.ref q_1, vI 0, vI 0, vI 0, vI 0, vI 0, .null]))], [(q_1, .inl (g.2 0, 200, .inl (aI (fun _ => 0))))], [(q_2, .inl (g.2 0, 4, .inl (aI (fun _ => 0))))]] := hD
  refine z_putF hx hb hts hin7_ tyX7 tyX7_ok nmX7 hown hK hP hD hS 0 rfl rfl 6 (by decide) (hts _ (List.mem_of_getElem? (i := 11) rfl)) rfl hin0 rfl rfl rfl (Nat.le_of_ble_eq_true rfl) dX7_init_42 [[(q, .inr (7, [.ref q_1, vI 0, vI 0, vI 0, vI 0, vI 0, .ref q_2]))], [(q_1, .inl (g.2 0, 200, .inl (aI (fun _ => 0))))], [(q_2, .inl (g.2 0, 4, .inl (aI (fun _ => 0))))]] rfl (fun H locs hP hD hS => ?_)
  have hP : zP g [(textW g q (lA [q_1, q_2]) 0 0 0 0 0 (fun _ => 0) (fun _ => 0))] H := hP
  have hD : zD A [(textW g q (lA [q_1, q_2]) 0 0 0 0 0 (fun _ => 0) (fun _ => 0))] := hD
  exact z_retv (lA [q_1, q_2]) [0] hx hb hr hlocks hK hP hD hS trivial rfl rfl (rfl) (Nat.le_of_ble_eq_true rfl) (Nat.le_of_ble_eq_true rfl) dX7_init_45

set_option maxHeartbeats 4000000 in
set_option maxRecDepth 100000 in
theorem c_X2_init (l : Launch) (g : zG) (q : Nat)  : zMet l g yX2_init wsX2_init 3 3 30 [.ref q] zX0 [[(q, .inr (2, [vI 0, vI 0, .null, .null, .null]))]] (qv g (fun (x : Nat → Nat) => True) (fun (x : Nat → Nat) => [(netW g q x 50 1 (uI (fun _ => 0) 0 (-1)) (rs3 (fun _ => 0) 0 1 1 1) (uI (fun _ => 0) 0 0))])) := by
  refine z_ent (cc := cX2_init) (maxL := 1) (ret := none) (by decide) rfl (Nat.le_of_ble_eq_true rfl) ?_
  intro p e s m below meth c A ls hx hb hr hml hown hts hlocks hin0 hA hK hP hD hS hXX hl
  have hown : s.vm.findClass RX2 = some m.cls := hown
  have hin2_ : ∀ w ∈ wsX20, w ∈ wsX2_init := zw_in [27, 28, 29, 30, 31] rfl
  have hl : lv_has ls 1 [(0, .ref q)] := hl
  refine lv_aload_n hx hb dX2_init_0 rfl (lv_at hl 0 rfl) ?_
  refine W.objInit hx hb hown (hts _ (List.mem_of_getElem? (i := 1) rfl)) (hts _ (List.mem_of_getElem? (i := 2) rfl)) (hts _ (List.mem_of_getElem? (i := 3) rfl)) rfl (by rw [hml]; exact hl.1) rfl dX2_init_1 (Nat.le_of_ble_eq_true rfl) (Nat.le_of_ble_eq_true rfl) ?_
  refine W.eq (g2 := F0 m 4 ls []) rfl ?_
  refine lv_aload_n hx hb dX2_init_4 rfl (lv_at hl 0 rfl) ?_
  refine z_bipush hx hb 50 dX2_init_5 rfl ?_
  refine z_put hx hb hts hin2_ tyX2 tyX2_ok nmX2 hown hK hP hD hS 0 rfl rfl 0 (by decide) (hts _ (List.mem_of_getElem? (i := 4) rfl)) rfl rfl rfl (Nat.le_of_ble_eq_true rfl) dX2_init_7 [[(q, .inr (2, [vI 50, vI 0, .null, .null, .null]))]] rfl (fun H locs hP hD hS => ?_)
  refine lv_aload_n hx hb dX2_init_10 rfl (lv_at hl 0 rfl) ?_
  refine z_iconst hx hb dX2_init_11 rfl ?_
  refine z_put hx hb hts hin2_ tyX2 tyX2_ok nmX2 hown hK hP hD hS 0 rfl rfl 1 (by decide) (hts _ (List.mem_of_getElem? (i := 5) rfl)) rfl rfl rfl (Nat.le_of_ble_eq_true rfl) dX2_init_12 [[(q, .inr (2, [vI 50, vI 0, .null, .null, .null]))]] rfl (fun H locs hP hD hS => ?_)
  refine lv_aload_n hx hb dX2_init_15 rfl (lv_at hl 0 rfl) ?_
  refine z_bipush hx hb 6 dX2_init_16 rfl ?_
  refine z_newaI hx hb (hts _ (List.mem_of_getElem? (i := 6) rfl)) hK hP hD hS hA (6) rfl (by decide) (Nat.le_of_ble_eq_true rfl) (Nat.le_of_ble_eq_true rfl) dX2_init_18 (fun q_1 H hP hD hS => ?_)
  have hP : zP g [[(q, .inr (2, [vI 50, vI 0, .null, .null, .null]))], [(q_1, .inl (g.2 0, 6, .inl (aI (fun _ => 0))))]] H := hP
  have hD : zD A [[(q, .inr (2, [vI 50, vI 0, .null, .null, .null]))], [(q_1, .inl (g.2 0, 6, .inl (aI (fun _ => 0))))]] := hD
  refine z_putF hx hb hts hin2_ tyX2 tyX2_ok nmX2 hown hK hP hD hS 0 rfl rfl 2 (by decide) (hts _ (List.mem_of_getElem? (i := 7) rfl)) rfl hin0 rfl rfl rfl (Nat.le_of_ble_eq_true rfl) dX2_init_20 [[(q, .inr (2, [vI 50, vI 0, .ref q_1, .null, .null]))], [(q_1, .inl (g.2 0, 6, .inl (aI (fun _ => 0))))]] rfl (fun H locs hP hD hS => ?_)
  refine lv_aload_n hx hb dX2_init_23 rfl (lv_at hl 0 rfl) ?_
  refine z_bipush hx hb 18 dX2_init_24 rfl ?_
  refine z_newaI hx hb (hts _ (List.mem_of_getElem? (i := 6) rfl)) hK hP hD hS hA (18) rfl (by decide) (Nat.le_of_ble_eq_true rfl) (Nat.le_of_ble_eq_true rfl) dX2_init_26 (fun q_2 H hP hD hS => ?_)
  have hP : zP g [[(q, .inr (2, [vI 50, vI 0, .ref q_1, .null, .null]))], [(q_1, .inl (g.2 0, 6, .inl (aI (fun _ => 0))))], [(q_2, .inl (g.2 0, 18, .inl (aI (fun _ => 0))))]] H := hP
  have hD : zD A [[(q, .inr (2, [vI 50, vI 0, .ref q_1, .null, .null]))], [(q_1, .inl (g.2 0, 6, .inl (aI (fun _ => 0))))], [(q_2, .inl (g.2 0, 18, .inl (aI (fun _ => 0))))]] := hD
  refine z_putF hx hb hts hin2_ tyX2 tyX2_ok nmX2 hown hK hP hD hS 0 rfl rfl 3 (by decide) (hts _ (List.mem_of_getElem? (i := 8) rfl)) rfl hin0 rfl rfl rfl (Nat.le_of_ble_eq_true rfl) dX2_init_28 [[(q, .inr (2, [vI 50, vI 0, .ref q_1, .ref q_2, .null]))], [(q_1, .inl (g.2 0, 6, .inl (aI (fun _ => 0))))], [(q_2, .inl (g.2 0, 18, .inl (aI (fun _ => 0))))]] rfl (fun H locs hP hD hS => ?_)
  refine lv_aload_n hx hb dX2_init_31 rfl (lv_at hl 0 rfl) ?_
  refine z_bipush hx hb 6 dX2_init_32 rfl ?_
  refine z_newaI hx hb (hts _ (List.mem_of_getElem? (i := 6) rfl)) hK hP hD hS hA (6) rfl (by decide) (Nat.le_of_ble_eq_true rfl) (Nat.le_of_ble_eq_true rfl) dX2_init_34 (fun q_3 H hP hD hS => ?_)
  have hP : zP g [[(q, .inr (2, [vI 50, vI 0, .ref q_1, .ref q_2, .null]))], [(q_1, .inl (g.2 0, 6, .inl (aI (fun _ => 0))))], [(q_2, .inl (g.2 0, 18, .inl (aI (fun _ => 0))))], [(q_3, .inl (g.2 0, 6, .inl (aI (fun _ => 0))))]] H := hP
  have hD : zD A [[(q, .inr (2, [vI 50, vI 0, .ref q_1, .ref q_2, .null]))], [(q_1, .inl (g.2 0, 6, .inl (aI (fun _ => 0))))], [(q_2, .inl (g.2 0, 18, .inl (aI (fun _ => 0))))], [(q_3, .inl (g.2 0, 6, .inl (aI (fun _ => 0))))]] := hD
  refine z_putF hx hb hts hin2_ tyX2 tyX2_ok nmX2 hown hK hP hD hS 0 rfl rfl 4 (by decide) (hts _ (List.mem_of_getElem? (i := 9) rfl)) rfl hin0 rfl rfl rfl (Nat.le_of_ble_eq_true rfl) dX2_init_36 [[(q, .inr (2, [vI 50, vI 0, .ref q_1, .ref q_2, .ref q_3]))], [(q_1, .inl (g.2 0, 6, .inl (aI (fun _ => 0))))], [(q_2, .inl (g.2 0, 18, .inl (aI (fun _ => 0))))], [(q_3, .inl (g.2 0, 6, .inl (aI (fun _ => 0))))]] rfl (fun H locs hP hD hS => ?_)
  refine lv_aload_n hx hb dX2_init_39 rfl (lv_at hl 0 rfl) ?_
  refine z_bipush hx hb 50 dX2_init_40 rfl ?_
  refine z_cVv (As := [vI 50]) (rest := []) ⟨hx, hb, hml, hown, hts⟩ hK hP hD hS hA [0, 1, 2, 3] [] rfl rfl rfl (c_X2_restart l g q q_1 q_2 q_3 50 0 (fun _ => 0) (fun _ => 0) (fun _ => 0) 50 ) (cwV 1 hts gX2_init_X2_restart rfl rfl rfl (by decide +kernel) ⟨Nat.le_of_ble_eq_true rfl, Nat.le_of_ble_eq_true rfl⟩) 2 0 rfl rfl rfl (fun _ _ _ _ _ _ => trivial) (fun _ _ _ => trivial) rfl hl.1 (Nat.le_of_ble_eq_true rfl) rfl dX2_init_42 ⟨Nat.le_of_ble_eq_true rfl, Nat.le_of_ble_eq_true rfl⟩ (fun u_4 H locs hwu_4 hP hD hS => ?_)
  try dsimp only at hwu_4
  have hP : zP g [[(q, .inr (2, [vI 50, vI 1, .ref q_1, .ref q_2, .ref q_3]))], [(q_1, .inl (g.2 0, 6, .inl (aI (uI (fun _ => 0) 0 (-1)))))], [(q_2, .inl (g.2 0, 18, .inl (aI (rs3 (fun _ => 0) 0 1 1 1))))], [(q_3, .inl (g.2 0, 6, .inl (aI (uI (fun _ => 0) 0 0))))]] H := hP
  have hD : zD A [[(q, .inr (2, [vI 50, vI 1, .ref q_1, .ref q_2, .ref q_3]))], [(q_1, .inl (g.2 0, 6, .inl (aI (uI (fun _ => 0) 0 (-1)))))], [(q_2, .inl (g.2 0, 18, .inl (aI (rs3 (fun _ => 0) 0 1 1 1))))], [(q_3, .inl (g.2 0, 6, .inl (aI (uI (fun _ => 0) 0 0))))]] := hD
  have hP : zP g [(netW g q (lA [q_1, q_2, q_3]) 50 1 (uI (fun _ => 0) 0 (-1)) (rs3 (fun _ => 0) 0 1 1 1) (uI (fun _ => 0) 0 0))] H := hP
  have hD : zD A [(netW g q (lA [q_1, q_2, q_3]) 50 1 (uI (fun _ => 0) 0 (-1)) (rs3 (fun _ => 0) 0 1 1 1) (uI (fun _ => 0) 0 0))] := hD
  exact z_retv (lA [q_1, q_2, q_3]) [0] hx hb hr hlocks hK hP hD hS trivial rfl rfl (rfl) (Nat.le_of_ble_eq_true rfl) (Nat.le_of_ble_eq_true rfl) dX2_init_45
