set_option maxHeartbeats 4000000 in
set_option maxRecDepth 100000 in
theorem c_X2_isFull (l : Launch) (g : zG) (q : Nat) (h_ : Nat) (o_ : Nat) (l_ : Nat) (v : Int) (b : Nat) (hb6 : b ≤ 6) : zMet l g yX2_isFull wsX2_isFull 0 0 0 [.ref q] zX0 [[(q, .inr (2, [vI v, vI ((b : Nat) : Int), .ref h_, .ref o_, .ref l_]))]] (qi g (fun (_ : Unit) => (if b = 6 then 1 else 0 : Int)) (fun (_ : Unit) => True) (fun (_ : Unit) => [[(q, .inr (2, [vI v, vI ((b : Nat) : Int), .ref h_, .ref o_, .ref l_]))]])) := by
  refine z_ent (cc := cX2_isFull) (maxL := 1) (ret := (some .boolean)) (by decide) rfl (Nat.le_of_ble_eq_true rfl) ?_
  intro p e s m below meth c A ls hx hb hr hml hown hts hlocks hin0 hA hK hP hD hS hXX hl
  have hown : s.vm.findClass RX2 = some m.cls := hown
  have hin2_ : ∀ w ∈ wsX20, w ∈ wsX2_isFull := zw_in [2, 3, 4, 5, 6] rfl
  have hl : lv_has ls 1 [(0, .ref q)] := hl
  refine lv_aload_n hx hb dX2_isFull_0 rfl (lv_at hl 0 rfl) ?_
  refine z_get hx hb hts hin2_ hown hK hP 0 rfl rfl 1 (by decide) (hts _ (List.mem_of_getElem? (i := 1) rfl)) rfl dX2_isFull_1 ?_
  refine z_bipush hx hb 6 dX2_isFull_4 rfl ?_
  refine z_icmp_lt (tgt := 13) hx hb (by omega) (by decide) dX2_isFull_6 (by decide) (fun c1 => ?_) (fun c1 => ?_)
  · refine z_iconst hx hb dX2_isFull_13 rfl ?_
    exact z_reti () [0] hx hb hr (nar_z (by first | decide | omega)) hlocks hK hP hD hS (by split <;> omega) trivial rfl rfl (rfl) (Nat.le_of_ble_eq_true rfl) (Nat.le_of_ble_eq_true rfl) dX2_isFull_14
  · refine z_iconst hx hb dX2_isFull_9 rfl ?_
    refine lv_goto (tgt := 14) hx hb dX2_isFull_10 (by decide) ?_
    exact z_reti () [0] hx hb hr (nar_z (by first | decide | omega)) hlocks hK hP hD hS (by split <;> omega) trivial rfl rfl (rfl) (Nat.le_of_ble_eq_true rfl) (Nat.le_of_ble_eq_true rfl) dX2_isFull_14

set_option maxHeartbeats 4000000 in
set_option maxRecDepth 100000 in
theorem c_X2_resist (l : Launch) (g : zG) (q : Nat) (h_ : Nat) (o_ : Nat) (l_ : Nat) (v : Int) (b : Nat) (h : Nat → Int) (o : Nat → Int) (k_ : Nat → Int) (i : Nat) (p0 : Int) (p1 : Int) (p2 : Int) (hi : i < 6) : zMet l g yX2_resist wsX2_resist 0 0 0 [.ref q, vI ((i : Nat) : Int), vI p0, vI p1, vI p2] zX0 [[(q, .inr (2, [vI v, vI ((b : Nat) : Int), .ref h_, .ref o_, .ref l_]))], [(h_, .inl (g.2 0, 6, .inl (aI h)))], [(o_, .inl (g.2 0, 18, .inl (aI o)))], [(l_, .inl (g.2 0, 6, .inl (aI k_)))]] (qv g (fun (_ : Unit) => True) (fun (_ : Unit) => [[(q, .inr (2, [vI v, vI ((b : Nat) : Int), .ref h_, .ref o_, .ref l_]))], [(h_, .inl (g.2 0, 6, .inl (aI h)))], [(o_, .inl (g.2 0, 18, .inl (aI (rs3 o i p0 p1 p2))))], [(l_, .inl (g.2 0, 6, .inl (aI k_)))]])) := by
  refine z_ent (cc := cX2_resist) (maxL := 5) (ret := none) (by decide) rfl (Nat.le_of_ble_eq_true rfl) ?_
  intro p e s m below meth c A ls hx hb hr hml hown hts hlocks hin0 hA hK hP hD hS hXX hl
  have hown : s.vm.findClass RX2 = some m.cls := hown
  have hin2_ : ∀ w ∈ wsX20, w ∈ wsX2_resist := zw_in [2, 3, 4, 5, 6] rfl
  have hl : lv_has ls 5 [(0, .ref q), (1, vI ((i : Nat) : Int)), (2, vI p0), (3, vI p1), (4, vI p2)] := hl
  refine lv_aload_n hx hb dX2_resist_0 rfl (lv_at hl 0 rfl) ?_
  refine z_get hx hb hts hin2_ hown hK hP 0 rfl rfl 3 (by decide) (hts _ (List.mem_of_getElem? (i := 1) rfl)) rfl dX2_resist_1 ?_
  refine lv_iload_n hx hb dX2_resist_4 rfl (lv_at hl 1 rfl) ?_
  refine z_iconst hx hb dX2_resist_5 rfl ?_
  refine z_imul hx hb (((i * 3) : Nat) : Int) (by omega) dX2_resist_6 ?_
  refine lv_iload_n hx hb dX2_resist_7 rfl (lv_at hl 2 rfl) ?_
  refine z_iast hx hb hK hP 2 hD hS rfl (i * 3) (by omega) (by omega) (by decide) dX2_resist_8 [[(q, .inr (2, [vI v, vI ((b : Nat) : Int), .ref h_, .ref o_, .ref l_]))], [(h_, .inl (g.2 0, 6, .inl (aI h)))], [(o_, .inl (g.2 0, 18, .inl (aI (uI o (i * 3) p0))))], [(l_, .inl (g.2 0, 6, .inl (aI k_)))]] rfl (fun H locs hP hD hS => ?_)
  refine lv_aload_n hx hb dX2_resist_9 rfl (lv_at hl 0 rfl) ?_
  refine z_get hx hb hts hin2_ hown hK hP 0 rfl rfl 3 (by decide) (hts _ (List.mem_of_getElem? (i := 1) rfl)) rfl dX2_resist_10 ?_
  refine lv_iload_n hx hb dX2_resist_13 rfl (lv_at hl 1 rfl) ?_
  refine z_iconst hx hb dX2_resist_14 rfl ?_
  refine z_imul hx hb (((i * 3) : Nat) : Int) (by omega) dX2_resist_15 ?_
  refine z_iconst hx hb dX2_resist_16 rfl ?_
  refine z_iadd hx hb ((((i * 3) + 1) : Nat) : Int) (by omega) dX2_resist_17 ?_
  refine lv_iload_n hx hb dX2_resist_18 rfl (lv_at hl 3 rfl) ?_
  refine z_iast hx hb hK hP 2 hD hS rfl ((i * 3) + 1) (by omega) (by omega) (by decide) dX2_resist_19 [[(q, .inr (2, [vI v, vI ((b : Nat) : Int), .ref h_, .ref o_, .ref l_]))], [(h_, .inl (g.2 0, 6, .inl (aI h)))], [(o_, .inl (g.2 0, 18, .inl (aI (uI (uI o (i * 3) p0) ((i * 3) + 1) p1))))], [(l_, .inl (g.2 0, 6, .inl (aI k_)))]] rfl (fun H locs hP hD hS => ?_)
  refine lv_aload_n hx hb dX2_resist_20 rfl (lv_at hl 0 rfl) ?_
  refine z_get hx hb hts hin2_ hown hK hP 0 rfl rfl 3 (by decide) (hts _ (List.mem_of_getElem? (i := 1) rfl)) rfl dX2_resist_21 ?_
  refine lv_iload_n hx hb dX2_resist_24 rfl (lv_at hl 1 rfl) ?_
  refine z_iconst hx hb dX2_resist_25 rfl ?_
  refine z_imul hx hb (((i * 3) : Nat) : Int) (by omega) dX2_resist_26 ?_
  refine z_iconst hx hb dX2_resist_27 rfl ?_
  refine z_iadd hx hb ((((i * 3) + 2) : Nat) : Int) (by omega) dX2_resist_28 ?_
  refine lv_iload hx hb dX2_resist_29 (lv_at hl 4 rfl) ?_
  refine z_iast hx hb hK hP 2 hD hS rfl ((i * 3) + 2) (by omega) (by omega) (by decide) dX2_resist_31 [[(q, .inr (2, [vI v, vI ((b : Nat) : Int), .ref h_, .ref o_, .ref l_]))], [(h_, .inl (g.2 0, 6, .inl (aI h)))], [(o_, .inl (g.2 0, 18, .inl (aI (uI (uI (uI o (i * 3) p0) ((i * 3) + 1) p1) ((i * 3) + 2) p2))))], [(l_, .inl (g.2 0, 6, .inl (aI k_)))]] rfl (fun H locs hP hD hS => ?_)
  exact z_retv () [0, 1, 2, 3] hx hb hr hlocks hK hP hD hS trivial rfl rfl (rfl) (Nat.le_of_ble_eq_true rfl) (Nat.le_of_ble_eq_true rfl) dX2_resist_32

set_option maxHeartbeats 4000000 in
set_option maxRecDepth 100000 in
theorem c_X2_hang (l : Launch) (g : zG) (q : Nat) (h_ : Nat) (o_ : Nat) (l_ : Nat) (v : Int) (b : Nat) (h : Nat → Int) (o : Nat → Int) (k_ : Nat → Int) (a : Int) (p0 : Int) (p1 : Int) (p2 : Int) (hb6 : b < 6) : zMet l g yX2_hang wsX2_hang 1 0 0 [.ref q, vI a, vI p0, vI p1, vI p2] zX0 [[(q, .inr (2, [vI v, vI ((b : Nat) : Int), .ref h_, .ref o_, .ref l_]))], [(h_, .inl (g.2 0, 6, .inl (aI h)))], [(o_, .inl (g.2 0, 18, .inl (aI o)))], [(l_, .inl (g.2 0, 6, .inl (aI k_)))]] (qv g (fun (_ : Unit) => True) (fun (_ : Unit) => [[(q, .inr (2, [vI v, vI (((b + 1) : Nat) : Int), .ref h_, .ref o_, .ref l_]))], [(h_, .inl (g.2 0, 6, .inl (aI (uI h b a))))], [(o_, .inl (g.2 0, 18, .inl (aI (rs3 o b p0 p1 p2))))], [(l_, .inl (g.2 0, 6, .inl (aI (uI k_ b 0))))]])) := by
  refine z_ent (cc := cX2_hang) (maxL := 5) (ret := none) (by decide) rfl (Nat.le_of_ble_eq_true rfl) ?_
  intro p e s m below meth c A ls hx hb hr hml hown hts hlocks hin0 hA hK hP hD hS hXX hl
  have hown : s.vm.findClass RX2 = some m.cls := hown
  have hin2_ : ∀ w ∈ wsX20, w ∈ wsX2_hang := zw_in [14, 15, 16, 17, 18] rfl
  have hl : lv_has ls 5 [(0, .ref q), (1, vI a), (2, vI p0), (3, vI p1), (4, vI p2)] := hl
  refine lv_aload_n hx hb dX2_hang_0 rfl (lv_at hl 0 rfl) ?_
  refine z_cVi (As := []) (rest := []) ⟨hx, hb, hml, hown, hts⟩ hK hP hD hS hA [0] [1, 2, 3] rfl rfl rfl (c_X2_isFull l g q h_ o_ l_ v b (by omega)) (cwV 0 hts gX2_hang_X2_isFull rfl rfl rfl (by decide +kernel) ⟨Nat.le_of_ble_eq_true rfl, Nat.le_of_ble_eq_true rfl⟩) 2 0 rfl rfl rfl (fun _ _ _ _ _ _ => trivial) (fun _ _ _ => trivial) rfl hl.1 (Nat.le_of_ble_eq_true rfl) rfl dX2_hang_1 ⟨Nat.le_of_ble_eq_true rfl, Nat.le_of_ble_eq_true rfl⟩ (fun u_1 H locs hwu_1 hP hD hS => ?_)
  try dsimp only at hwu_1
  have hP : zP g [[(h_, .inl (g.2 0, 6, .inl (aI h)))], [(o_, .inl (g.2 0, 18, .inl (aI o)))], [(l_, .inl (g.2 0, 6, .inl (aI k_)))], [(q, .inr (2, [vI v, vI ((b : Nat) : Int), .ref h_, .ref o_, .ref l_]))]] H := hP
  have hD : zD A [[(h_, .inl (g.2 0, 6, .inl (aI h)))], [(o_, .inl (g.2 0, 18, .inl (aI o)))], [(l_, .inl (g.2 0, 6, .inl (aI k_)))], [(q, .inr (2, [vI v, vI ((b : Nat) : Int), .ref h_, .ref o_, .ref l_]))]] := hD
  refine z_toI (if b = 6 then 1 else 0 : Int) rfl ?_
  refine z_if_eq (tgt := 8) hx hb (by omega) dX2_hang_4 (by decide) (fun c2 => ?_) (fun c2 => absurd (by rw [if_neg (by omega)]) c2)
  refine lv_aload_n hx hb dX2_hang_8 rfl (lv_at hl 0 rfl) ?_
  refine z_get hx hb hts hin2_ hown hK hP 3 rfl rfl 2 (by decide) (hts _ (List.mem_of_getElem? (i := 1) rfl)) rfl dX2_hang_9 ?_
  refine lv_aload_n hx hb dX2_hang_12 rfl (lv_at hl 0 rfl) ?_
  refine z_get hx hb hts hin2_ hown hK hP 3 rfl rfl 1 (by decide) (hts _ (List.mem_of_getElem? (i := 2) rfl)) rfl dX2_hang_13 ?_
  refine lv_iload_n hx hb dX2_hang_16 rfl (lv_at hl 1 rfl) ?_
  refine z_iast hx hb hK hP 0 hD hS rfl b (by omega) (by omega) (by decide) dX2_hang_17 [[(h_, .inl (g.2 0, 6, .inl (aI (uI h b a))))], [(o_, .inl (g.2 0, 18, .inl (aI o)))], [(l_, .inl (g.2 0, 6, .inl (aI k_)))], [(q, .inr (2, [vI v, vI ((b : Nat) : Int), .ref h_, .ref o_, .ref l_]))]] rfl (fun H locs hP hD hS => ?_)
  refine lv_aload_n hx hb dX2_hang_18 rfl (lv_at hl 0 rfl) ?_
  refine z_get hx hb hts hin2_ hown hK hP 3 rfl rfl 4 (by decide) (hts _ (List.mem_of_getElem? (i := 3) rfl)) rfl dX2_hang_19 ?_
  refine lv_aload_n hx hb dX2_hang_22 rfl (lv_at hl 0 rfl) ?_
  refine z_get hx hb hts hin2_ hown hK hP 3 rfl rfl 1 (by decide) (hts _ (List.mem_of_getElem? (i := 2) rfl)) rfl dX2_hang_23 ?_
  refine z_iconst hx hb dX2_hang_26 rfl ?_
  refine z_iast hx hb hK hP 2 hD hS rfl b (by omega) (by omega) (by decide) dX2_hang_27 [[(h_, .inl (g.2 0, 6, .inl (aI (uI h b a))))], [(o_, .inl (g.2 0, 18, .inl (aI o)))], [(l_, .inl (g.2 0, 6, .inl (aI (uI k_ b 0))))], [(q, .inr (2, [vI v, vI ((b : Nat) : Int), .ref h_, .ref o_, .ref l_]))]] rfl (fun H locs hP hD hS => ?_)
  refine lv_aload_n hx hb dX2_hang_28 rfl (lv_at hl 0 rfl) ?_
  refine lv_aload_n hx hb dX2_hang_29 rfl (lv_at hl 0 rfl) ?_
  refine z_get hx hb hts hin2_ hown hK hP 3 rfl rfl 1 (by decide) (hts _ (List.mem_of_getElem? (i := 2) rfl)) rfl dX2_hang_30 ?_
  refine lv_iload_n hx hb dX2_hang_33 rfl (lv_at hl 2 rfl) ?_
  refine lv_iload_n hx hb dX2_hang_34 rfl (lv_at hl 3 rfl) ?_
  refine lv_iload hx hb dX2_hang_35 (lv_at hl 4 rfl) ?_
  refine z_cVv (As := [vI ((b : Nat) : Int), vI p0, vI p1, vI p2]) (rest := []) ⟨hx, hb, hml, hown, hts⟩ hK hP hD hS hA [3, 0, 1, 2] [] rfl rfl rfl (c_X2_resist l g q h_ o_ l_ v b (uI h b a) o (uI k_ b 0) b p0 p1 p2 (by first | assumption | omega | decide)) (cwV 4 hts gX2_hang_X2_resist rfl rfl rfl (by decide +kernel) ⟨Nat.le_of_ble_eq_true rfl, Nat.le_of_ble_eq_true rfl⟩) 2 0 rfl rfl rfl (fun _ _ _ _ _ _ => trivial) (fun _ _ _ => trivial) rfl hl.1 (Nat.le_of_ble_eq_true rfl) rfl dX2_hang_37 ⟨Nat.le_of_ble_eq_true rfl, Nat.le_of_ble_eq_true rfl⟩ (fun u_3 H locs hwu_3 hP hD hS => ?_)
  try dsimp only at hwu_3
  have hP : zP g [[(q, .inr (2, [vI v, vI ((b : Nat) : Int), .ref h_, .ref o_, .ref l_]))], [(h_, .inl (g.2 0, 6, .inl (aI (uI h b a))))], [(o_, .inl (g.2 0, 18, .inl (aI (rs3 o b p0 p1 p2))))], [(l_, .inl (g.2 0, 6, .inl (aI (uI k_ b 0))))]] H := hP
  have hD : zD A [[(q, .inr (2, [vI v, vI ((b : Nat) : Int), .ref h_, .ref o_, .ref l_]))], [(h_, .inl (g.2 0, 6, .inl (aI (uI h b a))))], [(o_, .inl (g.2 0, 18, .inl (aI (rs3 o b p0 p1 p2))))], [(l_, .inl (g.2 0, 6, .inl (aI (uI k_ b 0))))]] := hD
  refine lv_aload_n hx hb dX2_hang_40 rfl (lv_at hl 0 rfl) ?_
  refine lv_dup hx hb dX2_hang_41 rfl ?_
  refine z_get hx hb hts hin2_ hown hK hP 0 rfl rfl 1 (by decide) (hts _ (List.mem_of_getElem? (i := 2) rfl)) rfl dX2_hang_42 ?_
  refine z_iconst hx hb dX2_hang_45 rfl ?_
  refine z_iadd hx hb (((b + 1) : Nat) : Int) (by omega) dX2_hang_46 ?_
  refine z_put hx hb hts hin2_ tyX2 tyX2_ok nmX2 hown hK hP hD hS 0 rfl rfl 1 (by decide) (hts _ (List.mem_of_getElem? (i := 2) rfl)) rfl rfl rfl (Nat.le_of_ble_eq_true rfl) dX2_hang_47 [[(q, .inr (2, [vI v, vI (((b + 1) : Nat) : Int), .ref h_, .ref o_, .ref l_]))], [(h_, .inl (g.2 0, 6, .inl (aI (uI h b a))))], [(o_, .inl (g.2 0, 18, .inl (aI (rs3 o b p0 p1 p2))))], [(l_, .inl (g.2 0, 6, .inl (aI (uI k_ b 0))))]] rfl (fun H locs hP hD hS => ?_)
  exact z_retv () [0, 1, 2, 3] hx hb hr hlocks hK hP hD hS trivial rfl rfl (rfl) (Nat.le_of_ble_eq_true rfl) (Nat.le_of_ble_eq_true rfl) dX2_hang_50

set_option maxHeartbeats 4000000 in
set_option maxRecDepth 100000 in
theorem c_X2_restart (l : Launch) (g : zG) (q : Nat) (h_ : Nat) (o_ : Nat) (l_ : Nat) (v : Int) (b : Nat) (h : Nat → Int) (o : Nat → Int) (k_ : Nat → Int) (a : Int)  : zMet l g yX2_restart wsX2_restart 2 0 0 [.ref q, vI a] zX0 [[(q, .inr (2, [vI v, vI ((b : Nat) : Int), .ref h_, .ref o_, .ref l_]))], [(h_, .inl (g.2 0, 6, .inl (aI h)))], [(o_, .inl (g.2 0, 18, .inl (aI o)))], [(l_, .inl (g.2 0, 6, .inl (aI k_)))]] (qv g (fun (_ : Unit) => True) (fun (_ : Unit) => [[(q, .inr (2, [vI a, vI 1, .ref h_, .ref o_, .ref l_]))], [(h_, .inl (g.2 0, 6, .inl (aI (uI h 0 (-1)))))], [(o_, .inl (g.2 0, 18, .inl (aI (rs3 o 0 1 1 1))))], [(l_, .inl (g.2 0, 6, .inl (aI (uI k_ 0 0))))]])) := by
  refine z_ent (cc := cX2_restart) (maxL := 2) (ret := none) (by decide) rfl (Nat.le_of_ble_eq_true rfl) ?_
  intro p e s m below meth c A ls hx hb hr hml hown hts hlocks hin0 hA hK hP hD hS hXX hl
  have hown : s.vm.findClass RX2 = some m.cls := hown
  have hin2_ : ∀ w ∈ wsX20, w ∈ wsX2_restart := zw_in [19, 20, 21, 22, 23] rfl
  have hl : lv_has ls 2 [(0, .ref q), (1, vI a)] := hl
  refine lv_aload_n hx hb dX2_restart_0 rfl (lv_at hl 0 rfl) ?_
  refine lv_iload_n hx hb dX2_restart_1 rfl (lv_at hl 1 rfl) ?_
  refine z_put hx hb hts hin2_ tyX2 tyX2_ok nmX2 hown hK hP hD hS 0 rfl rfl 0 (by decide) (hts _ (List.mem_of_getElem? (i := 1) rfl)) rfl rfl rfl (Nat.le_of_ble_eq_true rfl) dX2_restart_2 [[(q, .inr (2, [vI a, vI ((b : Nat) : Int), .ref h_, .ref o_, .ref l_]))], [(h_, .inl (g.2 0, 6, .inl (aI h)))], [(o_, .inl (g.2 0, 18, .inl (aI o)))], [(l_, .inl (g.2 0, 6, .inl (aI k_)))]] rfl (fun H locs hP hD hS => ?_)
  refine lv_aload_n hx hb dX2_restart_5 rfl (lv_at hl 0 rfl) ?_
  refine z_iconst hx hb dX2_restart_6 rfl ?_
  refine z_put hx hb hts hin2_ tyX2 tyX2_ok nmX2 hown hK hP hD hS 0 rfl rfl 1 (by decide) (hts _ (List.mem_of_getElem? (i := 2) rfl)) rfl rfl rfl (Nat.le_of_ble_eq_true rfl) dX2_restart_7 [[(q, .inr (2, [vI a, vI 0, .ref h_, .ref o_, .ref l_]))], [(h_, .inl (g.2 0, 6, .inl (aI h)))], [(o_, .inl (g.2 0, 18, .inl (aI o)))], [(l_, .inl (g.2 0, 6, .inl (aI k_)))]] rfl (fun H locs hP hD hS => ?_)
  refine lv_aload_n hx hb dX2_restart_10 rfl (lv_at hl 0 rfl) ?_
  refine z_iconst hx hb dX2_restart_11 rfl ?_
  refine z_iconst hx hb dX2_restart_12 rfl ?_
  refine z_iconst hx hb dX2_restart_13 rfl ?_
  refine z_iconst hx hb dX2_restart_14 rfl ?_
  refine z_cVv (As := [vI (-1), vI 1, vI 1, vI 1]) (rest := []) ⟨hx, hb, hml, hown, hts⟩ hK hP hD hS hA [0, 1, 2, 3] [] rfl rfl rfl (c_X2_hang l g q h_ o_ l_ a 0 h o k_ (-1) 1 1 1 (by first | assumption | omega | decide)) (cwV 4 hts gX2_restart_X2_hang rfl rfl rfl (by decide +kernel) ⟨Nat.le_of_ble_eq_true rfl, Nat.le_of_ble_eq_true rfl⟩) 2 0 rfl rfl rfl (fun _ _ _ _ _ _ => trivial) (fun _ _ _ => trivial) rfl hl.1 (Nat.le_of_ble_eq_true rfl) rfl dX2_restart_15 ⟨Nat.le_of_ble_eq_true rfl, Nat.le_of_ble_eq_true rfl⟩ (fun u_1 H locs hwu_1 hP hD hS => ?_)
  try dsimp only at hwu_1
  have hP : zP g [[(q, .inr (2, [vI a, vI 1, .ref h_, .ref o_, .ref l_]))], [(h_, .inl (g.2 0, 6, .inl (aI (uI h 0 (-1)))))], [(o_, .inl (g.2 0, 18, .inl (aI (rs3 o 0 1 1 1))))], [(l_, .inl (g.2 0, 6, .inl (aI (uI k_ 0 0))))]] H := hP
  have hD : zD A [[(q, .inr (2, [vI a, vI 1, .ref h_, .ref o_, .ref l_]))], [(h_, .inl (g.2 0, 6, .inl (aI (uI h 0 (-1)))))], [(o_, .inl (g.2 0, 18, .inl (aI (rs3 o 0 1 1 1))))], [(l_, .inl (g.2 0, 6, .inl (aI (uI k_ 0 0))))]] := hD
  exact z_retv () [0, 1, 2, 3] hx hb hr hlocks hK hP hD hS trivial rfl rfl (rfl) (Nat.le_of_ble_eq_true rfl) (Nat.le_of_ble_eq_true rfl) dX2_restart_18

set_option maxHeartbeats 4000000 in
set_option maxRecDepth 100000 in
theorem c_X2_become (l : Launch) (g : zG) (q : Nat) (x : Nat → Nat) (v : Int) (b : Nat) (h : Nat → Int) (o : Nat → Int) (l_ : Nat → Int) (q1 : Nat) (x1 : Nat → Nat) (v1 : Int) (b1 : Nat) (h1 : Nat → Int) (o1 : Nat → Int) (l_1 : Nat → Int)  : zMet l g yX2_become wsX2_become 1 0 0 [.ref q, .ref q1] zX0 [(netW g q x v b h o l_), (netW g q1 x1 v1 b1 h1 o1 l_1)] (qv g (fun (_ : Unit) => True) (fun (_ : Unit) => [(netW g q x v1 b1 h1 o1 l_1), (netW g q1 x1 v1 b1 h1 o1 l_1)])) := by
  refine z_ent (cc := cX2_become) (maxL := 2) (ret := none) (by decide) rfl (Nat.le_of_ble_eq_true rfl) ?_
  intro p e s m below meth c A ls hx hb hr hml hown hts hlocks hin0 hA hK hP hD hS hXX hl
  have hown : s.vm.findClass RX2 = some m.cls := hown
  have hin2_ : ∀ w ∈ wsX20, w ∈ wsX2_become := zw_in [10, 11, 12, 13, 14] rfl
  have hl : lv_has ls 2 [(0, .ref q), (1, .ref q1)] := hl
  have hP : zP g [[(q, .inr (2, [vI v, vI ((b : Nat) : Int), .ref (x 0), .ref (x 1), .ref (x 2)]))], [((x 0), .inl (g.2 0, 6, .inl (aI h)))], [((x 1), .inl (g.2 0, 18, .inl (aI o)))], [((x 2), .inl (g.2 0, 6, .inl (aI l_)))], (netW g q1 x1 v1 b1 h1 o1 l_1)] s.heap := hP
  have hD : zD A [[(q, .inr (2, [vI v, vI ((b : Nat) : Int), .ref (x 0), .ref (x 1), .ref (x 2)]))], [((x 0), .inl (g.2 0, 6, .inl (aI h)))], [((x 1), .inl (g.2 0, 18, .inl (aI o)))], [((x 2), .inl (g.2 0, 6, .inl (aI l_)))], (netW g q1 x1 v1 b1 h1 o1 l_1)] := hD
  have hP : zP g [[(q, .inr (2, [vI v, vI ((b : Nat) : Int), .ref (x 0), .ref (x 1), .ref (x 2)]))], [((x 0), .inl (g.2 0, 6, .inl (aI h)))], [((x 1), .inl (g.2 0, 18, .inl (aI o)))], [((x 2), .inl (g.2 0, 6, .inl (aI l_)))], [(q1, .inr (2, [vI v1, vI ((b1 : Nat) : Int), .ref (x1 0), .ref (x1 1), .ref (x1 2)]))], [((x1 0), .inl (g.2 0, 6, .inl (aI h1)))], [((x1 1), .inl (g.2 0, 18, .inl (aI o1)))], [((x1 2), .inl (g.2 0, 6, .inl (aI l_1)))]] s.heap := hP
  have hD : zD A [[(q, .inr (2, [vI v, vI ((b : Nat) : Int), .ref (x 0), .ref (x 1), .ref (x 2)]))], [((x 0), .inl (g.2 0, 6, .inl (aI h)))], [((x 1), .inl (g.2 0, 18, .inl (aI o)))], [((x 2), .inl (g.2 0, 6, .inl (aI l_)))], [(q1, .inr (2, [vI v1, vI ((b1 : Nat) : Int), .ref (x1 0), .ref (x1 1), .ref (x1 2)]))], [((x1 0), .inl (g.2 0, 6, .inl (aI h1)))], [((x1 1), .inl (g.2 0, 18, .inl (aI o1)))], [((x1 2), .inl (g.2 0, 6, .inl (aI l_1)))]] := hD
  refine lv_aload_n hx hb dX2_become_0 rfl (lv_at hl 0 rfl) ?_
  refine lv_aload_n hx hb dX2_become_1 rfl (lv_at hl 1 rfl) ?_
  refine z_get hx hb hts hin2_ hown hK hP 4 rfl rfl 0 (by decide) (hts _ (List.mem_of_getElem? (i := 1) rfl)) rfl dX2_become_2 ?_
  refine z_put hx hb hts hin2_ tyX2 tyX2_ok nmX2 hown hK hP hD hS 0 rfl rfl 0 (by decide) (hts _ (List.mem_of_getElem? (i := 1) rfl)) rfl rfl rfl (Nat.le_of_ble_eq_true rfl) dX2_become_5 [[(q, .inr (2, [vI v1, vI ((b : Nat) : Int), .ref (x 0), .ref (x 1), .ref (x 2)]))], [((x 0), .inl (g.2 0, 6, .inl (aI h)))], [((x 1), .inl (g.2 0, 18, .inl (aI o)))], [((x 2), .inl (g.2 0, 6, .inl (aI l_)))], [(q1, .inr (2, [vI v1, vI ((b1 : Nat) : Int), .ref (x1 0), .ref (x1 1), .ref (x1 2)]))], [((x1 0), .inl (g.2 0, 6, .inl (aI h1)))], [((x1 1), .inl (g.2 0, 18, .inl (aI o1)))], [((x1 2), .inl (g.2 0, 6, .inl (aI l_1)))]] rfl (fun H locs hP hD hS => ?_)
  refine lv_aload_n hx hb dX2_become_8 rfl (lv_at hl 0 rfl) ?_
  refine lv_aload_n hx hb dX2_become_9 rfl (lv_at hl 1 rfl) ?_
  refine z_get hx hb hts hin2_ hown hK hP 4 rfl rfl 1 (by decide) (hts _ (List.mem_of_getElem? (i := 2) rfl)) rfl dX2_become_10 ?_
  refine z_put hx hb hts hin2_ tyX2 tyX2_ok nmX2 hown hK hP hD hS 0 rfl rfl 1 (by decide) (hts _ (List.mem_of_getElem? (i := 2) rfl)) rfl rfl rfl (Nat.le_of_ble_eq_true rfl) dX2_become_13 [[(q, .inr (2, [vI v1, vI ((b1 : Nat) : Int), .ref (x 0), .ref (x 1), .ref (x 2)]))], [((x 0), .inl (g.2 0, 6, .inl (aI h)))], [((x 1), .inl (g.2 0, 18, .inl (aI o)))], [((x 2), .inl (g.2 0, 6, .inl (aI l_)))], [(q1, .inr (2, [vI v1, vI ((b1 : Nat) : Int), .ref (x1 0), .ref (x1 1), .ref (x1 2)]))], [((x1 0), .inl (g.2 0, 6, .inl (aI h1)))], [((x1 1), .inl (g.2 0, 18, .inl (aI o1)))], [((x1 2), .inl (g.2 0, 6, .inl (aI l_1)))]] rfl (fun H locs hP hD hS => ?_)
  refine lv_aload_n hx hb dX2_become_16 rfl (lv_at hl 1 rfl) ?_
  refine z_get hx hb hts hin2_ hown hK hP 4 rfl rfl 2 (by decide) (hts _ (List.mem_of_getElem? (i := 3) rfl)) rfl dX2_become_17 ?_
  refine z_iconst hx hb dX2_become_20 rfl ?_
  refine lv_aload_n hx hb dX2_become_21 rfl (lv_at hl 0 rfl) ?_
  refine z_get hx hb hts hin2_ hown hK hP 0 rfl rfl 2 (by decide) (hts _ (List.mem_of_getElem? (i := 3) rfl)) rfl dX2_become_22 ?_
  refine z_iconst hx hb dX2_become_25 rfl ?_
  refine z_bipush hx hb 6 dX2_become_26 rfl ?_
  refine z_copy hx hb (hml.trans hl.1.symm) hown (hts _ (List.mem_of_getElem? (i := 4) rfl)) (hts _ (List.mem_of_getElem? (i := 5) rfl)) (hts _ (List.mem_of_getElem? (i := 6) rfl)) (hts _ (List.mem_of_getElem? (i := 7) rfl)) hK hP hD hS 5 1 rfl rfl rfl (by decide) (Nat.le_of_ble_eq_true rfl) (Nat.le_of_ble_eq_true rfl) dX2_become_28 [[(q, .inr (2, [vI v1, vI ((b1 : Nat) : Int), .ref (x 0), .ref (x 1), .ref (x 2)]))], [((x 0), .inl (g.2 0, 6, .inl (aI h1)))], [((x 1), .inl (g.2 0, 18, .inl (aI o)))], [((x 2), .inl (g.2 0, 6, .inl (aI l_)))], [(q1, .inr (2, [vI v1, vI ((b1 : Nat) : Int), .ref (x1 0), .ref (x1 1), .ref (x1 2)]))], [((x1 0), .inl (g.2 0, 6, .inl (aI h1)))], [((x1 1), .inl (g.2 0, 18, .inl (aI o1)))], [((x1 2), .inl (g.2 0, 6, .inl (aI l_1)))]] rfl (fun H locs hP hD hS => ?_)
  refine lv_aload_n hx hb dX2_become_31 rfl (lv_at hl 1 rfl) ?_
  refine z_get hx hb hts hin2_ hown hK hP 4 rfl rfl 3 (by decide) (hts _ (List.mem_of_getElem? (i := 8) rfl)) rfl dX2_become_32 ?_
  refine z_iconst hx hb dX2_become_35 rfl ?_
  refine lv_aload_n hx hb dX2_become_36 rfl (lv_at hl 0 rfl) ?_
  refine z_get hx hb hts hin2_ hown hK hP 0 rfl rfl 3 (by decide) (hts _ (List.mem_of_getElem? (i := 8) rfl)) rfl dX2_become_37 ?_
  refine z_iconst hx hb dX2_become_40 rfl ?_
  refine z_bipush hx hb 18 dX2_become_41 rfl ?_
  refine z_copy hx hb (hml.trans hl.1.symm) hown (hts _ (List.mem_of_getElem? (i := 4) rfl)) (hts _ (List.mem_of_getElem? (i := 5) rfl)) (hts _ (List.mem_of_getElem? (i := 6) rfl)) (hts _ (List.mem_of_getElem? (i := 7) rfl)) hK hP hD hS 6 2 rfl rfl rfl (by decide) (Nat.le_of_ble_eq_true rfl) (Nat.le_of_ble_eq_true rfl) dX2_become_43 [[(q, .inr (2, [vI v1, vI ((b1 : Nat) : Int), .ref (x 0), .ref (x 1), .ref (x 2)]))], [((x 0), .inl (g.2 0, 6, .inl (aI h1)))], [((x 1), .inl (g.2 0, 18, .inl (aI o1)))], [((x 2), .inl (g.2 0, 6, .inl (aI l_)))], [(q1, .inr (2, [vI v1, vI ((b1 : Nat) : Int), .ref (x1 0), .ref (x1 1), .ref (x1 2)]))], [((x1 0), .inl (g.2 0, 6, .inl (aI h1)))], [((x1 1), .inl (g.2 0, 18, .inl (aI o1)))], [((x1 2), .inl (g.2 0, 6, .inl (aI l_1)))]] rfl (fun H locs hP hD hS => ?_)
  refine lv_aload_n hx hb dX2_become_46 rfl (lv_at hl 1 rfl) ?_
  refine z_get hx hb hts hin2_ hown hK hP 4 rfl rfl 4 (by decide) (hts _ (List.mem_of_getElem? (i := 9) rfl)) rfl dX2_become_47 ?_
  refine z_iconst hx hb dX2_become_50 rfl ?_
  refine lv_aload_n hx hb dX2_become_51 rfl (lv_at hl 0 rfl) ?_
  refine z_get hx hb hts hin2_ hown hK hP 0 rfl rfl 4 (by decide) (hts _ (List.mem_of_getElem? (i := 9) rfl)) rfl dX2_become_52 ?_
  refine z_iconst hx hb dX2_become_55 rfl ?_
  refine z_bipush hx hb 6 dX2_become_56 rfl ?_
  refine z_copy hx hb (hml.trans hl.1.symm) hown (hts _ (List.mem_of_getElem? (i := 4) rfl)) (hts _ (List.mem_of_getElem? (i := 5) rfl)) (hts _ (List.mem_of_getElem? (i := 6) rfl)) (hts _ (List.mem_of_getElem? (i := 7) rfl)) hK hP hD hS 7 3 rfl rfl rfl (by decide) (Nat.le_of_ble_eq_true rfl) (Nat.le_of_ble_eq_true rfl) dX2_become_58 [[(q, .inr (2, [vI v1, vI ((b1 : Nat) : Int), .ref (x 0), .ref (x 1), .ref (x 2)]))], [((x 0), .inl (g.2 0, 6, .inl (aI h1)))], [((x 1), .inl (g.2 0, 18, .inl (aI o1)))], [((x 2), .inl (g.2 0, 6, .inl (aI l_1)))], [(q1, .inr (2, [vI v1, vI ((b1 : Nat) : Int), .ref (x1 0), .ref (x1 1), .ref (x1 2)]))], [((x1 0), .inl (g.2 0, 6, .inl (aI h1)))], [((x1 1), .inl (g.2 0, 18, .inl (aI o1)))], [((x1 2), .inl (g.2 0, 6, .inl (aI l_1)))]] rfl (fun H locs hP hD hS => ?_)
  have hP : zP g [[(q1, .inr (2, [vI v1, vI ((b1 : Nat) : Int), .ref (x1 0), .ref (x1 1), .ref (x1 2)]))], [((x1 0), .inl (g.2 0, 6, .inl (aI h1)))], [((x1 1), .inl (g.2 0, 18, .inl (aI o1)))], [((x1 2), .inl (g.2 0, 6, .inl (aI l_1)))], [(q, .inr (2, [vI v1, vI ((b1 : Nat) : Int), .ref (x 0), .ref (x 1), .ref (x 2)]))], [((x 0), .inl (g.2 0, 6, .inl (aI h1)))], [((x 1), .inl (g.2 0, 18, .inl (aI o1)))], [((x 2), .inl (g.2 0, 6, .inl (aI l_1)))]] H := zP_sub hP [4, 5, 6, 7, 0, 1, 2, 3] rfl
  have hD : zD A [[(q1, .inr (2, [vI v1, vI ((b1 : Nat) : Int), .ref (x1 0), .ref (x1 1), .ref (x1 2)]))], [((x1 0), .inl (g.2 0, 6, .inl (aI h1)))], [((x1 1), .inl (g.2 0, 18, .inl (aI o1)))], [((x1 2), .inl (g.2 0, 6, .inl (aI l_1)))], [(q, .inr (2, [vI v1, vI ((b1 : Nat) : Int), .ref (x 0), .ref (x 1), .ref (x 2)]))], [((x 0), .inl (g.2 0, 6, .inl (aI h1)))], [((x 1), .inl (g.2 0, 18, .inl (aI o1)))], [((x 2), .inl (g.2 0, 6, .inl (aI l_1)))]] := zD_sub hD [4, 5, 6, 7, 0, 1, 2, 3] rfl rfl
  have hP : zP g [[(q1, .inr (2, [vI v1, vI ((b1 : Nat) : Int), .ref (x1 0), .ref (x1 1), .ref (x1 2)]))], [((x1 0), .inl (g.2 0, 6, .inl (aI h1)))], [((x1 1), .inl (g.2 0, 18, .inl (aI o1)))], [((x1 2), .inl (g.2 0, 6, .inl (aI l_1)))], (netW g q x v1 b1 h1 o1 l_1)] H := hP
  have hD : zD A [[(q1, .inr (2, [vI v1, vI ((b1 : Nat) : Int), .ref (x1 0), .ref (x1 1), .ref (x1 2)]))], [((x1 0), .inl (g.2 0, 6, .inl (aI h1)))], [((x1 1), .inl (g.2 0, 18, .inl (aI o1)))], [((x1 2), .inl (g.2 0, 6, .inl (aI l_1)))], (netW g q x v1 b1 h1 o1 l_1)] := hD
  have hP : zP g [(netW g q1 x1 v1 b1 h1 o1 l_1), (netW g q x v1 b1 h1 o1 l_1)] H := hP
  have hD : zD A [(netW g q1 x1 v1 b1 h1 o1 l_1), (netW g q x v1 b1 h1 o1 l_1)] := hD
  exact z_retv () [1, 0] hx hb hr hlocks hK hP hD hS trivial rfl rfl (rfl) (Nat.le_of_ble_eq_true rfl) (Nat.le_of_ble_eq_true rfl) dX2_become_61

set_option maxHeartbeats 4000000 in
set_option maxRecDepth 100000 in
theorem c_X2_ohmsUpTo (l : Launch) (g : zG) (q : Nat) (x : Nat → Nat) (v : Int) (b : Nat) (h : Nat → Int) (o : Nat → Int) (l_ : Nat → Int) (i : Nat) (d : Nat) (hn : nok v b h o l_) (hi : i < 6) (hd : d < 3) : zMet l g yX2_ohmsUpTo wsX2_ohmsUpTo 0 0 0 [.ref q, vI ((i : Nat) : Int), vI ((d : Nat) : Int)] zX0 [(netW g q x v b h o l_)] (qi g (fun (_ : Unit) => (zUp h o d i)) (fun (_ : Unit) => True) (fun (_ : Unit) => [(netW g q x v b h o l_)])) := by
  obtain ⟨hn1, hn2, hn3, hn4, hn5, hn6, hn7⟩ := id hn
  refine z_ent (cc := cX2_ohmsUpTo) (maxL := 6) (ret := (some .int)) (by decide) rfl (Nat.le_of_ble_eq_true rfl) ?_
  intro p e s m below meth c A ls hx hb hr hml hown hts hlocks hin0 hA hK hP hD hS hXX hl
  have hown : s.vm.findClass RX2 = some m.cls := hown
  have hin2_ : ∀ w ∈ wsX20, w ∈ wsX2_ohmsUpTo := zw_in [3, 4, 5, 6, 7] rfl
  have hl : lv_has ls 6 [(0, .ref q), (1, vI ((i : Nat) : Int)), (2, vI ((d : Nat) : Int))] := hl
  have hP : zP g [[(q, .inr (2, [vI v, vI ((b : Nat) : Int), .ref (x 0), .ref (x 1), .ref (x 2)]))], [((x 0), .inl (g.2 0, 6, .inl (aI h)))], [((x 1), .inl (g.2 0, 18, .inl (aI o)))], [((x 2), .inl (g.2 0, 6, .inl (aI l_)))]] s.heap := hP
  have hD : zD A [[(q, .inr (2, [vI v, vI ((b : Nat) : Int), .ref (x 0), .ref (x 1), .ref (x 2)]))], [((x 0), .inl (g.2 0, 6, .inl (aI h)))], [((x 1), .inl (g.2 0, 18, .inl (aI o)))], [((x 2), .inl (g.2 0, 6, .inl (aI l_)))]] := hD
  refine lv_aload_n hx hb dX2_ohmsUpTo_0 rfl (lv_at hl 0 rfl) ?_
  refine z_get hx hb hts hin2_ hown hK hP 0 rfl rfl 3 (by decide) (hts _ (List.mem_of_getElem? (i := 1) rfl)) rfl dX2_ohmsUpTo_1 ?_
  refine lv_iload_n hx hb dX2_ohmsUpTo_4 rfl (lv_at hl 2 rfl) ?_
  refine z_iald hx hb hK hP 2 rfl d (by omega) (by omega) (by decide) dX2_ohmsUpTo_5 ?_
  refine lv_istore_n (lv' := [(3, vI (o d)), (0, .ref q), (1, vI ((i : Nat) : Int)), (2, vI ((d : Nat) : Int))]) hx hb dX2_ohmsUpTo_6 rfl hl (by decide) rfl (fun ls hl => ?_)
  refine z_iconst hx hb dX2_ohmsUpTo_7 rfl ?_
  refine lv_istore (lv' := [(4, vI 0), (3, vI (o d)), (0, .ref q), (1, vI ((i : Nat) : Int)), (2, vI ((d : Nat) : Int))]) hx hb dX2_ohmsUpTo_8 hl (by decide) rfl (fun ls hl => ?_)
  refine lv_iload_n hx hb dX2_ohmsUpTo_10 rfl (lv_at hl 3 rfl) ?_
  refine lv_istore (lv' := [(5, vI ((i : Nat) : Int)), (4, vI 0), (3, vI (o d)), (0, .ref q), (1, vI ((i : Nat) : Int)), (2, vI ((d : Nat) : Int))]) hx hb dX2_ohmsUpTo_11 hl (by decide) rfl (fun ls hl => ?_)
  have loop13 : ∀ (N : Nat) (n : Nat) (w : Nat) (z : Int) (H : Heap) (locs : List Loc) (ls : Array Slot), w + n ≤ 5 → z + zS h o d (6 - n) w = zUp h o d i → (6 - n) < N → zP g [[(q, .inr (2, [vI v, vI ((b : Nat) : Int), .ref (x 0), .ref (x 1), .ref (x 2)]))], [((x 0), .inl (g.2 0, 6, .inl (aI h)))], [((x 1), .inl (g.2 0, 18, .inl (aI o)))], [((x 2), .inl (g.2 0, 6, .inl (aI l_)))]] H → zD A [[(q, .inr (2, [vI v, vI ((b : Nat) : Int), .ref (x 0), .ref (x 1), .ref (x 2)]))], [((x 0), .inl (g.2 0, 6, .inl (aI h)))], [((x 1), .inl (g.2 0, 18, .inl (aI o)))], [((x 2), .inl (g.2 0, 6, .inl (aI l_)))]] → va_S A s.heap H locs → lv_has ls 6 [(0, .ref q), (1, vI ((i : Nat) : Int)), (2, vI ((d : Nat) : Int)), (3, vI z), (4, vI ((n : Nat) : Int)), (5, vI ((w : Nat) : Int))] → W p l e (zRm 0 0 0) s m ([.ref q, vI ((i : Nat) : Int), vI ((d : Nat) : Int)] : List Value).toArray below meth c H locs (0) (0) (MQ below ((qi g (fun (_ : Unit) => (zUp h o d i)) (fun (_ : Unit) => True) (fun (_ : Unit) => [(netW g q x v b h o l_)])) A) ([.ref q, vI ((i : Nat) : Int), vI ((d : Nat) : Int)] : List Value).toArray s 0 0 A) (F0 m 13 ls []) := by
    intro N
    induction N with
    | zero => intro n w z H locs ls hw hz hm; exact absurd hm (Nat.not_lt_zero _)
    | succ N ih =>
      intro n w z H locs ls hw hz hm hP hD hS hl
      refine lv_iload hx hb dX2_ohmsUpTo_13 (lv_at hl 4 rfl) ?_
      refine z_bipush hx hb 6 dX2_ohmsUpTo_15 rfl ?_
      refine z_icmp_ge (tgt := 54) hx hb (by omega) (by decide) dX2_ohmsUpTo_17 (by decide) (fun c1 => absurd c1 (by omega)) (fun c1 => ?_)
      refine lv_iload hx hb dX2_ohmsUpTo_20 (lv_at hl 5 rfl) ?_
      refine z_if_le (tgt := 54) hx hb (by omega) dX2_ohmsUpTo_22 (by decide) (fun c2 => ?_) (fun c2 => ?_)
      · refine lv_iload_n hx hb dX2_ohmsUpTo_54 rfl (lv_at hl 3 rfl) ?_
        have hP : zP g [(netW g q x v b h o l_)] H := hP
        have hD : zD A [(netW g q x v b h o l_)] := hD
        have hw0 : w = 0 := by omega
        subst hw0
        exact z_reti () [0] hx hb hr rfl hlocks hK hP hD hS (by rw [zS_0] at hz; omega) trivial rfl rfl (rfl) (Nat.le_of_ble_eq_true rfl) (Nat.le_of_ble_eq_true rfl) dX2_ohmsUpTo_55
      · refine lv_iload_n hx hb dX2_ohmsUpTo_25 rfl (lv_at hl 3 rfl) ?_
        refine lv_aload_n hx hb dX2_ohmsUpTo_26 rfl (lv_at hl 0 rfl) ?_
        refine z_get hx hb hts hin2_ hown hK hP 0 rfl rfl 3 (by decide) (hts _ (List.mem_of_getElem? (i := 1) rfl)) rfl dX2_ohmsUpTo_27 ?_
        refine lv_iload hx hb dX2_ohmsUpTo_30 (lv_at hl 5 rfl) ?_
        refine z_iconst hx hb dX2_ohmsUpTo_32 rfl ?_
        refine z_imul hx hb (((w * 3) : Nat) : Int) (by omega) dX2_ohmsUpTo_33 ?_
        refine lv_iload_n hx hb dX2_ohmsUpTo_34 rfl (lv_at hl 2 rfl) ?_
        refine z_iadd hx hb ((((w * 3) + d) : Nat) : Int) (by omega) dX2_ohmsUpTo_35 ?_
        refine z_iald hx hb hK hP 2 rfl ((w * 3) + d) (by omega) (by omega) (by decide) dX2_ohmsUpTo_36 ?_
        refine z_iadd hx hb (z + (o ((w * 3) + d))) rfl dX2_ohmsUpTo_37 ?_
        refine z_nmI (fun x_3 hx_3 => ?_)
        refine lv_istore_n (lv' := [(3, vI x_3), (0, .ref q), (1, vI ((i : Nat) : Int)), (2, vI ((d : Nat) : Int)), (4, vI ((n : Nat) : Int)), (5, vI ((w : Nat) : Int))]) hx hb dX2_ohmsUpTo_38 rfl hl (by decide) rfl (fun ls hl => ?_)
        refine z_iinc hx hb (((n + 1) : Nat) : Int) (lv' := [(4, vI (((n + 1) : Nat) : Int)), (3, vI x_3), (0, .ref q), (1, vI ((i : Nat) : Int)), (2, vI ((d : Nat) : Int)), (5, vI ((w : Nat) : Int))]) dX2_ohmsUpTo_39 hl (k := 4) rfl (by omega) (by decide) rfl (fun ls hl => ?_)
        refine lv_aload_n hx hb dX2_ohmsUpTo_42 rfl (lv_at hl 2 rfl) ?_
        refine z_get hx hb hts hin2_ hown hK hP 0 rfl rfl 2 (by decide) (hts _ (List.mem_of_getElem? (i := 2) rfl)) rfl dX2_ohmsUpTo_43 ?_
        refine lv_iload hx hb dX2_ohmsUpTo_46 (lv_at hl 5 rfl) ?_
        refine z_iald hx hb hK hP 1 rfl w (by omega) (by omega) (by decide) dX2_ohmsUpTo_48 ?_
        have hh := hn5 w (by omega) (by omega)
        refine z_toI ((((h w).toNat) : Nat) : Int) (by omega) ?_
        refine lv_istore (lv' := [(5, vI ((((h w).toNat) : Nat) : Int)), (4, vI (((n + 1) : Nat) : Int)), (3, vI x_3), (0, .ref q), (1, vI ((i : Nat) : Int)), (2, vI ((d : Nat) : Int))]) hx hb dX2_ohmsUpTo_49 hl (by decide) rfl (fun ls hl => ?_)
        refine lv_goto (tgt := 13) hx hb dX2_ohmsUpTo_51 (by decide) ?_
        exact ih (n + 1) (h w).toNat x_3 _ _ _ (by omega) (by have e := zS_step (h := h) (o := o) (d := d) (n := 6 - n) (w := w) (by omega) (by omega); rw [show 6 - n - 1 = 6 - (n + 1) by omega] at e; omega) (by omega) hP hD hS (lv_sub hl [3, 4, 5, 2, 1, 0] rfl)
  exact loop13 _ 0 i (o d) _ _ _ (by omega) (by unfold zUp; rfl) (Nat.lt_succ_self _) hP hD hS (lv_sub hl [3, 4, 5, 2, 1, 0] rfl)

set_option maxHeartbeats 4000000 in
set_option maxRecDepth 100000 in
theorem c_X2_linesUpTo (l : Launch) (g : zG) (q : Nat) (x : Nat → Nat) (v : Int) (b : Nat) (h : Nat → Int) (o : Nat → Int) (l_ : Nat → Int) (i : Nat) (hn : nok v b h o l_) (hi : i < 6) : zMet l g yX2_linesUpTo wsX2_linesUpTo 0 0 0 [.ref q, vI ((i : Nat) : Int)] zX0 [(netW g q x v b h o l_)] (qi g (fun (_ : Unit) => (((zL h 6 i) : Nat) : Int)) (fun (_ : Unit) => True) (fun (_ : Unit) => [(netW g q x v b h o l_)])) := by
  obtain ⟨hn1, hn2, hn3, hn4, hn5, hn6, hn7⟩ := id hn
  refine z_ent (cc := cX2_linesUpTo) (maxL := 4) (ret := (some .int)) (by decide) rfl (Nat.le_of_ble_eq_true rfl) ?_
  intro p e s m below meth c A ls hx hb hr hml hown hts hlocks hin0 hA hK hP hD hS hXX hl
  have hown : s.vm.findClass RX2 = some m.cls := hown
  have hin2_ : ∀ w ∈ wsX20, w ∈ wsX2_linesUpTo := zw_in [2, 3, 4, 5, 6] rfl
  have hl : lv_has ls 4 [(0, .ref q), (1, vI ((i : Nat) : Int))] := hl
  have hP : zP g [[(q, .inr (2, [vI v, vI ((b : Nat) : Int), .ref (x 0), .ref (x 1), .ref (x 2)]))], [((x 0), .inl (g.2 0, 6, .inl (aI h)))], [((x 1), .inl (g.2 0, 18, .inl (aI o)))], [((x 2), .inl (g.2 0, 6, .inl (aI l_)))]] s.heap := hP
  have hD : zD A [[(q, .inr (2, [vI v, vI ((b : Nat) : Int), .ref (x 0), .ref (x 1), .ref (x 2)]))], [((x 0), .inl (g.2 0, 6, .inl (aI h)))], [((x 1), .inl (g.2 0, 18, .inl (aI o)))], [((x 2), .inl (g.2 0, 6, .inl (aI l_)))]] := hD
  refine z_iconst hx hb dX2_linesUpTo_0 rfl ?_
  refine lv_istore_n (lv' := [(2, vI 0), (0, .ref q), (1, vI ((i : Nat) : Int))]) hx hb dX2_linesUpTo_1 rfl hl (by decide) rfl (fun ls hl => ?_)
  refine lv_iload_n hx hb dX2_linesUpTo_2 rfl (lv_at hl 2 rfl) ?_
  refine lv_istore_n (lv' := [(3, vI ((i : Nat) : Int)), (2, vI 0), (0, .ref q), (1, vI ((i : Nat) : Int))]) hx hb dX2_linesUpTo_3 rfl hl (by decide) rfl (fun ls hl => ?_)
  have loop4 : ∀ (N : Nat) (n : Nat) (w : Nat) (H : Heap) (locs : List Loc) (ls : Array Slot), w + n ≤ 5 → n + zL h (6 - n) w = zL h 6 i → (6 - n) < N → zP g [[(q, .inr (2, [vI v, vI ((b : Nat) : Int), .ref (x 0), .ref (x 1), .ref (x 2)]))], [((x 0), .inl (g.2 0, 6, .inl (aI h)))], [((x 1), .inl (g.2 0, 18, .inl (aI o)))], [((x 2), .inl (g.2 0, 6, .inl (aI l_)))]] H → zD A [[(q, .inr (2, [vI v, vI ((b : Nat) : Int), .ref (x 0), .ref (x 1), .ref (x 2)]))], [((x 0), .inl (g.2 0, 6, .inl (aI h)))], [((x 1), .inl (g.2 0, 18, .inl (aI o)))], [((x 2), .inl (g.2 0, 6, .inl (aI l_)))]] → va_S A s.heap H locs → lv_has ls 4 [(0, .ref q), (1, vI ((i : Nat) : Int)), (2, vI ((n : Nat) : Int)), (3, vI ((w : Nat) : Int))] → W p l e (zRm 0 0 0) s m ([.ref q, vI ((i : Nat) : Int)] : List Value).toArray below meth c H locs (0) (0) (MQ below ((qi g (fun (_ : Unit) => (((zL h 6 i) : Nat) : Int)) (fun (_ : Unit) => True) (fun (_ : Unit) => [(netW g q x v b h o l_)])) A) ([.ref q, vI ((i : Nat) : Int)] : List Value).toArray s 0 0 A) (F0 m 4 ls []) := by
    intro N
    induction N with
    | zero => intro n w H locs ls hw hz hm; exact absurd hm (Nat.not_lt_zero _)
    | succ N ih =>
      intro n w H locs ls hw hz hm hP hD hS hl
      refine lv_iload_n hx hb dX2_linesUpTo_4 rfl (lv_at hl 2 rfl) ?_
      refine z_bipush hx hb 6 dX2_linesUpTo_5 rfl ?_
      refine z_icmp_ge (tgt := 27) hx hb (by omega) (by decide) dX2_linesUpTo_7 (by decide) (fun c1 => absurd c1 (by omega)) (fun c1 => ?_)
      refine lv_iload_n hx hb dX2_linesUpTo_10 rfl (lv_at hl 3 rfl) ?_
      refine z_if_le (tgt := 27) hx hb (by omega) dX2_linesUpTo_11 (by decide) (fun c2 => ?_) (fun c2 => ?_)
      · refine lv_iload_n hx hb dX2_linesUpTo_27 rfl (lv_at hl 2 rfl) ?_
        have hP : zP g [(netW g q x v b h o l_)] H := hP
        have hD : zD A [(netW g q x v b h o l_)] := hD
        have hw0 : w = 0 := by omega
        subst hw0
        exact z_reti () [0] hx hb hr rfl hlocks hK hP hD hS (by rw [zL_0] at hz; omega) trivial rfl rfl (rfl) (Nat.le_of_ble_eq_true rfl) (Nat.le_of_ble_eq_true rfl) dX2_linesUpTo_28
      · refine z_iinc hx hb (((n + 1) : Nat) : Int) (lv' := [(2, vI (((n + 1) : Nat) : Int)), (0, .ref q), (1, vI ((i : Nat) : Int)), (3, vI ((w : Nat) : Int))]) dX2_linesUpTo_14 hl (k := 2) rfl (by omega) (by decide) rfl (fun ls hl => ?_)
        refine lv_aload_n hx hb dX2_linesUpTo_17 rfl (lv_at hl 1 rfl) ?_
        refine z_get hx hb hts hin2_ hown hK hP 0 rfl rfl 2 (by decide) (hts _ (List.mem_of_getElem? (i := 1) rfl)) rfl dX2_linesUpTo_18 ?_
        refine lv_iload_n hx hb dX2_linesUpTo_21 rfl (lv_at hl 3 rfl) ?_
        refine z_iald hx hb hK hP 1 rfl w (by omega) (by omega) (by decide) dX2_linesUpTo_22 ?_
        have hh := hn5 w (by omega) (by omega)
        refine z_toI ((((h w).toNat) : Nat) : Int) (by omega) ?_
        refine lv_istore_n (lv' := [(3, vI ((((h w).toNat) : Nat) : Int)), (2, vI (((n + 1) : Nat) : Int)), (0, .ref q), (1, vI ((i : Nat) : Int))]) hx hb dX2_linesUpTo_23 rfl hl (by decide) rfl (fun ls hl => ?_)
        refine lv_goto (tgt := 4) hx hb dX2_linesUpTo_24 (by decide) ?_
        exact ih (n + 1) (h w).toNat _ _ _ (by omega) (by have e := zL_step (h := h) (n := 6 - n) (w := w) (by omega) (by omega); rw [show 6 - n - 1 = 6 - (n + 1) by omega] at e; omega) (by omega) hP hD hS (lv_sub hl [2, 3, 1, 0] rfl)
  exact loop4 _ 0 i _ _ _ (by omega) (by simp) (Nat.lt_succ_self _) hP hD hS (lv_sub hl [2, 3, 1, 0] rfl)

set_option maxHeartbeats 4000000 in
set_option maxRecDepth 100000 in
theorem c_X2_meetingOf (l : Launch) (g : zG) (q : Nat) (x : Nat → Nat) (v : Int) (b : Nat) (h : Nat → Int) (o : Nat → Int) (l_ : Nat → Int) (i : Nat) (j : Nat) (hn : nok v b h o l_) (hi : i < 6) (hj : j < 6) : zMet l g yX2_meetingOf wsX2_meetingOf 0 0 0 [.ref q, vI ((i : Nat) : Int), vI ((j : Nat) : Int)] zX0 [(netW g q x v b h o l_)] (qi g (fun (_ : Unit) => (((zM h 12 i j) : Nat) : Int)) (fun (_ : Unit) => True) (fun (_ : Unit) => [(netW g q x v b h o l_)])) := by
  obtain ⟨hn1, hn2, hn3, hn4, hn5, hn6, hn7⟩ := id hn
  refine z_ent (cc := cX2_meetingOf) (maxL := 6) (ret := (some .int)) (by decide) rfl (Nat.le_of_ble_eq_true rfl) ?_
  intro p e s m below meth c A ls hx hb hr hml hown hts hlocks hin0 hA hK hP hD hS hXX hl
  have hown : s.vm.findClass RX2 = some m.cls := hown
  have hin2_ : ∀ w ∈ wsX20, w ∈ wsX2_meetingOf := zw_in [2, 3, 4, 5, 6] rfl
  have hl : lv_has ls 6 [(0, .ref q), (1, vI ((i : Nat) : Int)), (2, vI ((j : Nat) : Int))] := hl
  have hP : zP g [[(q, .inr (2, [vI v, vI ((b : Nat) : Int), .ref (x 0), .ref (x 1), .ref (x 2)]))], [((x 0), .inl (g.2 0, 6, .inl (aI h)))], [((x 1), .inl (g.2 0, 18, .inl (aI o)))], [((x 2), .inl (g.2 0, 6, .inl (aI l_)))]] s.heap := hP
  have hD : zD A [[(q, .inr (2, [vI v, vI ((b : Nat) : Int), .ref (x 0), .ref (x 1), .ref (x 2)]))], [((x 0), .inl (g.2 0, 6, .inl (aI h)))], [((x 1), .inl (g.2 0, 18, .inl (aI o)))], [((x 2), .inl (g.2 0, 6, .inl (aI l_)))]] := hD
  refine lv_iload_n hx hb dX2_meetingOf_0 rfl (lv_at hl 1 rfl) ?_
  refine lv_istore_n (lv' := [(3, vI ((i : Nat) : Int)), (0, .ref q), (1, vI ((i : Nat) : Int)), (2, vI ((j : Nat) : Int))]) hx hb dX2_meetingOf_1 rfl hl (by decide) rfl (fun ls hl => ?_)
  refine lv_iload_n hx hb dX2_meetingOf_2 rfl (lv_at hl 3 rfl) ?_
  refine lv_istore (lv' := [(4, vI ((j : Nat) : Int)), (3, vI ((i : Nat) : Int)), (0, .ref q), (1, vI ((i : Nat) : Int)), (2, vI ((j : Nat) : Int))]) hx hb dX2_meetingOf_3 hl (by decide) rfl (fun ls hl => ?_)
  refine z_iconst hx hb dX2_meetingOf_5 rfl ?_
  refine lv_istore (lv' := [(5, vI 0), (4, vI ((j : Nat) : Int)), (3, vI ((i : Nat) : Int)), (0, .ref q), (1, vI ((i : Nat) : Int)), (2, vI ((j : Nat) : Int))]) hx hb dX2_meetingOf_6 hl (by decide) rfl (fun ls hl => ?_)
  have loop8 : ∀ (N : Nat) (n : Nat) (w : Nat) (w1 : Nat) (H : Heap) (locs : List Loc) (ls : Array Slot), w + w1 + n ≤ 10 → w < 6 ∧ w1 < 6 → zM h (12 - n) w w1 = zM h 12 i j → (12 - n) < N → zP g [[(q, .inr (2, [vI v, vI ((b : Nat) : Int), .ref (x 0), .ref (x 1), .ref (x 2)]))], [((x 0), .inl (g.2 0, 6, .inl (aI h)))], [((x 1), .inl (g.2 0, 18, .inl (aI o)))], [((x 2), .inl (g.2 0, 6, .inl (aI l_)))]] H → zD A [[(q, .inr (2, [vI v, vI ((b : Nat) : Int), .ref (x 0), .ref (x 1), .ref (x 2)]))], [((x 0), .inl (g.2 0, 6, .inl (aI h)))], [((x 1), .inl (g.2 0, 18, .inl (aI o)))], [((x 2), .inl (g.2 0, 6, .inl (aI l_)))]] → va_S A s.heap H locs → lv_has ls 6 [(0, .ref q), (1, vI ((i : Nat) : Int)), (2, vI ((j : Nat) : Int)), (3, vI ((w : Nat) : Int)), (4, vI ((w1 : Nat) : Int)), (5, vI ((n : Nat) : Int))] → W p l e (zRm 0 0 0) s m ([.ref q, vI ((i : Nat) : Int), vI ((j : Nat) : Int)] : List Value).toArray below meth c H locs (0) (0) (MQ below ((qi g (fun (_ : Unit) => (((zM h 12 i j) : Nat) : Int)) (fun (_ : Unit) => True) (fun (_ : Unit) => [(netW g q x v b h o l_)])) A) ([.ref q, vI ((i : Nat) : Int), vI ((j : Nat) : Int)] : List Value).toArray s 0 0 A) (F0 m 8 ls []) := by
    intro N
    induction N with
    | zero => intro n w w1 H locs ls hw hw2 hz hm; exact absurd hm (Nat.not_lt_zero _)
    | succ N ih =>
      intro n w w1 H locs ls hw hw2 hz hm hP hD hS hl
      refine lv_iload hx hb dX2_meetingOf_8 (lv_at hl 5 rfl) ?_
      refine z_bipush hx hb 12 dX2_meetingOf_10 rfl ?_
      refine z_icmp_ge (tgt := 52) hx hb (by omega) (by decide) dX2_meetingOf_12 (by decide) (fun c1 => absurd c1 (by omega)) (fun c1 => ?_)
      refine lv_iload_n hx hb dX2_meetingOf_15 rfl (lv_at hl 3 rfl) ?_
      refine lv_iload hx hb dX2_meetingOf_16 (lv_at hl 4 rfl) ?_
      refine z_icmp_eq (tgt := 52) hx hb (by omega) (by omega) dX2_meetingOf_18 (by decide) (fun c2 => ?_) (fun c2 => ?_)
      · refine lv_iload_n hx hb dX2_meetingOf_52 rfl (lv_at hl 3 rfl) ?_
        have hP : zP g [(netW g q x v b h o l_)] H := hP
        have hD : zD A [(netW g q x v b h o l_)] := hD
        have hw0 : w = w1 := by omega
        subst hw0
        exact z_reti () [0] hx hb hr rfl hlocks hK hP hD hS (by rw [zM_e (by omega)] at hz; omega) trivial rfl rfl (rfl) (Nat.le_of_ble_eq_true rfl) (Nat.le_of_ble_eq_true rfl) dX2_meetingOf_53
      · refine lv_iload_n hx hb dX2_meetingOf_21 rfl (lv_at hl 3 rfl) ?_
        refine lv_iload hx hb dX2_meetingOf_22 (lv_at hl 4 rfl) ?_
        refine z_icmp_le (tgt := 37) hx hb (by omega) (by omega) dX2_meetingOf_24 (by decide) (fun c3 => ?_) (fun c3 => ?_)
        · refine lv_aload_n hx hb dX2_meetingOf_37 rfl (lv_at hl 0 rfl) ?_
          refine z_get hx hb hts hin2_ hown hK hP 0 rfl rfl 2 (by decide) (hts _ (List.mem_of_getElem? (i := 1) rfl)) rfl dX2_meetingOf_38 ?_
          refine lv_iload hx hb dX2_meetingOf_41 (lv_at hl 4 rfl) ?_
          refine z_iald hx hb hK hP 1 rfl w1 (by omega) (by omega) (by decide) dX2_meetingOf_43 ?_
          have hh := hn5 w1 (by omega) (by omega)
          refine z_toI ((((h w1).toNat) : Nat) : Int) (by omega) ?_
          refine lv_istore (lv' := [(4, vI ((((h w1).toNat) : Nat) : Int)), (0, .ref q), (1, vI ((i : Nat) : Int)), (2, vI ((j : Nat) : Int)), (3, vI ((w : Nat) : Int)), (5, vI ((n : Nat) : Int))]) hx hb dX2_meetingOf_44 hl (by decide) rfl (fun ls hl => ?_)
          refine z_iinc hx hb (((n + 1) : Nat) : Int) (lv' := [(5, vI (((n + 1) : Nat) : Int)), (4, vI ((((h w1).toNat) : Nat) : Int)), (0, .ref q), (1, vI ((i : Nat) : Int)), (2, vI ((j : Nat) : Int)), (3, vI ((w : Nat) : Int))]) dX2_meetingOf_46 hl (k := 5) rfl (by omega) (by decide) rfl (fun ls hl => ?_)
          refine lv_goto (tgt := 8) hx hb dX2_meetingOf_49 (by decide) ?_
          exact ih (n + 1) w ((h w1).toNat) _ _ _ (by omega) (by omega) (by have e := zM_y (h := h) (n := 12 - n) (w := w) (w1 := w1) (by omega) (by omega); rw [show 12 - n - 1 = 12 - (n + 1) by omega] at e; rw [← e]; exact hz) (by omega) hP hD hS (lv_sub hl [2, 3, 4, 5, 1, 0] rfl)
        · refine lv_aload_n hx hb dX2_meetingOf_27 rfl (lv_at hl 0 rfl) ?_
          refine z_get hx hb hts hin2_ hown hK hP 0 rfl rfl 2 (by decide) (hts _ (List.mem_of_getElem? (i := 1) rfl)) rfl dX2_meetingOf_28 ?_
          refine lv_iload_n hx hb dX2_meetingOf_31 rfl (lv_at hl 3 rfl) ?_
          refine z_iald hx hb hK hP 1 rfl w (by omega) (by omega) (by decide) dX2_meetingOf_32 ?_
          have hh := hn5 w (by omega) (by omega)
          refine z_toI ((((h w).toNat) : Nat) : Int) (by omega) ?_
          refine lv_istore_n (lv' := [(3, vI ((((h w).toNat) : Nat) : Int)), (0, .ref q), (1, vI ((i : Nat) : Int)), (2, vI ((j : Nat) : Int)), (4, vI ((w1 : Nat) : Int)), (5, vI ((n : Nat) : Int))]) hx hb dX2_meetingOf_33 rfl hl (by decide) rfl (fun ls hl => ?_)
          refine lv_goto (tgt := 46) hx hb dX2_meetingOf_34 (by decide) ?_
          refine z_iinc hx hb (((n + 1) : Nat) : Int) (lv' := [(5, vI (((n + 1) : Nat) : Int)), (3, vI ((((h w).toNat) : Nat) : Int)), (0, .ref q), (1, vI ((i : Nat) : Int)), (2, vI ((j : Nat) : Int)), (4, vI ((w1 : Nat) : Int))]) dX2_meetingOf_46 hl (k := 5) rfl (by omega) (by decide) rfl (fun ls hl => ?_)
          refine lv_goto (tgt := 8) hx hb dX2_meetingOf_49 (by decide) ?_
          exact ih (n + 1) ((h w).toNat) w1 _ _ _ (by omega) (by omega) (by have e := zM_x (h := h) (n := 12 - n) (w := w) (w1 := w1) (by omega) (by omega); rw [show 12 - n - 1 = 12 - (n + 1) by omega] at e; rw [← e]; exact hz) (by omega) hP hD hS (lv_sub hl [2, 3, 4, 1, 5, 0] rfl)
  exact loop8 _ 0 i j _ _ _ (by omega) (by omega) rfl (Nat.lt_succ_self _) hP hD hS (lv_sub hl [3, 4, 5, 2, 1, 0] rfl)
