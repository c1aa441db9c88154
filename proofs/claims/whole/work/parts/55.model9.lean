set_option maxHeartbeats 4000000 in
set_option maxRecDepth 100000 in
theorem c_X10_tells2 (l : Launch) (g : zG) (q : Nat) (a : Nat → Nat) (x : Nat → Int) (S : RS) (wh : Nat → Int) (k : Nat) (j : Int) (hk : k < 3) (hj : -2147483648 ≤ j ∧ j < 2147483648) (hn : -9223372036854775808 < (wN wh k) ∧ (wN wh k) < 9223372036854775808) (hd : 1 ≤ (x 10 * x 10) ∧ (x 10 * x 10) < 9223372036854775808) : zMet l g yX10_tells wsX10_tells 2 0 0 [.ref q, vI ((k : Nat) : Int), vI 2, vI j] zX0 [[mdl q a x], [((a 0), .inl (g.2 1, 88, .inr (.inl (aL S.1))))], [((a 1), .inl (g.2 1, 88, .inr (.inl (aL S.2.1))))], [((a 14), .inl (g.2 1, 6, .inr (.inl (aL wh))))]] (ql g (fun (_ : Unit) => (tlF (wN wh k) (x 10 * x 10) j)) (fun (_ : Unit) => True) (fun (_ : Unit) => [[mdl q a x], [((a 0), .inl (g.2 1, 88, .inr (.inl (aL (rLy 78 (wN wh k) (x 10 * x 10) S).1))))], [((a 1), .inl (g.2 1, 88, .inr (.inl (aL (rLy 78 (wN wh k) (x 10 * x 10) S).2.1))))], [((a 14), .inl (g.2 1, 6, .inr (.inl (aL wh))))]])) := by
  refine z_ent (cc := cX10_tells) (maxL := 4) (ret := (some .long)) (by decide) rfl (Nat.le_of_ble_eq_true rfl) ?_
  intro p e s m below meth c A ls hx hb hr hml hown hts hlocks hin0 hA hK hP hD hS hXX hl
  have hown : s.vm.findClass RX10 = some m.cls := hown
  have hin10_ : ∀ w ∈ wsX100, w ∈ wsX10_tells := zw_in [21, 22, 23, 24, 25, 26, 27, 28, 29, 30, 31, 32, 33, 34, 35, 36, 37, 38, 39, 40, 41, 42, 43, 44, 45, 46] rfl
  have hl : lv_has ls 4 [(0, .ref q), (1, vI ((k : Nat) : Int)), (2, vI 2), (3, vI j)] := hl
  refine lv_iload_n hx hb dX10_tells_0 rfl (lv_at hl 2 rfl) ?_
  refine z_iconst hx hb dX10_tells_1 rfl ?_
  refine z_icmp_ne (tgt := 28) hx hb (by decide) (by decide) dX10_tells_2 (by decide) (fun cq1 => False.elim (by omega)) (fun cq1 => ?_)
  refine lv_aload_n hx hb dX10_tells_5 rfl (lv_at hl 0 rfl) ?_
  refine z_bipush hx hb 78 dX10_tells_6 rfl ?_
  refine lv_aload_n hx hb dX10_tells_8 rfl (lv_at hl 0 rfl) ?_
  refine lv_iload_n hx hb dX10_tells_9 rfl (lv_at hl 1 rfl) ?_
  refine z_cVl (As := [vI ((k : Nat) : Int)]) (rest := [vI 78, .ref q]) ⟨hx, hb, hml, hown, hts⟩ hK hP hD hS hA [0, 3] [1, 2] rfl rfl rfl (c_X10_normOf l g q a x wh k (by omega)) (cwV 1 hts gX10_tells_X10_normOf rfl rfl rfl (by decide +kernel) ⟨Nat.le_of_ble_eq_true rfl, Nat.le_of_ble_eq_true rfl⟩) 10 0 rfl rfl rfl (fun _ _ _ _ _ _ => trivial) (fun _ _ _ => trivial) rfl hl.1 (Nat.le_of_ble_eq_true rfl) rfl dX10_tells_10 ⟨Nat.le_of_ble_eq_true rfl, Nat.le_of_ble_eq_true rfl⟩ (fun u_2 H locs hwu_2 hP hD hS => ?_)
  try dsimp only at hwu_2
  have hP : zP g [[((a 0), .inl (g.2 1, 88, .inr (.inl (aL S.1))))], [((a 1), .inl (g.2 1, 88, .inr (.inl (aL S.2.1))))], [mdl q a x], [((a 14), .inl (g.2 1, 6, .inr (.inl (aL wh))))]] H := hP
  have hD : zD A [[((a 0), .inl (g.2 1, 88, .inr (.inl (aL S.1))))], [((a 1), .inl (g.2 1, 88, .inr (.inl (aL S.2.1))))], [mdl q a x], [((a 14), .inl (g.2 1, 6, .inr (.inl (aL wh))))]] := hD
  refine z_toL (wN wh k) rfl ?_
  refine lv_aload_n hx hb dX10_tells_13 rfl (lv_at hl 0 rfl) ?_
  refine z_get hx hb hts hin10_ hown hK hP 2 rfl rfl 23 (by decide) (hts _ (List.mem_of_getElem? (i := 1) rfl)) rfl dX10_tells_14 ?_
  refine lv_aload_n hx hb dX10_tells_17 rfl (lv_at hl 0 rfl) ?_
  refine z_get hx hb hts hin10_ hown hK hP 2 rfl rfl 23 (by decide) (hts _ (List.mem_of_getElem? (i := 1) rfl)) rfl dX10_tells_18 ?_
  refine z_lmul hx hb ((x 10) * (x 10)) rfl dX10_tells_21 ?_
  refine z_cVv (As := [vI 78, vL (wN wh k), vL ((x 10) * (x 10))]) (rest := []) ⟨hx, hb, hml, hown, hts⟩ hK hP hD hS hA [2, 0, 1] [3] rfl rfl rfl (c_X10_lay l g q a x S 78 (wN wh k) ((x 10) * (x 10)) (by decide) hn hd) (cwV 3 hts gX10_tells_X10_lay rfl rfl rfl (by decide +kernel) ⟨Nat.le_of_ble_eq_true rfl, Nat.le_of_ble_eq_true rfl⟩) 10 0 rfl rfl rfl (fun _ _ _ _ _ _ => trivial) (fun _ _ _ => trivial) rfl hl.1 (Nat.le_of_ble_eq_true rfl) rfl dX10_tells_22 ⟨Nat.le_of_ble_eq_true rfl, Nat.le_of_ble_eq_true rfl⟩ (fun u_3 H locs hwu_3 hP hD hS => ?_)
  try dsimp only at hwu_3
  have hP : zP g [[((a 14), .inl (g.2 1, 6, .inr (.inl (aL wh))))], [mdl q a x], [((a 0), .inl (g.2 1, 88, .inr (.inl (aL (rLy 78 (wN wh k) ((x 10) * (x 10)) S).1))))], [((a 1), .inl (g.2 1, 88, .inr (.inl (aL (rLy 78 (wN wh k) ((x 10) * (x 10)) S).2.1))))]] H := hP
  have hD : zD A [[((a 14), .inl (g.2 1, 6, .inr (.inl (aL wh))))], [mdl q a x], [((a 0), .inl (g.2 1, 88, .inr (.inl (aL (rLy 78 (wN wh k) ((x 10) * (x 10)) S).1))))], [((a 1), .inl (g.2 1, 88, .inr (.inl (aL (rLy 78 (wN wh k) ((x 10) * (x 10)) S).2.1))))]] := hD
  refine lv_goto (tgt := 48) hx hb dX10_tells_25 (by decide) ?_
  refine lv_aload_n hx hb dX10_tells_48 rfl (lv_at hl 0 rfl) ?_
  refine z_bipush hx hb 78 dX10_tells_49 rfl ?_
  refine lv_iload_n hx hb dX10_tells_51 rfl (lv_at hl 3 rfl) ?_
  refine z_cVl (As := [vI 78, vI j]) (rest := []) ⟨hx, hb, hml, hown, hts⟩ hK hP hD hS hA [1, 2, 3] [0] rfl rfl rfl (c_X10_partOf l g q a x (rLy 78 (wN wh k) (x 10 * x 10) S) 78 j (by decide) (by omega)) (cwV 2 hts gX10_tells_X10_partOf rfl rfl rfl (by decide +kernel) ⟨Nat.le_of_ble_eq_true rfl, Nat.le_of_ble_eq_true rfl⟩) 10 0 rfl rfl rfl (fun _ _ _ _ _ _ => trivial) (fun _ _ _ => trivial) rfl hl.1 (Nat.le_of_ble_eq_true rfl) rfl dX10_tells_52 ⟨Nat.le_of_ble_eq_true rfl, Nat.le_of_ble_eq_true rfl⟩ (fun u_4 H locs hwu_4 hP hD hS => ?_)
  try dsimp only at hwu_4
  have hP : zP g [[((a 14), .inl (g.2 1, 6, .inr (.inl (aL wh))))], [mdl q a x], [((a 0), .inl (g.2 1, 88, .inr (.inl (aL (rLy 78 (wN wh k) (x 10 * x 10) S).1))))], [((a 1), .inl (g.2 1, 88, .inr (.inl (aL (rLy 78 (wN wh k) (x 10 * x 10) S).2.1))))]] H := hP
  have hD : zD A [[((a 14), .inl (g.2 1, 6, .inr (.inl (aL wh))))], [mdl q a x], [((a 0), .inl (g.2 1, 88, .inr (.inl (aL (rLy 78 (wN wh k) (x 10 * x 10) S).1))))], [((a 1), .inl (g.2 1, 88, .inr (.inl (aL (rLy 78 (wN wh k) (x 10 * x 10) S).2.1))))]] := hD
  refine z_toL (if j = 0 then (rLy 78 (wN wh k) (x 10 * x 10) S).1 78 else (rLy 78 (wN wh k) (x 10 * x 10) S).2.1 78) rfl ?_
  exact z_retl () [1, 2, 3, 0] hx hb hr hlocks hK hP hD hS (tlF_e) trivial rfl rfl (rfl) (Nat.le_of_ble_eq_true rfl) (Nat.le_of_ble_eq_true rfl) dX10_tells_55

set_option maxHeartbeats 4000000 in
set_option maxRecDepth 100000 in
theorem c_X10_tells (l : Launch) (g : zG) (q : Nat) (a : Nat → Nat) (x : Nat → Int) (S : RS) (wh : Nat → Int) (k : Nat) (w : Nat) (j : Int) (hk : k < 3) (hj : -2147483648 ≤ j ∧ j < 2147483648) (hw : w < 2) (hn : -9223372036854775808 < (wh (2 * k + w)) ∧ (wh (2 * k + w)) < 9223372036854775808) (hd : 1 ≤ (x 10) ∧ (x 10) < 9223372036854775808) : zMet l g yX10_tells wsX10_tells 2 0 0 [.ref q, vI ((k : Nat) : Int), vI ((w : Nat) : Int), vI j] zX0 [[mdl q a x], [((a 0), .inl (g.2 1, 88, .inr (.inl (aL S.1))))], [((a 1), .inl (g.2 1, 88, .inr (.inl (aL S.2.1))))], [((a 14), .inl (g.2 1, 6, .inr (.inl (aL wh))))]] (ql g (fun (_ : Unit) => (tlF (wh (2 * k + w)) (x 10) j)) (fun (_ : Unit) => True) (fun (_ : Unit) => [[mdl q a x], [((a 0), .inl (g.2 1, 88, .inr (.inl (aL (rLy 78 (wh (2 * k + w)) (x 10) S).1))))], [((a 1), .inl (g.2 1, 88, .inr (.inl (aL (rLy 78 (wh (2 * k + w)) (x 10) S).2.1))))], [((a 14), .inl (g.2 1, 6, .inr (.inl (aL wh))))]])) := by
  refine z_ent (cc := cX10_tells) (maxL := 4) (ret := (some .long)) (by decide) rfl (Nat.le_of_ble_eq_true rfl) ?_
  intro p e s m below meth c A ls hx hb hr hml hown hts hlocks hin0 hA hK hP hD hS hXX hl
  have hown : s.vm.findClass RX10 = some m.cls := hown
  have hin10_ : ∀ w ∈ wsX100, w ∈ wsX10_tells := zw_in [21, 22, 23, 24, 25, 26, 27, 28, 29, 30, 31, 32, 33, 34, 35, 36, 37, 38, 39, 40, 41, 42, 43, 44, 45, 46] rfl
  have hl : lv_has ls 4 [(0, .ref q), (1, vI ((k : Nat) : Int)), (2, vI ((w : Nat) : Int)), (3, vI j)] := hl
  refine lv_iload_n hx hb dX10_tells_0 rfl (lv_at hl 2 rfl) ?_
  refine z_iconst hx hb dX10_tells_1 rfl ?_
  refine z_icmp_ne (tgt := 28) hx hb (by omega) (by decide) dX10_tells_2 (by decide) (fun cq1 => ?_) (fun cq1 => False.elim (by omega))
  refine lv_aload_n hx hb dX10_tells_28 rfl (lv_at hl 0 rfl) ?_
  refine z_bipush hx hb 78 dX10_tells_29 rfl ?_
  refine lv_aload_n hx hb dX10_tells_31 rfl (lv_at hl 0 rfl) ?_
  refine z_get hx hb hts hin10_ hown hK hP 0 rfl rfl 25 (by decide) (hts _ (List.mem_of_getElem? (i := 2) rfl)) rfl dX10_tells_32 ?_
  refine z_iconst hx hb dX10_tells_35 rfl ?_
  refine lv_iload_n hx hb dX10_tells_36 rfl (lv_at hl 1 rfl) ?_
  refine z_imul hx hb (((2 * k) : Nat) : Int) (by omega) dX10_tells_37 ?_
  refine lv_iload_n hx hb dX10_tells_38 rfl (lv_at hl 2 rfl) ?_
  refine z_iadd hx hb ((((2 * k) + w) : Nat) : Int) (by omega) dX10_tells_39 ?_
  refine z_lald hx hb hK hP 3 rfl ((2 * k) + w) (by omega) (by omega) (by decide) dX10_tells_40 ?_
  refine lv_aload_n hx hb dX10_tells_41 rfl (lv_at hl 0 rfl) ?_
  refine z_get hx hb hts hin10_ hown hK hP 0 rfl rfl 23 (by decide) (hts _ (List.mem_of_getElem? (i := 1) rfl)) rfl dX10_tells_42 ?_
  refine z_cVv (As := [vI 78, vL (wh ((2 * k) + w)), vL (x 10)]) (rest := []) ⟨hx, hb, hml, hown, hts⟩ hK hP hD hS hA [0, 1, 2] [3] rfl rfl rfl (c_X10_lay l g q a x S 78 (wh ((2 * k) + w)) (x 10) (by decide) hn hd) (cwV 3 hts gX10_tells_X10_lay rfl rfl rfl (by decide +kernel) ⟨Nat.le_of_ble_eq_true rfl, Nat.le_of_ble_eq_true rfl⟩) 10 0 rfl rfl rfl (fun _ _ _ _ _ _ => trivial) (fun _ _ _ => trivial) rfl hl.1 (Nat.le_of_ble_eq_true rfl) rfl dX10_tells_45 ⟨Nat.le_of_ble_eq_true rfl, Nat.le_of_ble_eq_true rfl⟩ (fun u_2 H locs hwu_2 hP hD hS => ?_)
  try dsimp only at hwu_2
  have hP : zP g [[((a 14), .inl (g.2 1, 6, .inr (.inl (aL wh))))], [mdl q a x], [((a 0), .inl (g.2 1, 88, .inr (.inl (aL (rLy 78 (wh ((2 * k) + w)) (x 10) S).1))))], [((a 1), .inl (g.2 1, 88, .inr (.inl (aL (rLy 78 (wh ((2 * k) + w)) (x 10) S).2.1))))]] H := hP
  have hD : zD A [[((a 14), .inl (g.2 1, 6, .inr (.inl (aL wh))))], [mdl q a x], [((a 0), .inl (g.2 1, 88, .inr (.inl (aL (rLy 78 (wh ((2 * k) + w)) (x 10) S).1))))], [((a 1), .inl (g.2 1, 88, .inr (.inl (aL (rLy 78 (wh ((2 * k) + w)) (x 10) S).2.1))))]] := hD
  refine lv_aload_n hx hb dX10_tells_48 rfl (lv_at hl 0 rfl) ?_
  refine z_bipush hx hb 78 dX10_tells_49 rfl ?_
  refine lv_iload_n hx hb dX10_tells_51 rfl (lv_at hl 3 rfl) ?_
  refine z_cVl (As := [vI 78, vI j]) (rest := []) ⟨hx, hb, hml, hown, hts⟩ hK hP hD hS hA [1, 2, 3] [0] rfl rfl rfl (c_X10_partOf l g q a x (rLy 78 (wh (2 * k + w)) (x 10) S) 78 j (by decide) (by omega)) (cwV 2 hts gX10_tells_X10_partOf rfl rfl rfl (by decide +kernel) ⟨Nat.le_of_ble_eq_true rfl, Nat.le_of_ble_eq_true rfl⟩) 10 0 rfl rfl rfl (fun _ _ _ _ _ _ => trivial) (fun _ _ _ => trivial) rfl hl.1 (Nat.le_of_ble_eq_true rfl) rfl dX10_tells_52 ⟨Nat.le_of_ble_eq_true rfl, Nat.le_of_ble_eq_true rfl⟩ (fun u_3 H locs hwu_3 hP hD hS => ?_)
  try dsimp only at hwu_3
  have hP : zP g [[((a 14), .inl (g.2 1, 6, .inr (.inl (aL wh))))], [mdl q a x], [((a 0), .inl (g.2 1, 88, .inr (.inl (aL (rLy 78 (wh (2 * k + w)) (x 10) S).1))))], [((a 1), .inl (g.2 1, 88, .inr (.inl (aL (rLy 78 (wh (2 * k + w)) (x 10) S).2.1))))]] H := hP
  have hD : zD A [[((a 14), .inl (g.2 1, 6, .inr (.inl (aL wh))))], [mdl q a x], [((a 0), .inl (g.2 1, 88, .inr (.inl (aL (rLy 78 (wh (2 * k + w)) (x 10) S).1))))], [((a 1), .inl (g.2 1, 88, .inr (.inl (aL (rLy 78 (wh (2 * k + w)) (x 10) S).2.1))))]] := hD
  refine z_toL (if j = 0 then (rLy 78 (wh (2 * k + w)) (x 10) S).1 78 else (rLy 78 (wh (2 * k + w)) (x 10) S).2.1 78) rfl ?_
  exact z_retl () [1, 2, 3, 0] hx hb hr hlocks hK hP hD hS (tlF_e) trivial rfl rfl (rfl) (Nat.le_of_ble_eq_true rfl) (Nat.le_of_ble_eq_true rfl) dX10_tells_55

set_option maxHeartbeats 4000000 in
set_option maxRecDepth 100000 in
theorem c_X10_take_unk (l : Launch) (g : zG) (q : Nat) (a : Nat → Nat) (x : Nat → Int) (i : Int) (w : Int) (hi : -2147483648 ≤ i ∧ i < 2147483648) (hw : -2147483648 ≤ w ∧ w < 2147483648) (hu : ¬ (0 ≤ i ∧ i ≤ 2)) : zMet l g yX10_take wsX10_take 2 0 0 [.ref q, vI i, vI w] zX0 [[mdl q a x]] (qi g (fun (_ : Unit) => (-2000000001)) (fun (_ : Unit) => True) (fun (_ : Unit) => [[mdl q a x]])) := by
  refine z_ent (cc := cX10_take) (maxL := 6) (ret := (some .int)) (by decide) rfl (Nat.le_of_ble_eq_true rfl) ?_
  intro p e s m below meth c A ls hx hb hr hml hown hts hlocks hin0 hA hK hP hD hS hXX hl
  have hown : s.vm.findClass RX10 = some m.cls := hown
  have hl : lv_has ls 6 [(0, .ref q), (1, vI i), (2, vI w)] := hl
  refine lv_iload_n hx hb dX10_take_0 rfl (lv_at hl 1 rfl) ?_
  refine z_cSi (As := [vI i]) (rest := []) ⟨hx, hb, hml, hown, hts⟩ hK hP hD hS hA [] [0] rfl rfl rfl (c_X10_isStore l g i (by first | decide | omega)) (va_cwS 1 hts gX10_take_X10_isStore rfl rfl rfl (by decide +kernel) ⟨Nat.le_of_ble_eq_true rfl, Nat.le_of_ble_eq_true rfl⟩) (fun _ _ _ _ _ _ => trivial) (fun _ _ _ => trivial) rfl hl.1 (Nat.le_of_ble_eq_true rfl) rfl dX10_take_1 ⟨Nat.le_of_ble_eq_true rfl, Nat.le_of_ble_eq_true rfl⟩ (fun u_1 H locs hwu_1 hP hD hS => ?_)
  try dsimp only at hwu_1
  have hP : zP g [[mdl q a x]] H := hP
  have hD : zD A [[mdl q a x]] := hD
  refine z_toI (inI i 0 2) rfl ?_
  have hf_2 := inI_s i 0 2
  refine z_if_ne (tgt := 10) hx hb (by omega) dX10_take_4 (by decide) (fun cq3 => False.elim (by omega)) (fun cq3 => ?_)
  refine z_ldc hx hb (-2000000001) hown (hts _ (List.mem_of_getElem? (i := 1) rfl)) rfl dX10_take_7 ?_
  exact z_reti () [0] hx hb hr rfl hlocks hK hP hD hS (rfl) trivial rfl rfl (rfl) (Nat.le_of_ble_eq_true rfl) (Nat.le_of_ble_eq_true rfl) dX10_take_9

set_option maxHeartbeats 4000000 in
set_option maxRecDepth 100000 in
theorem c_X10_take_out (l : Launch) (g : zG) (q : Nat) (a : Nat → Nat) (x : Nat → Int) (i : Int) (w : Int) (hi : -2147483648 ≤ i ∧ i < 2147483648) (hw : -2147483648 ≤ w ∧ w < 2147483648) (hu : 0 ≤ i ∧ i ≤ 2) (ho : ¬ (0 ≤ w ∧ w ≤ 1)) : zMet l g yX10_take wsX10_take 2 0 0 [.ref q, vI i, vI w] zX0 [[mdl q a x]] (qi g (fun (_ : Unit) => (-2000000002)) (fun (_ : Unit) => True) (fun (_ : Unit) => [[mdl q a x]])) := by
  refine z_ent (cc := cX10_take) (maxL := 6) (ret := (some .int)) (by decide) rfl (Nat.le_of_ble_eq_true rfl) ?_
  intro p e s m below meth c A ls hx hb hr hml hown hts hlocks hin0 hA hK hP hD hS hXX hl
  have hown : s.vm.findClass RX10 = some m.cls := hown
  have hl : lv_has ls 6 [(0, .ref q), (1, vI i), (2, vI w)] := hl
  refine lv_iload_n hx hb dX10_take_0 rfl (lv_at hl 1 rfl) ?_
  refine z_cSi (As := [vI i]) (rest := []) ⟨hx, hb, hml, hown, hts⟩ hK hP hD hS hA [] [0] rfl rfl rfl (c_X10_isStore l g i (by first | decide | omega)) (va_cwS 1 hts gX10_take_X10_isStore rfl rfl rfl (by decide +kernel) ⟨Nat.le_of_ble_eq_true rfl, Nat.le_of_ble_eq_true rfl⟩) (fun _ _ _ _ _ _ => trivial) (fun _ _ _ => trivial) rfl hl.1 (Nat.le_of_ble_eq_true rfl) rfl dX10_take_1 ⟨Nat.le_of_ble_eq_true rfl, Nat.le_of_ble_eq_true rfl⟩ (fun u_1 H locs hwu_1 hP hD hS => ?_)
  try dsimp only at hwu_1
  have hP : zP g [[mdl q a x]] H := hP
  have hD : zD A [[mdl q a x]] := hD
  refine z_toI (inI i 0 2) rfl ?_
  have hf_2 := inI_s i 0 2
  refine z_if_ne (tgt := 10) hx hb (by omega) dX10_take_4 (by decide) (fun cq3 => ?_) (fun cq3 => False.elim (by omega))
  refine lv_iload_n hx hb dX10_take_10 rfl (lv_at hl 2 rfl) ?_
  refine z_i2l hx hb (by omega) dX10_take_11 ?_
  refine z_lconst hx hb 0 dX10_take_12 rfl ?_
  refine z_lconst hx hb 1 dX10_take_13 rfl ?_
  refine z_cSi (As := [vL w, vL 0, vL 1]) (rest := []) ⟨hx, hb, hml, hown, hts⟩ hK hP hD hS hA [] [0] rfl rfl rfl (c_X10_in l g w 0 1 (by first | decide | omega) (by first | decide | omega) (by first | decide | omega)) (va_cwS 3 hts gX10_take_X10_in rfl rfl rfl (by decide +kernel) ⟨Nat.le_of_ble_eq_true rfl, Nat.le_of_ble_eq_true rfl⟩) (fun _ _ _ _ _ _ => trivial) (fun _ _ _ => trivial) rfl hl.1 (Nat.le_of_ble_eq_true rfl) rfl dX10_take_14 ⟨Nat.le_of_ble_eq_true rfl, Nat.le_of_ble_eq_true rfl⟩ (fun u_4 H locs hwu_4 hP hD hS => ?_)
  try dsimp only at hwu_4
  have hP : zP g [[mdl q a x]] H := hP
  have hD : zD A [[mdl q a x]] := hD
  refine z_toI (inI w 0 1) rfl ?_
  have hf_5 := inI_s w 0 1
  refine z_if_ne (tgt := 23) hx hb (by omega) dX10_take_17 (by decide) (fun cq6 => False.elim (by omega)) (fun cq6 => ?_)
  refine z_ldc hx hb (-2000000002) hown (hts _ (List.mem_of_getElem? (i := 2) rfl)) rfl dX10_take_20 ?_
  exact z_reti () [0] hx hb hr rfl hlocks hK hP hD hS (rfl) trivial rfl rfl (rfl) (Nat.le_of_ble_eq_true rfl) (Nat.le_of_ble_eq_true rfl) dX10_take_22

set_option maxHeartbeats 4000000 in
set_option maxRecDepth 100000 in
theorem c_X10_sum_unk (l : Launch) (g : zG) (q : Nat) (a : Nat → Nat) (x : Nat → Int) (i : Int) (w : Int) (hi : -2147483648 ≤ i ∧ i < 2147483648) (hw : -2147483648 ≤ w ∧ w < 2147483648) (hu : ¬ (0 ≤ i ∧ i ≤ 2)) : zMet l g yX10_sum wsX10_sum 2 0 0 [.ref q, vI i, vI w] zX0 [[mdl q a x]] (qi g (fun (_ : Unit) => (-2000000001)) (fun (_ : Unit) => True) (fun (_ : Unit) => [[mdl q a x]])) := by
  refine z_ent (cc := cX10_sum) (maxL := 7) (ret := (some .int)) (by decide) rfl (Nat.le_of_ble_eq_true rfl) ?_
  intro p e s m below meth c A ls hx hb hr hml hown hts hlocks hin0 hA hK hP hD hS hXX hl
  have hown : s.vm.findClass RX10 = some m.cls := hown
  have hl : lv_has ls 7 [(0, .ref q), (1, vI i), (2, vI w)] := hl
  refine lv_iload_n hx hb dX10_sum_0 rfl (lv_at hl 1 rfl) ?_
  refine z_cSi (As := [vI i]) (rest := []) ⟨hx, hb, hml, hown, hts⟩ hK hP hD hS hA [] [0] rfl rfl rfl (c_X10_isStore l g i (by first | decide | omega)) (va_cwS 1 hts gX10_sum_X10_isStore rfl rfl rfl (by decide +kernel) ⟨Nat.le_of_ble_eq_true rfl, Nat.le_of_ble_eq_true rfl⟩) (fun _ _ _ _ _ _ => trivial) (fun _ _ _ => trivial) rfl hl.1 (Nat.le_of_ble_eq_true rfl) rfl dX10_sum_1 ⟨Nat.le_of_ble_eq_true rfl, Nat.le_of_ble_eq_true rfl⟩ (fun u_1 H locs hwu_1 hP hD hS => ?_)
  try dsimp only at hwu_1
  have hP : zP g [[mdl q a x]] H := hP
  have hD : zD A [[mdl q a x]] := hD
  refine z_toI (inI i 0 2) rfl ?_
  have hf_2 := inI_s i 0 2
  refine z_if_ne (tgt := 10) hx hb (by omega) dX10_sum_4 (by decide) (fun cq3 => False.elim (by omega)) (fun cq3 => ?_)
  refine z_ldc hx hb (-2000000001) hown (hts _ (List.mem_of_getElem? (i := 1) rfl)) rfl dX10_sum_7 ?_
  exact z_reti () [0] hx hb hr rfl hlocks hK hP hD hS (rfl) trivial rfl rfl (rfl) (Nat.le_of_ble_eq_true rfl) (Nat.le_of_ble_eq_true rfl) dX10_sum_9

set_option maxHeartbeats 4000000 in
set_option maxRecDepth 100000 in
theorem c_X10_sum_out (l : Launch) (g : zG) (q : Nat) (a : Nat → Nat) (x : Nat → Int) (i : Int) (w : Int) (hi : -2147483648 ≤ i ∧ i < 2147483648) (hw : -2147483648 ≤ w ∧ w < 2147483648) (hu : 0 ≤ i ∧ i ≤ 2) (ho : ¬ (0 ≤ w ∧ w ≤ 2)) : zMet l g yX10_sum wsX10_sum 2 0 0 [.ref q, vI i, vI w] zX0 [[mdl q a x]] (qi g (fun (_ : Unit) => (-2000000002)) (fun (_ : Unit) => True) (fun (_ : Unit) => [[mdl q a x]])) := by
  refine z_ent (cc := cX10_sum) (maxL := 7) (ret := (some .int)) (by decide) rfl (Nat.le_of_ble_eq_true rfl) ?_
  intro p e s m below meth c A ls hx hb hr hml hown hts hlocks hin0 hA hK hP hD hS hXX hl
  have hown : s.vm.findClass RX10 = some m.cls := hown
  have hl : lv_has ls 7 [(0, .ref q), (1, vI i), (2, vI w)] := hl
  refine lv_iload_n hx hb dX10_sum_0 rfl (lv_at hl 1 rfl) ?_
  refine z_cSi (As := [vI i]) (rest := []) ⟨hx, hb, hml, hown, hts⟩ hK hP hD hS hA [] [0] rfl rfl rfl (c_X10_isStore l g i (by first | decide | omega)) (va_cwS 1 hts gX10_sum_X10_isStore rfl rfl rfl (by decide +kernel) ⟨Nat.le_of_ble_eq_true rfl, Nat.le_of_ble_eq_true rfl⟩) (fun _ _ _ _ _ _ => trivial) (fun _ _ _ => trivial) rfl hl.1 (Nat.le_of_ble_eq_true rfl) rfl dX10_sum_1 ⟨Nat.le_of_ble_eq_true rfl, Nat.le_of_ble_eq_true rfl⟩ (fun u_1 H locs hwu_1 hP hD hS => ?_)
  try dsimp only at hwu_1
  have hP : zP g [[mdl q a x]] H := hP
  have hD : zD A [[mdl q a x]] := hD
  refine z_toI (inI i 0 2) rfl ?_
  have hf_2 := inI_s i 0 2
  refine z_if_ne (tgt := 10) hx hb (by omega) dX10_sum_4 (by decide) (fun cq3 => ?_) (fun cq3 => False.elim (by omega))
  refine lv_iload_n hx hb dX10_sum_10 rfl (lv_at hl 2 rfl) ?_
  refine z_i2l hx hb (by omega) dX10_sum_11 ?_
  refine z_lconst hx hb 0 dX10_sum_12 rfl ?_
  refine z_ldc2 hx hb 2 hown (hts _ (List.mem_of_getElem? (i := 2) rfl)) rfl dX10_sum_13 ?_
  refine z_cSi (As := [vL w, vL 0, vL 2]) (rest := []) ⟨hx, hb, hml, hown, hts⟩ hK hP hD hS hA [] [0] rfl rfl rfl (c_X10_in l g w 0 2 (by first | decide | omega) (by first | decide | omega) (by first | decide | omega)) (va_cwS 3 hts gX10_sum_X10_in rfl rfl rfl (by decide +kernel) ⟨Nat.le_of_ble_eq_true rfl, Nat.le_of_ble_eq_true rfl⟩) (fun _ _ _ _ _ _ => trivial) (fun _ _ _ => trivial) rfl hl.1 (Nat.le_of_ble_eq_true rfl) rfl dX10_sum_16 ⟨Nat.le_of_ble_eq_true rfl, Nat.le_of_ble_eq_true rfl⟩ (fun u_4 H locs hwu_4 hP hD hS => ?_)
  try dsimp only at hwu_4
  have hP : zP g [[mdl q a x]] H := hP
  have hD : zD A [[mdl q a x]] := hD
  refine z_toI (inI w 0 2) rfl ?_
  have hf_5 := inI_s w 0 2
  refine z_if_ne (tgt := 25) hx hb (by omega) dX10_sum_19 (by decide) (fun cq6 => False.elim (by omega)) (fun cq6 => ?_)
  refine z_ldc hx hb (-2000000002) hown (hts _ (List.mem_of_getElem? (i := 3) rfl)) rfl dX10_sum_22 ?_
  exact z_reti () [0] hx hb hr rfl hlocks hK hP hD hS (rfl) trivial rfl rfl (rfl) (Nat.le_of_ble_eq_true rfl) (Nat.le_of_ble_eq_true rfl) dX10_sum_24

set_option maxHeartbeats 4000000 in
set_option maxRecDepth 100000 in
theorem c_X10_sum0_null (l : Launch) (g : zG) (q : Nat) (a : Nat → Nat) (x : Nat → Int) (z : Nat → Int) (w : Int) (hw : -2147483648 ≤ w ∧ w < 2147483648) (ho : 0 ≤ w ∧ w ≤ 2) (hz0 : z 0 = -1) : zMet l g yX10_sum wsX10_sum 2 0 0 [.ref q, vI 0, vI w] zX0 [[mdl q a x], [((a 7), .inl (g.2 0, 3, .inl (aI z)))]] (qi g (fun (_ : Unit) => (-2000000011)) (fun (_ : Unit) => True) (fun (_ : Unit) => [[mdl q a x], [((a 7), .inl (g.2 0, 3, .inl (aI z)))]])) := by
  refine z_ent (cc := cX10_sum) (maxL := 7) (ret := (some .int)) (by decide) rfl (Nat.le_of_ble_eq_true rfl) ?_
  intro p e s m below meth c A ls hx hb hr hml hown hts hlocks hin0 hA hK hP hD hS hXX hl
  have hown : s.vm.findClass RX10 = some m.cls := hown
  have hin10_ : ∀ w ∈ wsX100, w ∈ wsX10_sum := zw_in [16, 17, 18, 19, 20, 21, 22, 23, 24, 25, 26, 27, 28, 29, 30, 31, 32, 33, 34, 35, 36, 37, 38, 39, 40, 41] rfl
  have hl : lv_has ls 7 [(0, .ref q), (1, vI 0), (2, vI w)] := hl
  refine lv_iload_n hx hb dX10_sum_0 rfl (lv_at hl 1 rfl) ?_
  refine z_cSi (As := [vI 0]) (rest := []) ⟨hx, hb, hml, hown, hts⟩ hK hP hD hS hA [] [0, 1] rfl rfl rfl (c_X10_isStore l g 0 (by first | decide | omega)) (va_cwS 1 hts gX10_sum_X10_isStore rfl rfl rfl (by decide +kernel) ⟨Nat.le_of_ble_eq_true rfl, Nat.le_of_ble_eq_true rfl⟩) (fun _ _ _ _ _ _ => trivial) (fun _ _ _ => trivial) rfl hl.1 (Nat.le_of_ble_eq_true rfl) rfl dX10_sum_1 ⟨Nat.le_of_ble_eq_true rfl, Nat.le_of_ble_eq_true rfl⟩ (fun u_1 H locs hwu_1 hP hD hS => ?_)
  try dsimp only at hwu_1
  have hP : zP g [[mdl q a x], [((a 7), .inl (g.2 0, 3, .inl (aI z)))]] H := hP
  have hD : zD A [[mdl q a x], [((a 7), .inl (g.2 0, 3, .inl (aI z)))]] := hD
  refine z_toI (inI 0 0 2) rfl ?_
  have hf_2 := inI_s 0 0 2
  refine z_if_ne (tgt := 10) hx hb (by omega) dX10_sum_4 (by decide) (fun cq3 => ?_) (fun cq3 => False.elim (by omega))
  refine lv_iload_n hx hb dX10_sum_10 rfl (lv_at hl 2 rfl) ?_
  refine z_i2l hx hb (by omega) dX10_sum_11 ?_
  refine z_lconst hx hb 0 dX10_sum_12 rfl ?_
  refine z_ldc2 hx hb 2 hown (hts _ (List.mem_of_getElem? (i := 2) rfl)) rfl dX10_sum_13 ?_
  refine z_cSi (As := [vL w, vL 0, vL 2]) (rest := []) ⟨hx, hb, hml, hown, hts⟩ hK hP hD hS hA [] [0, 1] rfl rfl rfl (c_X10_in l g w 0 2 (by first | decide | omega) (by first | decide | omega) (by first | decide | omega)) (va_cwS 3 hts gX10_sum_X10_in rfl rfl rfl (by decide +kernel) ⟨Nat.le_of_ble_eq_true rfl, Nat.le_of_ble_eq_true rfl⟩) (fun _ _ _ _ _ _ => trivial) (fun _ _ _ => trivial) rfl hl.1 (Nat.le_of_ble_eq_true rfl) rfl dX10_sum_16 ⟨Nat.le_of_ble_eq_true rfl, Nat.le_of_ble_eq_true rfl⟩ (fun u_4 H locs hwu_4 hP hD hS => ?_)
  try dsimp only at hwu_4
  have hP : zP g [[mdl q a x], [((a 7), .inl (g.2 0, 3, .inl (aI z)))]] H := hP
  have hD : zD A [[mdl q a x], [((a 7), .inl (g.2 0, 3, .inl (aI z)))]] := hD
  refine z_toI (inI w 0 2) rfl ?_
  have hf_5 := inI_s w 0 2
  refine z_if_ne (tgt := 25) hx hb (by omega) dX10_sum_19 (by decide) (fun cq6 => ?_) (fun cq6 => False.elim (by omega))
  refine lv_aload_n hx hb dX10_sum_25 rfl (lv_at hl 0 rfl) ?_
  refine z_get hx hb hts hin10_ hown hK hP 0 rfl rfl 11 (by decide) (hts _ (List.mem_of_getElem? (i := 4) rfl)) rfl dX10_sum_26 ?_
  refine lv_iload_n hx hb dX10_sum_29 rfl (lv_at hl 1 rfl) ?_
  refine z_iald hx hb hK hP 1 rfl 0 rfl (by decide) (by decide) dX10_sum_30 ?_
  refine z_if_ge (tgt := 38) hx hb (by omega) dX10_sum_31 (by decide) (fun cq7 => False.elim (by omega)) (fun cq7 => ?_)
  refine z_ldcw hx hb (-2000000011) hown (hts _ (List.mem_of_getElem? (i := 5) rfl)) rfl dX10_sum_34 ?_
  exact z_reti () [0, 1] hx hb hr rfl hlocks hK hP hD hS (rfl) trivial rfl rfl (rfl) (Nat.le_of_ble_eq_true rfl) (Nat.le_of_ble_eq_true rfl) dX10_sum_37

set_option maxHeartbeats 4000000 in
set_option maxRecDepth 100000 in
theorem c_X10_sum0_ok (l : Launch) (g : zG) (q : Nat) (a : Nat → Nat) (x : Nat → Int) (z : Nat → Int) (kd : Nat → Int) (fa : Nat → Int) (fb : Nat → Int) (n : Nat) (w : Int) (hw : -2147483648 ≤ w ∧ w < 2147483648) (ho : 0 ≤ w ∧ w ≤ 2) (hz0 : z 0 = (n : Int)) (hn : n ≤ 8) : zMet l g yX10_sum wsX10_sum 2 0 0 [.ref q, vI 0, vI w] zX0 [[mdl q a x], [((a 7), .inl (g.2 0, 3, .inl (aI z)))], [((a 8), .inl (g.2 0, 24, .inl (aI kd)))], [((a 9), .inl (g.2 0, 24, .inl (aI fa)))], [((a 10), .inl (g.2 0, 24, .inl (aI fb)))]] (qi g (fun (_ : Unit) => (tot n (if w = 2 then (fun j => kd (0 + j)) else if w = 0 then (fun j => fa (0 + j)) else (fun j => fb (0 + j))))) (fun (_ : Unit) => True) (fun (_ : Unit) => [[mdl q a x], [((a 7), .inl (g.2 0, 3, .inl (aI z)))], [((a 8), .inl (g.2 0, 24, .inl (aI kd)))], [((a 9), .inl (g.2 0, 24, .inl (aI fa)))], [((a 10), .inl (g.2 0, 24, .inl (aI fb)))]])) := by
  refine z_ent (cc := cX10_sum) (maxL := 7) (ret := (some .int)) (by decide) rfl (Nat.le_of_ble_eq_true rfl) ?_
  intro p e s m below meth c A ls hx hb hr hml hown hts hlocks hin0 hA hK hP hD hS hXX hl
  have hown : s.vm.findClass RX10 = some m.cls := hown
  have hin10_ : ∀ w ∈ wsX100, w ∈ wsX10_sum := zw_in [16, 17, 18, 19, 20, 21, 22, 23, 24, 25, 26, 27, 28, 29, 30, 31, 32, 33, 34, 35, 36, 37, 38, 39, 40, 41] rfl
  have hl : lv_has ls 7 [(0, .ref q), (1, vI 0), (2, vI w)] := hl
  refine lv_iload_n hx hb dX10_sum_0 rfl (lv_at hl 1 rfl) ?_
  refine z_cSi (As := [vI 0]) (rest := []) ⟨hx, hb, hml, hown, hts⟩ hK hP hD hS hA [] [0, 1, 2, 3, 4] rfl rfl rfl (c_X10_isStore l g 0 (by first | decide | omega)) (va_cwS 1 hts gX10_sum_X10_isStore rfl rfl rfl (by decide +kernel) ⟨Nat.le_of_ble_eq_true rfl, Nat.le_of_ble_eq_true rfl⟩) (fun _ _ _ _ _ _ => trivial) (fun _ _ _ => trivial) rfl hl.1 (Nat.le_of_ble_eq_true rfl) rfl dX10_sum_1 ⟨Nat.le_of_ble_eq_true rfl, Nat.le_of_ble_eq_true rfl⟩ (fun u_1 H locs hwu_1 hP hD hS => ?_)
  try dsimp only at hwu_1
  have hP : zP g [[mdl q a x], [((a 7), .inl (g.2 0, 3, .inl (aI z)))], [((a 8), .inl (g.2 0, 24, .inl (aI kd)))], [((a 9), .inl (g.2 0, 24, .inl (aI fa)))], [((a 10), .inl (g.2 0, 24, .inl (aI fb)))]] H := hP
  have hD : zD A [[mdl q a x], [((a 7), .inl (g.2 0, 3, .inl (aI z)))], [((a 8), .inl (g.2 0, 24, .inl (aI kd)))], [((a 9), .inl (g.2 0, 24, .inl (aI fa)))], [((a 10), .inl (g.2 0, 24, .inl (aI fb)))]] := hD
  refine z_toI (inI 0 0 2) rfl ?_
  have hf_2 := inI_s 0 0 2
  refine z_if_ne (tgt := 10) hx hb (by omega) dX10_sum_4 (by decide) (fun cq3 => ?_) (fun cq3 => False.elim (by omega))
  refine lv_iload_n hx hb dX10_sum_10 rfl (lv_at hl 2 rfl) ?_
  refine z_i2l hx hb (by omega) dX10_sum_11 ?_
  refine z_lconst hx hb 0 dX10_sum_12 rfl ?_
  refine z_ldc2 hx hb 2 hown (hts _ (List.mem_of_getElem? (i := 2) rfl)) rfl dX10_sum_13 ?_
  refine z_cSi (As := [vL w, vL 0, vL 2]) (rest := []) ⟨hx, hb, hml, hown, hts⟩ hK hP hD hS hA [] [0, 1, 2, 3, 4] rfl rfl rfl (c_X10_in l g w 0 2 (by first | decide | omega) (by first | decide | omega) (by first | decide | omega)) (va_cwS 3 hts gX10_sum_X10_in rfl rfl rfl (by decide +kernel) ⟨Nat.le_of_ble_eq_true rfl, Nat.le_of_ble_eq_true rfl⟩) (fun _ _ _ _ _ _ => trivial) (fun _ _ _ => trivial) rfl hl.1 (Nat.le_of_ble_eq_true rfl) rfl dX10_sum_16 ⟨Nat.le_of_ble_eq_true rfl, Nat.le_of_ble_eq_true rfl⟩ (fun u_4 H locs hwu_4 hP hD hS => ?_)
  try dsimp only at hwu_4
  have hP : zP g [[mdl q a x], [((a 7), .inl (g.2 0, 3, .inl (aI z)))], [((a 8), .inl (g.2 0, 24, .inl (aI kd)))], [((a 9), .inl (g.2 0, 24, .inl (aI fa)))], [((a 10), .inl (g.2 0, 24, .inl (aI fb)))]] H := hP
  have hD : zD A [[mdl q a x], [((a 7), .inl (g.2 0, 3, .inl (aI z)))], [((a 8), .inl (g.2 0, 24, .inl (aI kd)))], [((a 9), .inl (g.2 0, 24, .inl (aI fa)))], [((a 10), .inl (g.2 0, 24, .inl (aI fb)))]] := hD
  refine z_toI (inI w 0 2) rfl ?_
  have hf_5 := inI_s w 0 2
  refine z_if_ne (tgt := 25) hx hb (by omega) dX10_sum_19 (by decide) (fun cq6 => ?_) (fun cq6 => False.elim (by omega))
  refine lv_aload_n hx hb dX10_sum_25 rfl (lv_at hl 0 rfl) ?_
  refine z_get hx hb hts hin10_ hown hK hP 0 rfl rfl 11 (by decide) (hts _ (List.mem_of_getElem? (i := 4) rfl)) rfl dX10_sum_26 ?_
  refine lv_iload_n hx hb dX10_sum_29 rfl (lv_at hl 1 rfl) ?_
  refine z_iald hx hb hK hP 1 rfl 0 rfl (by decide) (by decide) dX10_sum_30 ?_
  refine z_if_ge (tgt := 38) hx hb (by omega) dX10_sum_31 (by decide) (fun cq7 => ?_) (fun cq7 => False.elim (by omega))
  refine z_iconst hx hb dX10_sum_38 rfl ?_
  refine lv_istore_n (lv' := [(3, vI 0), (0, .ref q), (1, vI 0), (2, vI w)]) hx hb dX10_sum_39 rfl hl (by decide) rfl (fun ls hl => ?_)
  refine z_iconst hx hb dX10_sum_40 rfl ?_
  refine lv_istore (lv' := [(4, vI 0), (3, vI 0), (0, .ref q), (1, vI 0), (2, vI w)]) hx hb dX10_sum_41 hl (by decide) rfl (fun ls hl => ?_)
  refine z_iconst hx hb dX10_sum_43 rfl ?_
  refine lv_istore (lv' := [(5, vI 0), (4, vI 0), (3, vI 0), (0, .ref q), (1, vI 0), (2, vI w)]) hx hb dX10_sum_44 hl (by decide) rfl (fun ls hl => ?_)
  refine z_bipush hx hb 8 dX10_sum_46 rfl ?_
  refine lv_iload_n hx hb dX10_sum_48 rfl (lv_at hl 4 rfl) ?_
  refine z_imul hx hb 0 rfl dX10_sum_49 ?_
  refine lv_istore (lv' := [(6, vI 0), (5, vI 0), (4, vI 0), (3, vI 0), (0, .ref q), (1, vI 0), (2, vI w)]) hx hb dX10_sum_50 hl (by decide) rfl (fun ls hl => ?_)
  have loop52 : ∀ (N : Nat) (k : Nat) (s1 : Int) (s2 : Int) (s3 : Int) (H : Heap) (locs : List Loc) (ls : Array Slot), k ≤ n → s1 = (tot k (fun j => fa (0 + j))) → s2 = (tot k (fun j => fb (0 + j))) → s3 = (tot k (fun j => kd (0 + j))) → (n - k) < N → zP g [[mdl q a x], [((a 7), .inl (g.2 0, 3, .inl (aI z)))], [((a 8), .inl (g.2 0, 24, .inl (aI kd)))], [((a 9), .inl (g.2 0, 24, .inl (aI fa)))], [((a 10), .inl (g.2 0, 24, .inl (aI fb)))]] H → zD A [[mdl q a x], [((a 7), .inl (g.2 0, 3, .inl (aI z)))], [((a 8), .inl (g.2 0, 24, .inl (aI kd)))], [((a 9), .inl (g.2 0, 24, .inl (aI fa)))], [((a 10), .inl (g.2 0, 24, .inl (aI fb)))]] → va_S A s.heap H locs → lv_has ls 7 [(0, .ref q), (1, vI 0), (2, vI w), (3, vI s1), (4, vI s2), (5, vI s3), (6, vI (((0 + k) : Nat) : Int))] → W p l e (zRm 2 0 0) s m ([.ref q, vI 0, vI w] : List Value).toArray below meth c H locs (0) (0) (MQ below ((qi g (fun (_ : Unit) => (tot n (if w = 2 then (fun j => kd (0 + j)) else if w = 0 then (fun j => fa (0 + j)) else (fun j => fb (0 + j))))) (fun (_ : Unit) => True) (fun (_ : Unit) => [[mdl q a x], [((a 7), .inl (g.2 0, 3, .inl (aI z)))], [((a 8), .inl (g.2 0, 24, .inl (aI kd)))], [((a 9), .inl (g.2 0, 24, .inl (aI fa)))], [((a 10), .inl (g.2 0, 24, .inl (aI fb)))]])) A) ([.ref q, vI 0, vI w] : List Value).toArray s 0 0 A) (F0 m 52 ls []) := by
    intro N
    induction N with
    | zero => intro k s1 s2 s3 H locs ls hk h1 h2 h3 hm; exact absurd hm (Nat.not_lt_zero _)
    | succ N ih52 =>
      intro k s1 s2 s3 H locs ls hk h1 h2 h3 hm hP hD hS hl
      refine lv_iload hx hb dX10_sum_52 (lv_at hl 6 rfl) ?_
      refine z_bipush hx hb 8 dX10_sum_54 rfl ?_
      refine lv_iload_n hx hb dX10_sum_56 rfl (lv_at hl 1 rfl) ?_
      refine z_imul hx hb 0 rfl dX10_sum_57 ?_
      refine lv_aload_n hx hb dX10_sum_58 rfl (lv_at hl 0 rfl) ?_
      refine z_get hx hb hts hin10_ hown hK hP 0 rfl rfl 11 (by decide) (hts _ (List.mem_of_getElem? (i := 4) rfl)) rfl dX10_sum_59 ?_
      refine lv_iload_n hx hb dX10_sum_62 rfl (lv_at hl 1 rfl) ?_
      refine z_iald hx hb hK hP 1 rfl 0 rfl (by decide) (by decide) dX10_sum_63 ?_
      refine z_iadd hx hb (0 + (z 0)) rfl dX10_sum_64 ?_
      refine z_icmp_ge (tgt := 108) hx hb (by omega) (by omega) dX10_sum_65 (by decide) (fun cq8 => ?_) (fun cq8 => ?_)
      · refine lv_iload_n hx hb dX10_sum_108 rfl (lv_at hl 2 rfl) ?_
        refine z_if_ne (tgt := 116) hx hb (by omega) dX10_sum_109 (by decide) (fun cq9 => ?_) (fun cq9 => ?_)
        · refine lv_iload_n hx hb dX10_sum_116 rfl (lv_at hl 2 rfl) ?_
          refine z_iconst hx hb dX10_sum_117 rfl ?_
          refine z_icmp_ne (tgt := 126) hx hb (by omega) (by decide) dX10_sum_118 (by decide) (fun cq10 => ?_) (fun cq10 => ?_)
          · refine lv_iload hx hb dX10_sum_126 (lv_at hl 5 rfl) ?_
            have hkn : k = n := by omega
            subst hkn
            exact z_reti () [0, 1, 2, 3, 4] hx hb hr rfl hlocks hK hP hD hS (by first | (rw [if_neg (by omega), if_pos (by omega)]; exact h1) | (rw [if_neg (by omega), if_neg (by omega)]; exact h2) | (rw [if_pos (by omega)]; exact h3)) trivial rfl rfl (rfl) (Nat.le_of_ble_eq_true rfl) (Nat.le_of_ble_eq_true rfl) dX10_sum_128
          · refine lv_iload hx hb dX10_sum_121 (lv_at hl 4 rfl) ?_
            refine lv_goto (tgt := 128) hx hb dX10_sum_123 (by decide) ?_
            have hkn : k = n := by omega
            subst hkn
            exact z_reti () [0, 1, 2, 3, 4] hx hb hr rfl hlocks hK hP hD hS (by first | (rw [if_neg (by omega), if_pos (by omega)]; exact h1) | (rw [if_neg (by omega), if_neg (by omega)]; exact h2) | (rw [if_pos (by omega)]; exact h3)) trivial rfl rfl (rfl) (Nat.le_of_ble_eq_true rfl) (Nat.le_of_ble_eq_true rfl) dX10_sum_128
        · refine lv_iload_n hx hb dX10_sum_112 rfl (lv_at hl 3 rfl) ?_
          refine lv_goto (tgt := 128) hx hb dX10_sum_113 (by decide) ?_
          have hkn : k = n := by omega
          subst hkn
          exact z_reti () [0, 1, 2, 3, 4] hx hb hr rfl hlocks hK hP hD hS (by first | (rw [if_neg (by omega), if_pos (by omega)]; exact h1) | (rw [if_neg (by omega), if_neg (by omega)]; exact h2) | (rw [if_pos (by omega)]; exact h3)) trivial rfl rfl (rfl) (Nat.le_of_ble_eq_true rfl) (Nat.le_of_ble_eq_true rfl) dX10_sum_128
      · refine lv_iload_n hx hb dX10_sum_68 rfl (lv_at hl 3 rfl) ?_
        refine lv_aload_n hx hb dX10_sum_69 rfl (lv_at hl 0 rfl) ?_
        refine z_get hx hb hts hin10_ hown hK hP 0 rfl rfl 13 (by decide) (hts _ (List.mem_of_getElem? (i := 6) rfl)) rfl dX10_sum_70 ?_
        refine lv_iload hx hb dX10_sum_73 (lv_at hl 6 rfl) ?_
        refine z_iald hx hb hK hP 3 rfl (0 + k) (by omega) (by omega) (by decide) dX10_sum_75 ?_
        refine z_iadd hx hb (s1 + (fa (0 + k))) rfl dX10_sum_76 ?_
        refine z_nmI (fun x_11 hx_11 => ?_)
        refine lv_istore_n (lv' := [(3, vI x_11), (0, .ref q), (1, vI 0), (2, vI w), (4, vI s2), (5, vI s3), (6, vI (((0 + k) : Nat) : Int))]) hx hb dX10_sum_77 rfl hl (by decide) rfl (fun ls hl => ?_)
        refine lv_iload hx hb dX10_sum_78 (lv_at hl 4 rfl) ?_
        refine lv_aload_n hx hb dX10_sum_80 rfl (lv_at hl 1 rfl) ?_
        refine z_get hx hb hts hin10_ hown hK hP 0 rfl rfl 14 (by decide) (hts _ (List.mem_of_getElem? (i := 7) rfl)) rfl dX10_sum_81 ?_
        refine lv_iload hx hb dX10_sum_84 (lv_at hl 6 rfl) ?_
        refine z_iald hx hb hK hP 4 rfl (0 + k) (by omega) (by omega) (by decide) dX10_sum_86 ?_
        refine z_iadd hx hb (s2 + (fb (0 + k))) rfl dX10_sum_87 ?_
        refine z_nmI (fun x_12 hx_12 => ?_)
        refine lv_istore (lv' := [(4, vI x_12), (3, vI x_11), (0, .ref q), (1, vI 0), (2, vI w), (5, vI s3), (6, vI (((0 + k) : Nat) : Int))]) hx hb dX10_sum_88 hl (by decide) rfl (fun ls hl => ?_)
        refine lv_iload hx hb dX10_sum_90 (lv_at hl 5 rfl) ?_
        refine lv_aload_n hx hb dX10_sum_92 rfl (lv_at hl 2 rfl) ?_
        refine z_get hx hb hts hin10_ hown hK hP 0 rfl rfl 12 (by decide) (hts _ (List.mem_of_getElem? (i := 8) rfl)) rfl dX10_sum_93 ?_
        refine lv_iload hx hb dX10_sum_96 (lv_at hl 6 rfl) ?_
        refine z_iald hx hb hK hP 2 rfl (0 + k) (by omega) (by omega) (by decide) dX10_sum_98 ?_
        refine z_iadd hx hb (s3 + (kd (0 + k))) rfl dX10_sum_99 ?_
        refine z_nmI (fun x_13 hx_13 => ?_)
        refine lv_istore (lv' := [(5, vI x_13), (4, vI x_12), (3, vI x_11), (0, .ref q), (1, vI 0), (2, vI w), (6, vI (((0 + k) : Nat) : Int))]) hx hb dX10_sum_100 hl (by decide) rfl (fun ls hl => ?_)
        refine z_iinc hx hb ((((0 + k) + 1) : Nat) : Int) (lv' := [(6, vI ((((0 + k) + 1) : Nat) : Int)), (5, vI x_13), (4, vI x_12), (3, vI x_11), (0, .ref q), (1, vI 0), (2, vI w)]) dX10_sum_102 hl (k := 6) rfl (by omega) (by decide) rfl (fun ls hl => ?_)
        refine lv_goto (tgt := 52) hx hb dX10_sum_105 (by decide) ?_
        exact ih52 (k + 1) x_11 x_12 x_13 _ _ _ (by omega) (by rw [hx_11, h1]; rfl) (by rw [hx_12, h2]; rfl) (by rw [hx_13, h3]; rfl) (by omega) hP hD hS (lv_sub hl [4, 5, 6, 3, 2, 1, 0] rfl)
  exact loop52 _ 0 0 0 0 _ _ _ (Nat.zero_le _) rfl rfl rfl (Nat.lt_succ_self _) hP hD hS (lv_sub hl [4, 5, 6, 3, 2, 1, 0] rfl)

set_option maxHeartbeats 4000000 in
set_option maxRecDepth 100000 in
theorem c_X10_sum1_null (l : Launch) (g : zG) (q : Nat) (a : Nat → Nat) (x : Nat → Int) (z : Nat → Int) (w : Int) (hw : -2147483648 ≤ w ∧ w < 2147483648) (ho : 0 ≤ w ∧ w ≤ 2) (hz0 : z 1 = -1) : zMet l g yX10_sum wsX10_sum 2 0 0 [.ref q, vI 1, vI w] zX0 [[mdl q a x], [((a 7), .inl (g.2 0, 3, .inl (aI z)))]] (qi g (fun (_ : Unit) => (-2000000011)) (fun (_ : Unit) => True) (fun (_ : Unit) => [[mdl q a x], [((a 7), .inl (g.2 0, 3, .inl (aI z)))]])) := by
  refine z_ent (cc := cX10_sum) (maxL := 7) (ret := (some .int)) (by decide) rfl (Nat.le_of_ble_eq_true rfl) ?_
  intro p e s m below meth c A ls hx hb hr hml hown hts hlocks hin0 hA hK hP hD hS hXX hl
  have hown : s.vm.findClass RX10 = some m.cls := hown
  have hin10_ : ∀ w ∈ wsX100, w ∈ wsX10_sum := zw_in [16, 17, 18, 19, 20, 21, 22, 23, 24, 25, 26, 27, 28, 29, 30, 31, 32, 33, 34, 35, 36, 37, 38, 39, 40, 41] rfl
  have hl : lv_has ls 7 [(0, .ref q), (1, vI 1), (2, vI w)] := hl
  refine lv_iload_n hx hb dX10_sum_0 rfl (lv_at hl 1 rfl) ?_
  refine z_cSi (As := [vI 1]) (rest := []) ⟨hx, hb, hml, hown, hts⟩ hK hP hD hS hA [] [0, 1] rfl rfl rfl (c_X10_isStore l g 1 (by first | decide | omega)) (va_cwS 1 hts gX10_sum_X10_isStore rfl rfl rfl (by decide +kernel) ⟨Nat.le_of_ble_eq_true rfl, Nat.le_of_ble_eq_true rfl⟩) (fun _ _ _ _ _ _ => trivial) (fun _ _ _ => trivial) rfl hl.1 (Nat.le_of_ble_eq_true rfl) rfl dX10_sum_1 ⟨Nat.le_of_ble_eq_true rfl, Nat.le_of_ble_eq_true rfl⟩ (fun u_1 H locs hwu_1 hP hD hS => ?_)
  try dsimp only at hwu_1
  have hP : zP g [[mdl q a x], [((a 7), .inl (g.2 0, 3, .inl (aI z)))]] H := hP
  have hD : zD A [[mdl q a x], [((a 7), .inl (g.2 0, 3, .inl (aI z)))]] := hD
  refine z_toI (inI 1 0 2) rfl ?_
  have hf_2 := inI_s 1 0 2
  refine z_if_ne (tgt := 10) hx hb (by omega) dX10_sum_4 (by decide) (fun cq3 => ?_) (fun cq3 => False.elim (by omega))
  refine lv_iload_n hx hb dX10_sum_10 rfl (lv_at hl 2 rfl) ?_
  refine z_i2l hx hb (by omega) dX10_sum_11 ?_
  refine z_lconst hx hb 0 dX10_sum_12 rfl ?_
  refine z_ldc2 hx hb 2 hown (hts _ (List.mem_of_getElem? (i := 2) rfl)) rfl dX10_sum_13 ?_
  refine z_cSi (As := [vL w, vL 0, vL 2]) (rest := []) ⟨hx, hb, hml, hown, hts⟩ hK hP hD hS hA [] [0, 1] rfl rfl rfl (c_X10_in l g w 0 2 (by first | decide | omega) (by first | decide | omega) (by first | decide | omega)) (va_cwS 3 hts gX10_sum_X10_in rfl rfl rfl (by decide +kernel) ⟨Nat.le_of_ble_eq_true rfl, Nat.le_of_ble_eq_true rfl⟩) (fun _ _ _ _ _ _ => trivial) (fun _ _ _ => trivial) rfl hl.1 (Nat.le_of_ble_eq_true rfl) rfl dX10_sum_16 ⟨Nat.le_of_ble_eq_true rfl, Nat.le_of_ble_eq_true rfl⟩ (fun u_4 H locs hwu_4 hP hD hS => ?_)
  try dsimp only at hwu_4
  have hP : zP g [[mdl q a x], [((a 7), .inl (g.2 0, 3, .inl (aI z)))]] H := hP
  have hD : zD A [[mdl q a x], [((a 7), .inl (g.2 0, 3, .inl (aI z)))]] := hD
  refine z_toI (inI w 0 2) rfl ?_
  have hf_5 := inI_s w 0 2
  refine z_if_ne (tgt := 25) hx hb (by omega) dX10_sum_19 (by decide) (fun cq6 => ?_) (fun cq6 => False.elim (by omega))
  refine lv_aload_n hx hb dX10_sum_25 rfl (lv_at hl 0 rfl) ?_
  refine z_get hx hb hts hin10_ hown hK hP 0 rfl rfl 11 (by decide) (hts _ (List.mem_of_getElem? (i := 4) rfl)) rfl dX10_sum_26 ?_
  refine lv_iload_n hx hb dX10_sum_29 rfl (lv_at hl 1 rfl) ?_
  refine z_iald hx hb hK hP 1 rfl 1 rfl (by decide) (by decide) dX10_sum_30 ?_
  refine z_if_ge (tgt := 38) hx hb (by omega) dX10_sum_31 (by decide) (fun cq7 => False.elim (by omega)) (fun cq7 => ?_)
  refine z_ldcw hx hb (-2000000011) hown (hts _ (List.mem_of_getElem? (i := 5) rfl)) rfl dX10_sum_34 ?_
  exact z_reti () [0, 1] hx hb hr rfl hlocks hK hP hD hS (rfl) trivial rfl rfl (rfl) (Nat.le_of_ble_eq_true rfl) (Nat.le_of_ble_eq_true rfl) dX10_sum_37

set_option maxHeartbeats 4000000 in
set_option maxRecDepth 100000 in
theorem c_X10_sum1_ok (l : Launch) (g : zG) (q : Nat) (a : Nat → Nat) (x : Nat → Int) (z : Nat → Int) (kd : Nat → Int) (fa : Nat → Int) (fb : Nat → Int) (n : Nat) (w : Int) (hw : -2147483648 ≤ w ∧ w < 2147483648) (ho : 0 ≤ w ∧ w ≤ 2) (hz0 : z 1 = (n : Int)) (hn : n ≤ 8) : zMet l g yX10_sum wsX10_sum 2 0 0 [.ref q, vI 1, vI w] zX0 [[mdl q a x], [((a 7), .inl (g.2 0, 3, .inl (aI z)))], [((a 8), .inl (g.2 0, 24, .inl (aI kd)))], [((a 9), .inl (g.2 0, 24, .inl (aI fa)))], [((a 10), .inl (g.2 0, 24, .inl (aI fb)))]] (qi g (fun (_ : Unit) => (tot n (if w = 2 then (fun j => kd (8 + j)) else if w = 0 then (fun j => fa (8 + j)) else (fun j => fb (8 + j))))) (fun (_ : Unit) => True) (fun (_ : Unit) => [[mdl q a x], [((a 7), .inl (g.2 0, 3, .inl (aI z)))], [((a 8), .inl (g.2 0, 24, .inl (aI kd)))], [((a 9), .inl (g.2 0, 24, .inl (aI fa)))], [((a 10), .inl (g.2 0, 24, .inl (aI fb)))]])) := by
  refine z_ent (cc := cX10_sum) (maxL := 7) (ret := (some .int)) (by decide) rfl (Nat.le_of_ble_eq_true rfl) ?_
  intro p e s m below meth c A ls hx hb hr hml hown hts hlocks hin0 hA hK hP hD hS hXX hl
  have hown : s.vm.findClass RX10 = some m.cls := hown
  have hin10_ : ∀ w ∈ wsX100, w ∈ wsX10_sum := zw_in [16, 17, 18, 19, 20, 21, 22, 23, 24, 25, 26, 27, 28, 29, 30, 31, 32, 33, 34, 35, 36, 37, 38, 39, 40, 41] rfl
  have hl : lv_has ls 7 [(0, .ref q), (1, vI 1), (2, vI w)] := hl
  refine lv_iload_n hx hb dX10_sum_0 rfl (lv_at hl 1 rfl) ?_
  refine z_cSi (As := [vI 1]) (rest := []) ⟨hx, hb, hml, hown, hts⟩ hK hP hD hS hA [] [0, 1, 2, 3, 4] rfl rfl rfl (c_X10_isStore l g 1 (by first | decide | omega)) (va_cwS 1 hts gX10_sum_X10_isStore rfl rfl rfl (by decide +kernel) ⟨Nat.le_of_ble_eq_true rfl, Nat.le_of_ble_eq_true rfl⟩) (fun _ _ _ _ _ _ => trivial) (fun _ _ _ => trivial) rfl hl.1 (Nat.le_of_ble_eq_true rfl) rfl dX10_sum_1 ⟨Nat.le_of_ble_eq_true rfl, Nat.le_of_ble_eq_true rfl⟩ (fun u_1 H locs hwu_1 hP hD hS => ?_)
  try dsimp only at hwu_1
  have hP : zP g [[mdl q a x], [((a 7), .inl (g.2 0, 3, .inl (aI z)))], [((a 8), .inl (g.2 0, 24, .inl (aI kd)))], [((a 9), .inl (g.2 0, 24, .inl (aI fa)))], [((a 10), .inl (g.2 0, 24, .inl (aI fb)))]] H := hP
  have hD : zD A [[mdl q a x], [((a 7), .inl (g.2 0, 3, .inl (aI z)))], [((a 8), .inl (g.2 0, 24, .inl (aI kd)))], [((a 9), .inl (g.2 0, 24, .inl (aI fa)))], [((a 10), .inl (g.2 0, 24, .inl (aI fb)))]] := hD
  refine z_toI (inI 1 0 2) rfl ?_
  have hf_2 := inI_s 1 0 2
  refine z_if_ne (tgt := 10) hx hb (by omega) dX10_sum_4 (by decide) (fun cq3 => ?_) (fun cq3 => False.elim (by omega))
  refine lv_iload_n hx hb dX10_sum_10 rfl (lv_at hl 2 rfl) ?_
  refine z_i2l hx hb (by omega) dX10_sum_11 ?_
  refine z_lconst hx hb 0 dX10_sum_12 rfl ?_
  refine z_ldc2 hx hb 2 hown (hts _ (List.mem_of_getElem? (i := 2) rfl)) rfl dX10_sum_13 ?_
  refine z_cSi (As := [vL w, vL 0, vL 2]) (rest := []) ⟨hx, hb, hml, hown, hts⟩ hK hP hD hS hA [] [0, 1, 2, 3, 4] rfl rfl rfl (c_X10_in l g w 0 2 (by first | decide | omega) (by first | decide | omega) (by first | decide | omega)) (va_cwS 3 hts gX10_sum_X10_in rfl rfl rfl (by decide +kernel) ⟨Nat.le_of_ble_eq_true rfl, Nat.le_of_ble_eq_true rfl⟩) (fun _ _ _ _ _ _ => trivial) (fun _ _ _ => trivial) rfl hl.1 (Nat.le_of_ble_eq_true rfl) rfl dX10_sum_16 ⟨Nat.le_of_ble_eq_true rfl, Nat.le_of_ble_eq_true rfl⟩ (fun u_4 H locs hwu_4 hP hD hS => ?_)
  try dsimp only at hwu_4
  have hP : zP g [[mdl q a x], [((a 7), .inl (g.2 0, 3, .inl (aI z)))], [((a 8), .inl (g.2 0, 24, .inl (aI kd)))], [((a 9), .inl (g.2 0, 24, .inl (aI fa)))], [((a 10), .inl (g.2 0, 24, .inl (aI fb)))]] H := hP
  have hD : zD A [[mdl q a x], [((a 7), .inl (g.2 0, 3, .inl (aI z)))], [((a 8), .inl (g.2 0, 24, .inl (aI kd)))], [((a 9), .inl (g.2 0, 24, .inl (aI fa)))], [((a 10), .inl (g.2 0, 24, .inl (aI fb)))]] := hD
  refine z_toI (inI w 0 2) rfl ?_
  have hf_5 := inI_s w 0 2
  refine z_if_ne (tgt := 25) hx hb (by omega) dX10_sum_19 (by decide) (fun cq6 => ?_) (fun cq6 => False.elim (by omega))
  refine lv_aload_n hx hb dX10_sum_25 rfl (lv_at hl 0 rfl) ?_
  refine z_get hx hb hts hin10_ hown hK hP 0 rfl rfl 11 (by decide) (hts _ (List.mem_of_getElem? (i := 4) rfl)) rfl dX10_sum_26 ?_
  refine lv_iload_n hx hb dX10_sum_29 rfl (lv_at hl 1 rfl) ?_
  refine z_iald hx hb hK hP 1 rfl 1 rfl (by decide) (by decide) dX10_sum_30 ?_
  refine z_if_ge (tgt := 38) hx hb (by omega) dX10_sum_31 (by decide) (fun cq7 => ?_) (fun cq7 => False.elim (by omega))
  refine z_iconst hx hb dX10_sum_38 rfl ?_
  refine lv_istore_n (lv' := [(3, vI 0), (0, .ref q), (1, vI 1), (2, vI w)]) hx hb dX10_sum_39 rfl hl (by decide) rfl (fun ls hl => ?_)
  refine z_iconst hx hb dX10_sum_40 rfl ?_
  refine lv_istore (lv' := [(4, vI 0), (3, vI 0), (0, .ref q), (1, vI 1), (2, vI w)]) hx hb dX10_sum_41 hl (by decide) rfl (fun ls hl => ?_)
  refine z_iconst hx hb dX10_sum_43 rfl ?_
  refine lv_istore (lv' := [(5, vI 0), (4, vI 0), (3, vI 0), (0, .ref q), (1, vI 1), (2, vI w)]) hx hb dX10_sum_44 hl (by decide) rfl (fun ls hl => ?_)
  refine z_bipush hx hb 8 dX10_sum_46 rfl ?_
  refine lv_iload_n hx hb dX10_sum_48 rfl (lv_at hl 4 rfl) ?_
  refine z_imul hx hb 8 rfl dX10_sum_49 ?_
  refine lv_istore (lv' := [(6, vI 8), (5, vI 0), (4, vI 0), (3, vI 0), (0, .ref q), (1, vI 1), (2, vI w)]) hx hb dX10_sum_50 hl (by decide) rfl (fun ls hl => ?_)
  have loop52 : ∀ (N : Nat) (k : Nat) (s1 : Int) (s2 : Int) (s3 : Int) (H : Heap) (locs : List Loc) (ls : Array Slot), k ≤ n → s1 = (tot k (fun j => fa (8 + j))) → s2 = (tot k (fun j => fb (8 + j))) → s3 = (tot k (fun j => kd (8 + j))) → (n - k) < N → zP g [[mdl q a x], [((a 7), .inl (g.2 0, 3, .inl (aI z)))], [((a 8), .inl (g.2 0, 24, .inl (aI kd)))], [((a 9), .inl (g.2 0, 24, .inl (aI fa)))], [((a 10), .inl (g.2 0, 24, .inl (aI fb)))]] H → zD A [[mdl q a x], [((a 7), .inl (g.2 0, 3, .inl (aI z)))], [((a 8), .inl (g.2 0, 24, .inl (aI kd)))], [((a 9), .inl (g.2 0, 24, .inl (aI fa)))], [((a 10), .inl (g.2 0, 24, .inl (aI fb)))]] → va_S A s.heap H locs → lv_has ls 7 [(0, .ref q), (1, vI 1), (2, vI w), (3, vI s1), (4, vI s2), (5, vI s3), (6, vI (((8 + k) : Nat) : Int))] → W p l e (zRm 2 0 0) s m ([.ref q, vI 1, vI w] : List Value).toArray below meth c H locs (0) (0) (MQ below ((qi g (fun (_ : Unit) => (tot n (if w = 2 then (fun j => kd (8 + j)) else if w = 0 then (fun j => fa (8 + j)) else (fun j => fb (8 + j))))) (fun (_ : Unit) => True) (fun (_ : Unit) => [[mdl q a x], [((a 7), .inl (g.2 0, 3, .inl (aI z)))], [((a 8), .inl (g.2 0, 24, .inl (aI kd)))], [((a 9), .inl (g.2 0, 24, .inl (aI fa)))], [((a 10), .inl (g.2 0, 24, .inl (aI fb)))]])) A) ([.ref q, vI 1, vI w] : List Value).toArray s 0 0 A) (F0 m 52 ls []) := by
    intro N
    induction N with
    | zero => intro k s1 s2 s3 H locs ls hk h1 h2 h3 hm; exact absurd hm (Nat.not_lt_zero _)
    | succ N ih52 =>
      intro k s1 s2 s3 H locs ls hk h1 h2 h3 hm hP hD hS hl
      refine lv_iload hx hb dX10_sum_52 (lv_at hl 6 rfl) ?_
      refine z_bipush hx hb 8 dX10_sum_54 rfl ?_
      refine lv_iload_n hx hb dX10_sum_56 rfl (lv_at hl 1 rfl) ?_
      refine z_imul hx hb 8 rfl dX10_sum_57 ?_
      refine lv_aload_n hx hb dX10_sum_58 rfl (lv_at hl 0 rfl) ?_
      refine z_get hx hb hts hin10_ hown hK hP 0 rfl rfl 11 (by decide) (hts _ (List.mem_of_getElem? (i := 4) rfl)) rfl dX10_sum_59 ?_
      refine lv_iload_n hx hb dX10_sum_62 rfl (lv_at hl 1 rfl) ?_
      refine z_iald hx hb hK hP 1 rfl 1 rfl (by decide) (by decide) dX10_sum_63 ?_
      refine z_iadd hx hb (8 + (z 1)) rfl dX10_sum_64 ?_
      refine z_icmp_ge (tgt := 108) hx hb (by omega) (by omega) dX10_sum_65 (by decide) (fun cq8 => ?_) (fun cq8 => ?_)
      · refine lv_iload_n hx hb dX10_sum_108 rfl (lv_at hl 2 rfl) ?_
        refine z_if_ne (tgt := 116) hx hb (by omega) dX10_sum_109 (by decide) (fun cq9 => ?_) (fun cq9 => ?_)
        · refine lv_iload_n hx hb dX10_sum_116 rfl (lv_at hl 2 rfl) ?_
          refine z_iconst hx hb dX10_sum_117 rfl ?_
          refine z_icmp_ne (tgt := 126) hx hb (by omega) (by decide) dX10_sum_118 (by decide) (fun cq10 => ?_) (fun cq10 => ?_)
          · refine lv_iload hx hb dX10_sum_126 (lv_at hl 5 rfl) ?_
            have hkn : k = n := by omega
            subst hkn
            exact z_reti () [0, 1, 2, 3, 4] hx hb hr rfl hlocks hK hP hD hS (by first | (rw [if_neg (by omega), if_pos (by omega)]; exact h1) | (rw [if_neg (by omega), if_neg (by omega)]; exact h2) | (rw [if_pos (by omega)]; exact h3)) trivial rfl rfl (rfl) (Nat.le_of_ble_eq_true rfl) (Nat.le_of_ble_eq_true rfl) dX10_sum_128
          · refine lv_iload hx hb dX10_sum_121 (lv_at hl 4 rfl) ?_
            refine lv_goto (tgt := 128) hx hb dX10_sum_123 (by decide) ?_
            have hkn : k = n := by omega
            subst hkn
            exact z_reti () [0, 1, 2, 3, 4] hx hb hr rfl hlocks hK hP hD hS (by first | (rw [if_neg (by omega), if_pos (by omega)]; exact h1) | (rw [if_neg (by omega), if_neg (by omega)]; exact h2) | (rw [if_pos (by omega)]; exact h3)) trivial rfl rfl (rfl) (Nat.le_of_ble_eq_true rfl) (Nat.le_of_ble_eq_true rfl) dX10_sum_128
        · refine lv_iload_n hx hb dX10_sum_112 rfl (lv_at hl 3 rfl) ?_
          refine lv_goto (tgt := 128) hx hb dX10_sum_113 (by decide) ?_
          have hkn : k = n := by omega
          subst hkn
          exact z_reti () [0, 1, 2, 3, 4] hx hb hr rfl hlocks hK hP hD hS (by first | (rw [if_neg (by omega), if_pos (by omega)]; exact h1) | (rw [if_neg (by omega), if_neg (by omega)]; exact h2) | (rw [if_pos (by omega)]; exact h3)) trivial rfl rfl (rfl) (Nat.le_of_ble_eq_true rfl) (Nat.le_of_ble_eq_true rfl) dX10_sum_128
      · refine lv_iload_n hx hb dX10_sum_68 rfl (lv_at hl 3 rfl) ?_
        refine lv_aload_n hx hb dX10_sum_69 rfl (lv_at hl 0 rfl) ?_
        refine z_get hx hb hts hin10_ hown hK hP 0 rfl rfl 13 (by decide) (hts _ (List.mem_of_getElem? (i := 6) rfl)) rfl dX10_sum_70 ?_
        refine lv_iload hx hb dX10_sum_73 (lv_at hl 6 rfl) ?_
        refine z_iald hx hb hK hP 3 rfl (8 + k) (by omega) (by omega) (by decide) dX10_sum_75 ?_
        refine z_iadd hx hb (s1 + (fa (8 + k))) rfl dX10_sum_76 ?_
        refine z_nmI (fun x_11 hx_11 => ?_)
        refine lv_istore_n (lv' := [(3, vI x_11), (0, .ref q), (1, vI 1), (2, vI w), (4, vI s2), (5, vI s3), (6, vI (((8 + k) : Nat) : Int))]) hx hb dX10_sum_77 rfl hl (by decide) rfl (fun ls hl => ?_)
        refine lv_iload hx hb dX10_sum_78 (lv_at hl 4 rfl) ?_
        refine lv_aload_n hx hb dX10_sum_80 rfl (lv_at hl 1 rfl) ?_
        refine z_get hx hb hts hin10_ hown hK hP 0 rfl rfl 14 (by decide) (hts _ (List.mem_of_getElem? (i := 7) rfl)) rfl dX10_sum_81 ?_
        refine lv_iload hx hb dX10_sum_84 (lv_at hl 6 rfl) ?_
        refine z_iald hx hb hK hP 4 rfl (8 + k) (by omega) (by omega) (by decide) dX10_sum_86 ?_
        refine z_iadd hx hb (s2 + (fb (8 + k))) rfl dX10_sum_87 ?_
        refine z_nmI (fun x_12 hx_12 => ?_)
        refine lv_istore (lv' := [(4, vI x_12), (3, vI x_11), (0, .ref q), (1, vI 1), (2, vI w), (5, vI s3), (6, vI (((8 + k) : Nat) : Int))]) hx hb dX10_sum_88 hl (by decide) rfl (fun ls hl => ?_)
        refine lv_iload hx hb dX10_sum_90 (lv_at hl 5 rfl) ?_
        refine lv_aload_n hx hb dX10_sum_92 rfl (lv_at hl 2 rfl) ?_
        refine z_get hx hb hts hin10_ hown hK hP 0 rfl rfl 12 (by decide) (hts _ (List.mem_of_getElem? (i := 8) rfl)) rfl dX10_sum_93 ?_
        refine lv_iload hx hb dX10_sum_96 (lv_at hl 6 rfl) ?_
        refine z_iald hx hb hK hP 2 rfl (8 + k) (by omega) (by omega) (by decide) dX10_sum_98 ?_
        refine z_iadd hx hb (s3 + (kd (8 + k))) rfl dX10_sum_99 ?_
        refine z_nmI (fun x_13 hx_13 => ?_)
        refine lv_istore (lv' := [(5, vI x_13), (4, vI x_12), (3, vI x_11), (0, .ref q), (1, vI 1), (2, vI w), (6, vI (((8 + k) : Nat) : Int))]) hx hb dX10_sum_100 hl (by decide) rfl (fun ls hl => ?_)
        refine z_iinc hx hb ((((8 + k) + 1) : Nat) : Int) (lv' := [(6, vI ((((8 + k) + 1) : Nat) : Int)), (5, vI x_13), (4, vI x_12), (3, vI x_11), (0, .ref q), (1, vI 1), (2, vI w)]) dX10_sum_102 hl (k := 6) rfl (by omega) (by decide) rfl (fun ls hl => ?_)
        refine lv_goto (tgt := 52) hx hb dX10_sum_105 (by decide) ?_
        exact ih52 (k + 1) x_11 x_12 x_13 _ _ _ (by omega) (by rw [hx_11, h1]; rfl) (by rw [hx_12, h2]; rfl) (by rw [hx_13, h3]; rfl) (by omega) hP hD hS (lv_sub hl [4, 5, 6, 3, 2, 1, 0] rfl)
  exact loop52 _ 0 0 0 0 _ _ _ (Nat.zero_le _) rfl rfl rfl (Nat.lt_succ_self _) hP hD hS (lv_sub hl [4, 5, 6, 3, 2, 1, 0] rfl)

set_option maxHeartbeats 4000000 in
set_option maxRecDepth 100000 in
theorem c_X10_sum2_null (l : Launch) (g : zG) (q : Nat) (a : Nat → Nat) (x : Nat → Int) (z : Nat → Int) (w : Int) (hw : -2147483648 ≤ w ∧ w < 2147483648) (ho : 0 ≤ w ∧ w ≤ 2) (hz0 : z 2 = -1) : zMet l g yX10_sum wsX10_sum 2 0 0 [.ref q, vI 2, vI w] zX0 [[mdl q a x], [((a 7), .inl (g.2 0, 3, .inl (aI z)))]] (qi g (fun (_ : Unit) => (-2000000011)) (fun (_ : Unit) => True) (fun (_ : Unit) => [[mdl q a x], [((a 7), .inl (g.2 0, 3, .inl (aI z)))]])) := by
  refine z_ent (cc := cX10_sum) (maxL := 7) (ret := (some .int)) (by decide) rfl (Nat.le_of_ble_eq_true rfl) ?_
  intro p e s m below meth c A ls hx hb hr hml hown hts hlocks hin0 hA hK hP hD hS hXX hl
  have hown : s.vm.findClass RX10 = some m.cls := hown
  have hin10_ : ∀ w ∈ wsX100, w ∈ wsX10_sum := zw_in [16, 17, 18, 19, 20, 21, 22, 23, 24, 25, 26, 27, 28, 29, 30, 31, 32, 33, 34, 35, 36, 37, 38, 39, 40, 41] rfl
  have hl : lv_has ls 7 [(0, .ref q), (1, vI 2), (2, vI w)] := hl
  refine lv_iload_n hx hb dX10_sum_0 rfl (lv_at hl 1 rfl) ?_
  refine z_cSi (As := [vI 2]) (rest := []) ⟨hx, hb, hml, hown, hts⟩ hK hP hD hS hA [] [0, 1] rfl rfl rfl (c_X10_isStore l g 2 (by first | decide | omega)) (va_cwS 1 hts gX10_sum_X10_isStore rfl rfl rfl (by decide +kernel) ⟨Nat.le_of_ble_eq_true rfl, Nat.le_of_ble_eq_true rfl⟩) (fun _ _ _ _ _ _ => trivial) (fun _ _ _ => trivial) rfl hl.1 (Nat.le_of_ble_eq_true rfl) rfl dX10_sum_1 ⟨Nat.le_of_ble_eq_true rfl, Nat.le_of_ble_eq_true rfl⟩ (fun u_1 H locs hwu_1 hP hD hS => ?_)
  try dsimp only at hwu_1
  have hP : zP g [[mdl q a x], [((a 7), .inl (g.2 0, 3, .inl (aI z)))]] H := hP
  have hD : zD A [[mdl q a x], [((a 7), .inl (g.2 0, 3, .inl (aI z)))]] := hD
  refine z_toI (inI 2 0 2) rfl ?_
  have hf_2 := inI_s 2 0 2
  refine z_if_ne (tgt := 10) hx hb (by omega) dX10_sum_4 (by decide) (fun cq3 => ?_) (fun cq3 => False.elim (by omega))
  refine lv_iload_n hx hb dX10_sum_10 rfl (lv_at hl 2 rfl) ?_
  refine z_i2l hx hb (by omega) dX10_sum_11 ?_
  refine z_lconst hx hb 0 dX10_sum_12 rfl ?_
  refine z_ldc2 hx hb 2 hown (hts _ (List.mem_of_getElem? (i := 2) rfl)) rfl dX10_sum_13 ?_
  refine z_cSi (As := [vL w, vL 0, vL 2]) (rest := []) ⟨hx, hb, hml, hown, hts⟩ hK hP hD hS hA [] [0, 1] rfl rfl rfl (c_X10_in l g w 0 2 (by first | decide | omega) (by first | decide | omega) (by first | decide | omega)) (va_cwS 3 hts gX10_sum_X10_in rfl rfl rfl (by decide +kernel) ⟨Nat.le_of_ble_eq_true rfl, Nat.le_of_ble_eq_true rfl⟩) (fun _ _ _ _ _ _ => trivial) (fun _ _ _ => trivial) rfl hl.1 (Nat.le_of_ble_eq_true rfl) rfl dX10_sum_16 ⟨Nat.le_of_ble_eq_true rfl, Nat.le_of_ble_eq_true rfl⟩ (fun u_4 H locs hwu_4 hP hD hS => ?_)
  try dsimp only at hwu_4
  have hP : zP g [[mdl q a x], [((a 7), .inl (g.2 0, 3, .inl (aI z)))]] H := hP
  have hD : zD A [[mdl q a x], [((a 7), .inl (g.2 0, 3, .inl (aI z)))]] := hD
  refine z_toI (inI w 0 2) rfl ?_
  have hf_5 := inI_s w 0 2
  refine z_if_ne (tgt := 25) hx hb (by omega) dX10_sum_19 (by decide) (fun cq6 => ?_) (fun cq6 => False.elim (by omega))
  refine lv_aload_n hx hb dX10_sum_25 rfl (lv_at hl 0 rfl) ?_
  refine z_get hx hb hts hin10_ hown hK hP 0 rfl rfl 11 (by decide) (hts _ (List.mem_of_getElem? (i := 4) rfl)) rfl dX10_sum_26 ?_
  refine lv_iload_n hx hb dX10_sum_29 rfl (lv_at hl 1 rfl) ?_
  refine z_iald hx hb hK hP 1 rfl 2 rfl (by decide) (by decide) dX10_sum_30 ?_
  refine z_if_ge (tgt := 38) hx hb (by omega) dX10_sum_31 (by decide) (fun cq7 => False.elim (by omega)) (fun cq7 => ?_)
  refine z_ldcw hx hb (-2000000011) hown (hts _ (List.mem_of_getElem? (i := 5) rfl)) rfl dX10_sum_34 ?_
  exact z_reti () [0, 1] hx hb hr rfl hlocks hK hP hD hS (rfl) trivial rfl rfl (rfl) (Nat.le_of_ble_eq_true rfl) (Nat.le_of_ble_eq_true rfl) dX10_sum_37

set_option maxHeartbeats 4000000 in
set_option maxRecDepth 100000 in
theorem c_X10_sum2_ok (l : Launch) (g : zG) (q : Nat) (a : Nat → Nat) (x : Nat → Int) (z : Nat → Int) (kd : Nat → Int) (fa : Nat → Int) (fb : Nat → Int) (n : Nat) (w : Int) (hw : -2147483648 ≤ w ∧ w < 2147483648) (ho : 0 ≤ w ∧ w ≤ 2) (hz0 : z 2 = (n : Int)) (hn : n ≤ 8) : zMet l g yX10_sum wsX10_sum 2 0 0 [.ref q, vI 2, vI w] zX0 [[mdl q a x], [((a 7), .inl (g.2 0, 3, .inl (aI z)))], [((a 8), .inl (g.2 0, 24, .inl (aI kd)))], [((a 9), .inl (g.2 0, 24, .inl (aI fa)))], [((a 10), .inl (g.2 0, 24, .inl (aI fb)))]] (qi g (fun (_ : Unit) => (tot n (if w = 2 then (fun j => kd (16 + j)) else if w = 0 then (fun j => fa (16 + j)) else (fun j => fb (16 + j))))) (fun (_ : Unit) => True) (fun (_ : Unit) => [[mdl q a x], [((a 7), .inl (g.2 0, 3, .inl (aI z)))], [((a 8), .inl (g.2 0, 24, .inl (aI kd)))], [((a 9), .inl (g.2 0, 24, .inl (aI fa)))], [((a 10), .inl (g.2 0, 24, .inl (aI fb)))]])) := by
  refine z_ent (cc := cX10_sum) (maxL := 7) (ret := (some .int)) (by decide) rfl (Nat.le_of_ble_eq_true rfl) ?_
  intro p e s m below meth c A ls hx hb hr hml hown hts hlocks hin0 hA hK hP hD hS hXX hl
  have hown : s.vm.findClass RX10 = some m.cls := hown
  have hin10_ : ∀ w ∈ wsX100, w ∈ wsX10_sum := zw_in [16, 17, 18, 19, 20, 21, 22, 23, 24, 25, 26, 27, 28, 29, 30, 31, 32, 33, 34, 35, 36, 37, 38, 39, 40, 41] rfl
  have hl : lv_has ls 7 [(0, .ref q), (1, vI 2), (2, vI w)] := hl
  refine lv_iload_n hx hb dX10_sum_0 rfl (lv_at hl 1 rfl) ?_
  refine z_cSi (As := [vI 2]) (rest := []) ⟨hx, hb, hml, hown, hts⟩ hK hP hD hS hA [] [0, 1, 2, 3, 4] rfl rfl rfl (c_X10_isStore l g 2 (by first | decide | omega)) (va_cwS 1 hts gX10_sum_X10_isStore rfl rfl rfl (by decide +kernel) ⟨Nat.le_of_ble_eq_true rfl, Nat.le_of_ble_eq_true rfl⟩) (fun _ _ _ _ _ _ => trivial) (fun _ _ _ => trivial) rfl hl.1 (Nat.le_of_ble_eq_true rfl) rfl dX10_sum_1 ⟨Nat.le_of_ble_eq_true rfl, Nat.le_of_ble_eq_true rfl⟩ (fun u_1 H locs hwu_1 hP hD hS => ?_)
  try dsimp only at hwu_1
  have hP : zP g [[mdl q a x], [((a 7), .inl (g.2 0, 3, .inl (aI z)))], [((a 8), .inl (g.2 0, 24, .inl (aI kd)))], [((a 9), .inl (g.2 0, 24, .inl (aI fa)))], [((a 10), .inl (g.2 0, 24, .inl (aI fb)))]] H := hP
  have hD : zD A [[mdl q a x], [((a 7), .inl (g.2 0, 3, .inl (aI z)))], [((a 8), .inl (g.2 0, 24, .inl (aI kd)))], [((a 9), .inl (g.2 0, 24, .inl (aI fa)))], [((a 10), .inl (g.2 0, 24, .inl (aI fb)))]] := hD
  refine z_toI (inI 2 0 2) rfl ?_
  have hf_2 := inI_s 2 0 2
  refine z_if_ne (tgt := 10) hx hb (by omega) dX10_sum_4 (by decide) (fun cq3 => ?_) (fun cq3 => False.elim (by omega))
  refine lv_iload_n hx hb dX10_sum_10 rfl (lv_at hl 2 rfl) ?_
  refine z_i2l hx hb (by omega) dX10_sum_11 ?_
  refine z_lconst hx hb 0 dX10_sum_12 rfl ?_
  refine z_ldc2 hx hb 2 hown (hts _ (List.mem_of_getElem? (i := 2) rfl)) rfl dX10_sum_13 ?_
  refine z_cSi (As := [vL w, vL 0, vL 2]) (rest := []) ⟨hx, hb, hml, hown, hts⟩ hK hP hD hS hA [] [0, 1, 2, 3, 4] rfl rfl rfl (c_X10_in l g w 0 2 (by first | decide | omega) (by first | decide | omega) (by first | decide | omega)) (va_cwS 3 hts gX10_sum_X10_in rfl rfl rfl (by decide +kernel) ⟨Nat.le_of_ble_eq_true rfl, Nat.le_of_ble_eq_true rfl⟩) (fun _ _ _ _ _ _ => trivial) (fun _ _ _ => trivial) rfl hl.1 (Nat.le_of_ble_eq_true rfl) rfl dX10_sum_16 ⟨Nat.le_of_ble_eq_true rfl, Nat.le_of_ble_eq_true rfl⟩ (fun u_4 H locs hwu_4 hP hD hS => ?_)
  try dsimp only at hwu_4
  have hP : zP g [[mdl q a x], [((a 7), .inl (g.2 0, 3, .inl (aI z)))], [((a 8), .inl (g.2 0, 24, .inl (aI kd)))], [((a 9), .inl (g.2 0, 24, .inl (aI fa)))], [((a 10), .inl (g.2 0, 24, .inl (aI fb)))]] H := hP
  have hD : zD A [[mdl q a x], [((a 7), .inl (g.2 0, 3, .inl (aI z)))], [((a 8), .inl (g.2 0, 24, .inl (aI kd)))], [((a 9), .inl (g.2 0, 24, .inl (aI fa)))], [((a 10), .inl (g.2 0, 24, .inl (aI fb)))]] := hD
  refine z_toI (inI w 0 2) rfl ?_
  have hf_5 := inI_s w 0 2
  refine z_if_ne (tgt := 25) hx hb (by omega) dX10_sum_19 (by decide) (fun cq6 => ?_) (fun cq6 => False.elim (by omega))
  refine lv_aload_n hx hb dX10_sum_25 rfl (lv_at hl 0 rfl) ?_
  refine z_get hx hb hts hin10_ hown hK hP 0 rfl rfl 11 (by decide) (hts _ (List.mem_of_getElem? (i := 4) rfl)) rfl dX10_sum_26 ?_
  refine lv_iload_n hx hb dX10_sum_29 rfl (lv_at hl 1 rfl) ?_
  refine z_iald hx hb hK hP 1 rfl 2 rfl (by decide) (by decide) dX10_sum_30 ?_
  refine z_if_ge (tgt := 38) hx hb (by omega) dX10_sum_31 (by decide) (fun cq7 => ?_) (fun cq7 => False.elim (by omega))
  refine z_iconst hx hb dX10_sum_38 rfl ?_
  refine lv_istore_n (lv' := [(3, vI 0), (0, .ref q), (1, vI 2), (2, vI w)]) hx hb dX10_sum_39 rfl hl (by decide) rfl (fun ls hl => ?_)
  refine z_iconst hx hb dX10_sum_40 rfl ?_
  refine lv_istore (lv' := [(4, vI 0), (3, vI 0), (0, .ref q), (1, vI 2), (2, vI w)]) hx hb dX10_sum_41 hl (by decide) rfl (fun ls hl => ?_)
  refine z_iconst hx hb dX10_sum_43 rfl ?_
  refine lv_istore (lv' := [(5, vI 0), (4, vI 0), (3, vI 0), (0, .ref q), (1, vI 2), (2, vI w)]) hx hb dX10_sum_44 hl (by decide) rfl (fun ls hl => ?_)
  refine z_bipush hx hb 8 dX10_sum_46 rfl ?_
  refine lv_iload_n hx hb dX10_sum_48 rfl (lv_at hl 4 rfl) ?_
  refine z_imul hx hb 16 rfl dX10_sum_49 ?_
  refine lv_istore (lv' := [(6, vI 16), (5, vI 0), (4, vI 0), (3, vI 0), (0, .ref q), (1, vI 2), (2, vI w)]) hx hb dX10_sum_50 hl (by decide) rfl (fun ls hl => ?_)
  have loop52 : ∀ (N : Nat) (k : Nat) (s1 : Int) (s2 : Int) (s3 : Int) (H : Heap) (locs : List Loc) (ls : Array Slot), k ≤ n → s1 = (tot k (fun j => fa (16 + j))) → s2 = (tot k (fun j => fb (16 + j))) → s3 = (tot k (fun j => kd (16 + j))) → (n - k) < N → zP g [[mdl q a x], [((a 7), .inl (g.2 0, 3, .inl (aI z)))], [((a 8), .inl (g.2 0, 24, .inl (aI kd)))], [((a 9), .inl (g.2 0, 24, .inl (aI fa)))], [((a 10), .inl (g.2 0, 24, .inl (aI fb)))]] H → zD A [[mdl q a x], [((a 7), .inl (g.2 0, 3, .inl (aI z)))], [((a 8), .inl (g.2 0, 24, .inl (aI kd)))], [((a 9), .inl (g.2 0, 24, .inl (aI fa)))], [((a 10), .inl (g.2 0, 24, .inl (aI fb)))]] → va_S A s.heap H locs → lv_has ls 7 [(0, .ref q), (1, vI 2), (2, vI w), (3, vI s1), (4, vI s2), (5, vI s3), (6, vI (((16 + k) : Nat) : Int))] → W p l e (zRm 2 0 0) s m ([.ref q, vI 2, vI w] : List Value).toArray below meth c H locs (0) (0) (MQ below ((qi g (fun (_ : Unit) => (tot n (if w = 2 then (fun j => kd (16 + j)) else if w = 0 then (fun j => fa (16 + j)) else (fun j => fb (16 + j))))) (fun (_ : Unit) => True) (fun (_ : Unit) => [[mdl q a x], [((a 7), .inl (g.2 0, 3, .inl (aI z)))], [((a 8), .inl (g.2 0, 24, .inl (aI kd)))], [((a 9), .inl (g.2 0, 24, .inl (aI fa)))], [((a 10), .inl (g.2 0, 24, .inl (aI fb)))]])) A) ([.ref q, vI 2, vI w] : List Value).toArray s 0 0 A) (F0 m 52 ls []) := by
    intro N
    induction N with
    | zero => intro k s1 s2 s3 H locs ls hk h1 h2 h3 hm; exact absurd hm (Nat.not_lt_zero _)
    | succ N ih52 =>
      intro k s1 s2 s3 H locs ls hk h1 h2 h3 hm hP hD hS hl
      refine lv_iload hx hb dX10_sum_52 (lv_at hl 6 rfl) ?_
      refine z_bipush hx hb 8 dX10_sum_54 rfl ?_
      refine lv_iload_n hx hb dX10_sum_56 rfl (lv_at hl 1 rfl) ?_
      refine z_imul hx hb 16 rfl dX10_sum_57 ?_
      refine lv_aload_n hx hb dX10_sum_58 rfl (lv_at hl 0 rfl) ?_
      refine z_get hx hb hts hin10_ hown hK hP 0 rfl rfl 11 (by decide) (hts _ (List.mem_of_getElem? (i := 4) rfl)) rfl dX10_sum_59 ?_
      refine lv_iload_n hx hb dX10_sum_62 rfl (lv_at hl 1 rfl) ?_
      refine z_iald hx hb hK hP 1 rfl 2 rfl (by decide) (by decide) dX10_sum_63 ?_
      refine z_iadd hx hb (16 + (z 2)) rfl dX10_sum_64 ?_
      refine z_icmp_ge (tgt := 108) hx hb (by omega) (by omega) dX10_sum_65 (by decide) (fun cq8 => ?_) (fun cq8 => ?_)
      · refine lv_iload_n hx hb dX10_sum_108 rfl (lv_at hl 2 rfl) ?_
        refine z_if_ne (tgt := 116) hx hb (by omega) dX10_sum_109 (by decide) (fun cq9 => ?_) (fun cq9 => ?_)
        · refine lv_iload_n hx hb dX10_sum_116 rfl (lv_at hl 2 rfl) ?_
          refine z_iconst hx hb dX10_sum_117 rfl ?_
          refine z_icmp_ne (tgt := 126) hx hb (by omega) (by decide) dX10_sum_118 (by decide) (fun cq10 => ?_) (fun cq10 => ?_)
          · refine lv_iload hx hb dX10_sum_126 (lv_at hl 5 rfl) ?_
            have hkn : k = n := by omega
            subst hkn
            exact z_reti () [0, 1, 2, 3, 4] hx hb hr rfl hlocks hK hP hD hS (by first | (rw [if_neg (by omega), if_pos (by omega)]; exact h1) | (rw [if_neg (by omega), if_neg (by omega)]; exact h2) | (rw [if_pos (by omega)]; exact h3)) trivial rfl rfl (rfl) (Nat.le_of_ble_eq_true rfl) (Nat.le_of_ble_eq_true rfl) dX10_sum_128
          · refine lv_iload hx hb dX10_sum_121 (lv_at hl 4 rfl) ?_
            refine lv_goto (tgt := 128) hx hb dX10_sum_123 (by decide) ?_
            have hkn : k = n := by omega
            subst hkn
            exact z_reti () [0, 1, 2, 3, 4] hx hb hr rfl hlocks hK hP hD hS (by first | (rw [if_neg (by omega), if_pos (by omega)]; exact h1) | (rw [if_neg (by omega), if_neg (by omega)]; exact h2) | (rw [if_pos (by omega)]; exact h3)) trivial rfl rfl (rfl) (Nat.le_of_ble_eq_true rfl) (Nat.le_of_ble_eq_true rfl) dX10_sum_128
        · refine lv_iload_n hx hb dX10_sum_112 rfl (lv_at hl 3 rfl) ?_
          refine lv_goto (tgt := 128) hx hb dX10_sum_113 (by decide) ?_
          have hkn : k = n := by omega
          subst hkn
          exact z_reti () [0, 1, 2, 3, 4] hx hb hr rfl hlocks hK hP hD hS (by first | (rw [if_neg (by omega), if_pos (by omega)]; exact h1) | (rw [if_neg (by omega), if_neg (by omega)]; exact h2) | (rw [if_pos (by omega)]; exact h3)) trivial rfl rfl (rfl) (Nat.le_of_ble_eq_true rfl) (Nat.le_of_ble_eq_true rfl) dX10_sum_128
      · refine lv_iload_n hx hb dX10_sum_68 rfl (lv_at hl 3 rfl) ?_
        refine lv_aload_n hx hb dX10_sum_69 rfl (lv_at hl 0 rfl) ?_
        refine z_get hx hb hts hin10_ hown hK hP 0 rfl rfl 13 (by decide) (hts _ (List.mem_of_getElem? (i := 6) rfl)) rfl dX10_sum_70 ?_
        refine lv_iload hx hb dX10_sum_73 (lv_at hl 6 rfl) ?_
        refine z_iald hx hb hK hP 3 rfl (16 + k) (by omega) (by omega) (by decide) dX10_sum_75 ?_
        refine z_iadd hx hb (s1 + (fa (16 + k))) rfl dX10_sum_76 ?_
        refine z_nmI (fun x_11 hx_11 => ?_)
        refine lv_istore_n (lv' := [(3, vI x_11), (0, .ref q), (1, vI 2), (2, vI w), (4, vI s2), (5, vI s3), (6, vI (((16 + k) : Nat) : Int))]) hx hb dX10_sum_77 rfl hl (by decide) rfl (fun ls hl => ?_)
        refine lv_iload hx hb dX10_sum_78 (lv_at hl 4 rfl) ?_
        refine lv_aload_n hx hb dX10_sum_80 rfl (lv_at hl 1 rfl) ?_
        refine z_get hx hb hts hin10_ hown hK hP 0 rfl rfl 14 (by decide) (hts _ (List.mem_of_getElem? (i := 7) rfl)) rfl dX10_sum_81 ?_
        refine lv_iload hx hb dX10_sum_84 (lv_at hl 6 rfl) ?_
        refine z_iald hx hb hK hP 4 rfl (16 + k) (by omega) (by omega) (by decide) dX10_sum_86 ?_
        refine z_iadd hx hb (s2 + (fb (16 + k))) rfl dX10_sum_87 ?_
        refine z_nmI (fun x_12 hx_12 => ?_)
        refine lv_istore (lv' := [(4, vI x_12), (3, vI x_11), (0, .ref q), (1, vI 2), (2, vI w), (5, vI s3), (6, vI (((16 + k) : Nat) : Int))]) hx hb dX10_sum_88 hl (by decide) rfl (fun ls hl => ?_)
        refine lv_iload hx hb dX10_sum_90 (lv_at hl 5 rfl) ?_
        refine lv_aload_n hx hb dX10_sum_92 rfl (lv_at hl 2 rfl) ?_
        refine z_get hx hb hts hin10_ hown hK hP 0 rfl rfl 12 (by decide) (hts _ (List.mem_of_getElem? (i := 8) rfl)) rfl dX10_sum_93 ?_
        refine lv_iload hx hb dX10_sum_96 (lv_at hl 6 rfl) ?_
        refine z_iald hx hb hK hP 2 rfl (16 + k) (by omega) (by omega) (by decide) dX10_sum_98 ?_
        refine z_iadd hx hb (s3 + (kd (16 + k))) rfl dX10_sum_99 ?_
        refine z_nmI (fun x_13 hx_13 => ?_)
        refine lv_istore (lv' := [(5, vI x_13), (4, vI x_12), (3, vI x_11), (0, .ref q), (1, vI 2), (2, vI w), (6, vI (((16 + k) : Nat) : Int))]) hx hb dX10_sum_100 hl (by decide) rfl (fun ls hl => ?_)
        refine z_iinc hx hb ((((16 + k) + 1) : Nat) : Int) (lv' := [(6, vI ((((16 + k) + 1) : Nat) : Int)), (5, vI x_13), (4, vI x_12), (3, vI x_11), (0, .ref q), (1, vI 2), (2, vI w)]) dX10_sum_102 hl (k := 6) rfl (by omega) (by decide) rfl (fun ls hl => ?_)
        refine lv_goto (tgt := 52) hx hb dX10_sum_105 (by decide) ?_
        exact ih52 (k + 1) x_11 x_12 x_13 _ _ _ (by omega) (by rw [hx_11, h1]; rfl) (by rw [hx_12, h2]; rfl) (by rw [hx_13, h3]; rfl) (by omega) hP hD hS (lv_sub hl [4, 5, 6, 3, 2, 1, 0] rfl)
  exact loop52 _ 0 0 0 0 _ _ _ (Nat.zero_le _) rfl rfl rfl (Nat.lt_succ_self _) hP hD hS (lv_sub hl [4, 5, 6, 3, 2, 1, 0] rfl)
