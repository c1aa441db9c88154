set_option maxHeartbeats 4000000 in
set_option maxRecDepth 100000 in
theorem c_X10_plus (l : Launch) (g : zG) (q : Nat) (a : Nat → Nat) (x : Nat → Int) (S : RS) (to : Nat) (xx : Nat) (y : Nat) (k : Int) (hbto : to < 88) (hbxx : xx < 88) (hby : y < 88) (hz : S.2.2 = 0 ∨ S.2.2 = 1) (hsg : k = 1 ∨ k = -1) (hk0 : S.2.2 = 0 → rk S xx) (hk1 : S.2.2 = 0 → rk S y) : zMet l g yX10_plus wsX10_plus 3 0 0 [.ref q, vI ((to : Nat) : Int), vI ((xx : Nat) : Int), vI ((y : Nat) : Int), vL k] zX0 [[mdl q a (uI x 9 S.2.2)], [((a 0), .inl (g.2 1, 88, .inr (.inl (aL S.1))))], [((a 1), .inl (g.2 1, 88, .inr (.inl (aL S.2.1))))]] (qv g (fun (_ : Unit) => True) (fun (_ : Unit) => [[mdl q a (uI x 9 (rPl to xx y k S).2.2)], [((a 0), .inl (g.2 1, 88, .inr (.inl (aL (rPl to xx y k S).1))))], [((a 1), .inl (g.2 1, 88, .inr (.inl (aL (rPl to xx y k S).2.1))))]])) := by
  refine z_ent (cc := cX10_plus) (maxL := 6) (ret := none) (by decide) rfl (Nat.le_of_ble_eq_true rfl) ?_
  intro p e s m below meth c A ls hx hb hr hml hown hts hlocks hin0 hA hK hP hD hS hXX hl
  have hown : s.vm.findClass RX10 = some m.cls := hown
  have hin10_ : ∀ w ∈ wsX100, w ∈ wsX10_plus := zw_in [21, 22, 23, 24, 25, 26, 27, 28, 29, 30, 31, 32, 33, 34, 35, 36, 37, 38, 39, 40, 41, 42, 43, 44, 45, 46] rfl
  have hl : lv_has ls 6 [(0, .ref q), (1, vI ((to : Nat) : Int)), (2, vI ((xx : Nat) : Int)), (3, vI ((y : Nat) : Int)), (4, vL k)] := hl
  refine lv_aload_n hx hb dX10_plus_0 rfl (lv_at hl 0 rfl) ?_
  refine z_get hx hb hts hin10_ hown hK hP 0 rfl rfl 22 (by decide) (hts _ (List.mem_of_getElem? (i := 1) rfl)) rfl dX10_plus_1 ?_
  refine z_toI S.2.2 rfl ?_
  refine z_if_ne (tgt := 55) hx hb (by omega) dX10_plus_4 (by decide) (fun cq1 => ?_) (fun cq1 => ?_)
  · exact z_retv () [0, 1, 2] hx hb hr hlocks hK hP hD hS trivial rfl rfl (by rw [rPl_1 (by omega)]; rfl) (Nat.le_of_ble_eq_true rfl) (Nat.le_of_ble_eq_true rfl) dX10_plus_55
  · refine lv_aload_n hx hb dX10_plus_7 rfl (lv_at hl 0 rfl) ?_
    refine lv_iload_n hx hb dX10_plus_8 rfl (lv_at hl 1 rfl) ?_
    refine lv_aload_n hx hb dX10_plus_9 rfl (lv_at hl 0 rfl) ?_
    refine z_get hx hb hts hin10_ hown hK hP 0 rfl rfl 0 (by decide) (hts _ (List.mem_of_getElem? (i := 2) rfl)) rfl dX10_plus_10 ?_
    refine lv_iload_n hx hb dX10_plus_13 rfl (lv_at hl 2 rfl) ?_
    refine z_lald hx hb hK hP 1 rfl xx (by omega) (by omega) (by decide) dX10_plus_14 ?_
    refine lv_aload_n hx hb dX10_plus_15 rfl (lv_at hl 0 rfl) ?_
    refine z_get hx hb hts hin10_ hown hK hP 0 rfl rfl 1 (by decide) (hts _ (List.mem_of_getElem? (i := 3) rfl)) rfl dX10_plus_16 ?_
    refine lv_iload_n hx hb dX10_plus_19 rfl (lv_at hl 3 rfl) ?_
    refine z_lald hx hb hK hP 2 rfl y (by omega) (by omega) (by decide) dX10_plus_20 ?_
    refine z_lmul hx hb ((S.1 xx) * (S.2.1 y)) rfl dX10_plus_21 ?_
    refine lv_lload hx hb dX10_plus_22 (lv_at hl 4 rfl) ?_
    refine lv_aload_n hx hb dX10_plus_24 rfl (lv_at hl 0 rfl) ?_
    refine z_get hx hb hts hin10_ hown hK hP 0 rfl rfl 0 (by decide) (hts _ (List.mem_of_getElem? (i := 2) rfl)) rfl dX10_plus_25 ?_
    refine lv_iload_n hx hb dX10_plus_28 rfl (lv_at hl 3 rfl) ?_
    refine z_lald hx hb hK hP 1 rfl y (by omega) (by omega) (by decide) dX10_plus_29 ?_
    refine z_lmul hx hb (k * (S.1 y)) rfl dX10_plus_30 ?_
    refine lv_aload_n hx hb dX10_plus_31 rfl (lv_at hl 0 rfl) ?_
    refine z_get hx hb hts hin10_ hown hK hP 0 rfl rfl 1 (by decide) (hts _ (List.mem_of_getElem? (i := 3) rfl)) rfl dX10_plus_32 ?_
    refine lv_iload_n hx hb dX10_plus_35 rfl (lv_at hl 2 rfl) ?_
    refine z_lald hx hb hK hP 2 rfl xx (by omega) (by omega) (by decide) dX10_plus_36 ?_
    refine z_lmul hx hb ((k * (S.1 y)) * (S.2.1 xx)) rfl dX10_plus_37 ?_
    refine z_ladd hx hb (((S.1 xx) * (S.2.1 y)) + ((k * (S.1 y)) * (S.2.1 xx))) rfl dX10_plus_38 ?_
    refine lv_aload_n hx hb dX10_plus_39 rfl (lv_at hl 0 rfl) ?_
    refine z_get hx hb hts hin10_ hown hK hP 0 rfl rfl 1 (by decide) (hts _ (List.mem_of_getElem? (i := 3) rfl)) rfl dX10_plus_40 ?_
    refine lv_iload_n hx hb dX10_plus_43 rfl (lv_at hl 2 rfl) ?_
    refine z_lald hx hb hK hP 2 rfl xx (by omega) (by omega) (by decide) dX10_plus_44 ?_
    refine lv_aload_n hx hb dX10_plus_45 rfl (lv_at hl 0 rfl) ?_
    refine z_get hx hb hts hin10_ hown hK hP 0 rfl rfl 1 (by decide) (hts _ (List.mem_of_getElem? (i := 3) rfl)) rfl dX10_plus_46 ?_
    refine lv_iload_n hx hb dX10_plus_49 rfl (lv_at hl 3 rfl) ?_
    refine z_lald hx hb hK hP 2 rfl y (by omega) (by omega) (by decide) dX10_plus_50 ?_
    refine z_lmul hx hb ((S.2.1 xx) * (S.2.1 y)) rfl dX10_plus_51 ?_
    refine z_cVv (As := [vI ((to : Nat) : Int), vL (((S.1 xx) * (S.2.1 y)) + ((k * (S.1 y)) * (S.2.1 xx))), vL ((S.2.1 xx) * (S.2.1 y))]) (rest := []) ⟨hx, hb, hml, hown, hts⟩ hK hP hD hS hA [0, 1, 2] [] rfl rfl rfl (c_X10_made l g q a (uI x 9 S.2.2) S to (((S.1 xx) * (S.2.1 y)) + ((k * (S.1 y)) * (S.2.1 xx))) ((S.2.1 xx) * (S.2.1 y)) (by omega) (by omega) (rPl_b hsg ⟨hk0 (by omega), hk1 (by omega)⟩).1 (rPl_b hsg ⟨hk0 (by omega), hk1 (by omega)⟩).2) (cwV 3 hts gX10_plus_X10_made rfl rfl rfl (by decide +kernel) ⟨Nat.le_of_ble_eq_true rfl, Nat.le_of_ble_eq_true rfl⟩) 10 0 rfl rfl rfl (fun _ _ _ _ _ _ => trivial) (fun _ _ _ => trivial) rfl hl.1 (Nat.le_of_ble_eq_true rfl) rfl dX10_plus_52 ⟨Nat.le_of_ble_eq_true rfl, Nat.le_of_ble_eq_true rfl⟩ (fun u_2 H locs hwu_2 hP hD hS => ?_)
    try dsimp only at hwu_2
    have hP : zP g [[mdl q a (uI x 9 (rMd to (((S.1 xx) * (S.2.1 y)) + ((k * (S.1 y)) * (S.2.1 xx))) ((S.2.1 xx) * (S.2.1 y)) S).2.2)], [((a 0), .inl (g.2 1, 88, .inr (.inl (aL (rMd to (((S.1 xx) * (S.2.1 y)) + ((k * (S.1 y)) * (S.2.1 xx))) ((S.2.1 xx) * (S.2.1 y)) S).1))))], [((a 1), .inl (g.2 1, 88, .inr (.inl (aL (rMd to (((S.1 xx) * (S.2.1 y)) + ((k * (S.1 y)) * (S.2.1 xx))) ((S.2.1 xx) * (S.2.1 y)) S).2.1))))]] H := hP
    have hD : zD A [[mdl q a (uI x 9 (rMd to (((S.1 xx) * (S.2.1 y)) + ((k * (S.1 y)) * (S.2.1 xx))) ((S.2.1 xx) * (S.2.1 y)) S).2.2)], [((a 0), .inl (g.2 1, 88, .inr (.inl (aL (rMd to (((S.1 xx) * (S.2.1 y)) + ((k * (S.1 y)) * (S.2.1 xx))) ((S.2.1 xx) * (S.2.1 y)) S).1))))], [((a 1), .inl (g.2 1, 88, .inr (.inl (aL (rMd to (((S.1 xx) * (S.2.1 y)) + ((k * (S.1 y)) * (S.2.1 xx))) ((S.2.1 xx) * (S.2.1 y)) S).2.1))))]] := hD
    exact z_retv () [0, 1, 2] hx hb hr hlocks hK hP hD hS trivial rfl rfl (by rw [rPl_0 (by omega)]; rfl) (Nat.le_of_ble_eq_true rfl) (Nat.le_of_ble_eq_true rfl) dX10_plus_55

set_option maxHeartbeats 4000000 in
set_option maxRecDepth 100000 in
theorem c_X10_times (l : Launch) (g : zG) (q : Nat) (a : Nat → Nat) (x : Nat → Int) (S : RS) (to : Nat) (xx : Nat) (y : Nat) (hbto : to < 88) (hbxx : xx < 88) (hby : y < 88) (hz : S.2.2 = 0 ∨ S.2.2 = 1) (hk0 : S.2.2 = 0 → rk S xx) (hk1 : S.2.2 = 0 → rk S y) : zMet l g yX10_times wsX10_times 3 0 0 [.ref q, vI ((to : Nat) : Int), vI ((xx : Nat) : Int), vI ((y : Nat) : Int)] zX0 [[mdl q a (uI x 9 S.2.2)], [((a 0), .inl (g.2 1, 88, .inr (.inl (aL S.1))))], [((a 1), .inl (g.2 1, 88, .inr (.inl (aL S.2.1))))]] (qv g (fun (_ : Unit) => True) (fun (_ : Unit) => [[mdl q a (uI x 9 (rTm to xx y S).2.2)], [((a 0), .inl (g.2 1, 88, .inr (.inl (aL (rTm to xx y S).1))))], [((a 1), .inl (g.2 1, 88, .inr (.inl (aL (rTm to xx y S).2.1))))]])) := by
  refine z_ent (cc := cX10_times) (maxL := 4) (ret := none) (by decide) rfl (Nat.le_of_ble_eq_true rfl) ?_
  intro p e s m below meth c A ls hx hb hr hml hown hts hlocks hin0 hA hK hP hD hS hXX hl
  have hown : s.vm.findClass RX10 = some m.cls := hown
  have hin10_ : ∀ w ∈ wsX100, w ∈ wsX10_times := zw_in [21, 22, 23, 24, 25, 26, 27, 28, 29, 30, 31, 32, 33, 34, 35, 36, 37, 38, 39, 40, 41, 42, 43, 44, 45, 46] rfl
  have hl : lv_has ls 4 [(0, .ref q), (1, vI ((to : Nat) : Int)), (2, vI ((xx : Nat) : Int)), (3, vI ((y : Nat) : Int))] := hl
  refine lv_aload_n hx hb dX10_times_0 rfl (lv_at hl 0 rfl) ?_
  refine z_get hx hb hts hin10_ hown hK hP 0 rfl rfl 22 (by decide) (hts _ (List.mem_of_getElem? (i := 1) rfl)) rfl dX10_times_1 ?_
  refine z_toI S.2.2 rfl ?_
  refine z_if_ne (tgt := 38) hx hb (by omega) dX10_times_4 (by decide) (fun cq1 => ?_) (fun cq1 => ?_)
  · exact z_retv () [0, 1, 2] hx hb hr hlocks hK hP hD hS trivial rfl rfl (by rw [rTm_1 (by omega)]; rfl) (Nat.le_of_ble_eq_true rfl) (Nat.le_of_ble_eq_true rfl) dX10_times_38
  · refine lv_aload_n hx hb dX10_times_7 rfl (lv_at hl 0 rfl) ?_
    refine lv_iload_n hx hb dX10_times_8 rfl (lv_at hl 1 rfl) ?_
    refine lv_aload_n hx hb dX10_times_9 rfl (lv_at hl 0 rfl) ?_
    refine z_get hx hb hts hin10_ hown hK hP 0 rfl rfl 0 (by decide) (hts _ (List.mem_of_getElem? (i := 2) rfl)) rfl dX10_times_10 ?_
    refine lv_iload_n hx hb dX10_times_13 rfl (lv_at hl 2 rfl) ?_
    refine z_lald hx hb hK hP 1 rfl xx (by omega) (by omega) (by decide) dX10_times_14 ?_
    refine lv_aload_n hx hb dX10_times_15 rfl (lv_at hl 0 rfl) ?_
    refine z_get hx hb hts hin10_ hown hK hP 0 rfl rfl 0 (by decide) (hts _ (List.mem_of_getElem? (i := 2) rfl)) rfl dX10_times_16 ?_
    refine lv_iload_n hx hb dX10_times_19 rfl (lv_at hl 3 rfl) ?_
    refine z_lald hx hb hK hP 1 rfl y (by omega) (by omega) (by decide) dX10_times_20 ?_
    refine z_lmul hx hb ((S.1 xx) * (S.1 y)) rfl dX10_times_21 ?_
    refine lv_aload_n hx hb dX10_times_22 rfl (lv_at hl 0 rfl) ?_
    refine z_get hx hb hts hin10_ hown hK hP 0 rfl rfl 1 (by decide) (hts _ (List.mem_of_getElem? (i := 3) rfl)) rfl dX10_times_23 ?_
    refine lv_iload_n hx hb dX10_times_26 rfl (lv_at hl 2 rfl) ?_
    refine z_lald hx hb hK hP 2 rfl xx (by omega) (by omega) (by decide) dX10_times_27 ?_
    refine lv_aload_n hx hb dX10_times_28 rfl (lv_at hl 0 rfl) ?_
    refine z_get hx hb hts hin10_ hown hK hP 0 rfl rfl 1 (by decide) (hts _ (List.mem_of_getElem? (i := 3) rfl)) rfl dX10_times_29 ?_
    refine lv_iload_n hx hb dX10_times_32 rfl (lv_at hl 3 rfl) ?_
    refine z_lald hx hb hK hP 2 rfl y (by omega) (by omega) (by decide) dX10_times_33 ?_
    refine z_lmul hx hb ((S.2.1 xx) * (S.2.1 y)) rfl dX10_times_34 ?_
    refine z_cVv (As := [vI ((to : Nat) : Int), vL ((S.1 xx) * (S.1 y)), vL ((S.2.1 xx) * (S.2.1 y))]) (rest := []) ⟨hx, hb, hml, hown, hts⟩ hK hP hD hS hA [0, 1, 2] [] rfl rfl rfl (c_X10_made l g q a (uI x 9 S.2.2) S to ((S.1 xx) * (S.1 y)) ((S.2.1 xx) * (S.2.1 y)) (by omega) (by omega) (rTm_b ⟨hk0 (by omega), hk1 (by omega)⟩).1 (rTm_b ⟨hk0 (by omega), hk1 (by omega)⟩).2) (cwV 3 hts gX10_times_X10_made rfl rfl rfl (by decide +kernel) ⟨Nat.le_of_ble_eq_true rfl, Nat.le_of_ble_eq_true rfl⟩) 10 0 rfl rfl rfl (fun _ _ _ _ _ _ => trivial) (fun _ _ _ => trivial) rfl hl.1 (Nat.le_of_ble_eq_true rfl) rfl dX10_times_35 ⟨Nat.le_of_ble_eq_true rfl, Nat.le_of_ble_eq_true rfl⟩ (fun u_2 H locs hwu_2 hP hD hS => ?_)
    try dsimp only at hwu_2
    have hP : zP g [[mdl q a (uI x 9 (rMd to ((S.1 xx) * (S.1 y)) ((S.2.1 xx) * (S.2.1 y)) S).2.2)], [((a 0), .inl (g.2 1, 88, .inr (.inl (aL (rMd to ((S.1 xx) * (S.1 y)) ((S.2.1 xx) * (S.2.1 y)) S).1))))], [((a 1), .inl (g.2 1, 88, .inr (.inl (aL (rMd to ((S.1 xx) * (S.1 y)) ((S.2.1 xx) * (S.2.1 y)) S).2.1))))]] H := hP
    have hD : zD A [[mdl q a (uI x 9 (rMd to ((S.1 xx) * (S.1 y)) ((S.2.1 xx) * (S.2.1 y)) S).2.2)], [((a 0), .inl (g.2 1, 88, .inr (.inl (aL (rMd to ((S.1 xx) * (S.1 y)) ((S.2.1 xx) * (S.2.1 y)) S).1))))], [((a 1), .inl (g.2 1, 88, .inr (.inl (aL (rMd to ((S.1 xx) * (S.1 y)) ((S.2.1 xx) * (S.2.1 y)) S).2.1))))]] := hD
    exact z_retv () [0, 1, 2] hx hb hr hlocks hK hP hD hS trivial rfl rfl (by rw [rTm_0 (by omega)]; rfl) (Nat.le_of_ble_eq_true rfl) (Nat.le_of_ble_eq_true rfl) dX10_times_38

set_option maxHeartbeats 4000000 in
set_option maxRecDepth 100000 in
theorem c_X10_copyTo (l : Launch) (g : zG) (q : Nat) (a : Nat → Nat) (x : Nat → Int) (S : RS) (to : Nat) (xx : Nat) (hb0 : to < 87) (hb1 : xx < 87) : zMet l g yX10_copyTo wsX10_copyTo 0 0 0 [.ref q, vI ((to : Nat) : Int), vI ((xx : Nat) : Int)] zX0 [[mdl q a x], [((a 0), .inl (g.2 1, 88, .inr (.inl (aL S.1))))], [((a 1), .inl (g.2 1, 88, .inr (.inl (aL S.2.1))))]] (qv g (fun (_ : Unit) => True) (fun (_ : Unit) => [[mdl q a x], [((a 0), .inl (g.2 1, 88, .inr (.inl (aL (rCp to xx S).1))))], [((a 1), .inl (g.2 1, 88, .inr (.inl (aL (rCp to xx S).2.1))))]])) := by
  refine z_ent (cc := cX10_copyTo) (maxL := 4) (ret := none) (by decide) rfl (Nat.le_of_ble_eq_true rfl) ?_
  intro p e s m below meth c A ls hx hb hr hml hown hts hlocks hin0 hA hK hP hD hS hXX hl
  have hown : s.vm.findClass RX10 = some m.cls := hown
  have hin10_ : ∀ w ∈ wsX100, w ∈ wsX10_copyTo := zw_in [3, 4, 5, 6, 7, 8, 9, 10, 11, 12, 13, 14, 15, 16, 17, 18, 19, 20, 21, 22, 23, 24, 25, 26, 27, 28] rfl
  have hl : lv_has ls 4 [(0, .ref q), (1, vI ((to : Nat) : Int)), (2, vI ((xx : Nat) : Int))] := hl
  refine z_iconst hx hb dX10_copyTo_0 rfl ?_
  refine lv_istore_n (lv' := [(3, vI 0), (0, .ref q), (1, vI ((to : Nat) : Int)), (2, vI ((xx : Nat) : Int))]) hx hb dX10_copyTo_1 rfl hl (by decide) rfl (fun ls hl => ?_)
  refine lv_iload_n hx hb dX10_copyTo_2 rfl (lv_at hl 0 rfl) ?_
  refine z_iconst hx hb dX10_copyTo_3 rfl ?_
  refine z_icmp_ge (tgt := 45) hx hb (by decide) (by decide) dX10_copyTo_4 (by decide) (fun cq1 => False.elim (by omega)) (fun cq1 => ?_)
  refine lv_aload_n hx hb dX10_copyTo_7 rfl (lv_at hl 1 rfl) ?_
  refine z_get hx hb hts hin10_ hown hK hP 0 rfl rfl 0 (by decide) (hts _ (List.mem_of_getElem? (i := 1) rfl)) rfl dX10_copyTo_8 ?_
  refine lv_iload_n hx hb dX10_copyTo_11 rfl (lv_at hl 2 rfl) ?_
  refine lv_iload_n hx hb dX10_copyTo_12 rfl (lv_at hl 0 rfl) ?_
  refine z_iadd hx hb ((to : Nat) : Int) (Int.add_zero _) dX10_copyTo_13 ?_
  refine lv_aload_n hx hb dX10_copyTo_14 rfl (lv_at hl 1 rfl) ?_
  refine z_get hx hb hts hin10_ hown hK hP 0 rfl rfl 0 (by decide) (hts _ (List.mem_of_getElem? (i := 1) rfl)) rfl dX10_copyTo_15 ?_
  refine lv_iload_n hx hb dX10_copyTo_18 rfl (lv_at hl 3 rfl) ?_
  refine lv_iload_n hx hb dX10_copyTo_19 rfl (lv_at hl 0 rfl) ?_
  refine z_iadd hx hb ((xx : Nat) : Int) (Int.add_zero _) dX10_copyTo_20 ?_
  refine z_lald hx hb hK hP 1 rfl xx (by omega) (by omega) (by decide) dX10_copyTo_21 ?_
  refine z_last hx hb hK hP 1 hD hS rfl to (by omega) (by omega) (by decide) dX10_copyTo_22 [[mdl q a x], [((a 0), .inl (g.2 1, 88, .inr (.inl (aL (uI S.1 to (S.1 xx))))))], [((a 1), .inl (g.2 1, 88, .inr (.inl (aL S.2.1))))]] rfl (fun H locs hP hD hS => ?_)
  refine lv_aload_n hx hb dX10_copyTo_23 rfl (lv_at hl 1 rfl) ?_
  refine z_get hx hb hts hin10_ hown hK hP 0 rfl rfl 1 (by decide) (hts _ (List.mem_of_getElem? (i := 2) rfl)) rfl dX10_copyTo_24 ?_
  refine lv_iload_n hx hb dX10_copyTo_27 rfl (lv_at hl 2 rfl) ?_
  refine lv_iload_n hx hb dX10_copyTo_28 rfl (lv_at hl 0 rfl) ?_
  refine z_iadd hx hb ((to : Nat) : Int) (Int.add_zero _) dX10_copyTo_29 ?_
  refine lv_aload_n hx hb dX10_copyTo_30 rfl (lv_at hl 1 rfl) ?_
  refine z_get hx hb hts hin10_ hown hK hP 0 rfl rfl 1 (by decide) (hts _ (List.mem_of_getElem? (i := 2) rfl)) rfl dX10_copyTo_31 ?_
  refine lv_iload_n hx hb dX10_copyTo_34 rfl (lv_at hl 3 rfl) ?_
  refine lv_iload_n hx hb dX10_copyTo_35 rfl (lv_at hl 0 rfl) ?_
  refine z_iadd hx hb ((xx : Nat) : Int) (Int.add_zero _) dX10_copyTo_36 ?_
  refine z_lald hx hb hK hP 2 rfl xx (by omega) (by omega) (by decide) dX10_copyTo_37 ?_
  refine z_last hx hb hK hP 2 hD hS rfl to (by omega) (by omega) (by decide) dX10_copyTo_38 [[mdl q a x], [((a 0), .inl (g.2 1, 88, .inr (.inl (aL (uI S.1 to (S.1 xx))))))], [((a 1), .inl (g.2 1, 88, .inr (.inl (aL (uI S.2.1 to (S.2.1 xx))))))]] rfl (fun H locs hP hD hS => ?_)
  refine z_iinc hx hb 1 (lv' := [(3, vI 1), (0, .ref q), (1, vI ((to : Nat) : Int)), (2, vI ((xx : Nat) : Int))]) dX10_copyTo_39 hl (k := 0) rfl (rfl) (by decide) rfl (fun ls hl => ?_)
  refine lv_goto (tgt := 2) hx hb dX10_copyTo_42 (by decide) ?_
  refine lv_iload_n hx hb dX10_copyTo_2 rfl (lv_at hl 0 rfl) ?_
  refine z_iconst hx hb dX10_copyTo_3 rfl ?_
  refine z_icmp_ge (tgt := 45) hx hb (by decide) (by decide) dX10_copyTo_4 (by decide) (fun cq2 => False.elim (by omega)) (fun cq2 => ?_)
  refine lv_aload_n hx hb dX10_copyTo_7 rfl (lv_at hl 1 rfl) ?_
  refine z_get hx hb hts hin10_ hown hK hP 0 rfl rfl 0 (by decide) (hts _ (List.mem_of_getElem? (i := 1) rfl)) rfl dX10_copyTo_8 ?_
  refine lv_iload_n hx hb dX10_copyTo_11 rfl (lv_at hl 2 rfl) ?_
  refine lv_iload_n hx hb dX10_copyTo_12 rfl (lv_at hl 0 rfl) ?_
  refine z_iadd hx hb (((to + 1) : Nat) : Int) (by omega) dX10_copyTo_13 ?_
  refine lv_aload_n hx hb dX10_copyTo_14 rfl (lv_at hl 1 rfl) ?_
  refine z_get hx hb hts hin10_ hown hK hP 0 rfl rfl 0 (by decide) (hts _ (List.mem_of_getElem? (i := 1) rfl)) rfl dX10_copyTo_15 ?_
  refine lv_iload_n hx hb dX10_copyTo_18 rfl (lv_at hl 3 rfl) ?_
  refine lv_iload_n hx hb dX10_copyTo_19 rfl (lv_at hl 0 rfl) ?_
  refine z_iadd hx hb (((xx + 1) : Nat) : Int) (by omega) dX10_copyTo_20 ?_
  refine z_lald hx hb hK hP 1 rfl (xx + 1) (by omega) (by omega) (by decide) dX10_copyTo_21 ?_
  refine z_last hx hb hK hP 1 hD hS rfl (to + 1) (by omega) (by omega) (by decide) dX10_copyTo_22 [[mdl q a x], [((a 0), .inl (g.2 1, 88, .inr (.inl (aL (uI (uI S.1 to (S.1 xx)) (to + 1) ((uI S.1 to (S.1 xx)) (xx + 1)))))))], [((a 1), .inl (g.2 1, 88, .inr (.inl (aL (uI S.2.1 to (S.2.1 xx))))))]] rfl (fun H locs hP hD hS => ?_)
  refine lv_aload_n hx hb dX10_copyTo_23 rfl (lv_at hl 1 rfl) ?_
  refine z_get hx hb hts hin10_ hown hK hP 0 rfl rfl 1 (by decide) (hts _ (List.mem_of_getElem? (i := 2) rfl)) rfl dX10_copyTo_24 ?_
  refine lv_iload_n hx hb dX10_copyTo_27 rfl (lv_at hl 2 rfl) ?_
  refine lv_iload_n hx hb dX10_copyTo_28 rfl (lv_at hl 0 rfl) ?_
  refine z_iadd hx hb (((to + 1) : Nat) : Int) (by omega) dX10_copyTo_29 ?_
  refine lv_aload_n hx hb dX10_copyTo_30 rfl (lv_at hl 1 rfl) ?_
  refine z_get hx hb hts hin10_ hown hK hP 0 rfl rfl 1 (by decide) (hts _ (List.mem_of_getElem? (i := 2) rfl)) rfl dX10_copyTo_31 ?_
  refine lv_iload_n hx hb dX10_copyTo_34 rfl (lv_at hl 3 rfl) ?_
  refine lv_iload_n hx hb dX10_copyTo_35 rfl (lv_at hl 0 rfl) ?_
  refine z_iadd hx hb (((xx + 1) : Nat) : Int) (by omega) dX10_copyTo_36 ?_
  refine z_lald hx hb hK hP 2 rfl (xx + 1) (by omega) (by omega) (by decide) dX10_copyTo_37 ?_
  refine z_last hx hb hK hP 2 hD hS rfl (to + 1) (by omega) (by omega) (by decide) dX10_copyTo_38 [[mdl q a x], [((a 0), .inl (g.2 1, 88, .inr (.inl (aL (uI (uI S.1 to (S.1 xx)) (to + 1) ((uI S.1 to (S.1 xx)) (xx + 1)))))))], [((a 1), .inl (g.2 1, 88, .inr (.inl (aL (uI (uI S.2.1 to (S.2.1 xx)) (to + 1) ((uI S.2.1 to (S.2.1 xx)) (xx + 1)))))))]] rfl (fun H locs hP hD hS => ?_)
  refine z_iinc hx hb 2 (lv' := [(3, vI 2), (0, .ref q), (1, vI ((to : Nat) : Int)), (2, vI ((xx : Nat) : Int))]) dX10_copyTo_39 hl (k := 0) rfl (rfl) (by decide) rfl (fun ls hl => ?_)
  refine lv_goto (tgt := 2) hx hb dX10_copyTo_42 (by decide) ?_
  refine lv_iload_n hx hb dX10_copyTo_2 rfl (lv_at hl 0 rfl) ?_
  refine z_iconst hx hb dX10_copyTo_3 rfl ?_
  refine z_icmp_ge (tgt := 45) hx hb (by decide) (by decide) dX10_copyTo_4 (by decide) (fun cq3 => ?_) (fun cq3 => False.elim (by omega))
  exact z_retv () [0, 1, 2] hx hb hr hlocks hK hP hD hS trivial rfl rfl (rfl) (Nat.le_of_ble_eq_true rfl) (Nat.le_of_ble_eq_true rfl) dX10_copyTo_45

set_option maxHeartbeats 4000000 in
set_option maxRecDepth 100000 in
theorem c_X10_add (l : Launch) (g : zG) (q : Nat) (a : Nat → Nat) (x : Nat → Int) (S : RS) (to : Nat) (xx : Nat) (k : Int) (hb0 : to < 87) (hb1 : xx < 87) (hz : S.2.2 = 0 ∨ S.2.2 = 1) (hsg : k = 1 ∨ k = -1) (hne : xx + 1 ≠ to) (hk0 : S.2.2 = 0 → rk S to) (hk1 : S.2.2 = 0 → rk S (to + 1)) (hk2 : S.2.2 = 0 → rk S xx) (hk3 : S.2.2 = 0 → rk S (xx + 1)) : zMet l g yX10_add wsX10_add 4 0 0 [.ref q, vI ((to : Nat) : Int), vI ((xx : Nat) : Int), vL k] zX0 [[mdl q a (uI x 9 S.2.2)], [((a 0), .inl (g.2 1, 88, .inr (.inl (aL S.1))))], [((a 1), .inl (g.2 1, 88, .inr (.inl (aL S.2.1))))]] (qv g (fun (_ : Unit) => True) (fun (_ : Unit) => [[mdl q a (uI x 9 (rAd to xx k S).2.2)], [((a 0), .inl (g.2 1, 88, .inr (.inl (aL (rAd to xx k S).1))))], [((a 1), .inl (g.2 1, 88, .inr (.inl (aL (rAd to xx k S).2.1))))]])) := by
  refine z_ent (cc := cX10_add) (maxL := 5) (ret := none) (by decide) rfl (Nat.le_of_ble_eq_true rfl) ?_
  intro p e s m below meth c A ls hx hb hr hml hown hts hlocks hin0 hA hK hP hD hS hXX hl
  have hown : s.vm.findClass RX10 = some m.cls := hown
  have hl : lv_has ls 5 [(0, .ref q), (1, vI ((to : Nat) : Int)), (2, vI ((xx : Nat) : Int)), (3, vL k)] := hl
  refine lv_aload_n hx hb dX10_add_0 rfl (lv_at hl 0 rfl) ?_
  refine lv_iload_n hx hb dX10_add_1 rfl (lv_at hl 1 rfl) ?_
  refine lv_iload_n hx hb dX10_add_2 rfl (lv_at hl 1 rfl) ?_
  refine lv_iload_n hx hb dX10_add_3 rfl (lv_at hl 2 rfl) ?_
  refine lv_lload_n hx hb dX10_add_4 rfl (lv_at hl 3 rfl) ?_
  refine z_cVv (As := [vI ((to : Nat) : Int), vI ((to : Nat) : Int), vI ((xx : Nat) : Int), vL k]) (rest := []) ⟨hx, hb, hml, hown, hts⟩ hK hP hD hS hA [0, 1, 2] [] rfl rfl rfl (c_X10_plus l g q a (uI x 9 S.2.2) S to to xx k (by omega) (by omega) (by omega) hz (by omega) hk0 hk2) (cwV 4 hts gX10_add_X10_plus rfl rfl rfl (by decide +kernel) ⟨Nat.le_of_ble_eq_true rfl, Nat.le_of_ble_eq_true rfl⟩) 10 0 rfl rfl rfl (fun _ _ _ _ _ _ => trivial) (fun _ _ _ => trivial) rfl hl.1 (Nat.le_of_ble_eq_true rfl) rfl dX10_add_5 ⟨Nat.le_of_ble_eq_true rfl, Nat.le_of_ble_eq_true rfl⟩ (fun u_1 H locs hwu_1 hP hD hS => ?_)
  try dsimp only at hwu_1
  have hP : zP g [[mdl q a (uI x 9 (rPl to to xx k S).2.2)], [((a 0), .inl (g.2 1, 88, .inr (.inl (aL (rPl to to xx k S).1))))], [((a 1), .inl (g.2 1, 88, .inr (.inl (aL (rPl to to xx k S).2.1))))]] H := hP
  have hD : zD A [[mdl q a (uI x 9 (rPl to to xx k S).2.2)], [((a 0), .inl (g.2 1, 88, .inr (.inl (aL (rPl to to xx k S).1))))], [((a 1), .inl (g.2 1, 88, .inr (.inl (aL (rPl to to xx k S).2.1))))]] := hD
  obtain ⟨T_2, hT_2⟩ : ∃ T : RS, T = rPl to to xx k S := ⟨_, rfl⟩
  have hP : zP g [[mdl q a (uI x 9 T_2.2.2)], [((a 0), .inl (g.2 1, 88, .inr (.inl (aL T_2.1))))], [((a 1), .inl (g.2 1, 88, .inr (.inl (aL T_2.2.1))))]] H := by rw [hT_2]; exact hP
  have hD : zD A [[mdl q a (uI x 9 T_2.2.2)], [((a 0), .inl (g.2 1, 88, .inr (.inl (aL T_2.1))))], [((a 1), .inl (g.2 1, 88, .inr (.inl (aL T_2.2.1))))]] := by rw [hT_2]; exact hD
  have hZT_2 : T_2.2.2 = 0 ∨ T_2.2.2 = 1 := by rw [hT_2]; exact rPl_01 hz
  have hRT_2_0 : T_2.2.2 = 0 → rk T_2 (to + 1) := by rw [hT_2]; exact rPl_rk (by omega) hk1
  have hRT_2_1 : T_2.2.2 = 0 → rk T_2 (xx + 1) := by rw [hT_2]; exact rPl_rk (by omega) hk3
  refine lv_aload_n hx hb dX10_add_8 rfl (lv_at hl 0 rfl) ?_
  refine lv_iload_n hx hb dX10_add_9 rfl (lv_at hl 1 rfl) ?_
  refine z_iconst hx hb dX10_add_10 rfl ?_
  refine z_iadd hx hb (((to + 1) : Nat) : Int) (by omega) dX10_add_11 ?_
  refine lv_iload_n hx hb dX10_add_12 rfl (lv_at hl 1 rfl) ?_
  refine z_iconst hx hb dX10_add_13 rfl ?_
  refine z_iadd hx hb (((to + 1) : Nat) : Int) (by omega) dX10_add_14 ?_
  refine lv_iload_n hx hb dX10_add_15 rfl (lv_at hl 2 rfl) ?_
  refine z_iconst hx hb dX10_add_16 rfl ?_
  refine z_iadd hx hb (((xx + 1) : Nat) : Int) (by omega) dX10_add_17 ?_
  refine lv_lload_n hx hb dX10_add_18 rfl (lv_at hl 3 rfl) ?_
  refine z_cVv (As := [vI (((to + 1) : Nat) : Int), vI (((to + 1) : Nat) : Int), vI (((xx + 1) : Nat) : Int), vL k]) (rest := []) ⟨hx, hb, hml, hown, hts⟩ hK hP hD hS hA [0, 1, 2] [] rfl rfl rfl (c_X10_plus l g q a (uI x 9 T_2.2.2) T_2 (to + 1) (to + 1) (xx + 1) k (by omega) (by omega) (by omega) hZT_2 (by omega) hRT_2_0 hRT_2_1) (cwV 4 hts gX10_add_X10_plus rfl rfl rfl (by decide +kernel) ⟨Nat.le_of_ble_eq_true rfl, Nat.le_of_ble_eq_true rfl⟩) 10 0 rfl rfl rfl (fun _ _ _ _ _ _ => trivial) (fun _ _ _ => trivial) rfl hl.1 (Nat.le_of_ble_eq_true rfl) rfl dX10_add_19 ⟨Nat.le_of_ble_eq_true rfl, Nat.le_of_ble_eq_true rfl⟩ (fun u_3 H locs hwu_3 hP hD hS => ?_)
  try dsimp only at hwu_3
  have hP : zP g [[mdl q a (uI x 9 (rPl (to + 1) (to + 1) (xx + 1) k T_2).2.2)], [((a 0), .inl (g.2 1, 88, .inr (.inl (aL (rPl (to + 1) (to + 1) (xx + 1) k T_2).1))))], [((a 1), .inl (g.2 1, 88, .inr (.inl (aL (rPl (to + 1) (to + 1) (xx + 1) k T_2).2.1))))]] H := hP
  have hD : zD A [[mdl q a (uI x 9 (rPl (to + 1) (to + 1) (xx + 1) k T_2).2.2)], [((a 0), .inl (g.2 1, 88, .inr (.inl (aL (rPl (to + 1) (to + 1) (xx + 1) k T_2).1))))], [((a 1), .inl (g.2 1, 88, .inr (.inl (aL (rPl (to + 1) (to + 1) (xx + 1) k T_2).2.1))))]] := hD
  obtain ⟨T_4, hT_4⟩ : ∃ T : RS, T = rPl (to + 1) (to + 1) (xx + 1) k T_2 := ⟨_, rfl⟩
  have hP : zP g [[mdl q a (uI x 9 T_4.2.2)], [((a 0), .inl (g.2 1, 88, .inr (.inl (aL T_4.1))))], [((a 1), .inl (g.2 1, 88, .inr (.inl (aL T_4.2.1))))]] H := by rw [hT_4]; exact hP
  have hD : zD A [[mdl q a (uI x 9 T_4.2.2)], [((a 0), .inl (g.2 1, 88, .inr (.inl (aL T_4.1))))], [((a 1), .inl (g.2 1, 88, .inr (.inl (aL T_4.2.1))))]] := by rw [hT_4]; exact hD
  have hZT_4 : T_4.2.2 = 0 ∨ T_4.2.2 = 1 := by rw [hT_4]; exact rPl_01 hZT_2
  exact z_retv () [0, 1, 2] hx hb hr hlocks hK hP hD hS trivial rfl rfl (by rw [hT_4, hT_2]; rfl) (Nat.le_of_ble_eq_true rfl) (Nat.le_of_ble_eq_true rfl) dX10_add_22

set_option maxHeartbeats 4000000 in
set_option maxRecDepth 100000 in
theorem c_X10_turnW (l : Launch) (g : zG) (q : Nat) (a : Nat → Nat) (x : Nat → Int) (S : RS) (xx : Nat) (hb1 : xx < 87) (hz : S.2.2 = 0 ∨ S.2.2 = 1) (hk0 : S.2.2 = 0 → rk S xx) (hk1 : S.2.2 = 0 → rk S (xx + 1)) : zMet l g yX10_turnW wsX10_turnW 4 0 0 [.ref q, vI ((xx : Nat) : Int)] zX0 [[mdl q a (uI x 9 S.2.2)], [((a 0), .inl (g.2 1, 88, .inr (.inl (aL S.1))))], [((a 1), .inl (g.2 1, 88, .inr (.inl (aL S.2.1))))]] (qv g (fun (_ : Unit) => True) (fun (_ : Unit) => [[mdl q a (uI x 9 (rTn xx S).2.2)], [((a 0), .inl (g.2 1, 88, .inr (.inl (aL (rTn xx S).1))))], [((a 1), .inl (g.2 1, 88, .inr (.inl (aL (rTn xx S).2.1))))]])) := by
  refine z_ent (cc := cX10_turnW) (maxL := 6) (ret := none) (by decide) rfl (Nat.le_of_ble_eq_true rfl) ?_
  intro p e s m below meth c A ls hx hb hr hml hown hts hlocks hin0 hA hK hP hD hS hXX hl
  have hown : s.vm.findClass RX10 = some m.cls := hown
  have hin10_ : ∀ w ∈ wsX100, w ∈ wsX10_turnW := zw_in [26, 27, 28, 29, 30, 31, 32, 33, 34, 35, 36, 37, 38, 39, 40, 41, 42, 43, 44, 45, 46, 47, 48, 49, 50, 51] rfl
  have hl : lv_has ls 6 [(0, .ref q), (1, vI ((xx : Nat) : Int))] := hl
  refine lv_aload_n hx hb dX10_turnW_0 rfl (lv_at hl 0 rfl) ?_
  refine z_get hx hb hts hin10_ hown hK hP 0 rfl rfl 22 (by decide) (hts _ (List.mem_of_getElem? (i := 1) rfl)) rfl dX10_turnW_1 ?_
  refine z_toI S.2.2 rfl ?_
  refine z_if_ne (tgt := 56) hx hb (by omega) dX10_turnW_4 (by decide) (fun cq1 => ?_) (fun cq1 => ?_)
  · exact z_retv () [0, 1, 2] hx hb hr hlocks hK hP hD hS trivial rfl rfl (by rw [rTn_1 (by omega)]; rfl) (Nat.le_of_ble_eq_true rfl) (Nat.le_of_ble_eq_true rfl) dX10_turnW_56
  · refine lv_aload_n hx hb dX10_turnW_7 rfl (lv_at hl 0 rfl) ?_
    refine z_get hx hb hts hin10_ hown hK hP 0 rfl rfl 0 (by decide) (hts _ (List.mem_of_getElem? (i := 2) rfl)) rfl dX10_turnW_8 ?_
    refine lv_iload_n hx hb dX10_turnW_11 rfl (lv_at hl 1 rfl) ?_
    refine z_iconst hx hb dX10_turnW_12 rfl ?_
    refine z_iadd hx hb (((xx + 1) : Nat) : Int) (by omega) dX10_turnW_13 ?_
    refine z_lald hx hb hK hP 1 rfl (xx + 1) (by omega) (by omega) (by decide) dX10_turnW_14 ?_
    refine z_lneg hx hb (-(S.1 (xx + 1))) rfl dX10_turnW_15 ?_
    refine z_toL (-(S.1 (xx + 1))) rfl ?_
    refine lv_lstore_n (lv' := [(2, vL (-(S.1 (xx + 1)))), (0, .ref q), (1, vI ((xx : Nat) : Int))]) hx hb dX10_turnW_16 rfl hl (by decide) rfl (fun ls hl => ?_)
    refine lv_aload_n hx hb dX10_turnW_17 rfl (lv_at hl 1 rfl) ?_
    refine z_get hx hb hts hin10_ hown hK hP 0 rfl rfl 1 (by decide) (hts _ (List.mem_of_getElem? (i := 3) rfl)) rfl dX10_turnW_18 ?_
    refine lv_iload_n hx hb dX10_turnW_21 rfl (lv_at hl 2 rfl) ?_
    refine z_iconst hx hb dX10_turnW_22 rfl ?_
    refine z_iadd hx hb (((xx + 1) : Nat) : Int) (by omega) dX10_turnW_23 ?_
    refine z_lald hx hb hK hP 2 rfl (xx + 1) (by omega) (by omega) (by decide) dX10_turnW_24 ?_
    refine lv_lstore (lv' := [(4, vL (S.2.1 (xx + 1))), (2, vL (-(S.1 (xx + 1)))), (0, .ref q), (1, vI ((xx : Nat) : Int))]) hx hb dX10_turnW_25 hl (by decide) rfl (fun ls hl => ?_)
    refine lv_aload_n hx hb dX10_turnW_27 rfl (lv_at hl 2 rfl) ?_
    refine lv_iload_n hx hb dX10_turnW_28 rfl (lv_at hl 3 rfl) ?_
    refine z_iconst hx hb dX10_turnW_29 rfl ?_
    refine z_iadd hx hb (((xx + 1) : Nat) : Int) (by omega) dX10_turnW_30 ?_
    refine lv_iload_n hx hb dX10_turnW_31 rfl (lv_at hl 3 rfl) ?_
    refine lv_iload_n hx hb dX10_turnW_32 rfl (lv_at hl 3 rfl) ?_
    refine z_iconst hx hb dX10_turnW_33 rfl ?_
    refine z_iadd hx hb (((xx + 1) : Nat) : Int) (by omega) dX10_turnW_34 ?_
    refine z_ldc2 hx hb (-1) hown (hts _ (List.mem_of_getElem? (i := 4) rfl)) rfl dX10_turnW_35 ?_
    refine z_cVv (As := [vI (((xx + 1) : Nat) : Int), vI ((xx : Nat) : Int), vI (((xx + 1) : Nat) : Int), vL (-1)]) (rest := []) ⟨hx, hb, hml, hown, hts⟩ hK hP hD hS hA [0, 1, 2] [] rfl rfl rfl (c_X10_plus l g q a (uI x 9 S.2.2) S (xx + 1) xx (xx + 1) (-1) (by omega) (by omega) (by omega) hz (by omega) hk0 hk1) (cwV 4 hts gX10_turnW_X10_plus rfl rfl rfl (by decide +kernel) ⟨Nat.le_of_ble_eq_true rfl, Nat.le_of_ble_eq_true rfl⟩) 10 0 rfl rfl rfl (fun _ _ _ _ _ _ => trivial) (fun _ _ _ => trivial) rfl hl.1 (Nat.le_of_ble_eq_true rfl) rfl dX10_turnW_38 ⟨Nat.le_of_ble_eq_true rfl, Nat.le_of_ble_eq_true rfl⟩ (fun u_2 H locs hwu_2 hP hD hS => ?_)
    try dsimp only at hwu_2
    have hP : zP g [[mdl q a (uI x 9 (rPl (xx + 1) xx (xx + 1) (-1) S).2.2)], [((a 0), .inl (g.2 1, 88, .inr (.inl (aL (rPl (xx + 1) xx (xx + 1) (-1) S).1))))], [((a 1), .inl (g.2 1, 88, .inr (.inl (aL (rPl (xx + 1) xx (xx + 1) (-1) S).2.1))))]] H := hP
    have hD : zD A [[mdl q a (uI x 9 (rPl (xx + 1) xx (xx + 1) (-1) S).2.2)], [((a 0), .inl (g.2 1, 88, .inr (.inl (aL (rPl (xx + 1) xx (xx + 1) (-1) S).1))))], [((a 1), .inl (g.2 1, 88, .inr (.inl (aL (rPl (xx + 1) xx (xx + 1) (-1) S).2.1))))]] := hD
    obtain ⟨T_3, hT_3⟩ : ∃ T : RS, T = rPl (xx + 1) xx (xx + 1) (-1) S := ⟨_, rfl⟩
    have hP : zP g [[mdl q a (uI x 9 T_3.2.2)], [((a 0), .inl (g.2 1, 88, .inr (.inl (aL T_3.1))))], [((a 1), .inl (g.2 1, 88, .inr (.inl (aL T_3.2.1))))]] H := by rw [hT_3]; exact hP
    have hD : zD A [[mdl q a (uI x 9 T_3.2.2)], [((a 0), .inl (g.2 1, 88, .inr (.inl (aL T_3.1))))], [((a 1), .inl (g.2 1, 88, .inr (.inl (aL T_3.2.1))))]] := by rw [hT_3]; exact hD
    have hZT_3 : T_3.2.2 = 0 ∨ T_3.2.2 = 1 := by rw [hT_3]; exact rPl_01 hz
    refine lv_aload_n hx hb dX10_turnW_41 rfl (lv_at hl 2 rfl) ?_
    refine z_get hx hb hts hin10_ hown hK hP 0 rfl rfl 0 (by decide) (hts _ (List.mem_of_getElem? (i := 2) rfl)) rfl dX10_turnW_42 ?_
    refine lv_iload_n hx hb dX10_turnW_45 rfl (lv_at hl 3 rfl) ?_
    refine lv_lload_n hx hb dX10_turnW_46 rfl (lv_at hl 1 rfl) ?_
    refine z_last hx hb hK hP 1 hD hS rfl xx (by omega) (by omega) (by decide) dX10_turnW_47 [[mdl q a (uI x 9 T_3.2.2)], [((a 0), .inl (g.2 1, 88, .inr (.inl (aL (uI T_3.1 xx (-(S.1 (xx + 1))))))))], [((a 1), .inl (g.2 1, 88, .inr (.inl (aL T_3.2.1))))]] rfl (fun H locs hP hD hS => ?_)
    refine lv_aload_n hx hb dX10_turnW_48 rfl (lv_at hl 2 rfl) ?_
    refine z_get hx hb hts hin10_ hown hK hP 0 rfl rfl 1 (by decide) (hts _ (List.mem_of_getElem? (i := 3) rfl)) rfl dX10_turnW_49 ?_
    refine lv_iload_n hx hb dX10_turnW_52 rfl (lv_at hl 3 rfl) ?_
    refine lv_lload hx hb dX10_turnW_53 (lv_at hl 0 rfl) ?_
    refine z_last hx hb hK hP 2 hD hS rfl xx (by omega) (by omega) (by decide) dX10_turnW_55 [[mdl q a (uI x 9 T_3.2.2)], [((a 0), .inl (g.2 1, 88, .inr (.inl (aL (uI T_3.1 xx (-(S.1 (xx + 1))))))))], [((a 1), .inl (g.2 1, 88, .inr (.inl (aL (uI T_3.2.1 xx (S.2.1 (xx + 1)))))))]] rfl (fun H locs hP hD hS => ?_)
    exact z_retv () [0, 1, 2] hx hb hr hlocks hK hP hD hS trivial rfl rfl (by rw [rTn_0 (by omega), hT_3]; rfl) (Nat.le_of_ble_eq_true rfl) (Nat.le_of_ble_eq_true rfl) dX10_turnW_56
