set_option maxHeartbeats 4000000 in
set_option maxRecDepth 100000 in
theorem c_X6_push_null (l : Launch) (g : zG) (q : Nat) (x : Nat → Nat) (t : Int) (n : Nat) (fa : Nat → Int) (fb_ : Nat → Int) (fp : Nat → Int) (z : Int) (a : Int) (b : Int) (hs : sok t n fp) (hz : z = 0 ∨ z = 1) (ht : t = 0) : zMet l g yX6_push wsX6_push 0 0 0 [.ref q, vI z, vI a, vI b] zX0 [(storeW g q x t n fa fb_ fp)] (qi g (fun (_ : Unit) => (-2000000011)) (fun (_ : Unit) => True) (fun (_ : Unit) => [(storeW g q x t n fa fb_ fp)])) := by
  obtain ⟨hs1, hs2, hs3⟩ := id hs
  refine z_ent (cc := cX6_push) (maxL := 4) (ret := (some .int)) (by decide) rfl (Nat.le_of_ble_eq_true rfl) ?_
  intro p e s m below meth c A ls hx hb hr hml hown hts hlocks hin0 hA hK hP hD hS hXX hl
  have hown : s.vm.findClass RX6 = some m.cls := hown
  have hin6_ : ∀ w ∈ wsX60, w ∈ wsX6_push := zw_in [8, 9, 10, 11, 12] rfl
  have hl : lv_has ls 4 [(0, .ref q), (1, vI z), (2, vI a), (3, vI b)] := hl
  have hP : zP g [[(q, .inr (6, [vI t, vI ((n : Nat) : Int), .ref (x 0), .ref (x 1), .ref (x 2)]))], [((x 0), .inl (g.2 0, 8, .inl (aI fa)))], [((x 1), .inl (g.2 0, 8, .inl (aI fb_)))], [((x 2), .inl (g.2 2, 8, .inl (aI fp)))]] s.heap := hP
  have hD : zD A [[(q, .inr (6, [vI t, vI ((n : Nat) : Int), .ref (x 0), .ref (x 1), .ref (x 2)]))], [((x 0), .inl (g.2 0, 8, .inl (aI fa)))], [((x 1), .inl (g.2 0, 8, .inl (aI fb_)))], [((x 2), .inl (g.2 2, 8, .inl (aI fp)))]] := hD
  refine lv_aload_n hx hb dX6_push_0 rfl (lv_at hl 0 rfl) ?_
  refine z_get hx hb hts hin6_ hown hK hP 0 rfl rfl 0 (by decide) (hts _ (List.mem_of_getElem? (i := 1) rfl)) rfl dX6_push_1 ?_
  refine z_if_ne (tgt := 10) hx hb (by omega) dX6_push_4 (by decide) (fun c1 => False.elim (by omega)) (fun c1 => ?_)
  refine z_ldc hx hb (-2000000011) hown (hts _ (List.mem_of_getElem? (i := 2) rfl)) rfl dX6_push_7 ?_
  have hP : zP g [(storeW g q x t n fa fb_ fp)] s.heap := hP
  have hD : zD A [(storeW g q x t n fa fb_ fp)] := hD
  exact z_reti () [0] hx hb hr rfl hlocks hK hP hD hS (rfl) trivial rfl rfl (rfl) (Nat.le_of_ble_eq_true rfl) (Nat.le_of_ble_eq_true rfl) dX6_push_9

set_option maxHeartbeats 4000000 in
set_option maxRecDepth 100000 in
theorem c_X6_push_room (l : Launch) (g : zG) (q : Nat) (x : Nat → Nat) (t : Int) (n : Nat) (fa : Nat → Int) (fb_ : Nat → Int) (fp : Nat → Int) (z : Int) (a : Int) (b : Int) (hs : sok t n fp) (hz : z = 0 ∨ z = 1) (ht : t = 1) (hn : n = 8) : zMet l g yX6_push wsX6_push 0 0 0 [.ref q, vI z, vI a, vI b] zX0 [(storeW g q x t n fa fb_ fp)] (qi g (fun (_ : Unit) => (-2000000014)) (fun (_ : Unit) => True) (fun (_ : Unit) => [(storeW g q x t n fa fb_ fp)])) := by
  obtain ⟨hs1, hs2, hs3⟩ := id hs
  refine z_ent (cc := cX6_push) (maxL := 4) (ret := (some .int)) (by decide) rfl (Nat.le_of_ble_eq_true rfl) ?_
  intro p e s m below meth c A ls hx hb hr hml hown hts hlocks hin0 hA hK hP hD hS hXX hl
  have hown : s.vm.findClass RX6 = some m.cls := hown
  have hin6_ : ∀ w ∈ wsX60, w ∈ wsX6_push := zw_in [8, 9, 10, 11, 12] rfl
  have hl : lv_has ls 4 [(0, .ref q), (1, vI z), (2, vI a), (3, vI b)] := hl
  have hP : zP g [[(q, .inr (6, [vI t, vI ((n : Nat) : Int), .ref (x 0), .ref (x 1), .ref (x 2)]))], [((x 0), .inl (g.2 0, 8, .inl (aI fa)))], [((x 1), .inl (g.2 0, 8, .inl (aI fb_)))], [((x 2), .inl (g.2 2, 8, .inl (aI fp)))]] s.heap := hP
  have hD : zD A [[(q, .inr (6, [vI t, vI ((n : Nat) : Int), .ref (x 0), .ref (x 1), .ref (x 2)]))], [((x 0), .inl (g.2 0, 8, .inl (aI fa)))], [((x 1), .inl (g.2 0, 8, .inl (aI fb_)))], [((x 2), .inl (g.2 2, 8, .inl (aI fp)))]] := hD
  refine lv_aload_n hx hb dX6_push_0 rfl (lv_at hl 0 rfl) ?_
  refine z_get hx hb hts hin6_ hown hK hP 0 rfl rfl 0 (by decide) (hts _ (List.mem_of_getElem? (i := 1) rfl)) rfl dX6_push_1 ?_
  refine z_if_ne (tgt := 10) hx hb (by omega) dX6_push_4 (by decide) (fun c1 => ?_) (fun c1 => False.elim (by omega))
  refine lv_aload_n hx hb dX6_push_10 rfl (lv_at hl 0 rfl) ?_
  refine z_get hx hb hts hin6_ hown hK hP 0 rfl rfl 1 (by decide) (hts _ (List.mem_of_getElem? (i := 3) rfl)) rfl dX6_push_11 ?_
  refine z_bipush hx hb 8 dX6_push_14 rfl ?_
  refine z_icmp_lt (tgt := 22) hx hb (by omega) (by decide) dX6_push_16 (by decide) (fun c2 => False.elim (by omega)) (fun c2 => ?_)
  refine z_ldc hx hb (-2000000014) hown (hts _ (List.mem_of_getElem? (i := 4) rfl)) rfl dX6_push_19 ?_
  have hP : zP g [(storeW g q x t n fa fb_ fp)] s.heap := hP
  have hD : zD A [(storeW g q x t n fa fb_ fp)] := hD
  exact z_reti () [0] hx hb hr rfl hlocks hK hP hD hS (rfl) trivial rfl rfl (rfl) (Nat.le_of_ble_eq_true rfl) (Nat.le_of_ble_eq_true rfl) dX6_push_21

set_option maxHeartbeats 4000000 in
set_option maxRecDepth 100000 in
theorem c_X6_push_ok (l : Launch) (g : zG) (q : Nat) (x : Nat → Nat) (t : Int) (n : Nat) (fa : Nat → Int) (fb_ : Nat → Int) (fp : Nat → Int) (z : Int) (a : Int) (b : Int) (hs : sok t n fp) (hz : z = 0 ∨ z = 1) (ht : t = 1) (hn : n < 8) : zMet l g yX6_push wsX6_push 0 0 0 [.ref q, vI z, vI a, vI b] zX0 [(storeW g q x t n fa fb_ fp)] (qi g (fun (_ : Unit) => (((n + 1) : Nat) : Int)) (fun (_ : Unit) => True) (fun (_ : Unit) => [(storeW g q x t (n + 1) (uI fa n a) (uI fb_ n (if z = 0 then 0 else b)) (uI fp n z))])) := by
  obtain ⟨hs1, hs2, hs3⟩ := id hs
  refine z_ent (cc := cX6_push) (maxL := 4) (ret := (some .int)) (by decide) rfl (Nat.le_of_ble_eq_true rfl) ?_
  intro p e s m below meth c A ls hx hb hr hml hown hts hlocks hin0 hA hK hP hD hS hXX hl
  have hown : s.vm.findClass RX6 = some m.cls := hown
  have hin6_ : ∀ w ∈ wsX60, w ∈ wsX6_push := zw_in [8, 9, 10, 11, 12] rfl
  have hl : lv_has ls 4 [(0, .ref q), (1, vI z), (2, vI a), (3, vI b)] := hl
  have hP : zP g [[(q, .inr (6, [vI t, vI ((n : Nat) : Int), .ref (x 0), .ref (x 1), .ref (x 2)]))], [((x 0), .inl (g.2 0, 8, .inl (aI fa)))], [((x 1), .inl (g.2 0, 8, .inl (aI fb_)))], [((x 2), .inl (g.2 2, 8, .inl (aI fp)))]] s.heap := hP
  have hD : zD A [[(q, .inr (6, [vI t, vI ((n : Nat) : Int), .ref (x 0), .ref (x 1), .ref (x 2)]))], [((x 0), .inl (g.2 0, 8, .inl (aI fa)))], [((x 1), .inl (g.2 0, 8, .inl (aI fb_)))], [((x 2), .inl (g.2 2, 8, .inl (aI fp)))]] := hD
  refine lv_aload_n hx hb dX6_push_0 rfl (lv_at hl 0 rfl) ?_
  refine z_get hx hb hts hin6_ hown hK hP 0 rfl rfl 0 (by decide) (hts _ (List.mem_of_getElem? (i := 1) rfl)) rfl dX6_push_1 ?_
  refine z_if_ne (tgt := 10) hx hb (by omega) dX6_push_4 (by decide) (fun c1 => ?_) (fun c1 => False.elim (by omega))
  refine lv_aload_n hx hb dX6_push_10 rfl (lv_at hl 0 rfl) ?_
  refine z_get hx hb hts hin6_ hown hK hP 0 rfl rfl 1 (by decide) (hts _ (List.mem_of_getElem? (i := 3) rfl)) rfl dX6_push_11 ?_
  refine z_bipush hx hb 8 dX6_push_14 rfl ?_
  refine z_icmp_lt (tgt := 22) hx hb (by omega) (by decide) dX6_push_16 (by decide) (fun c2 => ?_) (fun c2 => False.elim (by omega))
  refine lv_aload_n hx hb dX6_push_22 rfl (lv_at hl 0 rfl) ?_
  refine z_get hx hb hts hin6_ hown hK hP 0 rfl rfl 2 (by decide) (hts _ (List.mem_of_getElem? (i := 5) rfl)) rfl dX6_push_23 ?_
  refine lv_aload_n hx hb dX6_push_26 rfl (lv_at hl 0 rfl) ?_
  refine z_get hx hb hts hin6_ hown hK hP 0 rfl rfl 1 (by decide) (hts _ (List.mem_of_getElem? (i := 3) rfl)) rfl dX6_push_27 ?_
  refine lv_iload_n hx hb dX6_push_30 rfl (lv_at hl 2 rfl) ?_
  refine z_iast hx hb hK hP 1 hD hS rfl n (by omega) (by omega) (by decide) dX6_push_31 [[(q, .inr (6, [vI t, vI ((n : Nat) : Int), .ref (x 0), .ref (x 1), .ref (x 2)]))], [((x 0), .inl (g.2 0, 8, .inl (aI (uI fa n a))))], [((x 1), .inl (g.2 0, 8, .inl (aI fb_)))], [((x 2), .inl (g.2 2, 8, .inl (aI fp)))]] rfl (fun H locs hP hD hS => ?_)
  refine lv_aload_n hx hb dX6_push_32 rfl (lv_at hl 0 rfl) ?_
  refine z_get hx hb hts hin6_ hown hK hP 0 rfl rfl 3 (by decide) (hts _ (List.mem_of_getElem? (i := 6) rfl)) rfl dX6_push_33 ?_
  refine lv_aload_n hx hb dX6_push_36 rfl (lv_at hl 0 rfl) ?_
  refine z_get hx hb hts hin6_ hown hK hP 0 rfl rfl 1 (by decide) (hts _ (List.mem_of_getElem? (i := 3) rfl)) rfl dX6_push_37 ?_
  have j49 : W p l e (zRm 0 0 0) s m ([.ref q, vI z, vI a, vI b] : List Value).toArray below meth c H locs (0) (0) (MQ below ((qi g (fun (_ : Unit) => (((n + 1) : Nat) : Int)) (fun (_ : Unit) => True) (fun (_ : Unit) => [(storeW g q x t (n + 1) (uI fa n a) (uI fb_ n (if z = 0 then 0 else b)) (uI fp n z))])) A) ([.ref q, vI z, vI a, vI b] : List Value).toArray s 0 0 A) (F0 m 49 ls [vI (if z = 0 then 0 else b), vI ((n : Nat) : Int), .ref (x 1)]) := by
    refine z_iast hx hb hK hP 2 hD hS rfl n (by omega) (by omega) (by decide) dX6_push_49 [[(q, .inr (6, [vI t, vI ((n : Nat) : Int), .ref (x 0), .ref (x 1), .ref (x 2)]))], [((x 0), .inl (g.2 0, 8, .inl (aI (uI fa n a))))], [((x 1), .inl (g.2 0, 8, .inl (aI (uI fb_ n (if z = 0 then 0 else b)))))], [((x 2), .inl (g.2 2, 8, .inl (aI fp)))]] rfl (fun H locs hP hD hS => ?_)
    refine lv_aload_n hx hb dX6_push_50 rfl (lv_at hl 0 rfl) ?_
    refine z_get hx hb hts hin6_ hown hK hP 0 rfl rfl 4 (by decide) (hts _ (List.mem_of_getElem? (i := 7) rfl)) rfl dX6_push_51 ?_
    refine lv_aload_n hx hb dX6_push_54 rfl (lv_at hl 0 rfl) ?_
    refine z_get hx hb hts hin6_ hown hK hP 0 rfl rfl 1 (by decide) (hts _ (List.mem_of_getElem? (i := 3) rfl)) rfl dX6_push_55 ?_
    refine lv_iload_n hx hb dX6_push_58 rfl (lv_at hl 1 rfl) ?_
    refine z_zast hx hb hK hP 3 hD hS rfl n (by omega) (by omega) (by decide) (by omega) dX6_push_59 [[(q, .inr (6, [vI t, vI ((n : Nat) : Int), .ref (x 0), .ref (x 1), .ref (x 2)]))], [((x 0), .inl (g.2 0, 8, .inl (aI (uI fa n a))))], [((x 1), .inl (g.2 0, 8, .inl (aI (uI fb_ n (if z = 0 then 0 else b)))))], [((x 2), .inl (g.2 2, 8, .inl (aI (uI fp n z))))]] rfl (fun H locs hP hD hS => ?_)
    refine lv_aload_n hx hb dX6_push_60 rfl (lv_at hl 0 rfl) ?_
    refine lv_dup hx hb dX6_push_61 rfl ?_
    refine z_get hx hb hts hin6_ hown hK hP 0 rfl rfl 1 (by decide) (hts _ (List.mem_of_getElem? (i := 3) rfl)) rfl dX6_push_62 ?_
    refine z_iconst hx hb dX6_push_65 rfl ?_
    refine z_iadd hx hb (((n + 1) : Nat) : Int) (by omega) dX6_push_66 ?_
    refine z_put hx hb hts hin6_ tyX6 tyX6_ok nmX6 hown hK hP hD hS 0 rfl rfl 1 (by decide) (hts _ (List.mem_of_getElem? (i := 3) rfl)) rfl rfl rfl (Nat.le_of_ble_eq_true rfl) dX6_push_67 [[(q, .inr (6, [vI t, vI (((n + 1) : Nat) : Int), .ref (x 0), .ref (x 1), .ref (x 2)]))], [((x 0), .inl (g.2 0, 8, .inl (aI (uI fa n a))))], [((x 1), .inl (g.2 0, 8, .inl (aI (uI fb_ n (if z = 0 then 0 else b)))))], [((x 2), .inl (g.2 2, 8, .inl (aI (uI fp n z))))]] rfl (fun H locs hP hD hS => ?_)
    refine lv_aload_n hx hb dX6_push_70 rfl (lv_at hl 0 rfl) ?_
    refine z_get hx hb hts hin6_ hown hK hP 0 rfl rfl 1 (by decide) (hts _ (List.mem_of_getElem? (i := 3) rfl)) rfl dX6_push_71 ?_
    have hP : zP g [(storeW g q x t (n + 1) (uI fa n a) (uI fb_ n (if z = 0 then 0 else b)) (uI fp n z))] H := hP
    have hD : zD A [(storeW g q x t (n + 1) (uI fa n a) (uI fb_ n (if z = 0 then 0 else b)) (uI fp n z))] := hD
    exact z_reti () [0] hx hb hr rfl hlocks hK hP hD hS (rfl) trivial rfl rfl (rfl) (Nat.le_of_ble_eq_true rfl) (Nat.le_of_ble_eq_true rfl) dX6_push_74
  refine lv_iload_n hx hb dX6_push_40 rfl (lv_at hl 1 rfl) ?_
  refine z_if_eq (tgt := 48) hx hb (by omega) dX6_push_41 (by decide) (fun c3 => ?_) (fun c3 => ?_)
  · refine z_iconst hx hb dX6_push_48 rfl ?_
    refine z_toI (if z = 0 then 0 else b) (by split <;> omega) ?_
    exact j49
  · refine lv_iload_n hx hb dX6_push_44 rfl (lv_at hl 3 rfl) ?_
    refine lv_goto (tgt := 49) hx hb dX6_push_45 (by decide) ?_
    refine z_toI (if z = 0 then 0 else b) (by split <;> omega) ?_
    exact j49

set_option maxHeartbeats 4000000 in
set_option maxRecDepth 100000 in
theorem c_X6_pop_null (l : Launch) (g : zG) (q : Nat) (x : Nat → Nat) (t : Int) (n : Nat) (fa : Nat → Int) (fb_ : Nat → Int) (fp : Nat → Int) (z : Int) (hs : sok t n fp) (hz : z = 0 ∨ z = 1) (ht : t = 0) : zMet l g yX6_pop wsX6_pop 0 0 0 [.ref q, vI z] zX0 [(storeW g q x t n fa fb_ fp)] (qi g (fun (_ : Unit) => (-2000000011)) (fun (_ : Unit) => True) (fun (_ : Unit) => [(storeW g q x t n fa fb_ fp)])) := by
  obtain ⟨hs1, hs2, hs3⟩ := id hs
  refine z_ent (cc := cX6_pop) (maxL := 4) (ret := (some .int)) (by decide) rfl (Nat.le_of_ble_eq_true rfl) ?_
  intro p e s m below meth c A ls hx hb hr hml hown hts hlocks hin0 hA hK hP hD hS hXX hl
  have hown : s.vm.findClass RX6 = some m.cls := hown
  have hin6_ : ∀ w ∈ wsX60, w ∈ wsX6_pop := zw_in [9, 10, 11, 12, 13] rfl
  have hl : lv_has ls 4 [(0, .ref q), (1, vI z)] := hl
  have hP : zP g [[(q, .inr (6, [vI t, vI ((n : Nat) : Int), .ref (x 0), .ref (x 1), .ref (x 2)]))], [((x 0), .inl (g.2 0, 8, .inl (aI fa)))], [((x 1), .inl (g.2 0, 8, .inl (aI fb_)))], [((x 2), .inl (g.2 2, 8, .inl (aI fp)))]] s.heap := hP
  have hD : zD A [[(q, .inr (6, [vI t, vI ((n : Nat) : Int), .ref (x 0), .ref (x 1), .ref (x 2)]))], [((x 0), .inl (g.2 0, 8, .inl (aI fa)))], [((x 1), .inl (g.2 0, 8, .inl (aI fb_)))], [((x 2), .inl (g.2 2, 8, .inl (aI fp)))]] := hD
  refine lv_aload_n hx hb dX6_pop_0 rfl (lv_at hl 0 rfl) ?_
  refine z_get hx hb hts hin6_ hown hK hP 0 rfl rfl 0 (by decide) (hts _ (List.mem_of_getElem? (i := 1) rfl)) rfl dX6_pop_1 ?_
  refine z_if_ne (tgt := 10) hx hb (by omega) dX6_pop_4 (by decide) (fun c1 => False.elim (by omega)) (fun c1 => ?_)
  refine z_ldc hx hb (-2000000011) hown (hts _ (List.mem_of_getElem? (i := 2) rfl)) rfl dX6_pop_7 ?_
  have hP : zP g [(storeW g q x t n fa fb_ fp)] s.heap := hP
  have hD : zD A [(storeW g q x t n fa fb_ fp)] := hD
  exact z_reti () [0] hx hb hr rfl hlocks hK hP hD hS (by first | rfl | (rw [if_pos (by omega)]) | (rw [if_neg (by omega)])) trivial rfl rfl (rfl) (Nat.le_of_ble_eq_true rfl) (Nat.le_of_ble_eq_true rfl) dX6_pop_9

set_option maxHeartbeats 4000000 in
set_option maxRecDepth 100000 in
theorem c_X6_pop_empty (l : Launch) (g : zG) (q : Nat) (x : Nat → Nat) (t : Int) (n : Nat) (fa : Nat → Int) (fb_ : Nat → Int) (fp : Nat → Int) (z : Int) (hs : sok t n fp) (hz : z = 0 ∨ z = 1) (ht : t = 1) (hn : n = 0) : zMet l g yX6_pop wsX6_pop 0 0 0 [.ref q, vI z] zX0 [(storeW g q x t n fa fb_ fp)] (qi g (fun (_ : Unit) => (-2000000012)) (fun (_ : Unit) => True) (fun (_ : Unit) => [(storeW g q x t n fa fb_ fp)])) := by
  obtain ⟨hs1, hs2, hs3⟩ := id hs
  refine z_ent (cc := cX6_pop) (maxL := 4) (ret := (some .int)) (by decide) rfl (Nat.le_of_ble_eq_true rfl) ?_
  intro p e s m below meth c A ls hx hb hr hml hown hts hlocks hin0 hA hK hP hD hS hXX hl
  have hown : s.vm.findClass RX6 = some m.cls := hown
  have hin6_ : ∀ w ∈ wsX60, w ∈ wsX6_pop := zw_in [9, 10, 11, 12, 13] rfl
  have hl : lv_has ls 4 [(0, .ref q), (1, vI z)] := hl
  have hP : zP g [[(q, .inr (6, [vI t, vI ((n : Nat) : Int), .ref (x 0), .ref (x 1), .ref (x 2)]))], [((x 0), .inl (g.2 0, 8, .inl (aI fa)))], [((x 1), .inl (g.2 0, 8, .inl (aI fb_)))], [((x 2), .inl (g.2 2, 8, .inl (aI fp)))]] s.heap := hP
  have hD : zD A [[(q, .inr (6, [vI t, vI ((n : Nat) : Int), .ref (x 0), .ref (x 1), .ref (x 2)]))], [((x 0), .inl (g.2 0, 8, .inl (aI fa)))], [((x 1), .inl (g.2 0, 8, .inl (aI fb_)))], [((x 2), .inl (g.2 2, 8, .inl (aI fp)))]] := hD
  refine lv_aload_n hx hb dX6_pop_0 rfl (lv_at hl 0 rfl) ?_
  refine z_get hx hb hts hin6_ hown hK hP 0 rfl rfl 0 (by decide) (hts _ (List.mem_of_getElem? (i := 1) rfl)) rfl dX6_pop_1 ?_
  refine z_if_ne (tgt := 10) hx hb (by omega) dX6_pop_4 (by decide) (fun c1 => ?_) (fun c1 => False.elim (by omega))
  refine lv_aload_n hx hb dX6_pop_10 rfl (lv_at hl 0 rfl) ?_
  refine z_get hx hb hts hin6_ hown hK hP 0 rfl rfl 1 (by decide) (hts _ (List.mem_of_getElem? (i := 3) rfl)) rfl dX6_pop_11 ?_
  refine z_iconst hx hb dX6_pop_14 rfl ?_
  refine z_icmp_ge (tgt := 21) hx hb (by omega) (by decide) dX6_pop_15 (by decide) (fun c2 => False.elim (by omega)) (fun c2 => ?_)
  refine z_ldc hx hb (-2000000012) hown (hts _ (List.mem_of_getElem? (i := 4) rfl)) rfl dX6_pop_18 ?_
  have hP : zP g [(storeW g q x t n fa fb_ fp)] s.heap := hP
  have hD : zD A [(storeW g q x t n fa fb_ fp)] := hD
  exact z_reti () [0] hx hb hr rfl hlocks hK hP hD hS (by first | rfl | (rw [if_pos (by omega)]) | (rw [if_neg (by omega)])) trivial rfl rfl (rfl) (Nat.le_of_ble_eq_true rfl) (Nat.le_of_ble_eq_true rfl) dX6_pop_20

set_option maxHeartbeats 4000000 in
set_option maxRecDepth 100000 in
theorem c_X6_pop_cast (l : Launch) (g : zG) (q : Nat) (x : Nat → Nat) (t : Int) (n : Nat) (fa : Nat → Int) (fb_ : Nat → Int) (fp : Nat → Int) (z : Int) (hs : sok t n fp) (hz : z = 0 ∨ z = 1) (ht : t = 1) (hn : 1 ≤ n) (hc : fp (n - 1) ≠ z) : zMet l g yX6_pop wsX6_pop 0 0 0 [.ref q, vI z] zX0 [(storeW g q x t n fa fb_ fp)] (qi g (fun (_ : Unit) => (-2000000013)) (fun (_ : Unit) => True) (fun (_ : Unit) => [(storeW g q x t n fa fb_ fp)])) := by
  obtain ⟨hs1, hs2, hs3⟩ := id hs
  refine z_ent (cc := cX6_pop) (maxL := 4) (ret := (some .int)) (by decide) rfl (Nat.le_of_ble_eq_true rfl) ?_
  intro p e s m below meth c A ls hx hb hr hml hown hts hlocks hin0 hA hK hP hD hS hXX hl
  have hown : s.vm.findClass RX6 = some m.cls := hown
  have hin6_ : ∀ w ∈ wsX60, w ∈ wsX6_pop := zw_in [9, 10, 11, 12, 13] rfl
  have hl : lv_has ls 4 [(0, .ref q), (1, vI z)] := hl
  have hP : zP g [[(q, .inr (6, [vI t, vI ((n : Nat) : Int), .ref (x 0), .ref (x 1), .ref (x 2)]))], [((x 0), .inl (g.2 0, 8, .inl (aI fa)))], [((x 1), .inl (g.2 0, 8, .inl (aI fb_)))], [((x 2), .inl (g.2 2, 8, .inl (aI fp)))]] s.heap := hP
  have hD : zD A [[(q, .inr (6, [vI t, vI ((n : Nat) : Int), .ref (x 0), .ref (x 1), .ref (x 2)]))], [((x 0), .inl (g.2 0, 8, .inl (aI fa)))], [((x 1), .inl (g.2 0, 8, .inl (aI fb_)))], [((x 2), .inl (g.2 2, 8, .inl (aI fp)))]] := hD
  refine lv_aload_n hx hb dX6_pop_0 rfl (lv_at hl 0 rfl) ?_
  refine z_get hx hb hts hin6_ hown hK hP 0 rfl rfl 0 (by decide) (hts _ (List.mem_of_getElem? (i := 1) rfl)) rfl dX6_pop_1 ?_
  refine z_if_ne (tgt := 10) hx hb (by omega) dX6_pop_4 (by decide) (fun c1 => ?_) (fun c1 => False.elim (by omega))
  refine lv_aload_n hx hb dX6_pop_10 rfl (lv_at hl 0 rfl) ?_
  refine z_get hx hb hts hin6_ hown hK hP 0 rfl rfl 1 (by decide) (hts _ (List.mem_of_getElem? (i := 3) rfl)) rfl dX6_pop_11 ?_
  refine z_iconst hx hb dX6_pop_14 rfl ?_
  refine z_icmp_ge (tgt := 21) hx hb (by omega) (by decide) dX6_pop_15 (by decide) (fun c2 => ?_) (fun c2 => False.elim (by omega))
  refine lv_aload_n hx hb dX6_pop_21 rfl (lv_at hl 0 rfl) ?_
  refine z_get hx hb hts hin6_ hown hK hP 0 rfl rfl 4 (by decide) (hts _ (List.mem_of_getElem? (i := 5) rfl)) rfl dX6_pop_22 ?_
  refine lv_aload_n hx hb dX6_pop_25 rfl (lv_at hl 0 rfl) ?_
  refine z_get hx hb hts hin6_ hown hK hP 0 rfl rfl 1 (by decide) (hts _ (List.mem_of_getElem? (i := 3) rfl)) rfl dX6_pop_26 ?_
  refine z_iconst hx hb dX6_pop_29 rfl ?_
  refine z_isub hx hb (((n : Nat) : Int) - 1) rfl dX6_pop_30 ?_
  refine z_toI (((n - 1) : Nat) : Int) (by omega) ?_
  have hp := hs3 (n - 1)
  refine z_zald hx hb hK hP 3 rfl (n - 1) (by omega) (by omega) (by decide) dX6_pop_31 ?_
  refine lv_iload_n hx hb dX6_pop_32 rfl (lv_at hl 1 rfl) ?_
  refine z_icmp_eq (tgt := 39) hx hb (by omega) (by omega) dX6_pop_33 (by decide) (fun c3 => False.elim (by omega)) (fun c3 => ?_)
  refine z_ldc hx hb (-2000000013) hown (hts _ (List.mem_of_getElem? (i := 6) rfl)) rfl dX6_pop_36 ?_
  have hP : zP g [(storeW g q x t n fa fb_ fp)] s.heap := hP
  have hD : zD A [(storeW g q x t n fa fb_ fp)] := hD
  exact z_reti () [0] hx hb hr rfl hlocks hK hP hD hS (by first | rfl | (rw [if_pos (by omega)]) | (rw [if_neg (by omega)])) trivial rfl rfl (rfl) (Nat.le_of_ble_eq_true rfl) (Nat.le_of_ble_eq_true rfl) dX6_pop_38

set_option maxHeartbeats 4000000 in
set_option maxRecDepth 100000 in
theorem c_X6_pop_ok (l : Launch) (g : zG) (q : Nat) (x : Nat → Nat) (t : Int) (n : Nat) (fa : Nat → Int) (fb_ : Nat → Int) (fp : Nat → Int) (z : Int) (hs : sok t n fp) (hz : z = 0 ∨ z = 1) (ht : t = 1) (hn : 1 ≤ n) (hc : fp (n - 1) = z) : zMet l g yX6_pop wsX6_pop 0 0 0 [.ref q, vI z] zX0 [(storeW g q x t n fa fb_ fp)] (qi g (fun (_ : Unit) => (if z = 0 then fa (n - 1) else fa (n - 1) * fa (n - 1) - fa (n - 1) * fb_ (n - 1) + fb_ (n - 1) * fb_ (n - 1))) (fun (_ : Unit) => True) (fun (_ : Unit) => [(storeW g q x t (n - 1) fa fb_ fp)])) := by
  obtain ⟨hs1, hs2, hs3⟩ := id hs
  refine z_ent (cc := cX6_pop) (maxL := 4) (ret := (some .int)) (by decide) rfl (Nat.le_of_ble_eq_true rfl) ?_
  intro p e s m below meth c A ls hx hb hr hml hown hts hlocks hin0 hA hK hP hD hS hXX hl
  have hown : s.vm.findClass RX6 = some m.cls := hown
  have hin6_ : ∀ w ∈ wsX60, w ∈ wsX6_pop := zw_in [9, 10, 11, 12, 13] rfl
  have hl : lv_has ls 4 [(0, .ref q), (1, vI z)] := hl
  have hP : zP g [[(q, .inr (6, [vI t, vI ((n : Nat) : Int), .ref (x 0), .ref (x 1), .ref (x 2)]))], [((x 0), .inl (g.2 0, 8, .inl (aI fa)))], [((x 1), .inl (g.2 0, 8, .inl (aI fb_)))], [((x 2), .inl (g.2 2, 8, .inl (aI fp)))]] s.heap := hP
  have hD : zD A [[(q, .inr (6, [vI t, vI ((n : Nat) : Int), .ref (x 0), .ref (x 1), .ref (x 2)]))], [((x 0), .inl (g.2 0, 8, .inl (aI fa)))], [((x 1), .inl (g.2 0, 8, .inl (aI fb_)))], [((x 2), .inl (g.2 2, 8, .inl (aI fp)))]] := hD
  refine lv_aload_n hx hb dX6_pop_0 rfl (lv_at hl 0 rfl) ?_
  refine z_get hx hb hts hin6_ hown hK hP 0 rfl rfl 0 (by decide) (hts _ (List.mem_of_getElem? (i := 1) rfl)) rfl dX6_pop_1 ?_
  refine z_if_ne (tgt := 10) hx hb (by omega) dX6_pop_4 (by decide) (fun c1 => ?_) (fun c1 => False.elim (by omega))
  refine lv_aload_n hx hb dX6_pop_10 rfl (lv_at hl 0 rfl) ?_
  refine z_get hx hb hts hin6_ hown hK hP 0 rfl rfl 1 (by decide) (hts _ (List.mem_of_getElem? (i := 3) rfl)) rfl dX6_pop_11 ?_
  refine z_iconst hx hb dX6_pop_14 rfl ?_
  refine z_icmp_ge (tgt := 21) hx hb (by omega) (by decide) dX6_pop_15 (by decide) (fun c2 => ?_) (fun c2 => False.elim (by omega))
  refine lv_aload_n hx hb dX6_pop_21 rfl (lv_at hl 0 rfl) ?_
  refine z_get hx hb hts hin6_ hown hK hP 0 rfl rfl 4 (by decide) (hts _ (List.mem_of_getElem? (i := 5) rfl)) rfl dX6_pop_22 ?_
  refine lv_aload_n hx hb dX6_pop_25 rfl (lv_at hl 0 rfl) ?_
  refine z_get hx hb hts hin6_ hown hK hP 0 rfl rfl 1 (by decide) (hts _ (List.mem_of_getElem? (i := 3) rfl)) rfl dX6_pop_26 ?_
  refine z_iconst hx hb dX6_pop_29 rfl ?_
  refine z_isub hx hb (((n : Nat) : Int) - 1) rfl dX6_pop_30 ?_
  refine z_toI (((n - 1) : Nat) : Int) (by omega) ?_
  have hp := hs3 (n - 1)
  refine z_zald hx hb hK hP 3 rfl (n - 1) (by omega) (by omega) (by decide) dX6_pop_31 ?_
  refine lv_iload_n hx hb dX6_pop_32 rfl (lv_at hl 1 rfl) ?_
  refine z_icmp_eq (tgt := 39) hx hb (by omega) (by omega) dX6_pop_33 (by decide) (fun c3 => ?_) (fun c3 => False.elim (by omega))
  refine lv_aload_n hx hb dX6_pop_39 rfl (lv_at hl 0 rfl) ?_
  refine lv_dup hx hb dX6_pop_40 rfl ?_
  refine z_get hx hb hts hin6_ hown hK hP 0 rfl rfl 1 (by decide) (hts _ (List.mem_of_getElem? (i := 3) rfl)) rfl dX6_pop_41 ?_
  refine z_iconst hx hb dX6_pop_44 rfl ?_
  refine z_isub hx hb (((n : Nat) : Int) - 1) rfl dX6_pop_45 ?_
  refine z_toI (((n - 1) : Nat) : Int) (by omega) ?_
  refine z_put hx hb hts hin6_ tyX6 tyX6_ok nmX6 hown hK hP hD hS 0 rfl rfl 1 (by decide) (hts _ (List.mem_of_getElem? (i := 3) rfl)) rfl rfl rfl (Nat.le_of_ble_eq_true rfl) dX6_pop_46 [[(q, .inr (6, [vI t, vI (((n - 1) : Nat) : Int), .ref (x 0), .ref (x 1), .ref (x 2)]))], [((x 0), .inl (g.2 0, 8, .inl (aI fa)))], [((x 1), .inl (g.2 0, 8, .inl (aI fb_)))], [((x 2), .inl (g.2 2, 8, .inl (aI fp)))]] rfl (fun H locs hP hD hS => ?_)
  refine lv_aload_n hx hb dX6_pop_49 rfl (lv_at hl 0 rfl) ?_
  refine z_get hx hb hts hin6_ hown hK hP 0 rfl rfl 2 (by decide) (hts _ (List.mem_of_getElem? (i := 7) rfl)) rfl dX6_pop_50 ?_
  refine lv_aload_n hx hb dX6_pop_53 rfl (lv_at hl 0 rfl) ?_
  refine z_get hx hb hts hin6_ hown hK hP 0 rfl rfl 1 (by decide) (hts _ (List.mem_of_getElem? (i := 3) rfl)) rfl dX6_pop_54 ?_
  refine z_iald hx hb hK hP 1 rfl (n - 1) (by omega) (by omega) (by decide) dX6_pop_57 ?_
  refine lv_istore_n (lv' := [(2, vI (fa (n - 1))), (0, .ref q), (1, vI z)]) hx hb dX6_pop_58 rfl hl (by decide) rfl (fun ls hl => ?_)
  refine lv_aload_n hx hb dX6_pop_59 rfl (lv_at hl 1 rfl) ?_
  refine z_get hx hb hts hin6_ hown hK hP 0 rfl rfl 3 (by decide) (hts _ (List.mem_of_getElem? (i := 8) rfl)) rfl dX6_pop_60 ?_
  refine lv_aload_n hx hb dX6_pop_63 rfl (lv_at hl 1 rfl) ?_
  refine z_get hx hb hts hin6_ hown hK hP 0 rfl rfl 1 (by decide) (hts _ (List.mem_of_getElem? (i := 3) rfl)) rfl dX6_pop_64 ?_
  refine z_iald hx hb hK hP 2 rfl (n - 1) (by omega) (by omega) (by decide) dX6_pop_67 ?_
  refine lv_istore_n (lv' := [(3, vI (fb_ (n - 1))), (2, vI (fa (n - 1))), (0, .ref q), (1, vI z)]) hx hb dX6_pop_68 rfl hl (by decide) rfl (fun ls hl => ?_)
  refine lv_iload_n hx hb dX6_pop_69 rfl (lv_at hl 3 rfl) ?_
  refine z_if_eq (tgt := 87) hx hb (by omega) dX6_pop_70 (by decide) (fun c4 => ?_) (fun c4 => ?_)
  · refine lv_iload_n hx hb dX6_pop_87 rfl (lv_at hl 1 rfl) ?_
    have hP : zP g [(storeW g q x t (n - 1) fa fb_ fp)] H := hP
    have hD : zD A [(storeW g q x t (n - 1) fa fb_ fp)] := hD
    exact z_reti () [0] hx hb hr rfl hlocks hK hP hD hS (by first | rfl | (rw [if_pos (by omega)]) | (rw [if_neg (by omega)])) trivial rfl rfl (rfl) (Nat.le_of_ble_eq_true rfl) (Nat.le_of_ble_eq_true rfl) dX6_pop_88
  · refine lv_iload_n hx hb dX6_pop_73 rfl (lv_at hl 1 rfl) ?_
    refine lv_iload_n hx hb dX6_pop_74 rfl (lv_at hl 1 rfl) ?_
    refine z_imul hx hb ((fa (n - 1)) * (fa (n - 1))) rfl dX6_pop_75 ?_
    refine lv_iload_n hx hb dX6_pop_76 rfl (lv_at hl 1 rfl) ?_
    refine lv_iload_n hx hb dX6_pop_77 rfl (lv_at hl 0 rfl) ?_
    refine z_imul hx hb ((fa (n - 1)) * (fb_ (n - 1))) rfl dX6_pop_78 ?_
    refine z_isub hx hb (((fa (n - 1)) * (fa (n - 1))) - ((fa (n - 1)) * (fb_ (n - 1)))) rfl dX6_pop_79 ?_
    refine lv_iload_n hx hb dX6_pop_80 rfl (lv_at hl 0 rfl) ?_
    refine lv_iload_n hx hb dX6_pop_81 rfl (lv_at hl 0 rfl) ?_
    refine z_imul hx hb ((fb_ (n - 1)) * (fb_ (n - 1))) rfl dX6_pop_82 ?_
    refine z_iadd hx hb ((((fa (n - 1)) * (fa (n - 1))) - ((fa (n - 1)) * (fb_ (n - 1)))) + ((fb_ (n - 1)) * (fb_ (n - 1)))) rfl dX6_pop_83 ?_
    refine lv_goto (tgt := 88) hx hb dX6_pop_84 (by decide) ?_
    have hP : zP g [(storeW g q x t (n - 1) fa fb_ fp)] H := hP
    have hD : zD A [(storeW g q x t (n - 1) fa fb_ fp)] := hD
    exact z_reti () [0] hx hb hr rfl hlocks hK hP hD hS (by first | rfl | (rw [if_pos (by omega)]) | (rw [if_neg (by omega)])) trivial rfl rfl (rfl) (Nat.le_of_ble_eq_true rfl) (Nat.le_of_ble_eq_true rfl) dX6_pop_88

set_option maxHeartbeats 4000000 in
set_option maxRecDepth 100000 in
theorem c_X6_totalOf_null (l : Launch) (g : zG) (q : Nat) (x : Nat → Nat) (t : Int) (n : Nat) (fa : Nat → Int) (fb_ : Nat → Int) (fp : Nat → Int) (i : Int) (hs : sok t n fp) (ht : t = 0) : zMet l g yX6_totalOf wsX6_totalOf 0 0 0 [.ref q, vI i] zX0 [(storeW g q x t n fa fb_ fp)] (qi g (fun (_ : Unit) => (-2000000011)) (fun (_ : Unit) => True) (fun (_ : Unit) => [(storeW g q x t n fa fb_ fp)])) := by
  obtain ⟨hs1, hs2, hs3⟩ := id hs
  refine z_ent (cc := cX6_totalOf) (maxL := 4) (ret := (some .int)) (by decide) rfl (Nat.le_of_ble_eq_true rfl) ?_
  intro p e s m below meth c A ls hx hb hr hml hown hts hlocks hin0 hA hK hP hD hS hXX hl
  have hown : s.vm.findClass RX6 = some m.cls := hown
  have hin6_ : ∀ w ∈ wsX60, w ∈ wsX6_totalOf := zw_in [7, 8, 9, 10, 11] rfl
  have hl : lv_has ls 4 [(0, .ref q), (1, vI i)] := hl
  have hP : zP g [[(q, .inr (6, [vI t, vI ((n : Nat) : Int), .ref (x 0), .ref (x 1), .ref (x 2)]))], [((x 0), .inl (g.2 0, 8, .inl (aI fa)))], [((x 1), .inl (g.2 0, 8, .inl (aI fb_)))], [((x 2), .inl (g.2 2, 8, .inl (aI fp)))]] s.heap := hP
  have hD : zD A [[(q, .inr (6, [vI t, vI ((n : Nat) : Int), .ref (x 0), .ref (x 1), .ref (x 2)]))], [((x 0), .inl (g.2 0, 8, .inl (aI fa)))], [((x 1), .inl (g.2 0, 8, .inl (aI fb_)))], [((x 2), .inl (g.2 2, 8, .inl (aI fp)))]] := hD
  refine lv_aload_n hx hb dX6_totalOf_0 rfl (lv_at hl 0 rfl) ?_
  refine z_get hx hb hts hin6_ hown hK hP 0 rfl rfl 0 (by decide) (hts _ (List.mem_of_getElem? (i := 1) rfl)) rfl dX6_totalOf_1 ?_
  refine z_if_ne (tgt := 10) hx hb (by omega) dX6_totalOf_4 (by decide) (fun c1 => False.elim (by omega)) (fun c1 => ?_)
  refine z_ldc hx hb (-2000000011) hown (hts _ (List.mem_of_getElem? (i := 2) rfl)) rfl dX6_totalOf_7 ?_
  have hP : zP g [(storeW g q x t n fa fb_ fp)] s.heap := hP
  have hD : zD A [(storeW g q x t n fa fb_ fp)] := hD
  exact z_reti () [0] hx hb hr rfl hlocks hK hP hD hS (rfl) trivial rfl rfl (rfl) (Nat.le_of_ble_eq_true rfl) (Nat.le_of_ble_eq_true rfl) dX6_totalOf_9

set_option maxHeartbeats 4000000 in
set_option maxRecDepth 100000 in
theorem c_X6_totalOf (l : Launch) (g : zG) (q : Nat) (x : Nat → Nat) (t : Int) (n : Nat) (fa : Nat → Int) (fb_ : Nat → Int) (fp : Nat → Int) (i : Int) (hs : sok t n fp) (ht : t = 1) (hi : 0 ≤ i ∧ i ≤ 2) : zMet l g yX6_totalOf wsX6_totalOf 0 0 0 [.ref q, vI i] zX0 [(storeW g q x t n fa fb_ fp)] (qi g (fun (_ : Unit) => (tot n (if i = 2 then fp else if i = 0 then fa else fb_))) (fun (_ : Unit) => True) (fun (_ : Unit) => [(storeW g q x t n fa fb_ fp)])) := by
  obtain ⟨hs1, hs2, hs3⟩ := id hs
  refine z_ent (cc := cX6_totalOf) (maxL := 4) (ret := (some .int)) (by decide) rfl (Nat.le_of_ble_eq_true rfl) ?_
  intro p e s m below meth c A ls hx hb hr hml hown hts hlocks hin0 hA hK hP hD hS hXX hl
  have hown : s.vm.findClass RX6 = some m.cls := hown
  have hin6_ : ∀ w ∈ wsX60, w ∈ wsX6_totalOf := zw_in [7, 8, 9, 10, 11] rfl
  have hl : lv_has ls 4 [(0, .ref q), (1, vI i)] := hl
  have hP : zP g [[(q, .inr (6, [vI t, vI ((n : Nat) : Int), .ref (x 0), .ref (x 1), .ref (x 2)]))], [((x 0), .inl (g.2 0, 8, .inl (aI fa)))], [((x 1), .inl (g.2 0, 8, .inl (aI fb_)))], [((x 2), .inl (g.2 2, 8, .inl (aI fp)))]] s.heap := hP
  have hD : zD A [[(q, .inr (6, [vI t, vI ((n : Nat) : Int), .ref (x 0), .ref (x 1), .ref (x 2)]))], [((x 0), .inl (g.2 0, 8, .inl (aI fa)))], [((x 1), .inl (g.2 0, 8, .inl (aI fb_)))], [((x 2), .inl (g.2 2, 8, .inl (aI fp)))]] := hD
  refine lv_aload_n hx hb dX6_totalOf_0 rfl (lv_at hl 0 rfl) ?_
  refine z_get hx hb hts hin6_ hown hK hP 0 rfl rfl 0 (by decide) (hts _ (List.mem_of_getElem? (i := 1) rfl)) rfl dX6_totalOf_1 ?_
  refine z_if_ne (tgt := 10) hx hb (by omega) dX6_totalOf_4 (by decide) (fun c1 => ?_) (fun c1 => False.elim (by omega))
  refine z_iconst hx hb dX6_totalOf_10 rfl ?_
  refine lv_istore_n (lv' := [(2, vI 0), (0, .ref q), (1, vI i)]) hx hb dX6_totalOf_11 rfl hl (by decide) rfl (fun ls hl => ?_)
  refine z_iconst hx hb dX6_totalOf_12 rfl ?_
  refine lv_istore_n (lv' := [(3, vI 0), (2, vI 0), (0, .ref q), (1, vI i)]) hx hb dX6_totalOf_13 rfl hl (by decide) rfl (fun ls hl => ?_)
  have loop14 : ∀ (N : Nat) (y : Int) (j : Nat) (H : Heap) (locs : List Loc) (ls : Array Slot), j ≤ n → y = tot j (if i = 2 then fp else if i = 0 then fa else fb_) → (n - j) < N → zP g [[(q, .inr (6, [vI t, vI ((n : Nat) : Int), .ref (x 0), .ref (x 1), .ref (x 2)]))], [((x 0), .inl (g.2 0, 8, .inl (aI fa)))], [((x 1), .inl (g.2 0, 8, .inl (aI fb_)))], [((x 2), .inl (g.2 2, 8, .inl (aI fp)))]] H → zD A [[(q, .inr (6, [vI t, vI ((n : Nat) : Int), .ref (x 0), .ref (x 1), .ref (x 2)]))], [((x 0), .inl (g.2 0, 8, .inl (aI fa)))], [((x 1), .inl (g.2 0, 8, .inl (aI fb_)))], [((x 2), .inl (g.2 2, 8, .inl (aI fp)))]] → va_S A s.heap H locs → lv_has ls 4 [(0, .ref q), (1, vI i), (2, vI y), (3, vI ((j : Nat) : Int))] → W p l e (zRm 0 0 0) s m ([.ref q, vI i] : List Value).toArray below meth c H locs (0) (0) (MQ below ((qi g (fun (_ : Unit) => (tot n (if i = 2 then fp else if i = 0 then fa else fb_))) (fun (_ : Unit) => True) (fun (_ : Unit) => [(storeW g q x t n fa fb_ fp)])) A) ([.ref q, vI i] : List Value).toArray s 0 0 A) (F0 m 14 ls []) := by
    intro N
    induction N with
    | zero => intro y j H locs ls hj hy hm; exact absurd hm (Nat.not_lt_zero _)
    | succ N ih =>
      intro y j H locs ls hj hy hm hP hD hS hl
      refine lv_iload_n hx hb dX6_totalOf_14 rfl (lv_at hl 3 rfl) ?_
      refine lv_aload_n hx hb dX6_totalOf_15 rfl (lv_at hl 0 rfl) ?_
      refine z_get hx hb hts hin6_ hown hK hP 0 rfl rfl 1 (by decide) (hts _ (List.mem_of_getElem? (i := 3) rfl)) rfl dX6_totalOf_16 ?_
      refine z_icmp_ge (tgt := 75) hx hb (by omega) (by omega) dX6_totalOf_19 (by decide) (fun c2 => ?_) (fun c2 => ?_)
      · refine lv_iload_n hx hb dX6_totalOf_75 rfl (lv_at hl 2 rfl) ?_
        have hP : zP g [(storeW g q x t n fa fb_ fp)] H := hP
        have hD : zD A [(storeW g q x t n fa fb_ fp)] := hD
        have hj2 : j = n := by omega
        subst hj2
        exact z_reti () [0] hx hb hr rfl hlocks hK hP hD hS (hy) trivial rfl rfl (rfl) (Nat.le_of_ble_eq_true rfl) (Nat.le_of_ble_eq_true rfl) dX6_totalOf_76
      · refine lv_iload_n hx hb dX6_totalOf_22 rfl (lv_at hl 1 rfl) ?_
        refine z_iconst hx hb dX6_totalOf_23 rfl ?_
        refine z_icmp_ne (tgt := 47) hx hb (by omega) (by decide) dX6_totalOf_24 (by decide) (fun c3 => ?_) (fun c3 => ?_)
        · refine lv_iload_n hx hb dX6_totalOf_47 rfl (lv_at hl 2 rfl) ?_
          refine lv_iload_n hx hb dX6_totalOf_48 rfl (lv_at hl 1 rfl) ?_
          refine z_if_ne (tgt := 61) hx hb (by omega) dX6_totalOf_49 (by decide) (fun c4 => ?_) (fun c4 => ?_)
          · refine lv_aload_n hx hb dX6_totalOf_61 rfl (lv_at hl 0 rfl) ?_
            refine z_get hx hb hts hin6_ hown hK hP 0 rfl rfl 3 (by decide) (hts _ (List.mem_of_getElem? (i := 6) rfl)) rfl dX6_totalOf_62 ?_
            refine lv_iload_n hx hb dX6_totalOf_65 rfl (lv_at hl 3 rfl) ?_
            refine z_iald hx hb hK hP 2 rfl j (by omega) (by omega) (by decide) dX6_totalOf_66 ?_
            refine z_iadd hx hb (y + (fb_ j)) rfl dX6_totalOf_67 ?_
            refine z_nmI (fun x_5 hx_5 => ?_)
            refine lv_istore_n (lv' := [(2, vI x_5), (0, .ref q), (1, vI i), (3, vI ((j : Nat) : Int))]) hx hb dX6_totalOf_68 rfl hl (by decide) rfl (fun ls hl => ?_)
            refine z_iinc hx hb (((j + 1) : Nat) : Int) (lv' := [(3, vI (((j + 1) : Nat) : Int)), (2, vI x_5), (0, .ref q), (1, vI i)]) dX6_totalOf_69 hl (k := 3) rfl (by omega) (by decide) rfl (fun ls hl => ?_)
            refine lv_goto (tgt := 14) hx hb dX6_totalOf_72 (by decide) ?_
            exact ih x_5 (j + 1) _ _ _ (by omega) (by first | (rw [if_pos (by omega)] at hy ⊢; show _ = tot j fp + fp j; omega) | (rw [if_neg (by omega), if_pos (by omega)] at hy ⊢; show _ = tot j fa + fa j; omega) | (rw [if_neg (by omega), if_neg (by omega)] at hy ⊢; show _ = tot j fb_ + fb_ j; omega)) (by omega) hP hD hS (lv_sub hl [2, 3, 1, 0] rfl)
          · refine lv_aload_n hx hb dX6_totalOf_52 rfl (lv_at hl 0 rfl) ?_
            refine z_get hx hb hts hin6_ hown hK hP 0 rfl rfl 2 (by decide) (hts _ (List.mem_of_getElem? (i := 5) rfl)) rfl dX6_totalOf_53 ?_
            refine lv_iload_n hx hb dX6_totalOf_56 rfl (lv_at hl 3 rfl) ?_
            refine z_iald hx hb hK hP 1 rfl j (by omega) (by omega) (by decide) dX6_totalOf_57 ?_
            refine lv_goto (tgt := 67) hx hb dX6_totalOf_58 (by decide) ?_
            refine z_iadd hx hb (y + (fa j)) rfl dX6_totalOf_67 ?_
            refine z_nmI (fun x_6 hx_6 => ?_)
            refine lv_istore_n (lv' := [(2, vI x_6), (0, .ref q), (1, vI i), (3, vI ((j : Nat) : Int))]) hx hb dX6_totalOf_68 rfl hl (by decide) rfl (fun ls hl => ?_)
            refine z_iinc hx hb (((j + 1) : Nat) : Int) (lv' := [(3, vI (((j + 1) : Nat) : Int)), (2, vI x_6), (0, .ref q), (1, vI i)]) dX6_totalOf_69 hl (k := 3) rfl (by omega) (by decide) rfl (fun ls hl => ?_)
            refine lv_goto (tgt := 14) hx hb dX6_totalOf_72 (by decide) ?_
            exact ih x_6 (j + 1) _ _ _ (by omega) (by first | (rw [if_pos (by omega)] at hy ⊢; show _ = tot j fp + fp j; omega) | (rw [if_neg (by omega), if_pos (by omega)] at hy ⊢; show _ = tot j fa + fa j; omega) | (rw [if_neg (by omega), if_neg (by omega)] at hy ⊢; show _ = tot j fb_ + fb_ j; omega)) (by omega) hP hD hS (lv_sub hl [2, 3, 1, 0] rfl)
        · refine lv_iload_n hx hb dX6_totalOf_27 rfl (lv_at hl 2 rfl) ?_
          have hp := hs3 j
          refine lv_aload_n hx hb dX6_totalOf_28 rfl (lv_at hl 0 rfl) ?_
          refine z_get hx hb hts hin6_ hown hK hP 0 rfl rfl 4 (by decide) (hts _ (List.mem_of_getElem? (i := 4) rfl)) rfl dX6_totalOf_29 ?_
          refine lv_iload_n hx hb dX6_totalOf_32 rfl (lv_at hl 3 rfl) ?_
          refine z_zald hx hb hK hP 3 rfl j (by omega) (by omega) (by decide) dX6_totalOf_33 ?_
          refine z_if_eq (tgt := 41) hx hb (by omega) dX6_totalOf_34 (by decide) (fun c7 => ?_) (fun c7 => ?_)
          · refine z_iconst hx hb dX6_totalOf_41 rfl ?_
            refine z_iadd hx hb y (Int.add_zero _) dX6_totalOf_42 ?_
            refine lv_istore_n (lv' := [(2, vI y), (0, .ref q), (1, vI i), (3, vI ((j : Nat) : Int))]) hx hb dX6_totalOf_43 rfl hl (by decide) rfl (fun ls hl => ?_)
            refine lv_goto (tgt := 69) hx hb dX6_totalOf_44 (by decide) ?_
            refine z_iinc hx hb (((j + 1) : Nat) : Int) (lv' := [(3, vI (((j + 1) : Nat) : Int)), (2, vI y), (0, .ref q), (1, vI i)]) dX6_totalOf_69 hl (k := 3) rfl (by omega) (by decide) rfl (fun ls hl => ?_)
            refine lv_goto (tgt := 14) hx hb dX6_totalOf_72 (by decide) ?_
            exact ih y (j + 1) _ _ _ (by omega) (by first | (rw [if_pos (by omega)] at hy ⊢; show _ = tot j fp + fp j; omega) | (rw [if_neg (by omega), if_pos (by omega)] at hy ⊢; show _ = tot j fa + fa j; omega) | (rw [if_neg (by omega), if_neg (by omega)] at hy ⊢; show _ = tot j fb_ + fb_ j; omega)) (by omega) hP hD hS (lv_sub hl [2, 3, 1, 0] rfl)
          · refine z_iconst hx hb dX6_totalOf_37 rfl ?_
            refine lv_goto (tgt := 42) hx hb dX6_totalOf_38 (by decide) ?_
            refine z_iadd hx hb (y + 1) rfl dX6_totalOf_42 ?_
            refine z_nmI (fun x_8 hx_8 => ?_)
            refine lv_istore_n (lv' := [(2, vI x_8), (0, .ref q), (1, vI i), (3, vI ((j : Nat) : Int))]) hx hb dX6_totalOf_43 rfl hl (by decide) rfl (fun ls hl => ?_)
            refine lv_goto (tgt := 69) hx hb dX6_totalOf_44 (by decide) ?_
            refine z_iinc hx hb (((j + 1) : Nat) : Int) (lv' := [(3, vI (((j + 1) : Nat) : Int)), (2, vI x_8), (0, .ref q), (1, vI i)]) dX6_totalOf_69 hl (k := 3) rfl (by omega) (by decide) rfl (fun ls hl => ?_)
            refine lv_goto (tgt := 14) hx hb dX6_totalOf_72 (by decide) ?_
            exact ih x_8 (j + 1) _ _ _ (by omega) (by first | (rw [if_pos (by omega)] at hy ⊢; show _ = tot j fp + fp j; omega) | (rw [if_neg (by omega), if_pos (by omega)] at hy ⊢; show _ = tot j fa + fa j; omega) | (rw [if_neg (by omega), if_neg (by omega)] at hy ⊢; show _ = tot j fb_ + fb_ j; omega)) (by omega) hP hD hS (lv_sub hl [2, 3, 1, 0] rfl)
  exact loop14 _ 0 0 _ _ _ (by omega) rfl (Nat.lt_succ_self _) hP hD hS (lv_sub hl [2, 3, 1, 0] rfl)

set_option maxHeartbeats 4000000 in
set_option maxRecDepth 100000 in
theorem c_X6_vanish (l : Launch) (g : zG) (q : Nat) (x : Nat → Nat) (t : Int) (n : Nat) (fa : Nat → Int) (fb_ : Nat → Int) (fp : Nat → Int) (hs : sok t n fp) : zMet l g yX6_vanish wsX6_vanish 0 0 0 [.ref q] zX0 [(storeW g q x t n fa fb_ fp)] (qi g (fun (_ : Unit) => ((n : Nat) : Int)) (fun (_ : Unit) => True) (fun (_ : Unit) => [(storeW g q x 0 0 fa fb_ fp)])) := by
  obtain ⟨hs1, hs2, hs3⟩ := id hs
  refine z_ent (cc := cX6_vanish) (maxL := 2) (ret := (some .int)) (by decide) rfl (Nat.le_of_ble_eq_true rfl) ?_
  intro p e s m below meth c A ls hx hb hr hml hown hts hlocks hin0 hA hK hP hD hS hXX hl
  have hown : s.vm.findClass RX6 = some m.cls := hown
  have hin6_ : ∀ w ∈ wsX60, w ∈ wsX6_vanish := zw_in [3, 4, 5, 6, 7] rfl
  have hl : lv_has ls 2 [(0, .ref q)] := hl
  have hP : zP g [[(q, .inr (6, [vI t, vI ((n : Nat) : Int), .ref (x 0), .ref (x 1), .ref (x 2)]))], [((x 0), .inl (g.2 0, 8, .inl (aI fa)))], [((x 1), .inl (g.2 0, 8, .inl (aI fb_)))], [((x 2), .inl (g.2 2, 8, .inl (aI fp)))]] s.heap := hP
  have hD : zD A [[(q, .inr (6, [vI t, vI ((n : Nat) : Int), .ref (x 0), .ref (x 1), .ref (x 2)]))], [((x 0), .inl (g.2 0, 8, .inl (aI fa)))], [((x 1), .inl (g.2 0, 8, .inl (aI fb_)))], [((x 2), .inl (g.2 2, 8, .inl (aI fp)))]] := hD
  refine lv_aload_n hx hb dX6_vanish_0 rfl (lv_at hl 0 rfl) ?_
  refine z_get hx hb hts hin6_ hown hK hP 0 rfl rfl 1 (by decide) (hts _ (List.mem_of_getElem? (i := 1) rfl)) rfl dX6_vanish_1 ?_
  refine lv_istore_n (lv' := [(1, vI ((n : Nat) : Int)), (0, .ref q)]) hx hb dX6_vanish_4 rfl hl (by decide) rfl (fun ls hl => ?_)
  refine lv_aload_n hx hb dX6_vanish_5 rfl (lv_at hl 1 rfl) ?_
  refine z_iconst hx hb dX6_vanish_6 rfl ?_
  refine z_put hx hb hts hin6_ tyX6 tyX6_ok nmX6 hown hK hP hD hS 0 rfl rfl 0 (by decide) (hts _ (List.mem_of_getElem? (i := 2) rfl)) rfl (nar_z (by decide)) (fit_z (by decide)) (Nat.le_of_ble_eq_true rfl) dX6_vanish_7 [[(q, .inr (6, [vI 0, vI ((n : Nat) : Int), .ref (x 0), .ref (x 1), .ref (x 2)]))], [((x 0), .inl (g.2 0, 8, .inl (aI fa)))], [((x 1), .inl (g.2 0, 8, .inl (aI fb_)))], [((x 2), .inl (g.2 2, 8, .inl (aI fp)))]] rfl (fun H locs hP hD hS => ?_)
  refine lv_aload_n hx hb dX6_vanish_10 rfl (lv_at hl 1 rfl) ?_
  refine z_iconst hx hb dX6_vanish_11 rfl ?_
  refine z_put hx hb hts hin6_ tyX6 tyX6_ok nmX6 hown hK hP hD hS 0 rfl rfl 1 (by decide) (hts _ (List.mem_of_getElem? (i := 1) rfl)) rfl rfl rfl (Nat.le_of_ble_eq_true rfl) dX6_vanish_12 [[(q, .inr (6, [vI 0, vI 0, .ref (x 0), .ref (x 1), .ref (x 2)]))], [((x 0), .inl (g.2 0, 8, .inl (aI fa)))], [((x 1), .inl (g.2 0, 8, .inl (aI fb_)))], [((x 2), .inl (g.2 2, 8, .inl (aI fp)))]] rfl (fun H locs hP hD hS => ?_)
  refine lv_iload_n hx hb dX6_vanish_15 rfl (lv_at hl 0 rfl) ?_
  have hP : zP g [(storeW g q x 0 0 fa fb_ fp)] H := hP
  have hD : zD A [(storeW g q x 0 0 fa fb_ fp)] := hD
  exact z_reti () [0] hx hb hr rfl hlocks hK hP hD hS (rfl) trivial rfl rfl (rfl) (Nat.le_of_ble_eq_true rfl) (Nat.le_of_ble_eq_true rfl) dX6_vanish_16
