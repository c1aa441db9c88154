set_option maxHeartbeats 4000000 in
set_option maxRecDepth 100000 in
theorem c_X7_append0 (l : Launch) (g : zG) (q : Nat) (x : Nat → Nat) (n : Nat) (c_ : Nat) (k : Nat) (s_ : Nat) (e_ : Nat) (f : Nat → Int) (m_ : Nat → Int) (a : Int) (hn : n = 200) : zMet l g yX7_append wsX7_append 0 0 0 [.ref q, vI a] zX0 [(textW g q x n c_ k s_ e_ f m_)] (qi g (fun (_ : Unit) => 0) (fun (_ : Unit) => True) (fun (_ : Unit) => [(textW g q x n c_ k s_ e_ f m_)])) := by
  refine z_ent (cc := cX7_append) (maxL := 2) (ret := (some .boolean)) (by decide) rfl (Nat.le_of_ble_eq_true rfl) ?_
  intro p e s m below meth c A ls hx hb hr hml hown hts hlocks hin0 hA hK hP hD hS hXX hl
  have hown : s.vm.findClass RX7 = some m.cls := hown
  have hin7_ : ∀ w ∈ wsX70, w ∈ wsX7_append := zw_in [3, 4, 5, 6, 7, 8, 9] rfl
  have hl : lv_has ls 2 [(0, .ref q), (1, vI a)] := hl
  have hP : zP g [[(q, .inr (7, [.ref (x 0), vI ((n : Nat) : Int), vI ((c_ : Nat) : Int), vI ((k : Nat) : Int), vI ((s_ : Nat) : Int), vI ((e_ : Nat) : Int), .ref (x 1)]))], [((x 0), .inl (g.2 0, 200, .inl (aI f)))], [((x 1), .inl (g.2 0, 4, .inl (aI m_)))]] s.heap := hP
  have hD : zD A [[(q, .inr (7, [.ref (x 0), vI ((n : Nat) : Int), vI ((c_ : Nat) : Int), vI ((k : Nat) : Int), vI ((s_ : Nat) : Int), vI ((e_ : Nat) : Int), .ref (x 1)]))], [((x 0), .inl (g.2 0, 200, .inl (aI f)))], [((x 1), .inl (g.2 0, 4, .inl (aI m_)))]] := hD
  refine lv_aload_n hx hb dX7_append_0 rfl (lv_at hl 0 rfl) ?_
  refine z_get hx hb hts hin7_ hown hK hP 0 rfl rfl 1 (by decide) (hts _ (List.mem_of_getElem? (i := 1) rfl)) rfl dX7_append_1 ?_
  refine z_sipush hx hb 200 dX7_append_4 rfl ?_
  refine z_icmp_lt (tgt := 12) hx hb (by omega) (by decide) dX7_append_7 (by decide) (fun c1 => False.elim (by omega)) (fun c1 => ?_)
  refine z_iconst hx hb dX7_append_10 rfl ?_
  have hP : zP g [(textW g q x n c_ k s_ e_ f m_)] s.heap := hP
  have hD : zD A [(textW g q x n c_ k s_ e_ f m_)] := hD
  exact z_reti () [0] hx hb hr (nar_z (by first | decide | omega)) hlocks hK hP hD hS (rfl) trivial rfl rfl (rfl) (Nat.le_of_ble_eq_true rfl) (Nat.le_of_ble_eq_true rfl) dX7_append_11

set_option maxHeartbeats 4000000 in
set_option maxRecDepth 100000 in
theorem c_X7_append (l : Launch) (g : zG) (q : Nat) (x : Nat → Nat) (n : Nat) (c_ : Nat) (k : Nat) (s_ : Nat) (e_ : Nat) (f : Nat → Int) (m_ : Nat → Int) (a : Int) (hn : n < 200) : zMet l g yX7_append wsX7_append 0 0 0 [.ref q, vI a] zX0 [(textW g q x n c_ k s_ e_ f m_)] (qi g (fun (_ : Unit) => 1) (fun (_ : Unit) => True) (fun (_ : Unit) => [(textW g q x (n + 1) c_ k s_ e_ (uI f n a) m_)])) := by
  refine z_ent (cc := cX7_append) (maxL := 2) (ret := (some .boolean)) (by decide) rfl (Nat.le_of_ble_eq_true rfl) ?_
  intro p e s m below meth c A ls hx hb hr hml hown hts hlocks hin0 hA hK hP hD hS hXX hl
  have hown : s.vm.findClass RX7 = some m.cls := hown
  have hin7_ : ∀ w ∈ wsX70, w ∈ wsX7_append := zw_in [3, 4, 5, 6, 7, 8, 9] rfl
  have hl : lv_has ls 2 [(0, .ref q), (1, vI a)] := hl
  have hP : zP g [[(q, .inr (7, [.ref (x 0), vI ((n : Nat) : Int), vI ((c_ : Nat) : Int), vI ((k : Nat) : Int), vI ((s_ : Nat) : Int), vI ((e_ : Nat) : Int), .ref (x 1)]))], [((x 0), .inl (g.2 0, 200, .inl (aI f)))], [((x 1), .inl (g.2 0, 4, .inl (aI m_)))]] s.heap := hP
  have hD : zD A [[(q, .inr (7, [.ref (x 0), vI ((n : Nat) : Int), vI ((c_ : Nat) : Int), vI ((k : Nat) : Int), vI ((s_ : Nat) : Int), vI ((e_ : Nat) : Int), .ref (x 1)]))], [((x 0), .inl (g.2 0, 200, .inl (aI f)))], [((x 1), .inl (g.2 0, 4, .inl (aI m_)))]] := hD
  refine lv_aload_n hx hb dX7_append_0 rfl (lv_at hl 0 rfl) ?_
  refine z_get hx hb hts hin7_ hown hK hP 0 rfl rfl 1 (by decide) (hts _ (List.mem_of_getElem? (i := 1) rfl)) rfl dX7_append_1 ?_
  refine z_sipush hx hb 200 dX7_append_4 rfl ?_
  refine z_icmp_lt (tgt := 12) hx hb (by omega) (by decide) dX7_append_7 (by decide) (fun c1 => ?_) (fun c1 => False.elim (by omega))
  refine lv_aload_n hx hb dX7_append_12 rfl (lv_at hl 0 rfl) ?_
  refine z_get hx hb hts hin7_ hown hK hP 0 rfl rfl 0 (by decide) (hts _ (List.mem_of_getElem? (i := 2) rfl)) rfl dX7_append_13 ?_
  refine lv_aload_n hx hb dX7_append_16 rfl (lv_at hl 0 rfl) ?_
  refine z_get hx hb hts hin7_ hown hK hP 0 rfl rfl 1 (by decide) (hts _ (List.mem_of_getElem? (i := 1) rfl)) rfl dX7_append_17 ?_
  refine lv_iload_n hx hb dX7_append_20 rfl (lv_at hl 1 rfl) ?_
  refine z_iast hx hb hK hP 1 hD hS rfl n (by omega) (by omega) (by decide) dX7_append_21 [[(q, .inr (7, [.ref (x 0), vI ((n : Nat) : Int), vI ((c_ : Nat) : Int), vI ((k : Nat) : Int), vI ((s_ : Nat) : Int), vI ((e_ : Nat) : Int), .ref (x 1)]))], [((x 0), .inl (g.2 0, 200, .inl (aI (uI f n a))))], [((x 1), .inl (g.2 0, 4, .inl (aI m_)))]] rfl (fun H locs hP hD hS => ?_)
  refine lv_aload_n hx hb dX7_append_22 rfl (lv_at hl 0 rfl) ?_
  refine lv_dup hx hb dX7_append_23 rfl ?_
  refine z_get hx hb hts hin7_ hown hK hP 0 rfl rfl 1 (by decide) (hts _ (List.mem_of_getElem? (i := 1) rfl)) rfl dX7_append_24 ?_
  refine z_iconst hx hb dX7_append_27 rfl ?_
  refine z_iadd hx hb (((n + 1) : Nat) : Int) (by omega) dX7_append_28 ?_
  refine z_put hx hb hts hin7_ tyX7 tyX7_ok nmX7 hown hK hP hD hS 0 rfl rfl 1 (by decide) (hts _ (List.mem_of_getElem? (i := 1) rfl)) rfl rfl rfl (Nat.le_of_ble_eq_true rfl) dX7_append_29 [[(q, .inr (7, [.ref (x 0), vI (((n + 1) : Nat) : Int), vI ((c_ : Nat) : Int), vI ((k : Nat) : Int), vI ((s_ : Nat) : Int), vI ((e_ : Nat) : Int), .ref (x 1)]))], [((x 0), .inl (g.2 0, 200, .inl (aI (uI f n a))))], [((x 1), .inl (g.2 0, 4, .inl (aI m_)))]] rfl (fun H locs hP hD hS => ?_)
  refine z_iconst hx hb dX7_append_32 rfl ?_
  have hP : zP g [(textW g q x (n + 1) c_ k s_ e_ (uI f n a) m_)] H := hP
  have hD : zD A [(textW g q x (n + 1) c_ k s_ e_ (uI f n a) m_)] := hD
  exact z_reti () [0] hx hb hr (nar_z (by first | decide | omega)) hlocks hK hP hD hS (rfl) trivial rfl rfl (rfl) (Nat.le_of_ble_eq_true rfl) (Nat.le_of_ble_eq_true rfl) dX7_append_33

set_option maxHeartbeats 4000000 in
set_option maxRecDepth 100000 in
theorem c_X7_kindOf (l : Launch) (g : zG) (a : Int) (ha : -2147483648 ≤ a ∧ a < 2147483648) : zMet l g yX7_kindOf wsX7_kindOf 0 0 0 [vI a] zX0 [] (qi g (fun (_ : Unit) => (((kdO a) : Nat) : Int)) (fun (_ : Unit) => True) (fun (_ : Unit) => [])) := by
  refine z_ent (cc := cX7_kindOf) (maxL := 1) (ret := (some .int)) (by decide) rfl (Nat.le_of_ble_eq_true rfl) ?_
  intro p e s m below meth c A ls hx hb hr hml hown hts hlocks hin0 hA hK hP hD hS hXX hl
  have hown : s.vm.findClass RX7 = some m.cls := hown
  have hl : lv_has ls 1 [(0, vI a)] := hl
  refine lv_iload_n hx hb dX7_kindOf_0 rfl (lv_at hl 0 rfl) ?_
  refine z_bipush hx hb 97 dX7_kindOf_1 rfl ?_
  refine z_icmp_lt (tgt := 14) hx hb (by omega) (by decide) dX7_kindOf_3 (by decide) (fun c1 => ?_) (fun c1 => ?_)
  · refine lv_iload_n hx hb dX7_kindOf_14 rfl (lv_at hl 0 rfl) ?_
    refine z_bipush hx hb 48 dX7_kindOf_15 rfl ?_
    refine z_icmp_lt (tgt := 30) hx hb (by omega) (by decide) dX7_kindOf_17 (by decide) (fun c2 => ?_) (fun c2 => ?_)
    · refine z_iconst hx hb dX7_kindOf_30 rfl ?_
      exact z_reti () [] hx hb hr rfl hlocks hK hP hD hS (by have := kdO_s a; omega) trivial rfl rfl (rfl) (Nat.le_of_ble_eq_true rfl) (Nat.le_of_ble_eq_true rfl) dX7_kindOf_31
    · refine lv_iload_n hx hb dX7_kindOf_20 rfl (lv_at hl 0 rfl) ?_
      refine z_bipush hx hb 57 dX7_kindOf_21 rfl ?_
      refine z_icmp_gt (tgt := 30) hx hb (by omega) (by decide) dX7_kindOf_23 (by decide) (fun c3 => ?_) (fun c3 => ?_)
      · refine z_iconst hx hb dX7_kindOf_30 rfl ?_
        exact z_reti () [] hx hb hr rfl hlocks hK hP hD hS (by have := kdO_s a; omega) trivial rfl rfl (rfl) (Nat.le_of_ble_eq_true rfl) (Nat.le_of_ble_eq_true rfl) dX7_kindOf_31
      · refine z_iconst hx hb dX7_kindOf_26 rfl ?_
        refine lv_goto (tgt := 31) hx hb dX7_kindOf_27 (by decide) ?_
        exact z_reti () [] hx hb hr rfl hlocks hK hP hD hS (by have := kdO_s a; omega) trivial rfl rfl (rfl) (Nat.le_of_ble_eq_true rfl) (Nat.le_of_ble_eq_true rfl) dX7_kindOf_31
  · refine lv_iload_n hx hb dX7_kindOf_6 rfl (lv_at hl 0 rfl) ?_
    refine z_bipush hx hb 122 dX7_kindOf_7 rfl ?_
    refine z_icmp_gt (tgt := 14) hx hb (by omega) (by decide) dX7_kindOf_9 (by decide) (fun c4 => ?_) (fun c4 => ?_)
    · refine lv_iload_n hx hb dX7_kindOf_14 rfl (lv_at hl 0 rfl) ?_
      refine z_bipush hx hb 48 dX7_kindOf_15 rfl ?_
      refine z_icmp_lt (tgt := 30) hx hb (by omega) (by decide) dX7_kindOf_17 (by decide) (fun c5 => ?_) (fun c5 => ?_)
      · refine z_iconst hx hb dX7_kindOf_30 rfl ?_
        exact z_reti () [] hx hb hr rfl hlocks hK hP hD hS (by have := kdO_s a; omega) trivial rfl rfl (rfl) (Nat.le_of_ble_eq_true rfl) (Nat.le_of_ble_eq_true rfl) dX7_kindOf_31
      · refine lv_iload_n hx hb dX7_kindOf_20 rfl (lv_at hl 0 rfl) ?_
        refine z_bipush hx hb 57 dX7_kindOf_21 rfl ?_
        refine z_icmp_gt (tgt := 30) hx hb (by omega) (by decide) dX7_kindOf_23 (by decide) (fun c6 => ?_) (fun c6 => ?_)
        · refine z_iconst hx hb dX7_kindOf_30 rfl ?_
          exact z_reti () [] hx hb hr rfl hlocks hK hP hD hS (by have := kdO_s a; omega) trivial rfl rfl (rfl) (Nat.le_of_ble_eq_true rfl) (Nat.le_of_ble_eq_true rfl) dX7_kindOf_31
        · refine z_iconst hx hb dX7_kindOf_26 rfl ?_
          refine lv_goto (tgt := 31) hx hb dX7_kindOf_27 (by decide) ?_
          exact z_reti () [] hx hb hr rfl hlocks hK hP hD hS (by have := kdO_s a; omega) trivial rfl rfl (rfl) (Nat.le_of_ble_eq_true rfl) (Nat.le_of_ble_eq_true rfl) dX7_kindOf_31
    · refine z_iconst hx hb dX7_kindOf_12 rfl ?_
      exact z_reti () [] hx hb hr rfl hlocks hK hP hD hS (by have := kdO_s a; omega) trivial rfl rfl (rfl) (Nat.le_of_ble_eq_true rfl) (Nat.le_of_ble_eq_true rfl) dX7_kindOf_13

set_option maxHeartbeats 4000000 in
set_option maxRecDepth 100000 in
theorem c_X7_step (l : Launch) (g : zG) (q : Nat) (x : Nat → Nat) (n : Nat) (c_ : Nat) (k : Nat) (s_ : Nat) (e_ : Nat) (f : Nat → Int) (m_ : Nat → Int) (hn : n ≤ 200) (he : e_ ≤ n) (hf : ∀ i, 0 ≤ f i ∧ f i ≤ 255) : zMet l g yX7_step wsX7_step 1 0 0 [.ref q] zX0 [(textW g q x n c_ k s_ e_ f m_)] (qv g (fun (_ : Unit) => True) (fun (_ : Unit) => [(textW g q x n c_ (kdA f n (tS f n e_)) (tS f n e_) (tE f n (tS f n e_)) f m_)])) := by
  refine z_ent (cc := cX7_step) (maxL := 1) (ret := none) (by decide) rfl (Nat.le_of_ble_eq_true rfl) ?_
  intro p e s m below meth c A ls hx hb hr hml hown hts hlocks hin0 hA hK hP hD hS hXX hl
  have hown : s.vm.findClass RX7 = some m.cls := hown
  have hin7_ : ∀ w ∈ wsX70, w ∈ wsX7_step := zw_in [10, 11, 12, 13, 14, 15, 16] rfl
  have hl : lv_has ls 1 [(0, .ref q)] := hl
  have hP : zP g [[(q, .inr (7, [.ref (x 0), vI ((n : Nat) : Int), vI ((c_ : Nat) : Int), vI ((k : Nat) : Int), vI ((s_ : Nat) : Int), vI ((e_ : Nat) : Int), .ref (x 1)]))], [((x 0), .inl (g.2 0, 200, .inl (aI f)))], [((x 1), .inl (g.2 0, 4, .inl (aI m_)))]] s.heap := hP
  have hD : zD A [[(q, .inr (7, [.ref (x 0), vI ((n : Nat) : Int), vI ((c_ : Nat) : Int), vI ((k : Nat) : Int), vI ((s_ : Nat) : Int), vI ((e_ : Nat) : Int), .ref (x 1)]))], [((x 0), .inl (g.2 0, 200, .inl (aI f)))], [((x 1), .inl (g.2 0, 4, .inl (aI m_)))]] := hD
  refine lv_aload_n hx hb dX7_step_0 rfl (lv_at hl 0 rfl) ?_
  refine lv_aload_n hx hb dX7_step_1 rfl (lv_at hl 0 rfl) ?_
  refine z_get hx hb hts hin7_ hown hK hP 0 rfl rfl 5 (by decide) (hts _ (List.mem_of_getElem? (i := 1) rfl)) rfl dX7_step_2 ?_
  refine z_put hx hb hts hin7_ tyX7 tyX7_ok nmX7 hown hK hP hD hS 0 rfl rfl 4 (by decide) (hts _ (List.mem_of_getElem? (i := 2) rfl)) rfl rfl rfl (Nat.le_of_ble_eq_true rfl) dX7_step_5 [[(q, .inr (7, [.ref (x 0), vI ((n : Nat) : Int), vI ((c_ : Nat) : Int), vI ((k : Nat) : Int), vI ((e_ : Nat) : Int), vI ((e_ : Nat) : Int), .ref (x 1)]))], [((x 0), .inl (g.2 0, 200, .inl (aI f)))], [((x 1), .inl (g.2 0, 4, .inl (aI m_)))]] rfl (fun H locs hP hD hS => ?_)
  have loop8 : ∀ (N : Nat) (j : Nat) (H : Heap) (locs : List Loc) (ls : Array Slot), j ≤ n → tS f n j = (tS f n e_) → (n - j) < N → zP g [[(q, .inr (7, [.ref (x 0), vI ((n : Nat) : Int), vI ((c_ : Nat) : Int), vI ((k : Nat) : Int), vI ((j : Nat) : Int), vI ((e_ : Nat) : Int), .ref (x 1)]))], [((x 0), .inl (g.2 0, 200, .inl (aI f)))], [((x 1), .inl (g.2 0, 4, .inl (aI m_)))]] H → zD A [[(q, .inr (7, [.ref (x 0), vI ((n : Nat) : Int), vI ((c_ : Nat) : Int), vI ((k : Nat) : Int), vI ((j : Nat) : Int), vI ((e_ : Nat) : Int), .ref (x 1)]))], [((x 0), .inl (g.2 0, 200, .inl (aI f)))], [((x 1), .inl (g.2 0, 4, .inl (aI m_)))]] → va_S A s.heap H locs → lv_has ls 1 [(0, .ref q)] → W p l e (zRm 1 0 0) s m ([.ref q] : List Value).toArray below meth c H locs (0) (0) (MQ below ((qv g (fun (_ : Unit) => True) (fun (_ : Unit) => [(textW g q x n c_ (kdA f n (tS f n e_)) (tS f n e_) (tE f n (tS f n e_)) f m_)])) A) ([.ref q] : List Value).toArray s 0 0 A) (F0 m 8 ls []) := by
    intro N
    induction N with
    | zero => intro j H locs ls hj hj2 hm; exact absurd hm (Nat.not_lt_zero _)
    | succ N ih =>
      intro j H locs ls hj hj2 hm hP hD hS hl
      refine lv_aload_n hx hb dX7_step_8 rfl (lv_at hl 0 rfl) ?_
      refine z_get hx hb hts hin7_ hown hK hP 0 rfl rfl 4 (by decide) (hts _ (List.mem_of_getElem? (i := 2) rfl)) rfl dX7_step_9 ?_
      refine lv_aload_n hx hb dX7_step_12 rfl (lv_at hl 0 rfl) ?_
      refine z_get hx hb hts hin7_ hown hK hP 0 rfl rfl 1 (by decide) (hts _ (List.mem_of_getElem? (i := 3) rfl)) rfl dX7_step_13 ?_
      refine z_icmp_ge (tgt := 46) hx hb (by omega) (by omega) dX7_step_16 (by decide) (fun c1 => ?_) (fun c1 => ?_)
      · have hS0 := tS_stop (f := f) (n := n) (i := j) (by first | exact Or.inl (by omega) | exact Or.inr (by omega))
        have hjS : j = (tS f n e_) := by rw [← hj2, hS0]
        rw [hjS] at hP hD hj hS0
        have hK0 := kdA_s f n (tS f n e_)
        have hP : zP g [[(q, .inr (7, [.ref (x 0), vI ((n : Nat) : Int), vI ((c_ : Nat) : Int), vI ((k : Nat) : Int), vI (((tS f n e_) : Nat) : Int), vI ((e_ : Nat) : Int), .ref (x 1)]))], [((x 0), .inl (g.2 0, 200, .inl (aI f)))], [((x 1), .inl (g.2 0, 4, .inl (aI m_)))]] H := hP
        have hD : zD A [[(q, .inr (7, [.ref (x 0), vI ((n : Nat) : Int), vI ((c_ : Nat) : Int), vI ((k : Nat) : Int), vI (((tS f n e_) : Nat) : Int), vI ((e_ : Nat) : Int), .ref (x 1)]))], [((x 0), .inl (g.2 0, 200, .inl (aI f)))], [((x 1), .inl (g.2 0, 4, .inl (aI m_)))]] := hD
        refine lv_aload_n hx hb dX7_step_46 rfl (lv_at hl 0 rfl) ?_
        refine lv_aload_n hx hb dX7_step_47 rfl (lv_at hl 0 rfl) ?_
        refine z_get hx hb hts hin7_ hown hK hP 0 rfl rfl 4 (by decide) (hts _ (List.mem_of_getElem? (i := 2) rfl)) rfl dX7_step_48 ?_
        refine z_put hx hb hts hin7_ tyX7 tyX7_ok nmX7 hown hK hP hD hS 0 rfl rfl 5 (by decide) (hts _ (List.mem_of_getElem? (i := 1) rfl)) rfl rfl rfl (Nat.le_of_ble_eq_true rfl) dX7_step_51 [[(q, .inr (7, [.ref (x 0), vI ((n : Nat) : Int), vI ((c_ : Nat) : Int), vI ((k : Nat) : Int), vI (((tS f n e_) : Nat) : Int), vI (((tS f n e_) : Nat) : Int), .ref (x 1)]))], [((x 0), .inl (g.2 0, 200, .inl (aI f)))], [((x 1), .inl (g.2 0, 4, .inl (aI m_)))]] rfl (fun H locs hP hD hS => ?_)
        refine lv_aload_n hx hb dX7_step_54 rfl (lv_at hl 0 rfl) ?_
        refine lv_aload_n hx hb dX7_step_55 rfl (lv_at hl 0 rfl) ?_
        refine z_get hx hb hts hin7_ hown hK hP 0 rfl rfl 4 (by decide) (hts _ (List.mem_of_getElem? (i := 2) rfl)) rfl dX7_step_56 ?_
        refine lv_aload_n hx hb dX7_step_59 rfl (lv_at hl 0 rfl) ?_
        refine z_get hx hb hts hin7_ hown hK hP 0 rfl rfl 1 (by decide) (hts _ (List.mem_of_getElem? (i := 3) rfl)) rfl dX7_step_60 ?_
        refine z_icmp_ge (tgt := 81) hx hb (by omega) (by omega) dX7_step_63 (by decide) (fun c2 => ?_) (fun c2 => ?_)
        · refine z_iconst hx hb dX7_step_81 rfl ?_
          refine z_toI (((kdA f n (tS f n e_)) : Nat) : Int) (by have := kdA_s f n (tS f n e_); omega) ?_
          refine z_put hx hb hts hin7_ tyX7 tyX7_ok nmX7 hown hK hP hD hS 0 rfl rfl 3 (by decide) (hts _ (List.mem_of_getElem? (i := 5) rfl)) rfl rfl rfl (Nat.le_of_ble_eq_true rfl) dX7_step_82 [[(q, .inr (7, [.ref (x 0), vI ((n : Nat) : Int), vI ((c_ : Nat) : Int), vI (((kdA f n (tS f n e_)) : Nat) : Int), vI (((tS f n e_) : Nat) : Int), vI (((tS f n e_) : Nat) : Int), .ref (x 1)]))], [((x 0), .inl (g.2 0, 200, .inl (aI f)))], [((x 1), .inl (g.2 0, 4, .inl (aI m_)))]] rfl (fun H locs hP hD hS => ?_)
          have loop85 : ∀ (N : Nat) (j : Nat) (H : Heap) (locs : List Loc) (ls : Array Slot), j ≤ n → (tS f n e_) ≤ j → tR f n (kdA f n (tS f n e_)) j = tR f n (kdA f n (tS f n e_)) (tS f n e_) → (n - j) < N → zP g [[(q, .inr (7, [.ref (x 0), vI ((n : Nat) : Int), vI ((c_ : Nat) : Int), vI (((kdA f n (tS f n e_)) : Nat) : Int), vI (((tS f n e_) : Nat) : Int), vI ((j : Nat) : Int), .ref (x 1)]))], [((x 0), .inl (g.2 0, 200, .inl (aI f)))], [((x 1), .inl (g.2 0, 4, .inl (aI m_)))]] H → zD A [[(q, .inr (7, [.ref (x 0), vI ((n : Nat) : Int), vI ((c_ : Nat) : Int), vI (((kdA f n (tS f n e_)) : Nat) : Int), vI (((tS f n e_) : Nat) : Int), vI ((j : Nat) : Int), .ref (x 1)]))], [((x 0), .inl (g.2 0, 200, .inl (aI f)))], [((x 1), .inl (g.2 0, 4, .inl (aI m_)))]] → va_S A s.heap H locs → lv_has ls 1 [(0, .ref q)] → W p l e (zRm 1 0 0) s m ([.ref q] : List Value).toArray below meth c H locs (0) (0) (MQ below ((qv g (fun (_ : Unit) => True) (fun (_ : Unit) => [(textW g q x n c_ (kdA f n (tS f n e_)) (tS f n e_) (tE f n (tS f n e_)) f m_)])) A) ([.ref q] : List Value).toArray s 0 0 A) (F0 m 85 ls []) := by
            intro N
            induction N with
            | zero => intro j H locs ls hj hj3 hj2 hm; exact absurd hm (Nat.not_lt_zero _)
            | succ N ih =>
              intro j H locs ls hj hj3 hj2 hm hP hD hS hl
              refine lv_aload_n hx hb dX7_step_85 rfl (lv_at hl 0 rfl) ?_
              refine z_get hx hb hts hin7_ hown hK hP 0 rfl rfl 5 (by decide) (hts _ (List.mem_of_getElem? (i := 1) rfl)) rfl dX7_step_86 ?_
              refine lv_aload_n hx hb dX7_step_89 rfl (lv_at hl 0 rfl) ?_
              refine z_get hx hb hts hin7_ hown hK hP 0 rfl rfl 1 (by decide) (hts _ (List.mem_of_getElem? (i := 3) rfl)) rfl dX7_step_90 ?_
              refine z_icmp_ge (tgt := 128) hx hb (by omega) (by omega) dX7_step_93 (by decide) (fun c3 => ?_) (fun c3 => ?_)
              · refine lv_aload_n hx hb dX7_step_128 rfl (lv_at hl 0 rfl) ?_
                refine z_get hx hb hts hin7_ hown hK hP 0 rfl rfl 3 (by decide) (hts _ (List.mem_of_getElem? (i := 5) rfl)) rfl dX7_step_129 ?_
                refine z_iconst hx hb dX7_step_132 rfl ?_
                refine z_icmp_ne (tgt := 146) hx hb (by omega) (by decide) dX7_step_133 (by decide) (fun c4 => ?_) (fun c4 => ?_)
                · have hE : ((j : Nat) : Int) = (((tE f n (tS f n e_)) : Nat) : Int) := by have := tE_s f n (tS f n e_); have := tR_stop (f := f) (n := n) (k := (kdA f n (tS f n e_))) (i := j) (by first | exact Or.inl (by omega) | exact Or.inr (by omega)); omega
                  rw [hE] at hP hD
                  have hP : zP g [[(q, .inr (7, [.ref (x 0), vI ((n : Nat) : Int), vI ((c_ : Nat) : Int), vI (((kdA f n (tS f n e_)) : Nat) : Int), vI (((tS f n e_) : Nat) : Int), vI (((tE f n (tS f n e_)) : Nat) : Int), .ref (x 1)]))], [((x 0), .inl (g.2 0, 200, .inl (aI f)))], [((x 1), .inl (g.2 0, 4, .inl (aI m_)))]] H := hP
                  have hD : zD A [[(q, .inr (7, [.ref (x 0), vI ((n : Nat) : Int), vI ((c_ : Nat) : Int), vI (((kdA f n (tS f n e_)) : Nat) : Int), vI (((tS f n e_) : Nat) : Int), vI (((tE f n (tS f n e_)) : Nat) : Int), .ref (x 1)]))], [((x 0), .inl (g.2 0, 200, .inl (aI f)))], [((x 1), .inl (g.2 0, 4, .inl (aI m_)))]] := hD
                  have hP : zP g [(textW g q x n c_ (kdA f n (tS f n e_)) (tS f n e_) (tE f n (tS f n e_)) f m_)] H := hP
                  have hD : zD A [(textW g q x n c_ (kdA f n (tS f n e_)) (tS f n e_) (tE f n (tS f n e_)) f m_)] := hD
                  exact z_retv () [0] hx hb hr hlocks hK hP hD hS trivial rfl rfl (rfl) (Nat.le_of_ble_eq_true rfl) (Nat.le_of_ble_eq_true rfl) dX7_step_146
                · refine lv_aload_n hx hb dX7_step_136 rfl (lv_at hl 0 rfl) ?_
                  refine lv_aload_n hx hb dX7_step_137 rfl (lv_at hl 0 rfl) ?_
                  refine z_get hx hb hts hin7_ hown hK hP 0 rfl rfl 4 (by decide) (hts _ (List.mem_of_getElem? (i := 2) rfl)) rfl dX7_step_138 ?_
                  refine z_iconst hx hb dX7_step_141 rfl ?_
                  refine z_iadd hx hb ((((tS f n e_) + 1) : Nat) : Int) (by omega) dX7_step_142 ?_
                  refine z_put hx hb hts hin7_ tyX7 tyX7_ok nmX7 hown hK hP hD hS 0 rfl rfl 5 (by decide) (hts _ (List.mem_of_getElem? (i := 1) rfl)) rfl rfl rfl (Nat.le_of_ble_eq_true rfl) dX7_step_143 [[(q, .inr (7, [.ref (x 0), vI ((n : Nat) : Int), vI ((c_ : Nat) : Int), vI (((kdA f n (tS f n e_)) : Nat) : Int), vI (((tS f n e_) : Nat) : Int), vI ((((tS f n e_) + 1) : Nat) : Int), .ref (x 1)]))], [((x 0), .inl (g.2 0, 200, .inl (aI f)))], [((x 1), .inl (g.2 0, 4, .inl (aI m_)))]] rfl (fun H locs hP hD hS => ?_)
                  have hE : ((((tS f n e_) + 1) : Nat) : Int) = (((tE f n (tS f n e_)) : Nat) : Int) := by have := tE_s f n (tS f n e_); have := tR_stop (f := f) (n := n) (k := (kdA f n (tS f n e_))) (i := j) (by first | exact Or.inl (by omega) | exact Or.inr (by omega)); omega
                  rw [hE] at hP hD
                  have hP : zP g [[(q, .inr (7, [.ref (x 0), vI ((n : Nat) : Int), vI ((c_ : Nat) : Int), vI (((kdA f n (tS f n e_)) : Nat) : Int), vI (((tS f n e_) : Nat) : Int), vI (((tE f n (tS f n e_)) : Nat) : Int), .ref (x 1)]))], [((x 0), .inl (g.2 0, 200, .inl (aI f)))], [((x 1), .inl (g.2 0, 4, .inl (aI m_)))]] H := hP
                  have hD : zD A [[(q, .inr (7, [.ref (x 0), vI ((n : Nat) : Int), vI ((c_ : Nat) : Int), vI (((kdA f n (tS f n e_)) : Nat) : Int), vI (((tS f n e_) : Nat) : Int), vI (((tE f n (tS f n e_)) : Nat) : Int), .ref (x 1)]))], [((x 0), .inl (g.2 0, 200, .inl (aI f)))], [((x 1), .inl (g.2 0, 4, .inl (aI m_)))]] := hD
                  have hP : zP g [(textW g q x n c_ (kdA f n (tS f n e_)) (tS f n e_) (tE f n (tS f n e_)) f m_)] H := hP
                  have hD : zD A [(textW g q x n c_ (kdA f n (tS f n e_)) (tS f n e_) (tE f n (tS f n e_)) f m_)] := hD
                  exact z_retv () [0] hx hb hr hlocks hK hP hD hS trivial rfl rfl (rfl) (Nat.le_of_ble_eq_true rfl) (Nat.le_of_ble_eq_true rfl) dX7_step_146
              · refine lv_aload_n hx hb dX7_step_96 rfl (lv_at hl 0 rfl) ?_
                refine z_get hx hb hts hin7_ hown hK hP 0 rfl rfl 0 (by decide) (hts _ (List.mem_of_getElem? (i := 4) rfl)) rfl dX7_step_97 ?_
                refine lv_aload_n hx hb dX7_step_100 rfl (lv_at hl 0 rfl) ?_
                refine z_get hx hb hts hin7_ hown hK hP 0 rfl rfl 5 (by decide) (hts _ (List.mem_of_getElem? (i := 1) rfl)) rfl dX7_step_101 ?_
                have hl2 := hf j
                refine z_iald hx hb hK hP 1 rfl j (by omega) (by omega) (by decide) dX7_step_104 ?_
                refine z_cSi (As := [vI (f j)]) (rest := []) ⟨hx, hb, hml, hown, hts⟩ hK hP hD hS hA [] [0, 1, 2] rfl rfl rfl (c_X7_kindOf l g (f j) (by first | assumption | omega | decide)) (va_cwS 1 hts gX7_step_X7_kindOf rfl rfl rfl (by decide +kernel) ⟨Nat.le_of_ble_eq_true rfl, Nat.le_of_ble_eq_true rfl⟩) (fun _ _ _ _ _ _ => trivial) (fun _ _ _ => trivial) rfl hl.1 (Nat.le_of_ble_eq_true rfl) rfl dX7_step_105 ⟨Nat.le_of_ble_eq_true rfl, Nat.le_of_ble_eq_true rfl⟩ (fun u_5 H locs hwu_5 hP hD hS => ?_)
                try dsimp only at hwu_5
                have hP : zP g [[(q, .inr (7, [.ref (x 0), vI ((n : Nat) : Int), vI ((c_ : Nat) : Int), vI (((kdA f n (tS f n e_)) : Nat) : Int), vI (((tS f n e_) : Nat) : Int), vI ((j : Nat) : Int), .ref (x 1)]))], [((x 0), .inl (g.2 0, 200, .inl (aI f)))], [((x 1), .inl (g.2 0, 4, .inl (aI m_)))]] H := hP
                have hD : zD A [[(q, .inr (7, [.ref (x 0), vI ((n : Nat) : Int), vI ((c_ : Nat) : Int), vI (((kdA f n (tS f n e_)) : Nat) : Int), vI (((tS f n e_) : Nat) : Int), vI ((j : Nat) : Int), .ref (x 1)]))], [((x 0), .inl (g.2 0, 200, .inl (aI f)))], [((x 1), .inl (g.2 0, 4, .inl (aI m_)))]] := hD
                refine z_toI (((kdO (f j)) : Nat) : Int) rfl ?_
                have hf_6 := kdO_s (f j)
                refine lv_aload_n hx hb dX7_step_108 rfl (lv_at hl 0 rfl) ?_
                refine z_get hx hb hts hin7_ hown hK hP 0 rfl rfl 3 (by decide) (hts _ (List.mem_of_getElem? (i := 5) rfl)) rfl dX7_step_109 ?_
                refine z_icmp_ne (tgt := 128) hx hb (by omega) (by omega) dX7_step_112 (by decide) (fun c7 => ?_) (fun c7 => ?_)
                · refine lv_aload_n hx hb dX7_step_128 rfl (lv_at hl 0 rfl) ?_
                  refine z_get hx hb hts hin7_ hown hK hP 0 rfl rfl 3 (by decide) (hts _ (List.mem_of_getElem? (i := 5) rfl)) rfl dX7_step_129 ?_
                  refine z_iconst hx hb dX7_step_132 rfl ?_
                  refine z_icmp_ne (tgt := 146) hx hb (by omega) (by decide) dX7_step_133 (by decide) (fun c8 => ?_) (fun c8 => ?_)
                  · have hE : ((j : Nat) : Int) = (((tE f n (tS f n e_)) : Nat) : Int) := by have := tE_s f n (tS f n e_); have := tR_stop (f := f) (n := n) (k := (kdA f n (tS f n e_))) (i := j) (by first | exact Or.inl (by omega) | exact Or.inr (by omega)); omega
                    rw [hE] at hP hD
                    have hP : zP g [[(q, .inr (7, [.ref (x 0), vI ((n : Nat) : Int), vI ((c_ : Nat) : Int), vI (((kdA f n (tS f n e_)) : Nat) : Int), vI (((tS f n e_) : Nat) : Int), vI (((tE f n (tS f n e_)) : Nat) : Int), .ref (x 1)]))], [((x 0), .inl (g.2 0, 200, .inl (aI f)))], [((x 1), .inl (g.2 0, 4, .inl (aI m_)))]] H := hP
                    have hD : zD A [[(q, .inr (7, [.ref (x 0), vI ((n : Nat) : Int), vI ((c_ : Nat) : Int), vI (((kdA f n (tS f n e_)) : Nat) : Int), vI (((tS f n e_) : Nat) : Int), vI (((tE f n (tS f n e_)) : Nat) : Int), .ref (x 1)]))], [((x 0), .inl (g.2 0, 200, .inl (aI f)))], [((x 1), .inl (g.2 0, 4, .inl (aI m_)))]] := hD
                    have hP : zP g [(textW g q x n c_ (kdA f n (tS f n e_)) (tS f n e_) (tE f n (tS f n e_)) f m_)] H := hP
                    have hD : zD A [(textW g q x n c_ (kdA f n (tS f n e_)) (tS f n e_) (tE f n (tS f n e_)) f m_)] := hD
                    exact z_retv () [0] hx hb hr hlocks hK hP hD hS trivial rfl rfl (rfl) (Nat.le_of_ble_eq_true rfl) (Nat.le_of_ble_eq_true rfl) dX7_step_146
                  · refine lv_aload_n hx hb dX7_step_136 rfl (lv_at hl 0 rfl) ?_
                    refine lv_aload_n hx hb dX7_step_137 rfl (lv_at hl 0 rfl) ?_
                    refine z_get hx hb hts hin7_ hown hK hP 0 rfl rfl 4 (by decide) (hts _ (List.mem_of_getElem? (i := 2) rfl)) rfl dX7_step_138 ?_
                    refine z_iconst hx hb dX7_step_141 rfl ?_
                    refine z_iadd hx hb ((((tS f n e_) + 1) : Nat) : Int) (by omega) dX7_step_142 ?_
                    refine z_put hx hb hts hin7_ tyX7 tyX7_ok nmX7 hown hK hP hD hS 0 rfl rfl 5 (by decide) (hts _ (List.mem_of_getElem? (i := 1) rfl)) rfl rfl rfl (Nat.le_of_ble_eq_true rfl) dX7_step_143 [[(q, .inr (7, [.ref (x 0), vI ((n : Nat) : Int), vI ((c_ : Nat) : Int), vI (((kdA f n (tS f n e_)) : Nat) : Int), vI (((tS f n e_) : Nat) : Int), vI ((((tS f n e_) + 1) : Nat) : Int), .ref (x 1)]))], [((x 0), .inl (g.2 0, 200, .inl (aI f)))], [((x 1), .inl (g.2 0, 4, .inl (aI m_)))]] rfl (fun H locs hP hD hS => ?_)
                    have hE : ((((tS f n e_) + 1) : Nat) : Int) = (((tE f n (tS f n e_)) : Nat) : Int) := by have := tE_s f n (tS f n e_); have := tR_stop (f := f) (n := n) (k := (kdA f n (tS f n e_))) (i := j) (by first | exact Or.inl (by omega) | exact Or.inr (by omega)); omega
                    rw [hE] at hP hD
                    have hP : zP g [[(q, .inr (7, [.ref (x 0), vI ((n : Nat) : Int), vI ((c_ : Nat) : Int), vI (((kdA f n (tS f n e_)) : Nat) : Int), vI (((tS f n e_) : Nat) : Int), vI (((tE f n (tS f n e_)) : Nat) : Int), .ref (x 1)]))], [((x 0), .inl (g.2 0, 200, .inl (aI f)))], [((x 1), .inl (g.2 0, 4, .inl (aI m_)))]] H := hP
                    have hD : zD A [[(q, .inr (7, [.ref (x 0), vI ((n : Nat) : Int), vI ((c_ : Nat) : Int), vI (((kdA f n (tS f n e_)) : Nat) : Int), vI (((tS f n e_) : Nat) : Int), vI (((tE f n (tS f n e_)) : Nat) : Int), .ref (x 1)]))], [((x 0), .inl (g.2 0, 200, .inl (aI f)))], [((x 1), .inl (g.2 0, 4, .inl (aI m_)))]] := hD
                    have hP : zP g [(textW g q x n c_ (kdA f n (tS f n e_)) (tS f n e_) (tE f n (tS f n e_)) f m_)] H := hP
                    have hD : zD A [(textW g q x n c_ (kdA f n (tS f n e_)) (tS f n e_) (tE f n (tS f n e_)) f m_)] := hD
                    exact z_retv () [0] hx hb hr hlocks hK hP hD hS trivial rfl rfl (rfl) (Nat.le_of_ble_eq_true rfl) (Nat.le_of_ble_eq_true rfl) dX7_step_146
                · refine lv_aload_n hx hb dX7_step_115 rfl (lv_at hl 0 rfl) ?_
                  refine lv_dup hx hb dX7_step_116 rfl ?_
                  refine z_get hx hb hts hin7_ hown hK hP 0 rfl rfl 5 (by decide) (hts _ (List.mem_of_getElem? (i := 1) rfl)) rfl dX7_step_117 ?_
                  refine z_iconst hx hb dX7_step_120 rfl ?_
                  refine z_iadd hx hb (((j + 1) : Nat) : Int) (by omega) dX7_step_121 ?_
                  refine z_put hx hb hts hin7_ tyX7 tyX7_ok nmX7 hown hK hP hD hS 0 rfl rfl 5 (by decide) (hts _ (List.mem_of_getElem? (i := 1) rfl)) rfl rfl rfl (Nat.le_of_ble_eq_true rfl) dX7_step_122 [[(q, .inr (7, [.ref (x 0), vI ((n : Nat) : Int), vI ((c_ : Nat) : Int), vI (((kdA f n (tS f n e_)) : Nat) : Int), vI (((tS f n e_) : Nat) : Int), vI (((j + 1) : Nat) : Int), .ref (x 1)]))], [((x 0), .inl (g.2 0, 200, .inl (aI f)))], [((x 1), .inl (g.2 0, 4, .inl (aI m_)))]] rfl (fun H locs hP hD hS => ?_)
                  refine lv_goto (tgt := 85) hx hb dX7_step_125 (by decide) ?_
                  exact ih (j + 1) _ _ _ (by omega) (by omega) ((tR_go (i := j) (by omega) (by omega)).symm.trans hj2) (by omega) hP hD hS (lv_sub hl [0] rfl)
          exact loop85 _ (tS f n e_) _ _ _ (by omega) (Nat.le_refl _) rfl (Nat.lt_succ_self _) hP hD hS (lv_sub hl [0] rfl)
        · refine lv_aload_n hx hb dX7_step_66 rfl (lv_at hl 0 rfl) ?_
          refine z_get hx hb hts hin7_ hown hK hP 0 rfl rfl 0 (by decide) (hts _ (List.mem_of_getElem? (i := 4) rfl)) rfl dX7_step_67 ?_
          refine lv_aload_n hx hb dX7_step_70 rfl (lv_at hl 0 rfl) ?_
          refine z_get hx hb hts hin7_ hown hK hP 0 rfl rfl 4 (by decide) (hts _ (List.mem_of_getElem? (i := 2) rfl)) rfl dX7_step_71 ?_
          have hl1 := hf (tS f n e_)
          refine z_iald hx hb hK hP 1 rfl (tS f n e_) (by omega) (by omega) (by decide) dX7_step_74 ?_
          refine z_cSi (As := [vI (f (tS f n e_))]) (rest := [.ref q]) ⟨hx, hb, hml, hown, hts⟩ hK hP hD hS hA [] [0, 1, 2] rfl rfl rfl (c_X7_kindOf l g (f (tS f n e_)) (by first | assumption | omega | decide)) (va_cwS 1 hts gX7_step_X7_kindOf rfl rfl rfl (by decide +kernel) ⟨Nat.le_of_ble_eq_true rfl, Nat.le_of_ble_eq_true rfl⟩) (fun _ _ _ _ _ _ => trivial) (fun _ _ _ => trivial) rfl hl.1 (Nat.le_of_ble_eq_true rfl) rfl dX7_step_75 ⟨Nat.le_of_ble_eq_true rfl, Nat.le_of_ble_eq_true rfl⟩ (fun u_9 H locs hwu_9 hP hD hS => ?_)
          try dsimp only at hwu_9
          have hP : zP g [[(q, .inr (7, [.ref (x 0), vI ((n : Nat) : Int), vI ((c_ : Nat) : Int), vI ((k : Nat) : Int), vI (((tS f n e_) : Nat) : Int), vI (((tS f n e_) : Nat) : Int), .ref (x 1)]))], [((x 0), .inl (g.2 0, 200, .inl (aI f)))], [((x 1), .inl (g.2 0, 4, .inl (aI m_)))]] H := hP
          have hD : zD A [[(q, .inr (7, [.ref (x 0), vI ((n : Nat) : Int), vI ((c_ : Nat) : Int), vI ((k : Nat) : Int), vI (((tS f n e_) : Nat) : Int), vI (((tS f n e_) : Nat) : Int), .ref (x 1)]))], [((x 0), .inl (g.2 0, 200, .inl (aI f)))], [((x 1), .inl (g.2 0, 4, .inl (aI m_)))]] := hD
          refine z_toI (((kdO (f (tS f n e_))) : Nat) : Int) rfl ?_
          have hf_10 := kdO_s (f (tS f n e_))
          refine lv_goto (tgt := 82) hx hb dX7_step_78 (by decide) ?_
          refine z_toI (((kdA f n (tS f n e_)) : Nat) : Int) (by have := kdA_s f n (tS f n e_); omega) ?_
          refine z_put hx hb hts hin7_ tyX7 tyX7_ok nmX7 hown hK hP hD hS 0 rfl rfl 3 (by decide) (hts _ (List.mem_of_getElem? (i := 5) rfl)) rfl rfl rfl (Nat.le_of_ble_eq_true rfl) dX7_step_82 [[(q, .inr (7, [.ref (x 0), vI ((n : Nat) : Int), vI ((c_ : Nat) : Int), vI (((kdA f n (tS f n e_)) : Nat) : Int), vI (((tS f n e_) : Nat) : Int), vI (((tS f n e_) : Nat) : Int), .ref (x 1)]))], [((x 0), .inl (g.2 0, 200, .inl (aI f)))], [((x 1), .inl (g.2 0, 4, .inl (aI m_)))]] rfl (fun H locs hP hD hS => ?_)
          have loop85 : ∀ (N : Nat) (j : Nat) (H : Heap) (locs : List Loc) (ls : Array Slot), j ≤ n → (tS f n e_) ≤ j → tR f n (kdA f n (tS f n e_)) j = tR f n (kdA f n (tS f n e_)) (tS f n e_) → (n - j) < N → zP g [[(q, .inr (7, [.ref (x 0), vI ((n : Nat) : Int), vI ((c_ : Nat) : Int), vI (((kdA f n (tS f n e_)) : Nat) : Int), vI (((tS f n e_) : Nat) : Int), vI ((j : Nat) : Int), .ref (x 1)]))], [((x 0), .inl (g.2 0, 200, .inl (aI f)))], [((x 1), .inl (g.2 0, 4, .inl (aI m_)))]] H → zD A [[(q, .inr (7, [.ref (x 0), vI ((n : Nat) : Int), vI ((c_ : Nat) : Int), vI (((kdA f n (tS f n e_)) : Nat) : Int), vI (((tS f n e_) : Nat) : Int), vI ((j : Nat) : Int), .ref (x 1)]))], [((x 0), .inl (g.2 0, 200, .inl (aI f)))], [((x 1), .inl (g.2 0, 4, .inl (aI m_)))]] → va_S A s.heap H locs → lv_has ls 1 [(0, .ref q)] → W p l e (zRm 1 0 0) s m ([.ref q] : List Value).toArray below meth c H locs (0) (0) (MQ below ((qv g (fun (_ : Unit) => True) (fun (_ : Unit) => [(textW g q x n c_ (kdA f n (tS f n e_)) (tS f n e_) (tE f n (tS f n e_)) f m_)])) A) ([.ref q] : List Value).toArray s 0 0 A) (F0 m 85 ls []) := by
            intro N
            induction N with
            | zero => intro j H locs ls hj hj3 hj2 hm; exact absurd hm (Nat.not_lt_zero _)
            | succ N ih =>
              intro j H locs ls hj hj3 hj2 hm hP hD hS hl
              refine lv_aload_n hx hb dX7_step_85 rfl (lv_at hl 0 rfl) ?_
              refine z_get hx hb hts hin7_ hown hK hP 0 rfl rfl 5 (by decide) (hts _ (List.mem_of_getElem? (i := 1) rfl)) rfl dX7_step_86 ?_
              refine lv_aload_n hx hb dX7_step_89 rfl (lv_at hl 0 rfl) ?_
              refine z_get hx hb hts hin7_ hown hK hP 0 rfl rfl 1 (by decide) (hts _ (List.mem_of_getElem? (i := 3) rfl)) rfl dX7_step_90 ?_
              refine z_icmp_ge (tgt := 128) hx hb (by omega) (by omega) dX7_step_93 (by decide) (fun c11 => ?_) (fun c11 => ?_)
              · refine lv_aload_n hx hb dX7_step_128 rfl (lv_at hl 0 rfl) ?_
                refine z_get hx hb hts hin7_ hown hK hP 0 rfl rfl 3 (by decide) (hts _ (List.mem_of_getElem? (i := 5) rfl)) rfl dX7_step_129 ?_
                refine z_iconst hx hb dX7_step_132 rfl ?_
                refine z_icmp_ne (tgt := 146) hx hb (by omega) (by decide) dX7_step_133 (by decide) (fun c12 => ?_) (fun c12 => ?_)
                · have hE : ((j : Nat) : Int) = (((tE f n (tS f n e_)) : Nat) : Int) := by have := tE_s f n (tS f n e_); have := tR_stop (f := f) (n := n) (k := (kdA f n (tS f n e_))) (i := j) (by first | exact Or.inl (by omega) | exact Or.inr (by omega)); omega
                  rw [hE] at hP hD
                  have hP : zP g [[(q, .inr (7, [.ref (x 0), vI ((n : Nat) : Int), vI ((c_ : Nat) : Int), vI (((kdA f n (tS f n e_)) : Nat) : Int), vI (((tS f n e_) : Nat) : Int), vI (((tE f n (tS f n e_)) : Nat) : Int), .ref (x 1)]))], [((x 0), .inl (g.2 0, 200, .inl (aI f)))], [((x 1), .inl (g.2 0, 4, .inl (aI m_)))]] H := hP
                  have hD : zD A [[(q, .inr (7, [.ref (x 0), vI ((n : Nat) : Int), vI ((c_ : Nat) : Int), vI (((kdA f n (tS f n e_)) : Nat) : Int), vI (((tS f n e_) : Nat) : Int), vI (((tE f n (tS f n e_)) : Nat) : Int), .ref (x 1)]))], [((x 0), .inl (g.2 0, 200, .inl (aI f)))], [((x 1), .inl (g.2 0, 4, .inl (aI m_)))]] := hD
                  have hP : zP g [(textW g q x n c_ (kdA f n (tS f n e_)) (tS f n e_) (tE f n (tS f n e_)) f m_)] H := hP
                  have hD : zD A [(textW g q x n c_ (kdA f n (tS f n e_)) (tS f n e_) (tE f n (tS f n e_)) f m_)] := hD
                  exact z_retv () [0] hx hb hr hlocks hK hP hD hS trivial rfl rfl (rfl) (Nat.le_of_ble_eq_true rfl) (Nat.le_of_ble_eq_true rfl) dX7_step_146
                · refine lv_aload_n hx hb dX7_step_136 rfl (lv_at hl 0 rfl) ?_
                  refine lv_aload_n hx hb dX7_step_137 rfl (lv_at hl 0 rfl) ?_
                  refine z_get hx hb hts hin7_ hown hK hP 0 rfl rfl 4 (by decide) (hts _ (List.mem_of_getElem? (i := 2) rfl)) rfl dX7_step_138 ?_
                  refine z_iconst hx hb dX7_step_141 rfl ?_
                  refine z_iadd hx hb ((((tS f n e_) + 1) : Nat) : Int) (by omega) dX7_step_142 ?_
                  refine z_put hx hb hts hin7_ tyX7 tyX7_ok nmX7 hown hK hP hD hS 0 rfl rfl 5 (by decide) (hts _ (List.mem_of_getElem? (i := 1) rfl)) rfl rfl rfl (Nat.le_of_ble_eq_true rfl) dX7_step_143 [[(q, .inr (7, [.ref (x 0), vI ((n : Nat) : Int), vI ((c_ : Nat) : Int), vI (((kdA f n (tS f n e_)) : Nat) : Int), vI (((tS f n e_) : Nat) : Int), vI ((((tS f n e_) + 1) : Nat) : Int), .ref (x 1)]))], [((x 0), .inl (g.2 0, 200, .inl (aI f)))], [((x 1), .inl (g.2 0, 4, .inl (aI m_)))]] rfl (fun H locs hP hD hS => ?_)
                  have hE : ((((tS f n e_) + 1) : Nat) : Int) = (((tE f n (tS f n e_)) : Nat) : Int) := by have := tE_s f n (tS f n e_); have := tR_stop (f := f) (n := n) (k := (kdA f n (tS f n e_))) (i := j) (by first | exact Or.inl (by omega) | exact Or.inr (by omega)); omega
                  rw [hE] at hP hD
                  have hP : zP g [[(q, .inr (7, [.ref (x 0), vI ((n : Nat) : Int), vI ((c_ : Nat) : Int), vI (((kdA f n (tS f n e_)) : Nat) : Int), vI (((tS f n e_) : Nat) : Int), vI (((tE f n (tS f n e_)) : Nat) : Int), .ref (x 1)]))], [((x 0), .inl (g.2 0, 200, .inl (aI f)))], [((x 1), .inl (g.2 0, 4, .inl (aI m_)))]] H := hP
                  have hD : zD A [[(q, .inr (7, [.ref (x 0), vI ((n : Nat) : Int), vI ((c_ : Nat) : Int), vI (((kdA f n (tS f n e_)) : Nat) : Int), vI (((tS f n e_) : Nat) : Int), vI (((tE f n (tS f n e_)) : Nat) : Int), .ref (x 1)]))], [((x 0), .inl (g.2 0, 200, .inl (aI f)))], [((x 1), .inl (g.2 0, 4, .inl (aI m_)))]] := hD
                  have hP : zP g [(textW g q x n c_ (kdA f n (tS f n e_)) (tS f n e_) (tE f n (tS f n e_)) f m_)] H := hP
                  have hD : zD A [(textW g q x n c_ (kdA f n (tS f n e_)) (tS f n e_) (tE f n (tS f n e_)) f m_)] := hD
                  exact z_retv () [0] hx hb hr hlocks hK hP hD hS trivial rfl rfl (rfl) (Nat.le_of_ble_eq_true rfl) (Nat.le_of_ble_eq_true rfl) dX7_step_146
              · refine lv_aload_n hx hb dX7_step_96 rfl (lv_at hl 0 rfl) ?_
                refine z_get hx hb hts hin7_ hown hK hP 0 rfl rfl 0 (by decide) (hts _ (List.mem_of_getElem? (i := 4) rfl)) rfl dX7_step_97 ?_
                refine lv_aload_n hx hb dX7_step_100 rfl (lv_at hl 0 rfl) ?_
                refine z_get hx hb hts hin7_ hown hK hP 0 rfl rfl 5 (by decide) (hts _ (List.mem_of_getElem? (i := 1) rfl)) rfl dX7_step_101 ?_
                have hl2 := hf j
                refine z_iald hx hb hK hP 1 rfl j (by omega) (by omega) (by decide) dX7_step_104 ?_
                refine z_cSi (As := [vI (f j)]) (rest := []) ⟨hx, hb, hml, hown, hts⟩ hK hP hD hS hA [] [0, 1, 2] rfl rfl rfl (c_X7_kindOf l g (f j) (by first | assumption | omega | decide)) (va_cwS 1 hts gX7_step_X7_kindOf rfl rfl rfl (by decide +kernel) ⟨Nat.le_of_ble_eq_true rfl, Nat.le_of_ble_eq_true rfl⟩) (fun _ _ _ _ _ _ => trivial) (fun _ _ _ => trivial) rfl hl.1 (Nat.le_of_ble_eq_true rfl) rfl dX7_step_105 ⟨Nat.le_of_ble_eq_true rfl, Nat.le_of_ble_eq_true rfl⟩ (fun u_13 H locs hwu_13 hP hD hS => ?_)
                try dsimp only at hwu_13
                have hP : zP g [[(q, .inr (7, [.ref (x 0), vI ((n : Nat) : Int), vI ((c_ : Nat) : Int), vI (((kdA f n (tS f n e_)) : Nat) : Int), vI (((tS f n e_) : Nat) : Int), vI ((j : Nat) : Int), .ref (x 1)]))], [((x 0), .inl (g.2 0, 200, .inl (aI f)))], [((x 1), .inl (g.2 0, 4, .inl (aI m_)))]] H := hP
                have hD : zD A [[(q, .inr (7, [.ref (x 0), vI ((n : Nat) : Int), vI ((c_ : Nat) : Int), vI (((kdA f n (tS f n e_)) : Nat) : Int), vI (((tS f n e_) : Nat) : Int), vI ((j : Nat) : Int), .ref (x 1)]))], [((x 0), .inl (g.2 0, 200, .inl (aI f)))], [((x 1), .inl (g.2 0, 4, .inl (aI m_)))]] := hD
                refine z_toI (((kdO (f j)) : Nat) : Int) rfl ?_
                have hf_14 := kdO_s (f j)
                refine lv_aload_n hx hb dX7_step_108 rfl (lv_at hl 0 rfl) ?_
                refine z_get hx hb hts hin7_ hown hK hP 0 rfl rfl 3 (by decide) (hts _ (List.mem_of_getElem? (i := 5) rfl)) rfl dX7_step_109 ?_
                refine z_icmp_ne (tgt := 128) hx hb (by omega) (by omega) dX7_step_112 (by decide) (fun c15 => ?_) (fun c15 => ?_)
                · refine lv_aload_n hx hb dX7_step_128 rfl (lv_at hl 0 rfl) ?_
                  refine z_get hx hb hts hin7_ hown hK hP 0 rfl rfl 3 (by decide) (hts _ (List.mem_of_getElem? (i := 5) rfl)) rfl dX7_step_129 ?_
                  refine z_iconst hx hb dX7_step_132 rfl ?_
                  refine z_icmp_ne (tgt := 146) hx hb (by omega) (by decide) dX7_step_133 (by decide) (fun c16 => ?_) (fun c16 => ?_)
                  · have hE : ((j : Nat) : Int) = (((tE f n (tS f n e_)) : Nat) : Int) := by have := tE_s f n (tS f n e_); have := tR_stop (f := f) (n := n) (k := (kdA f n (tS f n e_))) (i := j) (by first | exact Or.inl (by omega) | exact Or.inr (by omega)); omega
                    rw [hE] at hP hD
                    have hP : zP g [[(q, .inr (7, [.ref (x 0), vI ((n : Nat) : Int), vI ((c_ : Nat) : Int), vI (((kdA f n (tS f n e_)) : Nat) : Int), vI (((tS f n e_) : Nat) : Int), vI (((tE f n (tS f n e_)) : Nat) : Int), .ref (x 1)]))], [((x 0), .inl (g.2 0, 200, .inl (aI f)))], [((x 1), .inl (g.2 0, 4, .inl (aI m_)))]] H := hP
                    have hD : zD A [[(q, .inr (7, [.ref (x 0), vI ((n : Nat) : Int), vI ((c_ : Nat) : Int), vI (((kdA f n (tS f n e_)) : Nat) : Int), vI (((tS f n e_) : Nat) : Int), vI (((tE f n (tS f n e_)) : Nat) : Int), .ref (x 1)]))], [((x 0), .inl (g.2 0, 200, .inl (aI f)))], [((x 1), .inl (g.2 0, 4, .inl (aI m_)))]] := hD
                    have hP : zP g [(textW g q x n c_ (kdA f n (tS f n e_)) (tS f n e_) (tE f n (tS f n e_)) f m_)] H := hP
                    have hD : zD A [(textW g q x n c_ (kdA f n (tS f n e_)) (tS f n e_) (tE f n (tS f n e_)) f m_)] := hD
                    exact z_retv () [0] hx hb hr hlocks hK hP hD hS trivial rfl rfl (rfl) (Nat.le_of_ble_eq_true rfl) (Nat.le_of_ble_eq_true rfl) dX7_step_146
                  · refine lv_aload_n hx hb dX7_step_136 rfl (lv_at hl 0 rfl) ?_
                    refine lv_aload_n hx hb dX7_step_137 rfl (lv_at hl 0 rfl) ?_
                    refine z_get hx hb hts hin7_ hown hK hP 0 rfl rfl 4 (by decide) (hts _ (List.mem_of_getElem? (i := 2) rfl)) rfl dX7_step_138 ?_
                    refine z_iconst hx hb dX7_step_141 rfl ?_
                    refine z_iadd hx hb ((((tS f n e_) + 1) : Nat) : Int) (by omega) dX7_step_142 ?_
                    refine z_put hx hb hts hin7_ tyX7 tyX7_ok nmX7 hown hK hP hD hS 0 rfl rfl 5 (by decide) (hts _ (List.mem_of_getElem? (i := 1) rfl)) rfl rfl rfl (Nat.le_of_ble_eq_true rfl) dX7_step_143 [[(q, .inr (7, [.ref (x 0), vI ((n : Nat) : Int), vI ((c_ : Nat) : Int), vI (((kdA f n (tS f n e_)) : Nat) : Int), vI (((tS f n e_) : Nat) : Int), vI ((((tS f n e_) + 1) : Nat) : Int), .ref (x 1)]))], [((x 0), .inl (g.2 0, 200, .inl (aI f)))], [((x 1), .inl (g.2 0, 4, .inl (aI m_)))]] rfl (fun H locs hP hD hS => ?_)
                    have hE : ((((tS f n e_) + 1) : Nat) : Int) = (((tE f n (tS f n e_)) : Nat) : Int) := by have := tE_s f n (tS f n e_); have := tR_stop (f := f) (n := n) (k := (kdA f n (tS f n e_))) (i := j) (by first | exact Or.inl (by omega) | exact Or.inr (by omega)); omega
                    rw [hE] at hP hD
                    have hP : zP g [[(q, .inr (7, [.ref (x 0), vI ((n : Nat) : Int), vI ((c_ : Nat) : Int), vI (((kdA f n (tS f n e_)) : Nat) : Int), vI (((tS f n e_) : Nat) : Int), vI (((tE f n (tS f n e_)) : Nat) : Int), .ref (x 1)]))], [((x 0), .inl (g.2 0, 200, .inl (aI f)))], [((x 1), .inl (g.2 0, 4, .inl (aI m_)))]] H := hP
                    have hD : zD A [[(q, .inr (7, [.ref (x 0), vI ((n : Nat) : Int), vI ((c_ : Nat) : Int), vI (((kdA f n (tS f n e_)) : Nat) : Int), vI (((tS f n e_) : Nat) : Int), vI (((tE f n (tS f n e_)) : Nat) : Int), .ref (x 1)]))], [((x 0), .inl (g.2 0, 200, .inl (aI f)))], [((x 1), .inl (g.2 0, 4, .inl (aI m_)))]] := hD
                    have hP : zP g [(textW g q x n c_ (kdA f n (tS f n e_)) (tS f n e_) (tE f n (tS f n e_)) f m_)] H := hP
                    have hD : zD A [(textW g q x n c_ (kdA f n (tS f n e_)) (tS f n e_) (tE f n (tS f n e_)) f m_)] := hD
                    exact z_retv () [0] hx hb hr hlocks hK hP hD hS trivial rfl rfl (rfl) (Nat.le_of_ble_eq_true rfl) (Nat.le_of_ble_eq_true rfl) dX7_step_146
                · refine lv_aload_n hx hb dX7_step_115 rfl (lv_at hl 0 rfl) ?_
                  refine lv_dup hx hb dX7_step_116 rfl ?_
                  refine z_get hx hb hts hin7_ hown hK hP 0 rfl rfl 5 (by decide) (hts _ (List.mem_of_getElem? (i := 1) rfl)) rfl dX7_step_117 ?_
                  refine z_iconst hx hb dX7_step_120 rfl ?_
                  refine z_iadd hx hb (((j + 1) : Nat) : Int) (by omega) dX7_step_121 ?_
                  refine z_put hx hb hts hin7_ tyX7 tyX7_ok nmX7 hown hK hP hD hS 0 rfl rfl 5 (by decide) (hts _ (List.mem_of_getElem? (i := 1) rfl)) rfl rfl rfl (Nat.le_of_ble_eq_true rfl) dX7_step_122 [[(q, .inr (7, [.ref (x 0), vI ((n : Nat) : Int), vI ((c_ : Nat) : Int), vI (((kdA f n (tS f n e_)) : Nat) : Int), vI (((tS f n e_) : Nat) : Int), vI (((j + 1) : Nat) : Int), .ref (x 1)]))], [((x 0), .inl (g.2 0, 200, .inl (aI f)))], [((x 1), .inl (g.2 0, 4, .inl (aI m_)))]] rfl (fun H locs hP hD hS => ?_)
                  refine lv_goto (tgt := 85) hx hb dX7_step_125 (by decide) ?_
                  exact ih (j + 1) _ _ _ (by omega) (by omega) ((tR_go (i := j) (by omega) (by omega)).symm.trans hj2) (by omega) hP hD hS (lv_sub hl [0] rfl)
          exact loop85 _ (tS f n e_) _ _ _ (by omega) (Nat.le_refl _) rfl (Nat.lt_succ_self _) hP hD hS (lv_sub hl [0] rfl)
      · refine lv_aload_n hx hb dX7_step_19 rfl (lv_at hl 0 rfl) ?_
        refine z_get hx hb hts hin7_ hown hK hP 0 rfl rfl 0 (by decide) (hts _ (List.mem_of_getElem? (i := 4) rfl)) rfl dX7_step_20 ?_
        refine lv_aload_n hx hb dX7_step_23 rfl (lv_at hl 0 rfl) ?_
        refine z_get hx hb hts hin7_ hown hK hP 0 rfl rfl 4 (by decide) (hts _ (List.mem_of_getElem? (i := 2) rfl)) rfl dX7_step_24 ?_
        have hl0 := hf j
        refine z_iald hx hb hK hP 1 rfl j (by omega) (by omega) (by decide) dX7_step_27 ?_
        refine z_bipush hx hb 32 dX7_step_28 rfl ?_
        refine z_icmp_ne (tgt := 46) hx hb (by omega) (by decide) dX7_step_30 (by decide) (fun c17 => ?_) (fun c17 => ?_)
        · have hS0 := tS_stop (f := f) (n := n) (i := j) (by first | exact Or.inl (by omega) | exact Or.inr (by omega))
          have hjS : j = (tS f n e_) := by rw [← hj2, hS0]
          rw [hjS] at hP hD hj hS0
          have hK0 := kdA_s f n (tS f n e_)
          have hP : zP g [[(q, .inr (7, [.ref (x 0), vI ((n : Nat) : Int), vI ((c_ : Nat) : Int), vI ((k : Nat) : Int), vI (((tS f n e_) : Nat) : Int), vI ((e_ : Nat) : Int), .ref (x 1)]))], [((x 0), .inl (g.2 0, 200, .inl (aI f)))], [((x 1), .inl (g.2 0, 4, .inl (aI m_)))]] H := hP
          have hD : zD A [[(q, .inr (7, [.ref (x 0), vI ((n : Nat) : Int), vI ((c_ : Nat) : Int), vI ((k : Nat) : Int), vI (((tS f n e_) : Nat) : Int), vI ((e_ : Nat) : Int), .ref (x 1)]))], [((x 0), .inl (g.2 0, 200, .inl (aI f)))], [((x 1), .inl (g.2 0, 4, .inl (aI m_)))]] := hD
          refine lv_aload_n hx hb dX7_step_46 rfl (lv_at hl 0 rfl) ?_
          refine lv_aload_n hx hb dX7_step_47 rfl (lv_at hl 0 rfl) ?_
          refine z_get hx hb hts hin7_ hown hK hP 0 rfl rfl 4 (by decide) (hts _ (List.mem_of_getElem? (i := 2) rfl)) rfl dX7_step_48 ?_
          refine z_put hx hb hts hin7_ tyX7 tyX7_ok nmX7 hown hK hP hD hS 0 rfl rfl 5 (by decide) (hts _ (List.mem_of_getElem? (i := 1) rfl)) rfl rfl rfl (Nat.le_of_ble_eq_true rfl) dX7_step_51 [[(q, .inr (7, [.ref (x 0), vI ((n : Nat) : Int), vI ((c_ : Nat) : Int), vI ((k : Nat) : Int), vI (((tS f n e_) : Nat) : Int), vI (((tS f n e_) : Nat) : Int), .ref (x 1)]))], [((x 0), .inl (g.2 0, 200, .inl (aI f)))], [((x 1), .inl (g.2 0, 4, .inl (aI m_)))]] rfl (fun H locs hP hD hS => ?_)
          refine lv_aload_n hx hb dX7_step_54 rfl (lv_at hl 0 rfl) ?_
          refine lv_aload_n hx hb dX7_step_55 rfl (lv_at hl 0 rfl) ?_
          refine z_get hx hb hts hin7_ hown hK hP 0 rfl rfl 4 (by decide) (hts _ (List.mem_of_getElem? (i := 2) rfl)) rfl dX7_step_56 ?_
          refine lv_aload_n hx hb dX7_step_59 rfl (lv_at hl 0 rfl) ?_
          refine z_get hx hb hts hin7_ hown hK hP 0 rfl rfl 1 (by decide) (hts _ (List.mem_of_getElem? (i := 3) rfl)) rfl dX7_step_60 ?_
          refine z_icmp_ge (tgt := 81) hx hb (by omega) (by omega) dX7_step_63 (by decide) (fun c18 => ?_) (fun c18 => ?_)
          · refine z_iconst hx hb dX7_step_81 rfl ?_
            refine z_toI (((kdA f n (tS f n e_)) : Nat) : Int) (by have := kdA_s f n (tS f n e_); omega) ?_
            refine z_put hx hb hts hin7_ tyX7 tyX7_ok nmX7 hown hK hP hD hS 0 rfl rfl 3 (by decide) (hts _ (List.mem_of_getElem? (i := 5) rfl)) rfl rfl rfl (Nat.le_of_ble_eq_true rfl) dX7_step_82 [[(q, .inr (7, [.ref (x 0), vI ((n : Nat) : Int), vI ((c_ : Nat) : Int), vI (((kdA f n (tS f n e_)) : Nat) : Int), vI (((tS f n e_) : Nat) : Int), vI (((tS f n e_) : Nat) : Int), .ref (x 1)]))], [((x 0), .inl (g.2 0, 200, .inl (aI f)))], [((x 1), .inl (g.2 0, 4, .inl (aI m_)))]] rfl (fun H locs hP hD hS => ?_)
            have loop85 : ∀ (N : Nat) (j : Nat) (H : Heap) (locs : List Loc) (ls : Array Slot), j ≤ n → (tS f n e_) ≤ j → tR f n (kdA f n (tS f n e_)) j = tR f n (kdA f n (tS f n e_)) (tS f n e_) → (n - j) < N → zP g [[(q, .inr (7, [.ref (x 0), vI ((n : Nat) : Int), vI ((c_ : Nat) : Int), vI (((kdA f n (tS f n e_)) : Nat) : Int), vI (((tS f n e_) : Nat) : Int), vI ((j : Nat) : Int), .ref (x 1)]))], [((x 0), .inl (g.2 0, 200, .inl (aI f)))], [((x 1), .inl (g.2 0, 4, .inl (aI m_)))]] H → zD A [[(q, .inr (7, [.ref (x 0), vI ((n : Nat) : Int), vI ((c_ : Nat) : Int), vI (((kdA f n (tS f n e_)) : Nat) : Int), vI (((tS f n e_) : Nat) : Int), vI ((j : Nat) : Int), .ref (x 1)]))], [((x 0), .inl (g.2 0, 200, .inl (aI f)))], [((x 1), .inl (g.2 0, 4, .inl (aI m_)))]] → va_S A s.heap H locs → lv_has ls 1 [(0, .ref q)] → W p l e (zRm 1 0 0) s m ([.ref q] : List Value).toArray below meth c H locs (0) (0) (MQ below ((qv g (fun (_ : Unit) => True) (fun (_ : Unit) => [(textW g q x n c_ (kdA f n (tS f n e_)) (tS f n e_) (tE f n (tS f n e_)) f m_)])) A) ([.ref q] : List Value).toArray s 0 0 A) (F0 m 85 ls []) := by
              intro N
              induction N with
              | zero => intro j H locs ls hj hj3 hj2 hm; exact absurd hm (Nat.not_lt_zero _)
              | succ N ih =>
                intro j H locs ls hj hj3 hj2 hm hP hD hS hl
                refine lv_aload_n hx hb dX7_step_85 rfl (lv_at hl 0 rfl) ?_
                refine z_get hx hb hts hin7_ hown hK hP 0 rfl rfl 5 (by decide) (hts _ (List.mem_of_getElem? (i := 1) rfl)) rfl dX7_step_86 ?_
                refine lv_aload_n hx hb dX7_step_89 rfl (lv_at hl 0 rfl) ?_
                refine z_get hx hb hts hin7_ hown hK hP 0 rfl rfl 1 (by decide) (hts _ (List.mem_of_getElem? (i := 3) rfl)) rfl dX7_step_90 ?_
                refine z_icmp_ge (tgt := 128) hx hb (by omega) (by omega) dX7_step_93 (by decide) (fun c19 => ?_) (fun c19 => ?_)
                · refine lv_aload_n hx hb dX7_step_128 rfl (lv_at hl 0 rfl) ?_
                  refine z_get hx hb hts hin7_ hown hK hP 0 rfl rfl 3 (by decide) (hts _ (List.mem_of_getElem? (i := 5) rfl)) rfl dX7_step_129 ?_
                  refine z_iconst hx hb dX7_step_132 rfl ?_
                  refine z_icmp_ne (tgt := 146) hx hb (by omega) (by decide) dX7_step_133 (by decide) (fun c20 => ?_) (fun c20 => ?_)
                  · have hE : ((j : Nat) : Int) = (((tE f n (tS f n e_)) : Nat) : Int) := by have := tE_s f n (tS f n e_); have := tR_stop (f := f) (n := n) (k := (kdA f n (tS f n e_))) (i := j) (by first | exact Or.inl (by omega) | exact Or.inr (by omega)); omega
                    rw [hE] at hP hD
                    have hP : zP g [[(q, .inr (7, [.ref (x 0), vI ((n : Nat) : Int), vI ((c_ : Nat) : Int), vI (((kdA f n (tS f n e_)) : Nat) : Int), vI (((tS f n e_) : Nat) : Int), vI (((tE f n (tS f n e_)) : Nat) : Int), .ref (x 1)]))], [((x 0), .inl (g.2 0, 200, .inl (aI f)))], [((x 1), .inl (g.2 0, 4, .inl (aI m_)))]] H := hP
                    have hD : zD A [[(q, .inr (7, [.ref (x 0), vI ((n : Nat) : Int), vI ((c_ : Nat) : Int), vI (((kdA f n (tS f n e_)) : Nat) : Int), vI (((tS f n e_) : Nat) : Int), vI (((tE f n (tS f n e_)) : Nat) : Int), .ref (x 1)]))], [((x 0), .inl (g.2 0, 200, .inl (aI f)))], [((x 1), .inl (g.2 0, 4, .inl (aI m_)))]] := hD
                    have hP : zP g [(textW g q x n c_ (kdA f n (tS f n e_)) (tS f n e_) (tE f n (tS f n e_)) f m_)] H := hP
                    have hD : zD A [(textW g q x n c_ (kdA f n (tS f n e_)) (tS f n e_) (tE f n (tS f n e_)) f m_)] := hD
                    exact z_retv () [0] hx hb hr hlocks hK hP hD hS trivial rfl rfl (rfl) (Nat.le_of_ble_eq_true rfl) (Nat.le_of_ble_eq_true rfl) dX7_step_146
                  · refine lv_aload_n hx hb dX7_step_136 rfl (lv_at hl 0 rfl) ?_
                    refine lv_aload_n hx hb dX7_step_137 rfl (lv_at hl 0 rfl) ?_
                    refine z_get hx hb hts hin7_ hown hK hP 0 rfl rfl 4 (by decide) (hts _ (List.mem_of_getElem? (i := 2) rfl)) rfl dX7_step_138 ?_
                    refine z_iconst hx hb dX7_step_141 rfl ?_
                    refine z_iadd hx hb ((((tS f n e_) + 1) : Nat) : Int) (by omega) dX7_step_142 ?_
                    refine z_put hx hb hts hin7_ tyX7 tyX7_ok nmX7 hown hK hP hD hS 0 rfl rfl 5 (by decide) (hts _ (List.mem_of_getElem? (i := 1) rfl)) rfl rfl rfl (Nat.le_of_ble_eq_true rfl) dX7_step_143 [[(q, .inr (7, [.ref (x 0), vI ((n : Nat) : Int), vI ((c_ : Nat) : Int), vI (((kdA f n (tS f n e_)) : Nat) : Int), vI (((tS f n e_) : Nat) : Int), vI ((((tS f n e_) + 1) : Nat) : Int), .ref (x 1)]))], [((x 0), .inl (g.2 0, 200, .inl (aI f)))], [((x 1), .inl (g.2 0, 4, .inl (aI m_)))]] rfl (fun H locs hP hD hS => ?_)
                    have hE : ((((tS f n e_) + 1) : Nat) : Int) = (((tE f n (tS f n e_)) : Nat) : Int) := by have := tE_s f n (tS f n e_); have := tR_stop (f := f) (n := n) (k := (kdA f n (tS f n e_))) (i := j) (by first | exact Or.inl (by omega) | exact Or.inr (by omega)); omega
                    rw [hE] at hP hD
                    have hP : zP g [[(q, .inr (7, [.ref (x 0), vI ((n : Nat) : Int), vI ((c_ : Nat) : Int), vI (((kdA f n (tS f n e_)) : Nat) : Int), vI (((tS f n e_) : Nat) : Int), vI (((tE f n (tS f n e_)) : Nat) : Int), .ref (x 1)]))], [((x 0), .inl (g.2 0, 200, .inl (aI f)))], [((x 1), .inl (g.2 0, 4, .inl (aI m_)))]] H := hP
                    have hD : zD A [[(q, .inr (7, [.ref (x 0), vI ((n : Nat) : Int), vI ((c_ : Nat) : Int), vI (((kdA f n (tS f n e_)) : Nat) : Int), vI (((tS f n e_) : Nat) : Int), vI (((tE f n (tS f n e_)) : Nat) : Int), .ref (x 1)]))], [((x 0), .inl (g.2 0, 200, .inl (aI f)))], [((x 1), .inl (g.2 0, 4, .inl (aI m_)))]] := hD
                    have hP : zP g [(textW g q x n c_ (kdA f n (tS f n e_)) (tS f n e_) (tE f n (tS f n e_)) f m_)] H := hP
                    have hD : zD A [(textW g q x n c_ (kdA f n (tS f n e_)) (tS f n e_) (tE f n (tS f n e_)) f m_)] := hD
                    exact z_retv () [0] hx hb hr hlocks hK hP hD hS trivial rfl rfl (rfl) (Nat.le_of_ble_eq_true rfl) (Nat.le_of_ble_eq_true rfl) dX7_step_146
                · refine lv_aload_n hx hb dX7_step_96 rfl (lv_at hl 0 rfl) ?_
                  refine z_get hx hb hts hin7_ hown hK hP 0 rfl rfl 0 (by decide) (hts _ (List.mem_of_getElem? (i := 4) rfl)) rfl dX7_step_97 ?_
                  refine lv_aload_n hx hb dX7_step_100 rfl (lv_at hl 0 rfl) ?_
                  refine z_get hx hb hts hin7_ hown hK hP 0 rfl rfl 5 (by decide) (hts _ (List.mem_of_getElem? (i := 1) rfl)) rfl dX7_step_101 ?_
                  have hl2 := hf j
                  refine z_iald hx hb hK hP 1 rfl j (by omega) (by omega) (by decide) dX7_step_104 ?_
                  refine z_cSi (As := [vI (f j)]) (rest := []) ⟨hx, hb, hml, hown, hts⟩ hK hP hD hS hA [] [0, 1, 2] rfl rfl rfl (c_X7_kindOf l g (f j) (by first | assumption | omega | decide)) (va_cwS 1 hts gX7_step_X7_kindOf rfl rfl rfl (by decide +kernel) ⟨Nat.le_of_ble_eq_true rfl, Nat.le_of_ble_eq_true rfl⟩) (fun _ _ _ _ _ _ => trivial) (fun _ _ _ => trivial) rfl hl.1 (Nat.le_of_ble_eq_true rfl) rfl dX7_step_105 ⟨Nat.le_of_ble_eq_true rfl, Nat.le_of_ble_eq_true rfl⟩ (fun u_21 H locs hwu_21 hP hD hS => ?_)
                  try dsimp only at hwu_21
                  have hP : zP g [[(q, .inr (7, [.ref (x 0), vI ((n : Nat) : Int), vI ((c_ : Nat) : Int), vI (((kdA f n (tS f n e_)) : Nat) : Int), vI (((tS f n e_) : Nat) : Int), vI ((j : Nat) : Int), .ref (x 1)]))], [((x 0), .inl (g.2 0, 200, .inl (aI f)))], [((x 1), .inl (g.2 0, 4, .inl (aI m_)))]] H := hP
                  have hD : zD A [[(q, .inr (7, [.ref (x 0), vI ((n : Nat) : Int), vI ((c_ : Nat) : Int), vI (((kdA f n (tS f n e_)) : Nat) : Int), vI (((tS f n e_) : Nat) : Int), vI ((j : Nat) : Int), .ref (x 1)]))], [((x 0), .inl (g.2 0, 200, .inl (aI f)))], [((x 1), .inl (g.2 0, 4, .inl (aI m_)))]] := hD
                  refine z_toI (((kdO (f j)) : Nat) : Int) rfl ?_
                  have hf_22 := kdO_s (f j)
                  refine lv_aload_n hx hb dX7_step_108 rfl (lv_at hl 0 rfl) ?_
                  refine z_get hx hb hts hin7_ hown hK hP 0 rfl rfl 3 (by decide) (hts _ (List.mem_of_getElem? (i := 5) rfl)) rfl dX7_step_109 ?_
                  refine z_icmp_ne (tgt := 128) hx hb (by omega) (by omega) dX7_step_112 (by decide) (fun c23 => ?_) (fun c23 => ?_)
                  · refine lv_aload_n hx hb dX7_step_128 rfl (lv_at hl 0 rfl) ?_
                    refine z_get hx hb hts hin7_ hown hK hP 0 rfl rfl 3 (by decide) (hts _ (List.mem_of_getElem? (i := 5) rfl)) rfl dX7_step_129 ?_
                    refine z_iconst hx hb dX7_step_132 rfl ?_
                    refine z_icmp_ne (tgt := 146) hx hb (by omega) (by decide) dX7_step_133 (by decide) (fun c24 => ?_) (fun c24 => ?_)
                    · have hE : ((j : Nat) : Int) = (((tE f n (tS f n e_)) : Nat) : Int) := by have := tE_s f n (tS f n e_); have := tR_stop (f := f) (n := n) (k := (kdA f n (tS f n e_))) (i := j) (by first | exact Or.inl (by omega) | exact Or.inr (by omega)); omega
                      rw [hE] at hP hD
                      have hP : zP g [[(q, .inr (7, [.ref (x 0), vI ((n : Nat) : Int), vI ((c_ : Nat) : Int), vI (((kdA f n (tS f n e_)) : Nat) : Int), vI (((tS f n e_) : Nat) : Int), vI (((tE f n (tS f n e_)) : Nat) : Int), .ref (x 1)]))], [((x 0), .inl (g.2 0, 200, .inl (aI f)))], [((x 1), .inl (g.2 0, 4, .inl (aI m_)))]] H := hP
                      have hD : zD A [[(q, .inr (7, [.ref (x 0), vI ((n : Nat) : Int), vI ((c_ : Nat) : Int), vI (((kdA f n (tS f n e_)) : Nat) : Int), vI (((tS f n e_) : Nat) : Int), vI (((tE f n (tS f n e_)) : Nat) : Int), .ref (x 1)]))], [((x 0), .inl (g.2 0, 200, .inl (aI f)))], [((x 1), .inl (g.2 0, 4, .inl (aI m_)))]] := hD
                      have hP : zP g [(textW g q x n c_ (kdA f n (tS f n e_)) (tS f n e_) (tE f n (tS f n e_)) f m_)] H := hP
                      have hD : zD A [(textW g q x n c_ (kdA f n (tS f n e_)) (tS f n e_) (tE f n (tS f n e_)) f m_)] := hD
                      exact z_retv () [0] hx hb hr hlocks hK hP hD hS trivial rfl rfl (rfl) (Nat.le_of_ble_eq_true rfl) (Nat.le_of_ble_eq_true rfl) dX7_step_146
                    · refine lv_aload_n hx hb dX7_step_136 rfl (lv_at hl 0 rfl) ?_
                      refine lv_aload_n hx hb dX7_step_137 rfl (lv_at hl 0 rfl) ?_
                      refine z_get hx hb hts hin7_ hown hK hP 0 rfl rfl 4 (by decide) (hts _ (List.mem_of_getElem? (i := 2) rfl)) rfl dX7_step_138 ?_
                      refine z_iconst hx hb dX7_step_141 rfl ?_
                      refine z_iadd hx hb ((((tS f n e_) + 1) : Nat) : Int) (by omega) dX7_step_142 ?_
                      refine z_put hx hb hts hin7_ tyX7 tyX7_ok nmX7 hown hK hP hD hS 0 rfl rfl 5 (by decide) (hts _ (List.mem_of_getElem? (i := 1) rfl)) rfl rfl rfl (Nat.le_of_ble_eq_true rfl) dX7_step_143 [[(q, .inr (7, [.ref (x 0), vI ((n : Nat) : Int), vI ((c_ : Nat) : Int), vI (((kdA f n (tS f n e_)) : Nat) : Int), vI (((tS f n e_) : Nat) : Int), vI ((((tS f n e_) + 1) : Nat) : Int), .ref (x 1)]))], [((x 0), .inl (g.2 0, 200, .inl (aI f)))], [((x 1), .inl (g.2 0, 4, .inl (aI m_)))]] rfl (fun H locs hP hD hS => ?_)
                      have hE : ((((tS f n e_) + 1) : Nat) : Int) = (((tE f n (tS f n e_)) : Nat) : Int) := by have := tE_s f n (tS f n e_); have := tR_stop (f := f) (n := n) (k := (kdA f n (tS f n e_))) (i := j) (by first | exact Or.inl (by omega) | exact Or.inr (by omega)); omega
                      rw [hE] at hP hD
                      have hP : zP g [[(q, .inr (7, [.ref (x 0), vI ((n : Nat) : Int), vI ((c_ : Nat) : Int), vI (((kdA f n (tS f n e_)) : Nat) : Int), vI (((tS f n e_) : Nat) : Int), vI (((tE f n (tS f n e_)) : Nat) : Int), .ref (x 1)]))], [((x 0), .inl (g.2 0, 200, .inl (aI f)))], [((x 1), .inl (g.2 0, 4, .inl (aI m_)))]] H := hP
                      have hD : zD A [[(q, .inr (7, [.ref (x 0), vI ((n : Nat) : Int), vI ((c_ : Nat) : Int), vI (((kdA f n (tS f n e_)) : Nat) : Int), vI (((tS f n e_) : Nat) : Int), vI (((tE f n (tS f n e_)) : Nat) : Int), .ref (x 1)]))], [((x 0), .inl (g.2 0, 200, .inl (aI f)))], [((x 1), .inl (g.2 0, 4, .inl (aI m_)))]] := hD
                      have hP : zP g [(textW g q x n c_ (kdA f n (tS f n e_)) (tS f n e_) (tE f n (tS f n e_)) f m_)] H := hP
                      have hD : zD A [(textW g q x n c_ (kdA f n (tS f n e_)) (tS f n e_) (tE f n (tS f n e_)) f m_)] := hD
                      exact z_retv () [0] hx hb hr hlocks hK hP hD hS trivial rfl rfl (rfl) (Nat.le_of_ble_eq_true rfl) (Nat.le_of_ble_eq_true rfl) dX7_step_146
                  · refine lv_aload_n hx hb dX7_step_115 rfl (lv_at hl 0 rfl) ?_
                    refine lv_dup hx hb dX7_step_116 rfl ?_
                    refine z_get hx hb hts hin7_ hown hK hP 0 rfl rfl 5 (by decide) (hts _ (List.mem_of_getElem? (i := 1) rfl)) rfl dX7_step_117 ?_
                    refine z_iconst hx hb dX7_step_120 rfl ?_
                    refine z_iadd hx hb (((j + 1) : Nat) : Int) (by omega) dX7_step_121 ?_
                    refine z_put hx hb hts hin7_ tyX7 tyX7_ok nmX7 hown hK hP hD hS 0 rfl rfl 5 (by decide) (hts _ (List.mem_of_getElem? (i := 1) rfl)) rfl rfl rfl (Nat.le_of_ble_eq_true rfl) dX7_step_122 [[(q, .inr (7, [.ref (x 0), vI ((n : Nat) : Int), vI ((c_ : Nat) : Int), vI (((kdA f n (tS f n e_)) : Nat) : Int), vI (((tS f n e_) : Nat) : Int), vI (((j + 1) : Nat) : Int), .ref (x 1)]))], [((x 0), .inl (g.2 0, 200, .inl (aI f)))], [((x 1), .inl (g.2 0, 4, .inl (aI m_)))]] rfl (fun H locs hP hD hS => ?_)
                    refine lv_goto (tgt := 85) hx hb dX7_step_125 (by decide) ?_
                    exact ih (j + 1) _ _ _ (by omega) (by omega) ((tR_go (i := j) (by omega) (by omega)).symm.trans hj2) (by omega) hP hD hS (lv_sub hl [0] rfl)
            exact loop85 _ (tS f n e_) _ _ _ (by omega) (Nat.le_refl _) rfl (Nat.lt_succ_self _) hP hD hS (lv_sub hl [0] rfl)
          · refine lv_aload_n hx hb dX7_step_66 rfl (lv_at hl 0 rfl) ?_
            refine z_get hx hb hts hin7_ hown hK hP 0 rfl rfl 0 (by decide) (hts _ (List.mem_of_getElem? (i := 4) rfl)) rfl dX7_step_67 ?_
            refine lv_aload_n hx hb dX7_step_70 rfl (lv_at hl 0 rfl) ?_
            refine z_get hx hb hts hin7_ hown hK hP 0 rfl rfl 4 (by decide) (hts _ (List.mem_of_getElem? (i := 2) rfl)) rfl dX7_step_71 ?_
            have hl1 := hf (tS f n e_)
            refine z_iald hx hb hK hP 1 rfl (tS f n e_) (by omega) (by omega) (by decide) dX7_step_74 ?_
            refine z_cSi (As := [vI (f (tS f n e_))]) (rest := [.ref q]) ⟨hx, hb, hml, hown, hts⟩ hK hP hD hS hA [] [0, 1, 2] rfl rfl rfl (c_X7_kindOf l g (f (tS f n e_)) (by first | assumption | omega | decide)) (va_cwS 1 hts gX7_step_X7_kindOf rfl rfl rfl (by decide +kernel) ⟨Nat.le_of_ble_eq_true rfl, Nat.le_of_ble_eq_true rfl⟩) (fun _ _ _ _ _ _ => trivial) (fun _ _ _ => trivial) rfl hl.1 (Nat.le_of_ble_eq_true rfl) rfl dX7_step_75 ⟨Nat.le_of_ble_eq_true rfl, Nat.le_of_ble_eq_true rfl⟩ (fun u_25 H locs hwu_25 hP hD hS => ?_)
            try dsimp only at hwu_25
            have hP : zP g [[(q, .inr (7, [.ref (x 0), vI ((n : Nat) : Int), vI ((c_ : Nat) : Int), vI ((k : Nat) : Int), vI (((tS f n e_) : Nat) : Int), vI (((tS f n e_) : Nat) : Int), .ref (x 1)]))], [((x 0), .inl (g.2 0, 200, .inl (aI f)))], [((x 1), .inl (g.2 0, 4, .inl (aI m_)))]] H := hP
            have hD : zD A [[(q, .inr (7, [.ref (x 0), vI ((n : Nat) : Int), vI ((c_ : Nat) : Int), vI ((k : Nat) : Int), vI (((tS f n e_) : Nat) : Int), vI (((tS f n e_) : Nat) : Int), .ref (x 1)]))], [((x 0), .inl (g.2 0, 200, .inl (aI f)))], [((x 1), .inl (g.2 0, 4, .inl (aI m_)))]] := hD
            refine z_toI (((kdO (f (tS f n e_))) : Nat) : Int) rfl ?_
            have hf_26 := kdO_s (f (tS f n e_))
            refine lv_goto (tgt := 82) hx hb dX7_step_78 (by decide) ?_
            refine z_toI (((kdA f n (tS f n e_)) : Nat) : Int) (by have := kdA_s f n (tS f n e_); omega) ?_
            refine z_put hx hb hts hin7_ tyX7 tyX7_ok nmX7 hown hK hP hD hS 0 rfl rfl 3 (by decide) (hts _ (List.mem_of_getElem? (i := 5) rfl)) rfl rfl rfl (Nat.le_of_ble_eq_true rfl) dX7_step_82 [[(q, .inr (7, [.ref (x 0), vI ((n : Nat) : Int), vI ((c_ : Nat) : Int), vI (((kdA f n (tS f n e_)) : Nat) : Int), vI (((tS f n e_) : Nat) : Int), vI (((tS f n e_) : Nat) : Int), .ref (x 1)]))], [((x 0), .inl (g.2 0, 200, .inl (aI f)))], [((x 1), .inl (g.2 0, 4, .inl (aI m_)))]] rfl (fun H locs hP hD hS => ?_)
            have loop85 : ∀ (N : Nat) (j : Nat) (H : Heap) (locs : List Loc) (ls : Array Slot), j ≤ n → (tS f n e_) ≤ j → tR f n (kdA f n (tS f n e_)) j = tR f n (kdA f n (tS f n e_)) (tS f n e_) → (n - j) < N → zP g [[(q, .inr (7, [.ref (x 0), vI ((n : Nat) : Int), vI ((c_ : Nat) : Int), vI (((kdA f n (tS f n e_)) : Nat) : Int), vI (((tS f n e_) : Nat) : Int), vI ((j : Nat) : Int), .ref (x 1)]))], [((x 0), .inl (g.2 0, 200, .inl (aI f)))], [((x 1), .inl (g.2 0, 4, .inl (aI m_)))]] H → zD A [[(q, .inr (7, [.ref (x 0), vI ((n : Nat) : Int), vI ((c_ : Nat) : Int), vI (((kdA f n (tS f n e_)) : Nat) : Int), vI (((tS f n e_) : Nat) : Int), vI ((j : Nat) : Int), .ref (x 1)]))], [((x 0), .inl (g.2 0, 200, .inl (aI f)))], [((x 1), .inl (g.2 0, 4, .inl (aI m_)))]] → va_S A s.heap H locs → lv_has ls 1 [(0, .ref q)] → W p l e (zRm 1 0 0) s m ([.ref q] : List Value).toArray below meth c H locs (0) (0) (MQ below ((qv g (fun (_ : Unit) => True) (fun (_ : Unit) => [(textW g q x n c_ (kdA f n (tS f n e_)) (tS f n e_) (tE f n (tS f n e_)) f m_)])) A) ([.ref q] : List Value).toArray s 0 0 A) (F0 m 85 ls []) := by
              intro N
              induction N with
              | zero => intro j H locs ls hj hj3 hj2 hm; exact absurd hm (Nat.not_lt_zero _)
              | succ N ih =>
                intro j H locs ls hj hj3 hj2 hm hP hD hS hl
                refine lv_aload_n hx hb dX7_step_85 rfl (lv_at hl 0 rfl) ?_
                refine z_get hx hb hts hin7_ hown hK hP 0 rfl rfl 5 (by decide) (hts _ (List.mem_of_getElem? (i := 1) rfl)) rfl dX7_step_86 ?_
                refine lv_aload_n hx hb dX7_step_89 rfl (lv_at hl 0 rfl) ?_
                refine z_get hx hb hts hin7_ hown hK hP 0 rfl rfl 1 (by decide) (hts _ (List.mem_of_getElem? (i := 3) rfl)) rfl dX7_step_90 ?_
                refine z_icmp_ge (tgt := 128) hx hb (by omega) (by omega) dX7_step_93 (by decide) (fun c27 => ?_) (fun c27 => ?_)
                · refine lv_aload_n hx hb dX7_step_128 rfl (lv_at hl 0 rfl) ?_
                  refine z_get hx hb hts hin7_ hown hK hP 0 rfl rfl 3 (by decide) (hts _ (List.mem_of_getElem? (i := 5) rfl)) rfl dX7_step_129 ?_
                  refine z_iconst hx hb dX7_step_132 rfl ?_
                  refine z_icmp_ne (tgt := 146) hx hb (by omega) (by decide) dX7_step_133 (by decide) (fun c28 => ?_) (fun c28 => ?_)
                  · have hE : ((j : Nat) : Int) = (((tE f n (tS f n e_)) : Nat) : Int) := by have := tE_s f n (tS f n e_); have := tR_stop (f := f) (n := n) (k := (kdA f n (tS f n e_))) (i := j) (by first | exact Or.inl (by omega) | exact Or.inr (by omega)); omega
                    rw [hE] at hP hD
                    have hP : zP g [[(q, .inr (7, [.ref (x 0), vI ((n : Nat) : Int), vI ((c_ : Nat) : Int), vI (((kdA f n (tS f n e_)) : Nat) : Int), vI (((tS f n e_) : Nat) : Int), vI (((tE f n (tS f n e_)) : Nat) : Int), .ref (x 1)]))], [((x 0), .inl (g.2 0, 200, .inl (aI f)))], [((x 1), .inl (g.2 0, 4, .inl (aI m_)))]] H := hP
                    have hD : zD A [[(q, .inr (7, [.ref (x 0), vI ((n : Nat) : Int), vI ((c_ : Nat) : Int), vI (((kdA f n (tS f n e_)) : Nat) : Int), vI (((tS f n e_) : Nat) : Int), vI (((tE f n (tS f n e_)) : Nat) : Int), .ref (x 1)]))], [((x 0), .inl (g.2 0, 200, .inl (aI f)))], [((x 1), .inl (g.2 0, 4, .inl (aI m_)))]] := hD
                    have hP : zP g [(textW g q x n c_ (kdA f n (tS f n e_)) (tS f n e_) (tE f n (tS f n e_)) f m_)] H := hP
                    have hD : zD A [(textW g q x n c_ (kdA f n (tS f n e_)) (tS f n e_) (tE f n (tS f n e_)) f m_)] := hD
                    exact z_retv () [0] hx hb hr hlocks hK hP hD hS trivial rfl rfl (rfl) (Nat.le_of_ble_eq_true rfl) (Nat.le_of_ble_eq_true rfl) dX7_step_146
                  · refine lv_aload_n hx hb dX7_step_136 rfl (lv_at hl 0 rfl) ?_
                    refine lv_aload_n hx hb dX7_step_137 rfl (lv_at hl 0 rfl) ?_
                    refine z_get hx hb hts hin7_ hown hK hP 0 rfl rfl 4 (by decide) (hts _ (List.mem_of_getElem? (i := 2) rfl)) rfl dX7_step_138 ?_
                    refine z_iconst hx hb dX7_step_141 rfl ?_
                    refine z_iadd hx hb ((((tS f n e_) + 1) : Nat) : Int) (by omega) dX7_step_142 ?_
                    refine z_put hx hb hts hin7_ tyX7 tyX7_ok nmX7 hown hK hP hD hS 0 rfl rfl 5 (by decide) (hts _ (List.mem_of_getElem? (i := 1) rfl)) rfl rfl rfl (Nat.le_of_ble_eq_true rfl) dX7_step_143 [[(q, .inr (7, [.ref (x 0), vI ((n : Nat) : Int), vI ((c_ : Nat) : Int), vI (((kdA f n (tS f n e_)) : Nat) : Int), vI (((tS f n e_) : Nat) : Int), vI ((((tS f n e_) + 1) : Nat) : Int), .ref (x 1)]))], [((x 0), .inl (g.2 0, 200, .inl (aI f)))], [((x 1), .inl (g.2 0, 4, .inl (aI m_)))]] rfl (fun H locs hP hD hS => ?_)
                    have hE : ((((tS f n e_) + 1) : Nat) : Int) = (((tE f n (tS f n e_)) : Nat) : Int) := by have := tE_s f n (tS f n e_); have := tR_stop (f := f) (n := n) (k := (kdA f n (tS f n e_))) (i := j) (by first | exact Or.inl (by omega) | exact Or.inr (by omega)); omega
                    rw [hE] at hP hD
                    have hP : zP g [[(q, .inr (7, [.ref (x 0), vI ((n : Nat) : Int), vI ((c_ : Nat) : Int), vI (((kdA f n (tS f n e_)) : Nat) : Int), vI (((tS f n e_) : Nat) : Int), vI (((tE f n (tS f n e_)) : Nat) : Int), .ref (x 1)]))], [((x 0), .inl (g.2 0, 200, .inl (aI f)))], [((x 1), .inl (g.2 0, 4, .inl (aI m_)))]] H := hP
                    have hD : zD A [[(q, .inr (7, [.ref (x 0), vI ((n : Nat) : Int), vI ((c_ : Nat) : Int), vI (((kdA f n (tS f n e_)) : Nat) : Int), vI (((tS f n e_) : Nat) : Int), vI (((tE f n (tS f n e_)) : Nat) : Int), .ref (x 1)]))], [((x 0), .inl (g.2 0, 200, .inl (aI f)))], [((x 1), .inl (g.2 0, 4, .inl (aI m_)))]] := hD
                    have hP : zP g [(textW g q x n c_ (kdA f n (tS f n e_)) (tS f n e_) (tE f n (tS f n e_)) f m_)] H := hP
                    have hD : zD A [(textW g q x n c_ (kdA f n (tS f n e_)) (tS f n e_) (tE f n (tS f n e_)) f m_)] := hD
                    exact z_retv () [0] hx hb hr hlocks hK hP hD hS trivial rfl rfl (rfl) (Nat.le_of_ble_eq_true rfl) (Nat.le_of_ble_eq_true rfl) dX7_step_146
                · refine lv_aload_n hx hb dX7_step_96 rfl (lv_at hl 0 rfl) ?_
                  refine z_get hx hb hts hin7_ hown hK hP 0 rfl rfl 0 (by decide) (hts _ (List.mem_of_getElem? (i := 4) rfl)) rfl dX7_step_97 ?_
                  refine lv_aload_n hx hb dX7_step_100 rfl (lv_at hl 0 rfl) ?_
                  refine z_get hx hb hts hin7_ hown hK hP 0 rfl rfl 5 (by decide) (hts _ (List.mem_of_getElem? (i := 1) rfl)) rfl dX7_step_101 ?_
                  have hl2 := hf j
                  refine z_iald hx hb hK hP 1 rfl j (by omega) (by omega) (by decide) dX7_step_104 ?_
                  refine z_cSi (As := [vI (f j)]) (rest := []) ⟨hx, hb, hml, hown, hts⟩ hK hP hD hS hA [] [0, 1, 2] rfl rfl rfl (c_X7_kindOf l g (f j) (by first | assumption | omega | decide)) (va_cwS 1 hts gX7_step_X7_kindOf rfl rfl rfl (by decide +kernel) ⟨Nat.le_of_ble_eq_true rfl, Nat.le_of_ble_eq_true rfl⟩) (fun _ _ _ _ _ _ => trivial) (fun _ _ _ => trivial) rfl hl.1 (Nat.le_of_ble_eq_true rfl) rfl dX7_step_105 ⟨Nat.le_of_ble_eq_true rfl, Nat.le_of_ble_eq_true rfl⟩ (fun u_29 H locs hwu_29 hP hD hS => ?_)
                  try dsimp only at hwu_29
                  have hP : zP g [[(q, .inr (7, [.ref (x 0), vI ((n : Nat) : Int), vI ((c_ : Nat) : Int), vI (((kdA f n (tS f n e_)) : Nat) : Int), vI (((tS f n e_) : Nat) : Int), vI ((j : Nat) : Int), .ref (x 1)]))], [((x 0), .inl (g.2 0, 200, .inl (aI f)))], [((x 1), .inl (g.2 0, 4, .inl (aI m_)))]] H := hP
                  have hD : zD A [[(q, .inr (7, [.ref (x 0), vI ((n : Nat) : Int), vI ((c_ : Nat) : Int), vI (((kdA f n (tS f n e_)) : Nat) : Int), vI (((tS f n e_) : Nat) : Int), vI ((j : Nat) : Int), .ref (x 1)]))], [((x 0), .inl (g.2 0, 200, .inl (aI f)))], [((x 1), .inl (g.2 0, 4, .inl (aI m_)))]] := hD
                  refine z_toI (((kdO (f j)) : Nat) : Int) rfl ?_
                  have hf_30 := kdO_s (f j)
                  refine lv_aload_n hx hb dX7_step_108 rfl (lv_at hl 0 rfl) ?_
                  refine z_get hx hb hts hin7_ hown hK hP 0 rfl rfl 3 (by decide) (hts _ (List.mem_of_getElem? (i := 5) rfl)) rfl dX7_step_109 ?_
                  refine z_icmp_ne (tgt := 128) hx hb (by omega) (by omega) dX7_step_112 (by decide) (fun c31 => ?_) (fun c31 => ?_)
                  · refine lv_aload_n hx hb dX7_step_128 rfl (lv_at hl 0 rfl) ?_
                    refine z_get hx hb hts hin7_ hown hK hP 0 rfl rfl 3 (by decide) (hts _ (List.mem_of_getElem? (i := 5) rfl)) rfl dX7_step_129 ?_
                    refine z_iconst hx hb dX7_step_132 rfl ?_
                    refine z_icmp_ne (tgt := 146) hx hb (by omega) (by decide) dX7_step_133 (by decide) (fun c32 => ?_) (fun c32 => ?_)
                    · have hE : ((j : Nat) : Int) = (((tE f n (tS f n e_)) : Nat) : Int) := by have := tE_s f n (tS f n e_); have := tR_stop (f := f) (n := n) (k := (kdA f n (tS f n e_))) (i := j) (by first | exact Or.inl (by omega) | exact Or.inr (by omega)); omega
                      rw [hE] at hP hD
                      have hP : zP g [[(q, .inr (7, [.ref (x 0), vI ((n : Nat) : Int), vI ((c_ : Nat) : Int), vI (((kdA f n (tS f n e_)) : Nat) : Int), vI (((tS f n e_) : Nat) : Int), vI (((tE f n (tS f n e_)) : Nat) : Int), .ref (x 1)]))], [((x 0), .inl (g.2 0, 200, .inl (aI f)))], [((x 1), .inl (g.2 0, 4, .inl (aI m_)))]] H := hP
                      have hD : zD A [[(q, .inr (7, [.ref (x 0), vI ((n : Nat) : Int), vI ((c_ : Nat) : Int), vI (((kdA f n (tS f n e_)) : Nat) : Int), vI (((tS f n e_) : Nat) : Int), vI (((tE f n (tS f n e_)) : Nat) : Int), .ref (x 1)]))], [((x 0), .inl (g.2 0, 200, .inl (aI f)))], [((x 1), .inl (g.2 0, 4, .inl (aI m_)))]] := hD
                      have hP : zP g [(textW g q x n c_ (kdA f n (tS f n e_)) (tS f n e_) (tE f n (tS f n e_)) f m_)] H := hP
                      have hD : zD A [(textW g q x n c_ (kdA f n (tS f n e_)) (tS f n e_) (tE f n (tS f n e_)) f m_)] := hD
                      exact z_retv () [0] hx hb hr hlocks hK hP hD hS trivial rfl rfl (rfl) (Nat.le_of_ble_eq_true rfl) (Nat.le_of_ble_eq_true rfl) dX7_step_146
                    · refine lv_aload_n hx hb dX7_step_136 rfl (lv_at hl 0 rfl) ?_
                      refine lv_aload_n hx hb dX7_step_137 rfl (lv_at hl 0 rfl) ?_
                      refine z_get hx hb hts hin7_ hown hK hP 0 rfl rfl 4 (by decide) (hts _ (List.mem_of_getElem? (i := 2) rfl)) rfl dX7_step_138 ?_
                      refine z_iconst hx hb dX7_step_141 rfl ?_
                      refine z_iadd hx hb ((((tS f n e_) + 1) : Nat) : Int) (by omega) dX7_step_142 ?_
                      refine z_put hx hb hts hin7_ tyX7 tyX7_ok nmX7 hown hK hP hD hS 0 rfl rfl 5 (by decide) (hts _ (List.mem_of_getElem? (i := 1) rfl)) rfl rfl rfl (Nat.le_of_ble_eq_true rfl) dX7_step_143 [[(q, .inr (7, [.ref (x 0), vI ((n : Nat) : Int), vI ((c_ : Nat) : Int), vI (((kdA f n (tS f n e_)) : Nat) : Int), vI (((tS f n e_) : Nat) : Int), vI ((((tS f n e_) + 1) : Nat) : Int), .ref (x 1)]))], [((x 0), .inl (g.2 0, 200, .inl (aI f)))], [((x 1), .inl (g.2 0, 4, .inl (aI m_)))]] rfl (fun H locs hP hD hS => ?_)
                      have hE : ((((tS f n e_) + 1) : Nat) : Int) = (((tE f n (tS f n e_)) : Nat) : Int) := by have := tE_s f n (tS f n e_); have := tR_stop (f := f) (n := n) (k := (kdA f n (tS f n e_))) (i := j) (by first | exact Or.inl (by omega) | exact Or.inr (by omega)); omega
                      rw [hE] at hP hD
                      have hP : zP g [[(q, .inr (7, [.ref (x 0), vI ((n : Nat) : Int), vI ((c_ : Nat) : Int), vI (((kdA f n (tS f n e_)) : Nat) : Int), vI (((tS f n e_) : Nat) : Int), vI (((tE f n (tS f n e_)) : Nat) : Int), .ref (x 1)]))], [((x 0), .inl (g.2 0, 200, .inl (aI f)))], [((x 1), .inl (g.2 0, 4, .inl (aI m_)))]] H := hP
                      have hD : zD A [[(q, .inr (7, [.ref (x 0), vI ((n : Nat) : Int), vI ((c_ : Nat) : Int), vI (((kdA f n (tS f n e_)) : Nat) : Int), vI (((tS f n e_) : Nat) : Int), vI (((tE f n (tS f n e_)) : Nat) : Int), .ref (x 1)]))], [((x 0), .inl (g.2 0, 200, .inl (aI f)))], [((x 1), .inl (g.2 0, 4, .inl (aI m_)))]] := hD
                      have hP : zP g [(textW g q x n c_ (kdA f n (tS f n e_)) (tS f n e_) (tE f n (tS f n e_)) f m_)] H := hP
                      have hD : zD A [(textW g q x n c_ (kdA f n (tS f n e_)) (tS f n e_) (tE f n (tS f n e_)) f m_)] := hD
                      exact z_retv () [0] hx hb hr hlocks hK hP hD hS trivial rfl rfl (rfl) (Nat.le_of_ble_eq_true rfl) (Nat.le_of_ble_eq_true rfl) dX7_step_146
                  · refine lv_aload_n hx hb dX7_step_115 rfl (lv_at hl 0 rfl) ?_
                    refine lv_dup hx hb dX7_step_116 rfl ?_
                    refine z_get hx hb hts hin7_ hown hK hP 0 rfl rfl 5 (by decide) (hts _ (List.mem_of_getElem? (i := 1) rfl)) rfl dX7_step_117 ?_
                    refine z_iconst hx hb dX7_step_120 rfl ?_
                    refine z_iadd hx hb (((j + 1) : Nat) : Int) (by omega) dX7_step_121 ?_
                    refine z_put hx hb hts hin7_ tyX7 tyX7_ok nmX7 hown hK hP hD hS 0 rfl rfl 5 (by decide) (hts _ (List.mem_of_getElem? (i := 1) rfl)) rfl rfl rfl (Nat.le_of_ble_eq_true rfl) dX7_step_122 [[(q, .inr (7, [.ref (x 0), vI ((n : Nat) : Int), vI ((c_ : Nat) : Int), vI (((kdA f n (tS f n e_)) : Nat) : Int), vI (((tS f n e_) : Nat) : Int), vI (((j + 1) : Nat) : Int), .ref (x 1)]))], [((x 0), .inl (g.2 0, 200, .inl (aI f)))], [((x 1), .inl (g.2 0, 4, .inl (aI m_)))]] rfl (fun H locs hP hD hS => ?_)
                    refine lv_goto (tgt := 85) hx hb dX7_step_125 (by decide) ?_
                    exact ih (j + 1) _ _ _ (by omega) (by omega) ((tR_go (i := j) (by omega) (by omega)).symm.trans hj2) (by omega) hP hD hS (lv_sub hl [0] rfl)
            exact loop85 _ (tS f n e_) _ _ _ (by omega) (Nat.le_refl _) rfl (Nat.lt_succ_self _) hP hD hS (lv_sub hl [0] rfl)
        · refine lv_aload_n hx hb dX7_step_33 rfl (lv_at hl 0 rfl) ?_
          refine lv_dup hx hb dX7_step_34 rfl ?_
          refine z_get hx hb hts hin7_ hown hK hP 0 rfl rfl 4 (by decide) (hts _ (List.mem_of_getElem? (i := 2) rfl)) rfl dX7_step_35 ?_
          refine z_iconst hx hb dX7_step_38 rfl ?_
          refine z_iadd hx hb (((j + 1) : Nat) : Int) (by omega) dX7_step_39 ?_
          refine z_put hx hb hts hin7_ tyX7 tyX7_ok nmX7 hown hK hP hD hS 0 rfl rfl 4 (by decide) (hts _ (List.mem_of_getElem? (i := 2) rfl)) rfl rfl rfl (Nat.le_of_ble_eq_true rfl) dX7_step_40 [[(q, .inr (7, [.ref (x 0), vI ((n : Nat) : Int), vI ((c_ : Nat) : Int), vI ((k : Nat) : Int), vI (((j + 1) : Nat) : Int), vI ((e_ : Nat) : Int), .ref (x 1)]))], [((x 0), .inl (g.2 0, 200, .inl (aI f)))], [((x 1), .inl (g.2 0, 4, .inl (aI m_)))]] rfl (fun H locs hP hD hS => ?_)
          refine lv_goto (tgt := 8) hx hb dX7_step_43 (by decide) ?_
          exact ih (j + 1) _ _ _ (by omega) ((tS_go (i := j) (by omega) (by omega)).symm.trans hj2) (by omega) hP hD hS (lv_sub hl [0] rfl)
  exact loop8 _ e_ _ _ _ he rfl (Nat.lt_succ_self _) hP hD hS (lv_sub hl [0] rfl)

set_option maxHeartbeats 4000000 in
set_option maxRecDepth 100000 in
theorem c_X7_isSemicolon (l : Launch) (g : zG) (q : Nat) (x : Nat → Nat) (n : Nat) (c_ : Nat) (k : Nat) (s_ : Nat) (e_ : Nat) (f : Nat → Int) (m_ : Nat → Int) (hn : n ≤ 200) (hk : k ≤ 3) (hs : k = 3 → s_ < n) (hf : ∀ i, 0 ≤ f i ∧ f i ≤ 255) : zMet l g yX7_isSemicolon wsX7_isSemicolon 0 0 0 [.ref q] zX0 [(textW g q x n c_ k s_ e_ f m_)] (qi g (fun (_ : Unit) => (smc f k s_)) (fun (_ : Unit) => True) (fun (_ : Unit) => [(textW g q x n c_ k s_ e_ f m_)])) := by
  refine z_ent (cc := cX7_isSemicolon) (maxL := 1) (ret := (some .boolean)) (by decide) rfl (Nat.le_of_ble_eq_true rfl) ?_
  intro p e s m below meth c A ls hx hb hr hml hown hts hlocks hin0 hA hK hP hD hS hXX hl
  have hown : s.vm.findClass RX7 = some m.cls := hown
  have hin7_ : ∀ w ∈ wsX70, w ∈ wsX7_isSemicolon := zw_in [4, 5, 6, 7, 8, 9, 10] rfl
  have hl : lv_has ls 1 [(0, .ref q)] := hl
  have hP : zP g [[(q, .inr (7, [.ref (x 0), vI ((n : Nat) : Int), vI ((c_ : Nat) : Int), vI ((k : Nat) : Int), vI ((s_ : Nat) : Int), vI ((e_ : Nat) : Int), .ref (x 1)]))], [((x 0), .inl (g.2 0, 200, .inl (aI f)))], [((x 1), .inl (g.2 0, 4, .inl (aI m_)))]] s.heap := hP
  have hD : zD A [[(q, .inr (7, [.ref (x 0), vI ((n : Nat) : Int), vI ((c_ : Nat) : Int), vI ((k : Nat) : Int), vI ((s_ : Nat) : Int), vI ((e_ : Nat) : Int), .ref (x 1)]))], [((x 0), .inl (g.2 0, 200, .inl (aI f)))], [((x 1), .inl (g.2 0, 4, .inl (aI m_)))]] := hD
  refine lv_aload_n hx hb dX7_isSemicolon_0 rfl (lv_at hl 0 rfl) ?_
  refine z_get hx hb hts hin7_ hown hK hP 0 rfl rfl 3 (by decide) (hts _ (List.mem_of_getElem? (i := 1) rfl)) rfl dX7_isSemicolon_1 ?_
  refine z_iconst hx hb dX7_isSemicolon_4 rfl ?_
  refine z_icmp_ne (tgt := 26) hx hb (by omega) (by decide) dX7_isSemicolon_5 (by decide) (fun c1 => ?_) (fun c1 => ?_)
  · refine z_iconst hx hb dX7_isSemicolon_26 rfl ?_
    have hP : zP g [(textW g q x n c_ k s_ e_ f m_)] s.heap := hP
    have hD : zD A [(textW g q x n c_ k s_ e_ f m_)] := hD
    exact z_reti () [0] hx hb hr (nar_z (by first | decide | omega)) hlocks hK hP hD hS (by have := smc_s f k s_; omega) trivial rfl rfl (rfl) (Nat.le_of_ble_eq_true rfl) (Nat.le_of_ble_eq_true rfl) dX7_isSemicolon_27
  · refine lv_aload_n hx hb dX7_isSemicolon_8 rfl (lv_at hl 0 rfl) ?_
    refine z_get hx hb hts hin7_ hown hK hP 0 rfl rfl 0 (by decide) (hts _ (List.mem_of_getElem? (i := 2) rfl)) rfl dX7_isSemicolon_9 ?_
    refine lv_aload_n hx hb dX7_isSemicolon_12 rfl (lv_at hl 0 rfl) ?_
    refine z_get hx hb hts hin7_ hown hK hP 0 rfl rfl 4 (by decide) (hts _ (List.mem_of_getElem? (i := 3) rfl)) rfl dX7_isSemicolon_13 ?_
    have hl0 := hf s_
    refine z_iald hx hb hK hP 1 rfl s_ (by omega) (by omega) (by decide) dX7_isSemicolon_16 ?_
    refine z_bipush hx hb 59 dX7_isSemicolon_17 rfl ?_
    refine z_icmp_ne (tgt := 26) hx hb (by omega) (by decide) dX7_isSemicolon_19 (by decide) (fun c2 => ?_) (fun c2 => ?_)
    · refine z_iconst hx hb dX7_isSemicolon_26 rfl ?_
      have hP : zP g [(textW g q x n c_ k s_ e_ f m_)] s.heap := hP
      have hD : zD A [(textW g q x n c_ k s_ e_ f m_)] := hD
      exact z_reti () [0] hx hb hr (nar_z (by first | decide | omega)) hlocks hK hP hD hS (by have := smc_s f k s_; omega) trivial rfl rfl (rfl) (Nat.le_of_ble_eq_true rfl) (Nat.le_of_ble_eq_true rfl) dX7_isSemicolon_27
    · refine z_iconst hx hb dX7_isSemicolon_22 rfl ?_
      refine lv_goto (tgt := 27) hx hb dX7_isSemicolon_23 (by decide) ?_
      have hP : zP g [(textW g q x n c_ k s_ e_ f m_)] s.heap := hP
      have hD : zD A [(textW g q x n c_ k s_ e_ f m_)] := hD
      exact z_reti () [0] hx hb hr (nar_z (by first | decide | omega)) hlocks hK hP hD hS (by have := smc_s f k s_; omega) trivial rfl rfl (rfl) (Nat.le_of_ble_eq_true rfl) (Nat.le_of_ble_eq_true rfl) dX7_isSemicolon_27

set_option maxHeartbeats 4000000 in
set_option maxRecDepth 100000 in
theorem c_X7_readNumber (l : Launch) (g : zG) (q : Nat) (x : Nat → Nat) (n : Nat) (c_ : Nat) (k : Nat) (s_ : Nat) (e_ : Nat) (f : Nat → Int) (m_ : Nat → Int) (i : Nat) (a : Int) (b : Int) (hn : n ≤ 200) (he : e_ ≤ n) (hf : ∀ i, 0 ≤ f i ∧ f i ≤ 255) (hi : i < 4) (ha : -1000 ≤ a ∧ a ≤ 1000) (hb_ : -1000 ≤ b ∧ b ≤ 1000) : zMet l g yX7_readNumber wsX7_readNumber 2 0 0 [.ref q, vI ((i : Nat) : Int), vI a, vI b] zX0 [(textW g q x n c_ k s_ e_ f m_)] (qi g (fun (m2 : Nat → Int) => (nOk f n e_ a b)) (fun (m2 : Nat → Int) => (nOk f n e_ a b = 1 → m2 = uI m_ i (vl f (tS f n e_) ((tE f n (tS f n e_)) - (tS f n e_))))) (fun (m2 : Nat → Int) => [(textW g q x n c_ (kdA f n (tS f n e_)) (tS f n e_) (tE f n (tS f n e_)) f m2)])) := by
  refine z_ent (cc := cX7_readNumber) (maxL := 6) (ret := (some .boolean)) (by decide) rfl (Nat.le_of_ble_eq_true rfl) ?_
  intro p e s m below meth c A ls hx hb hr hml hown hts hlocks hin0 hA hK hP hD hS hXX hl
  have hown : s.vm.findClass RX7 = some m.cls := hown
  have hin7_ : ∀ w ∈ wsX70, w ∈ wsX7_readNumber := zw_in [15, 16, 17, 18, 19, 20, 21] rfl
  have hl : lv_has ls 6 [(0, .ref q), (1, vI ((i : Nat) : Int)), (2, vI a), (3, vI b)] := hl
  refine lv_aload_n hx hb dX7_readNumber_0 rfl (lv_at hl 0 rfl) ?_
  refine z_cVv (As := []) (rest := []) ⟨hx, hb, hml, hown, hts⟩ hK hP hD hS hA [0] [] rfl rfl rfl (c_X7_step l g q x n c_ k s_ e_ f m_ (by first | assumption | omega | decide) (by first | assumption | omega | decide) (by first | assumption | omega | decide)) (cwV 0 hts gX7_readNumber_X7_step rfl rfl rfl (by decide +kernel) ⟨Nat.le_of_ble_eq_true rfl, Nat.le_of_ble_eq_true rfl⟩) 7 0 rfl rfl rfl (fun _ _ _ _ _ _ => trivial) (fun _ _ _ => trivial) rfl hl.1 (Nat.le_of_ble_eq_true rfl) rfl dX7_readNumber_1 ⟨Nat.le_of_ble_eq_true rfl, Nat.le_of_ble_eq_true rfl⟩ (fun u_1 H locs hwu_1 hP hD hS => ?_)
  try dsimp only at hwu_1
  have hP : zP g [(textW g q x n c_ (kdA f n (tS f n e_)) (tS f n e_) (tE f n (tS f n e_)) f m_)] H := hP
  have hD : zD A [(textW g q x n c_ (kdA f n (tS f n e_)) (tS f n e_) (tE f n (tS f n e_)) f m_)] := hD
  have hf_2 := tok_s f he
  have hP : zP g [[(q, .inr (7, [.ref (x 0), vI ((n : Nat) : Int), vI ((c_ : Nat) : Int), vI (((kdA f n (tS f n e_)) : Nat) : Int), vI (((tS f n e_) : Nat) : Int), vI (((tE f n (tS f n e_)) : Nat) : Int), .ref (x 1)]))], [((x 0), .inl (g.2 0, 200, .inl (aI f)))], [((x 1), .inl (g.2 0, 4, .inl (aI m_)))]] H := hP
  have hD : zD A [[(q, .inr (7, [.ref (x 0), vI ((n : Nat) : Int), vI ((c_ : Nat) : Int), vI (((kdA f n (tS f n e_)) : Nat) : Int), vI (((tS f n e_) : Nat) : Int), vI (((tE f n (tS f n e_)) : Nat) : Int), .ref (x 1)]))], [((x 0), .inl (g.2 0, 200, .inl (aI f)))], [((x 1), .inl (g.2 0, 4, .inl (aI m_)))]] := hD
  refine lv_aload_n hx hb dX7_readNumber_4 rfl (lv_at hl 0 rfl) ?_
  refine z_get hx hb hts hin7_ hown hK hP 0 rfl rfl 3 (by decide) (hts _ (List.mem_of_getElem? (i := 1) rfl)) rfl dX7_readNumber_5 ?_
  refine z_iconst hx hb dX7_readNumber_8 rfl ?_
  refine z_icmp_ne (tgt := 25) hx hb (by omega) (by decide) dX7_readNumber_9 (by decide) (fun c3 => ?_) (fun c3 => ?_)
  · refine z_iconst hx hb dX7_readNumber_25 rfl ?_
    have hP : zP g [(textW g q x n c_ (kdA f n (tS f n e_)) (tS f n e_) (tE f n (tS f n e_)) f m_)] H := hP
    have hD : zD A [(textW g q x n c_ (kdA f n (tS f n e_)) (tS f n e_) (tE f n (tS f n e_)) f m_)] := hD
    have hO := nOk_s f n e_ a b
    exact z_reti m_ [0] hx hb hr (nar_z (by first | decide | omega)) hlocks hK hP hD hS (by omega) (fun h9 => by first | (exfalso; omega) | rw [hy]) rfl rfl (rfl) (Nat.le_of_ble_eq_true rfl) (Nat.le_of_ble_eq_true rfl) dX7_readNumber_26
  · refine lv_aload_n hx hb dX7_readNumber_12 rfl (lv_at hl 0 rfl) ?_
    refine z_get hx hb hts hin7_ hown hK hP 0 rfl rfl 5 (by decide) (hts _ (List.mem_of_getElem? (i := 2) rfl)) rfl dX7_readNumber_13 ?_
    refine lv_aload_n hx hb dX7_readNumber_16 rfl (lv_at hl 0 rfl) ?_
    refine z_get hx hb hts hin7_ hown hK hP 0 rfl rfl 4 (by decide) (hts _ (List.mem_of_getElem? (i := 3) rfl)) rfl dX7_readNumber_17 ?_
    refine z_isub hx hb ((((tE f n (tS f n e_)) : Nat) : Int) - (((tS f n e_) : Nat) : Int)) rfl dX7_readNumber_20 ?_
    refine z_iconst hx hb dX7_readNumber_21 rfl ?_
    refine z_icmp_le (tgt := 27) hx hb (by omega) (by decide) dX7_readNumber_22 (by decide) (fun c4 => ?_) (fun c4 => ?_)
    · refine z_iconst hx hb dX7_readNumber_27 rfl ?_
      refine lv_istore (lv' := [(4, vI 0), (0, .ref q), (1, vI ((i : Nat) : Int)), (2, vI a), (3, vI b)]) hx hb dX7_readNumber_28 hl (by decide) rfl (fun ls hl => ?_)
      refine lv_aload_n hx hb dX7_readNumber_30 rfl (lv_at hl 1 rfl) ?_
      refine z_get hx hb hts hin7_ hown hK hP 0 rfl rfl 4 (by decide) (hts _ (List.mem_of_getElem? (i := 3) rfl)) rfl dX7_readNumber_31 ?_
      refine lv_istore (lv' := [(5, vI (((tS f n e_) : Nat) : Int)), (4, vI 0), (0, .ref q), (1, vI ((i : Nat) : Int)), (2, vI a), (3, vI b)]) hx hb dX7_readNumber_34 hl (by decide) rfl (fun ls hl => ?_)
      have loop36 : ∀ (N : Nat) (j : Nat) (y : Int) (H : Heap) (locs : List Loc) (ls : Array Slot), j ≤ (tE f n (tS f n e_)) - (tS f n e_) → y = vl f (tS f n e_) j → (j = 0 → y = 0) ∧ (j = 1 → -255 ≤ y ∧ y ≤ 255) ∧ (j = 2 → -2805 ≤ y ∧ y ≤ 2805) ∧ (j = 3 → -28305 ≤ y ∧ y ≤ 28305) → ((tE f n (tS f n e_)) - (tS f n e_) - j) < N → zP g [[(q, .inr (7, [.ref (x 0), vI ((n : Nat) : Int), vI ((c_ : Nat) : Int), vI (((kdA f n (tS f n e_)) : Nat) : Int), vI (((tS f n e_) : Nat) : Int), vI (((tE f n (tS f n e_)) : Nat) : Int), .ref (x 1)]))], [((x 0), .inl (g.2 0, 200, .inl (aI f)))], [((x 1), .inl (g.2 0, 4, .inl (aI m_)))]] H → zD A [[(q, .inr (7, [.ref (x 0), vI ((n : Nat) : Int), vI ((c_ : Nat) : Int), vI (((kdA f n (tS f n e_)) : Nat) : Int), vI (((tS f n e_) : Nat) : Int), vI (((tE f n (tS f n e_)) : Nat) : Int), .ref (x 1)]))], [((x 0), .inl (g.2 0, 200, .inl (aI f)))], [((x 1), .inl (g.2 0, 4, .inl (aI m_)))]] → va_S A s.heap H locs → lv_has ls 6 [(0, .ref q), (1, vI ((i : Nat) : Int)), (2, vI a), (3, vI b), (4, vI y), (5, vI ((((tS f n e_) + j) : Nat) : Int))] → W p l e (zRm 2 0 0) s m ([.ref q, vI ((i : Nat) : Int), vI a, vI b] : List Value).toArray below meth c H locs (0) (0) (MQ below ((qi g (fun (m2 : Nat → Int) => (nOk f n e_ a b)) (fun (m2 : Nat → Int) => (nOk f n e_ a b = 1 → m2 = uI m_ i (vl f (tS f n e_) ((tE f n (tS f n e_)) - (tS f n e_))))) (fun (m2 : Nat → Int) => [(textW g q x n c_ (kdA f n (tS f n e_)) (tS f n e_) (tE f n (tS f n e_)) f m2)])) A) ([.ref q, vI ((i : Nat) : Int), vI a, vI b] : List Value).toArray s 0 0 A) (F0 m 36 ls []) := by
        intro N
        induction N with
        | zero => intro j y H locs ls hj hy hyb hm; exact absurd hm (Nat.not_lt_zero _)
        | succ N ih =>
          intro j y H locs ls hj hy hyb hm hP hD hS hl
          refine lv_iload hx hb dX7_readNumber_36 (lv_at hl 5 rfl) ?_
          refine lv_aload_n hx hb dX7_readNumber_38 rfl (lv_at hl 0 rfl) ?_
          refine z_get hx hb hts hin7_ hown hK hP 0 rfl rfl 5 (by decide) (hts _ (List.mem_of_getElem? (i := 2) rfl)) rfl dX7_readNumber_39 ?_
          refine z_icmp_ge (tgt := 69) hx hb (by omega) (by omega) dX7_readNumber_42 (by decide) (fun c5 => ?_) (fun c5 => ?_)
          · have hjE : j = (tE f n (tS f n e_)) - (tS f n e_) := by omega
            subst hjE
            refine lv_aload_n hx hb dX7_readNumber_69 rfl (lv_at hl 0 rfl) ?_
            refine z_get hx hb hts hin7_ hown hK hP 0 rfl rfl 6 (by decide) (hts _ (List.mem_of_getElem? (i := 5) rfl)) rfl dX7_readNumber_70 ?_
            refine lv_iload_n hx hb dX7_readNumber_73 rfl (lv_at hl 1 rfl) ?_
            refine lv_iload hx hb dX7_readNumber_74 (lv_at hl 4 rfl) ?_
            refine z_iast hx hb hK hP 2 hD hS rfl i (by omega) (by omega) (by decide) dX7_readNumber_76 [[(q, .inr (7, [.ref (x 0), vI ((n : Nat) : Int), vI ((c_ : Nat) : Int), vI (((kdA f n (tS f n e_)) : Nat) : Int), vI (((tS f n e_) : Nat) : Int), vI (((tE f n (tS f n e_)) : Nat) : Int), .ref (x 1)]))], [((x 0), .inl (g.2 0, 200, .inl (aI f)))], [((x 1), .inl (g.2 0, 4, .inl (aI (uI m_ i y))))]] rfl (fun H locs hP hD hS => ?_)
            refine lv_iload hx hb dX7_readNumber_77 (lv_at hl 4 rfl) ?_
            refine lv_iload_n hx hb dX7_readNumber_79 rfl (lv_at hl 2 rfl) ?_
            refine z_icmp_lt (tgt := 93) hx hb (by omega) (by omega) dX7_readNumber_80 (by decide) (fun c6 => ?_) (fun c6 => ?_)
            · refine z_iconst hx hb dX7_readNumber_93 rfl ?_
              have hP : zP g [(textW g q x n c_ (kdA f n (tS f n e_)) (tS f n e_) (tE f n (tS f n e_)) f (uI m_ i y))] H := hP
              have hD : zD A [(textW g q x n c_ (kdA f n (tS f n e_)) (tS f n e_) (tE f n (tS f n e_)) f (uI m_ i y))] := hD
              have hO := nOk_s f n e_ a b
              exact z_reti (uI m_ i y) [0] hx hb hr (nar_z (by first | decide | omega)) hlocks hK hP hD hS (by omega) (fun h9 => by first | (exfalso; omega) | rw [hy]) rfl rfl (rfl) (Nat.le_of_ble_eq_true rfl) (Nat.le_of_ble_eq_true rfl) dX7_readNumber_94
            · refine lv_iload hx hb dX7_readNumber_83 (lv_at hl 4 rfl) ?_
              refine lv_iload_n hx hb dX7_readNumber_85 rfl (lv_at hl 3 rfl) ?_
              refine z_icmp_gt (tgt := 93) hx hb (by omega) (by omega) dX7_readNumber_86 (by decide) (fun c7 => ?_) (fun c7 => ?_)
              · refine z_iconst hx hb dX7_readNumber_93 rfl ?_
                have hP : zP g [(textW g q x n c_ (kdA f n (tS f n e_)) (tS f n e_) (tE f n (tS f n e_)) f (uI m_ i y))] H := hP
                have hD : zD A [(textW g q x n c_ (kdA f n (tS f n e_)) (tS f n e_) (tE f n (tS f n e_)) f (uI m_ i y))] := hD
                have hO := nOk_s f n e_ a b
                exact z_reti (uI m_ i y) [0] hx hb hr (nar_z (by first | decide | omega)) hlocks hK hP hD hS (by omega) (fun h9 => by first | (exfalso; omega) | rw [hy]) rfl rfl (rfl) (Nat.le_of_ble_eq_true rfl) (Nat.le_of_ble_eq_true rfl) dX7_readNumber_94
              · refine z_iconst hx hb dX7_readNumber_89 rfl ?_
                refine lv_goto (tgt := 94) hx hb dX7_readNumber_90 (by decide) ?_
                have hP : zP g [(textW g q x n c_ (kdA f n (tS f n e_)) (tS f n e_) (tE f n (tS f n e_)) f (uI m_ i y))] H := hP
                have hD : zD A [(textW g q x n c_ (kdA f n (tS f n e_)) (tS f n e_) (tE f n (tS f n e_)) f (uI m_ i y))] := hD
                have hO := nOk_s f n e_ a b
                exact z_reti (uI m_ i y) [0] hx hb hr (nar_z (by first | decide | omega)) hlocks hK hP hD hS (by omega) (fun h9 => by first | (exfalso; omega) | rw [hy]) rfl rfl (rfl) (Nat.le_of_ble_eq_true rfl) (Nat.le_of_ble_eq_true rfl) dX7_readNumber_94
          · have hl0 := hf ((tS f n e_) + j)
            refine z_bipush hx hb 10 dX7_readNumber_45 rfl ?_
            refine lv_iload hx hb dX7_readNumber_47 (lv_at hl 4 rfl) ?_
            refine z_imul hx hb (10 * y) rfl dX7_readNumber_49 ?_
            refine lv_aload_n hx hb dX7_readNumber_50 rfl (lv_at hl 0 rfl) ?_
            refine z_get hx hb hts hin7_ hown hK hP 0 rfl rfl 0 (by decide) (hts _ (List.mem_of_getElem? (i := 4) rfl)) rfl dX7_readNumber_51 ?_
            refine lv_iload hx hb dX7_readNumber_54 (lv_at hl 5 rfl) ?_
            refine z_iald hx hb hK hP 1 rfl ((tS f n e_) + j) (by omega) (by omega) (by decide) dX7_readNumber_56 ?_
            refine z_iadd hx hb ((10 * y) + (f ((tS f n e_) + j))) rfl dX7_readNumber_57 ?_
            refine z_bipush hx hb 48 dX7_readNumber_58 rfl ?_
            refine z_isub hx hb (((10 * y) + (f ((tS f n e_) + j))) - 48) rfl dX7_readNumber_60 ?_
            refine z_nmI (fun x_8 hx_8 => ?_)
            refine lv_istore (lv' := [(4, vI x_8), (0, .ref q), (1, vI ((i : Nat) : Int)), (2, vI a), (3, vI b), (5, vI ((((tS f n e_) + j) : Nat) : Int))]) hx hb dX7_readNumber_61 hl (by decide) rfl (fun ls hl => ?_)
            refine z_iinc hx hb (((((tS f n e_) + j) + 1) : Nat) : Int) (lv' := [(5, vI (((((tS f n e_) + j) + 1) : Nat) : Int)), (4, vI x_8), (0, .ref q), (1, vI ((i : Nat) : Int)), (2, vI a), (3, vI b)]) dX7_readNumber_63 hl (k := 5) rfl (by omega) (by decide) rfl (fun ls hl => ?_)
            refine lv_goto (tgt := 36) hx hb dX7_readNumber_66 (by decide) ?_
            exact ih (j + 1) x_8 _ _ _ (by omega) (by rw [vl, ← hy]; omega) (by omega) (by omega) hP hD hS (lv_sub hl [2, 3, 4, 5, 1, 0] rfl)
      exact loop36 _ 0 0 _ _ _ (by omega) rfl (by omega) (Nat.lt_succ_self _) hP hD hS (lv_sub hl [2, 3, 4, 5, 1, 0] rfl)
    · refine z_iconst hx hb dX7_readNumber_25 rfl ?_
      have hP : zP g [(textW g q x n c_ (kdA f n (tS f n e_)) (tS f n e_) (tE f n (tS f n e_)) f m_)] H := hP
      have hD : zD A [(textW g q x n c_ (kdA f n (tS f n e_)) (tS f n e_) (tE f n (tS f n e_)) f m_)] := hD
      have hO := nOk_s f n e_ a b
      exact z_reti m_ [0] hx hb hr (nar_z (by first | decide | omega)) hlocks hK hP hD hS (by omega) (fun h9 => by first | (exfalso; omega) | rw [hy]) rfl rfl (rfl) (Nat.le_of_ble_eq_true rfl) (Nat.le_of_ble_eq_true rfl) dX7_readNumber_26

set_option maxHeartbeats 4000000 in
set_option maxRecDepth 100000 in
theorem c_X7_readOhms (l : Launch) (g : zG) (q : Nat) (x : Nat → Nat) (n : Nat) (c_ : Nat) (k : Nat) (s_ : Nat) (e_ : Nat) (f : Nat → Int) (m_ : Nat → Int) (hn : n ≤ 200) (he : e_ ≤ n) (hf : ∀ i, 0 ≤ f i ∧ f i ≤ 255) : zMet l g yX7_readOhms wsX7_readOhms 3 0 0 [.ref q] zX0 [(textW g q x n c_ k s_ e_ f m_)] (qi g (fun (u_ : Nat × Nat × Nat × (Nat → Int)) => (oOk f n e_)) (fun (u_ : Nat × Nat × Nat × (Nat → Int)) => ((oOk f n e_ = 1 → u_.2.2.1 = oPs f n e_ ∧ u_.2.2.1 ≤ n ∧ u_.2.2.2 = uI (uI (uI m_ 1 (oV0 f n e_)) 2 (oV1 f n e_)) 3 (oV2 f n e_)) ∧ (oOk f n e_ = 0 → u_.2.1 = oPs f n e_))) (fun (u_ : Nat × Nat × Nat × (Nat → Int)) => [(textW g q x n c_ u_.1 u_.2.1 u_.2.2.1 f u_.2.2.2)])) := by
  refine z_ent (cc := cX7_readOhms) (maxL := 1) (ret := (some .boolean)) (by decide) rfl (Nat.le_of_ble_eq_true rfl) ?_
  intro p e s m below meth c A ls hx hb hr hml hown hts hlocks hin0 hA hK hP hD hS hXX hl
  have hown : s.vm.findClass RX7 = some m.cls := hown
  have hl : lv_has ls 1 [(0, .ref q)] := hl
  refine lv_aload_n hx hb dX7_readOhms_0 rfl (lv_at hl 0 rfl) ?_
  refine z_iconst hx hb dX7_readOhms_1 rfl ?_
  refine z_iconst hx hb dX7_readOhms_2 rfl ?_
  refine z_bipush hx hb 9 dX7_readOhms_3 rfl ?_
  refine z_cVi (As := [vI 1, vI 0, vI 9]) (rest := []) ⟨hx, hb, hml, hown, hts⟩ hK hP hD hS hA [0] [] rfl rfl rfl (c_X7_readNumber l g q x n c_ k s_ e_ f m_ 1 0 9 (by first | assumption | omega | decide) (by first | assumption | omega | decide) (by first | assumption | omega | decide) (by first | assumption | omega | decide) (by first | assumption | omega | decide) (by first | assumption | omega | decide)) (cwV 3 hts gX7_readOhms_X7_readNumber rfl rfl rfl (by decide +kernel) ⟨Nat.le_of_ble_eq_true rfl, Nat.le_of_ble_eq_true rfl⟩) 7 0 rfl rfl rfl (fun _ _ _ _ _ _ => trivial) (fun _ _ _ => trivial) rfl hl.1 (Nat.le_of_ble_eq_true rfl) rfl dX7_readOhms_5 ⟨Nat.le_of_ble_eq_true rfl, Nat.le_of_ble_eq_true rfl⟩ (fun u_1 H locs hwu_1 hP hD hS => ?_)
  obtain ⟨m2_2, rfl⟩ : ∃ z_, z_ = u_1 := ⟨_, rfl⟩
  try dsimp only at hwu_1
  have hP : zP g [(textW g q x n c_ (kdA f n (tS f n e_)) (tS f n e_) (tE f n (tS f n e_)) f m2_2)] H := hP
  have hD : zD A [(textW g q x n c_ (kdA f n (tS f n e_)) (tS f n e_) (tE f n (tS f n e_)) f m2_2)] := hD
  refine z_toI (nOk f n e_ 0 9) rfl ?_
  have hf_3 := nOk_s f n e_ 0 9
  have hP : zP g [(textW g q x n c_ (kdA f n (tS f n e_)) (tS f n e_) (nEn f n e_) f m2_2)] H := hP
  have hD : zD A [(textW g q x n c_ (kdA f n (tS f n e_)) (tS f n e_) (nEn f n e_) f m2_2)] := hD
  have hne_4 : (nEn f n e_) ≤ n := (nEn_le f (by omega)).2
  refine z_if_eq (tgt := 37) hx hb (by omega) dX7_readOhms_8 (by decide) (fun c5 => ?_) (fun c5 => ?_)
  · refine z_iconst hx hb dX7_readOhms_37 rfl ?_
    have hO := oOk_s f n e_
    exact z_reti ((kdA f n (tS f n e_)), (tS f n e_), (nEn f n e_), m2_2) [0] hx hb hr (nar_z (by first | decide | omega)) hlocks hK hP hD hS (by omega) (⟨fun h9 => False.elim (by omega), fun _ => by rw [oPs, if_neg (by omega)] <;> rfl⟩) rfl rfl (rfl) (Nat.le_of_ble_eq_true rfl) (Nat.le_of_ble_eq_true rfl) dX7_readOhms_38
  · refine lv_aload_n hx hb dX7_readOhms_11 rfl (lv_at hl 0 rfl) ?_
    refine z_iconst hx hb dX7_readOhms_12 rfl ?_
    refine z_iconst hx hb dX7_readOhms_13 rfl ?_
    refine z_bipush hx hb 9 dX7_readOhms_14 rfl ?_
    refine z_cVi (As := [vI 2, vI 0, vI 9]) (rest := []) ⟨hx, hb, hml, hown, hts⟩ hK hP hD hS hA [0] [] rfl rfl rfl (c_X7_readNumber l g q x n c_ (kdA f n (tS f n e_)) (tS f n e_) (nEn f n e_) f m2_2 2 0 9 (by first | assumption | omega | decide) (by first | assumption | omega | decide) (by first | assumption | omega | decide) (by first | assumption | omega | decide) (by first | assumption | omega | decide) (by first | assumption | omega | decide)) (cwV 3 hts gX7_readOhms_X7_readNumber rfl rfl rfl (by decide +kernel) ⟨Nat.le_of_ble_eq_true rfl, Nat.le_of_ble_eq_true rfl⟩) 7 0 rfl rfl rfl (fun _ _ _ _ _ _ => trivial) (fun _ _ _ => trivial) rfl hl.1 (Nat.le_of_ble_eq_true rfl) rfl dX7_readOhms_16 ⟨Nat.le_of_ble_eq_true rfl, Nat.le_of_ble_eq_true rfl⟩ (fun u_6 H locs hwu_6 hP hD hS => ?_)
    obtain ⟨m2_7, rfl⟩ : ∃ z_, z_ = u_6 := ⟨_, rfl⟩
    try dsimp only at hwu_6
    have hP : zP g [(textW g q x n c_ (kdA f n (tS f n (nEn f n e_))) (tS f n (nEn f n e_)) (tE f n (tS f n (nEn f n e_))) f m2_7)] H := hP
    have hD : zD A [(textW g q x n c_ (kdA f n (tS f n (nEn f n e_))) (tS f n (nEn f n e_)) (tE f n (tS f n (nEn f n e_))) f m2_7)] := hD
    refine z_toI (nOk f n (nEn f n e_) 0 9) rfl ?_
    have hf_8 := nOk_s f n (nEn f n e_) 0 9
    have hP : zP g [(textW g q x n c_ (kdA f n (tS f n (nEn f n e_))) (tS f n (nEn f n e_)) (nEn f n (nEn f n e_)) f m2_7)] H := hP
    have hD : zD A [(textW g q x n c_ (kdA f n (tS f n (nEn f n e_))) (tS f n (nEn f n e_)) (nEn f n (nEn f n e_)) f m2_7)] := hD
    have hne_9 : (nEn f n (nEn f n e_)) ≤ n := (nEn_le f (by omega)).2
    refine z_if_eq (tgt := 37) hx hb (by omega) dX7_readOhms_19 (by decide) (fun c10 => ?_) (fun c10 => ?_)
    · refine z_iconst hx hb dX7_readOhms_37 rfl ?_
      have hO := oOk_s f n e_
      have q0 : nOk f n (e_) 0 9 = 1 := by omega
      exact z_reti ((kdA f n (tS f n (nEn f n e_))), (tS f n (nEn f n e_)), (nEn f n (nEn f n e_)), m2_7) [0] hx hb hr (nar_z (by first | decide | omega)) hlocks hK hP hD hS (by omega) (⟨fun h9 => False.elim (by omega), fun _ => by rw [oPs, if_pos (by assumption), if_neg (by omega)] <;> rfl⟩) rfl rfl (rfl) (Nat.le_of_ble_eq_true rfl) (Nat.le_of_ble_eq_true rfl) dX7_readOhms_38
    · refine lv_aload_n hx hb dX7_readOhms_22 rfl (lv_at hl 0 rfl) ?_
      refine z_iconst hx hb dX7_readOhms_23 rfl ?_
      refine z_iconst hx hb dX7_readOhms_24 rfl ?_
      refine z_bipush hx hb 9 dX7_readOhms_25 rfl ?_
      refine z_cVi (As := [vI 3, vI 0, vI 9]) (rest := []) ⟨hx, hb, hml, hown, hts⟩ hK hP hD hS hA [0] [] rfl rfl rfl (c_X7_readNumber l g q x n c_ (kdA f n (tS f n (nEn f n e_))) (tS f n (nEn f n e_)) (nEn f n (nEn f n e_)) f m2_7 3 0 9 (by first | assumption | omega | decide) (by first | assumption | omega | decide) (by first | assumption | omega | decide) (by first | assumption | omega | decide) (by first | assumption | omega | decide) (by first | assumption | omega | decide)) (cwV 3 hts gX7_readOhms_X7_readNumber rfl rfl rfl (by decide +kernel) ⟨Nat.le_of_ble_eq_true rfl, Nat.le_of_ble_eq_true rfl⟩) 7 0 rfl rfl rfl (fun _ _ _ _ _ _ => trivial) (fun _ _ _ => trivial) rfl hl.1 (Nat.le_of_ble_eq_true rfl) rfl dX7_readOhms_27 ⟨Nat.le_of_ble_eq_true rfl, Nat.le_of_ble_eq_true rfl⟩ (fun u_11 H locs hwu_11 hP hD hS => ?_)
      obtain ⟨m2_12, rfl⟩ : ∃ z_, z_ = u_11 := ⟨_, rfl⟩
      try dsimp only at hwu_11
      have hP : zP g [(textW g q x n c_ (kdA f n (tS f n (nEn f n (nEn f n e_)))) (tS f n (nEn f n (nEn f n e_))) (tE f n (tS f n (nEn f n (nEn f n e_)))) f m2_12)] H := hP
      have hD : zD A [(textW g q x n c_ (kdA f n (tS f n (nEn f n (nEn f n e_)))) (tS f n (nEn f n (nEn f n e_))) (tE f n (tS f n (nEn f n (nEn f n e_)))) f m2_12)] := hD
      refine z_toI (nOk f n (nEn f n (nEn f n e_)) 0 9) rfl ?_
      have hf_13 := nOk_s f n (nEn f n (nEn f n e_)) 0 9
      have hP : zP g [(textW g q x n c_ (kdA f n (tS f n (nEn f n (nEn f n e_)))) (tS f n (nEn f n (nEn f n e_))) (nEn f n (nEn f n (nEn f n e_))) f m2_12)] H := hP
      have hD : zD A [(textW g q x n c_ (kdA f n (tS f n (nEn f n (nEn f n e_)))) (tS f n (nEn f n (nEn f n e_))) (nEn f n (nEn f n (nEn f n e_))) f m2_12)] := hD
      have hne_14 : (nEn f n (nEn f n (nEn f n e_))) ≤ n := (nEn_le f (by omega)).2
      refine z_if_eq (tgt := 37) hx hb (by omega) dX7_readOhms_30 (by decide) (fun c15 => ?_) (fun c15 => ?_)
      · refine z_iconst hx hb dX7_readOhms_37 rfl ?_
        have hO := oOk_s f n e_
        have q0 : nOk f n (e_) 0 9 = 1 := by omega
        have q1 : nOk f n (nEn f n (e_)) 0 9 = 1 := by omega
        exact z_reti ((kdA f n (tS f n (nEn f n (nEn f n e_)))), (tS f n (nEn f n (nEn f n e_))), (nEn f n (nEn f n (nEn f n e_))), m2_12) [0] hx hb hr (nar_z (by first | decide | omega)) hlocks hK hP hD hS (by omega) (⟨fun h9 => False.elim (by omega), fun _ => by rw [oPs, if_pos (by assumption), if_pos (by assumption), if_neg (by omega)] <;> rfl⟩) rfl rfl (rfl) (Nat.le_of_ble_eq_true rfl) (Nat.le_of_ble_eq_true rfl) dX7_readOhms_38
      · refine z_iconst hx hb dX7_readOhms_33 rfl ?_
        refine lv_goto (tgt := 38) hx hb dX7_readOhms_34 (by decide) ?_
        have hO := oOk_s f n e_
        have q0 : nOk f n (e_) 0 9 = 1 := by omega
        have q1 : nOk f n (nEn f n (e_)) 0 9 = 1 := by omega
        have q2 : nOk f n (nEn f n (nEn f n (e_))) 0 9 = 1 := by omega
        exact z_reti ((kdA f n (tS f n (nEn f n (nEn f n e_)))), (tS f n (nEn f n (nEn f n e_))), (nEn f n (nEn f n (nEn f n e_))), m2_12) [0] hx hb hr (nar_z (by first | decide | omega)) hlocks hK hP hD hS (by omega) (⟨fun _ => ⟨by rw [oPs, if_pos (by assumption), if_pos (by assumption), if_pos (by assumption)] <;> rfl, by omega, by rw [hwu_11 (by assumption), hwu_6 (by assumption), hwu_1 (by assumption)] <;> rfl⟩, fun h9 => False.elim (by omega)⟩) rfl rfl (rfl) (Nat.le_of_ble_eq_true rfl) (Nat.le_of_ble_eq_true rfl) dX7_readOhms_38
