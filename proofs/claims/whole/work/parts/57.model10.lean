set_option maxHeartbeats 4000000 in
set_option maxRecDepth 100000 in
theorem c_X10_keepPast (l : Launch) (g : zG) (q : Nat) (a : Nat → Nat) (x : Nat → Int) (S : RS) (u : Nat) (hu : x 2 = (u : Int)) (hu8 : u < 8) : zMet l g yX10_keepPast wsX10_keepPast 1 0 0 [.ref q] zX0 [[mdl q a x], [((a 0), .inl (g.2 1, 88, .inr (.inl (aL S.1))))], [((a 1), .inl (g.2 1, 88, .inr (.inl (aL S.2.1))))]] (qv g (fun (_ : Unit) => True) (fun (_ : Unit) => [[mdl q a (uI x 2 (((u + 1) : Nat) : Int))], [((a 0), .inl (g.2 1, 88, .inr (.inl (aL (rC6 0 (6 + (6 * u)) S).1))))], [((a 1), .inl (g.2 1, 88, .inr (.inl (aL (rC6 0 (6 + (6 * u)) S).2.1))))]])) := by
  refine z_ent (cc := cX10_keepPast) (maxL := 2) (ret := none) (by decide) rfl (Nat.le_of_ble_eq_true rfl) ?_
  intro p e s m below meth c A ls hx hb hr hml hown hts hlocks hin0 hA hK hP hD hS hXX hl
  have hown : s.vm.findClass RX10 = some m.cls := hown
  have hin10_ : ∀ w ∈ wsX100, w ∈ wsX10_keepPast := zw_in [9, 10, 11, 12, 13, 14, 15, 16, 17, 18, 19, 20, 21, 22, 23, 24, 25, 26, 27, 28, 29, 30, 31, 32, 33, 34] rfl
  have hl : lv_has ls 2 [(0, .ref q)] := hl
  refine z_iconst hx hb dX10_keepPast_0 rfl ?_
  refine lv_istore_n (lv' := [(1, vI 0), (0, .ref q)]) hx hb dX10_keepPast_1 rfl hl (by decide) rfl (fun ls hl => ?_)
  refine lv_iload_n hx hb dX10_keepPast_2 rfl (lv_at hl 0 rfl) ?_
  refine z_bipush hx hb 42 dX10_keepPast_3 rfl ?_
  refine z_icmp_ge (tgt := 59) hx hb (by decide) (by decide) dX10_keepPast_5 (by decide) (fun cq1 => False.elim (by omega)) (fun cq1 => ?_)
  refine lv_aload_n hx hb dX10_keepPast_8 rfl (lv_at hl 1 rfl) ?_
  refine z_get hx hb hts hin10_ hown hK hP 0 rfl rfl 7 (by decide) (hts _ (List.mem_of_getElem? (i := 1) rfl)) rfl dX10_keepPast_9 ?_
  refine z_bipush hx hb 8 dX10_keepPast_12 rfl ?_
  refine z_icmp_ne (tgt := 59) hx hb (by omega) (by decide) dX10_keepPast_14 (by decide) (fun cq2 => ?_) (fun cq2 => False.elim (by omega))
  refine lv_aload_n hx hb dX10_keepPast_59 rfl (lv_at hl 1 rfl) ?_
  refine lv_dup hx hb dX10_keepPast_60 rfl ?_
  refine z_get hx hb hts hin10_ hown hK hP 0 rfl rfl 7 (by decide) (hts _ (List.mem_of_getElem? (i := 1) rfl)) rfl dX10_keepPast_61 ?_
  refine lv_aload_n hx hb dX10_keepPast_64 rfl (lv_at hl 1 rfl) ?_
  refine z_get hx hb hts hin10_ hown hK hP 0 rfl rfl 7 (by decide) (hts _ (List.mem_of_getElem? (i := 1) rfl)) rfl dX10_keepPast_65 ?_
  refine z_bipush hx hb 8 dX10_keepPast_68 rfl ?_
  refine z_icmp_ne (tgt := 77) hx hb (by omega) (by decide) dX10_keepPast_70 (by decide) (fun cq3 => ?_) (fun cq3 => False.elim (by omega))
  refine z_iconst hx hb dX10_keepPast_77 rfl ?_
  refine z_isub hx hb ((x 2) - 0) rfl dX10_keepPast_78 ?_
  refine z_toI ((u : Nat) : Int) (by omega) ?_
  refine z_put hx hb hts hin10_ tyX10 tyX10_ok nmX10 hown hK hP hD hS 0 rfl rfl 7 (by decide) (hts _ (List.mem_of_getElem? (i := 1) rfl)) rfl rfl rfl (Nat.le_of_ble_eq_true rfl) dX10_keepPast_79 [[mdl q a (uI x 2 ((u : Nat) : Int))], [((a 0), .inl (g.2 1, 88, .inr (.inl (aL S.1))))], [((a 1), .inl (g.2 1, 88, .inr (.inl (aL S.2.1))))]] rfl (fun H locs hP hD hS => ?_)
  refine lv_aload_n hx hb dX10_keepPast_82 rfl (lv_at hl 1 rfl) ?_
  refine z_iconst hx hb dX10_keepPast_83 rfl ?_
  refine z_bipush hx hb 6 dX10_keepPast_84 rfl ?_
  refine z_bipush hx hb 6 dX10_keepPast_86 rfl ?_
  refine lv_aload_n hx hb dX10_keepPast_88 rfl (lv_at hl 1 rfl) ?_
  refine z_get hx hb hts hin10_ hown hK hP 0 rfl rfl 7 (by decide) (hts _ (List.mem_of_getElem? (i := 1) rfl)) rfl dX10_keepPast_89 ?_
  refine z_toI ((u : Nat) : Int) rfl ?_
  refine z_imul hx hb (((6 * u) : Nat) : Int) (by omega) dX10_keepPast_92 ?_
  refine z_iadd hx hb (((6 + (6 * u)) : Nat) : Int) (by omega) dX10_keepPast_93 ?_
  refine z_cVv (As := [vI 0, vI (((6 + (6 * u)) : Nat) : Int)]) (rest := []) ⟨hx, hb, hml, hown, hts⟩ hK hP hD hS hA [0, 1, 2] [] rfl rfl rfl (c_X10_copyPhases l g q a (uI x 2 ((u : Nat) : Int)) S 0 (6 + (6 * u)) (by omega) (by omega)) (cwV 2 hts gX10_keepPast_X10_copyPhases rfl rfl rfl (by decide +kernel) ⟨Nat.le_of_ble_eq_true rfl, Nat.le_of_ble_eq_true rfl⟩) 10 0 rfl rfl rfl (fun _ _ _ _ _ _ => trivial) (fun _ _ _ => trivial) rfl hl.1 (Nat.le_of_ble_eq_true rfl) rfl dX10_keepPast_94 ⟨Nat.le_of_ble_eq_true rfl, Nat.le_of_ble_eq_true rfl⟩ (fun u_4 H locs hwu_4 hP hD hS => ?_)
  try dsimp only at hwu_4
  have hP : zP g [[mdl q a (uI x 2 ((u : Nat) : Int))], [((a 0), .inl (g.2 1, 88, .inr (.inl (aL (rC6 0 (6 + (6 * u)) S).1))))], [((a 1), .inl (g.2 1, 88, .inr (.inl (aL (rC6 0 (6 + (6 * u)) S).2.1))))]] H := hP
  have hD : zD A [[mdl q a (uI x 2 ((u : Nat) : Int))], [((a 0), .inl (g.2 1, 88, .inr (.inl (aL (rC6 0 (6 + (6 * u)) S).1))))], [((a 1), .inl (g.2 1, 88, .inr (.inl (aL (rC6 0 (6 + (6 * u)) S).2.1))))]] := hD
  refine lv_aload_n hx hb dX10_keepPast_97 rfl (lv_at hl 1 rfl) ?_
  refine lv_dup hx hb dX10_keepPast_98 rfl ?_
  refine z_get hx hb hts hin10_ hown hK hP 0 rfl rfl 7 (by decide) (hts _ (List.mem_of_getElem? (i := 1) rfl)) rfl dX10_keepPast_99 ?_
  refine z_toI ((u : Nat) : Int) rfl ?_
  refine z_iconst hx hb dX10_keepPast_102 rfl ?_
  refine z_iadd hx hb (((u + 1) : Nat) : Int) (by omega) dX10_keepPast_103 ?_
  refine z_put hx hb hts hin10_ tyX10 tyX10_ok nmX10 hown hK hP hD hS 0 rfl rfl 7 (by decide) (hts _ (List.mem_of_getElem? (i := 1) rfl)) rfl rfl rfl (Nat.le_of_ble_eq_true rfl) dX10_keepPast_104 [[mdl q a (uI x 2 (((u + 1) : Nat) : Int))], [((a 0), .inl (g.2 1, 88, .inr (.inl (aL (rC6 0 (6 + (6 * u)) S).1))))], [((a 1), .inl (g.2 1, 88, .inr (.inl (aL (rC6 0 (6 + (6 * u)) S).2.1))))]] rfl (fun H locs hP hD hS => ?_)
  exact z_retv () [0, 1, 2] hx hb hr hlocks hK hP hD hS trivial rfl rfl (rfl) (Nat.le_of_ble_eq_true rfl) (Nat.le_of_ble_eq_true rfl) dX10_keepPast_107

set_option maxHeartbeats 4000000 in
set_option maxRecDepth 100000 in
theorem c_X10_keepPast8 (l : Launch) (g : zG) (q : Nat) (a : Nat → Nat) (x : Nat → Int) (S : RS) (hu : x 2 = 8) : zMet l g yX10_keepPast wsX10_keepPast 1 0 0 [.ref q] zX0 [[mdl q a x], [((a 0), .inl (g.2 1, 88, .inr (.inl (aL S.1))))], [((a 1), .inl (g.2 1, 88, .inr (.inl (aL S.2.1))))]] (qv g (fun (_ : Unit) => True) (fun (_ : Unit) => [[mdl q a (uI x 2 8)], [((a 0), .inl (g.2 1, 88, .inr (.inl (aL (rC6 0 48 (rSh S)).1))))], [((a 1), .inl (g.2 1, 88, .inr (.inl (aL (rC6 0 48 (rSh S)).2.1))))]])) := by
  refine z_ent (cc := cX10_keepPast) (maxL := 2) (ret := none) (by decide) rfl (Nat.le_of_ble_eq_true rfl) ?_
  intro p e s m below meth c A ls hx hb hr hml hown hts hlocks hin0 hA hK hP hD hS hXX hl
  have hown : s.vm.findClass RX10 = some m.cls := hown
  have hin10_ : ∀ w ∈ wsX100, w ∈ wsX10_keepPast := zw_in [9, 10, 11, 12, 13, 14, 15, 16, 17, 18, 19, 20, 21, 22, 23, 24, 25, 26, 27, 28, 29, 30, 31, 32, 33, 34] rfl
  have hl : lv_has ls 2 [(0, .ref q)] := hl
  refine z_iconst hx hb dX10_keepPast_0 rfl ?_
  refine lv_istore_n (lv' := [(1, vI 0), (0, .ref q)]) hx hb dX10_keepPast_1 rfl hl (by decide) rfl (fun ls hl => ?_)
  have loop2 : ∀ (N : Nat) (k : Nat) (H : Heap) (locs : List Loc) (ls : Array Slot), k ≤ 42 → (42 - k) < N → zP g [[mdl q a x], [((a 0), .inl (g.2 1, 88, .inr (.inl (aL (shN S.1 k)))))], [((a 1), .inl (g.2 1, 88, .inr (.inl (aL (shN S.2.1 k)))))]] H → zD A [[mdl q a x], [((a 0), .inl (g.2 1, 88, .inr (.inl (aL (shN S.1 k)))))], [((a 1), .inl (g.2 1, 88, .inr (.inl (aL (shN S.2.1 k)))))]] → va_S A s.heap H locs → lv_has ls 2 [(0, .ref q), (1, vI ((k : Nat) : Int))] → W p l e (zRm 1 0 0) s m ([.ref q] : List Value).toArray below meth c H locs (0) (0) (MQ below ((qv g (fun (_ : Unit) => True) (fun (_ : Unit) => [[mdl q a (uI x 2 8)], [((a 0), .inl (g.2 1, 88, .inr (.inl (aL (rC6 0 48 (rSh S)).1))))], [((a 1), .inl (g.2 1, 88, .inr (.inl (aL (rC6 0 48 (rSh S)).2.1))))]])) A) ([.ref q] : List Value).toArray s 0 0 A) (F0 m 2 ls []) := by
    intro N
    induction N with
    | zero => intro k H locs ls hk hm; exact absurd hm (Nat.not_lt_zero _)
    | succ N ih2 =>
      intro k H locs ls hk hm hP hD hS hl
      refine lv_iload_n hx hb dX10_keepPast_2 rfl (lv_at hl 1 rfl) ?_
      refine z_bipush hx hb 42 dX10_keepPast_3 rfl ?_
      refine z_icmp_ge (tgt := 59) hx hb (by omega) (by decide) dX10_keepPast_5 (by decide) (fun cq1 => ?_) (fun cq1 => ?_)
      · obtain rfl : k = 42 := by omega
        have hP : zP g [[mdl q a x], [((a 0), .inl (g.2 1, 88, .inr (.inl (aL (shN S.1 42)))))], [((a 1), .inl (g.2 1, 88, .inr (.inl (aL (shN S.2.1 42)))))]] H := hP
        have hD : zD A [[mdl q a x], [((a 0), .inl (g.2 1, 88, .inr (.inl (aL (shN S.1 42)))))], [((a 1), .inl (g.2 1, 88, .inr (.inl (aL (shN S.2.1 42)))))]] := hD
        refine lv_aload_n hx hb dX10_keepPast_59 rfl (lv_at hl 0 rfl) ?_
        refine lv_dup hx hb dX10_keepPast_60 rfl ?_
        refine z_get hx hb hts hin10_ hown hK hP 0 rfl rfl 7 (by decide) (hts _ (List.mem_of_getElem? (i := 1) rfl)) rfl dX10_keepPast_61 ?_
        refine lv_aload_n hx hb dX10_keepPast_64 rfl (lv_at hl 0 rfl) ?_
        refine z_get hx hb hts hin10_ hown hK hP 0 rfl rfl 7 (by decide) (hts _ (List.mem_of_getElem? (i := 1) rfl)) rfl dX10_keepPast_65 ?_
        refine z_bipush hx hb 8 dX10_keepPast_68 rfl ?_
        refine z_icmp_ne (tgt := 77) hx hb (by omega) (by decide) dX10_keepPast_70 (by decide) (fun cq2 => False.elim (by omega)) (fun cq2 => ?_)
        refine z_iconst hx hb dX10_keepPast_73 rfl ?_
        refine lv_goto (tgt := 78) hx hb dX10_keepPast_74 (by decide) ?_
        refine z_isub hx hb ((x 2) - 1) rfl dX10_keepPast_78 ?_
        refine z_toI 7 (by omega) ?_
        refine z_put hx hb hts hin10_ tyX10 tyX10_ok nmX10 hown hK hP hD hS 0 rfl rfl 7 (by decide) (hts _ (List.mem_of_getElem? (i := 1) rfl)) rfl rfl rfl (Nat.le_of_ble_eq_true rfl) dX10_keepPast_79 [[mdl q a (uI x 2 7)], [((a 0), .inl (g.2 1, 88, .inr (.inl (aL (shN S.1 42)))))], [((a 1), .inl (g.2 1, 88, .inr (.inl (aL (shN S.2.1 42)))))]] rfl (fun H locs hP hD hS => ?_)
        refine lv_aload_n hx hb dX10_keepPast_82 rfl (lv_at hl 0 rfl) ?_
        refine z_iconst hx hb dX10_keepPast_83 rfl ?_
        refine z_bipush hx hb 6 dX10_keepPast_84 rfl ?_
        refine z_bipush hx hb 6 dX10_keepPast_86 rfl ?_
        refine lv_aload_n hx hb dX10_keepPast_88 rfl (lv_at hl 0 rfl) ?_
        refine z_get hx hb hts hin10_ hown hK hP 0 rfl rfl 7 (by decide) (hts _ (List.mem_of_getElem? (i := 1) rfl)) rfl dX10_keepPast_89 ?_
        refine z_toI 7 rfl ?_
        refine z_imul hx hb 42 rfl dX10_keepPast_92 ?_
        refine z_iadd hx hb 48 rfl dX10_keepPast_93 ?_
        refine z_cVv (As := [vI 0, vI 48]) (rest := []) ⟨hx, hb, hml, hown, hts⟩ hK hP hD hS hA [0, 1, 2] [] rfl rfl rfl (c_X10_copyPhases l g q a (uI x 2 7) (rSh S) 0 48 (by decide) (by decide)) (cwV 2 hts gX10_keepPast_X10_copyPhases rfl rfl rfl (by decide +kernel) ⟨Nat.le_of_ble_eq_true rfl, Nat.le_of_ble_eq_true rfl⟩) 10 0 rfl rfl rfl (fun _ _ _ _ _ _ => trivial) (fun _ _ _ => trivial) rfl hl.1 (Nat.le_of_ble_eq_true rfl) rfl dX10_keepPast_94 ⟨Nat.le_of_ble_eq_true rfl, Nat.le_of_ble_eq_true rfl⟩ (fun u_3 H locs hwu_3 hP hD hS => ?_)
        try dsimp only at hwu_3
        have hP : zP g [[mdl q a (uI x 2 7)], [((a 0), .inl (g.2 1, 88, .inr (.inl (aL (rC6 0 48 (rSh S)).1))))], [((a 1), .inl (g.2 1, 88, .inr (.inl (aL (rC6 0 48 (rSh S)).2.1))))]] H := hP
        have hD : zD A [[mdl q a (uI x 2 7)], [((a 0), .inl (g.2 1, 88, .inr (.inl (aL (rC6 0 48 (rSh S)).1))))], [((a 1), .inl (g.2 1, 88, .inr (.inl (aL (rC6 0 48 (rSh S)).2.1))))]] := hD
        refine lv_aload_n hx hb dX10_keepPast_97 rfl (lv_at hl 0 rfl) ?_
        refine lv_dup hx hb dX10_keepPast_98 rfl ?_
        refine z_get hx hb hts hin10_ hown hK hP 0 rfl rfl 7 (by decide) (hts _ (List.mem_of_getElem? (i := 1) rfl)) rfl dX10_keepPast_99 ?_
        refine z_toI 7 rfl ?_
        refine z_iconst hx hb dX10_keepPast_102 rfl ?_
        refine z_iadd hx hb 8 rfl dX10_keepPast_103 ?_
        refine z_put hx hb hts hin10_ tyX10 tyX10_ok nmX10 hown hK hP hD hS 0 rfl rfl 7 (by decide) (hts _ (List.mem_of_getElem? (i := 1) rfl)) rfl rfl rfl (Nat.le_of_ble_eq_true rfl) dX10_keepPast_104 [[mdl q a (uI x 2 8)], [((a 0), .inl (g.2 1, 88, .inr (.inl (aL (rC6 0 48 (rSh S)).1))))], [((a 1), .inl (g.2 1, 88, .inr (.inl (aL (rC6 0 48 (rSh S)).2.1))))]] rfl (fun H locs hP hD hS => ?_)
        exact z_retv () [0, 1, 2] hx hb hr hlocks hK hP hD hS trivial rfl rfl (rfl) (Nat.le_of_ble_eq_true rfl) (Nat.le_of_ble_eq_true rfl) dX10_keepPast_107
      · refine lv_aload_n hx hb dX10_keepPast_8 rfl (lv_at hl 0 rfl) ?_
        refine z_get hx hb hts hin10_ hown hK hP 0 rfl rfl 7 (by decide) (hts _ (List.mem_of_getElem? (i := 1) rfl)) rfl dX10_keepPast_9 ?_
        refine z_bipush hx hb 8 dX10_keepPast_12 rfl ?_
        refine z_icmp_ne (tgt := 59) hx hb (by omega) (by decide) dX10_keepPast_14 (by decide) (fun cq4 => False.elim (by omega)) (fun cq4 => ?_)
        refine lv_aload_n hx hb dX10_keepPast_17 rfl (lv_at hl 0 rfl) ?_
        refine z_get hx hb hts hin10_ hown hK hP 0 rfl rfl 0 (by decide) (hts _ (List.mem_of_getElem? (i := 2) rfl)) rfl dX10_keepPast_18 ?_
        refine z_bipush hx hb 6 dX10_keepPast_21 rfl ?_
        refine lv_iload_n hx hb dX10_keepPast_23 rfl (lv_at hl 1 rfl) ?_
        refine z_iadd hx hb (((6 + k) : Nat) : Int) (by omega) dX10_keepPast_24 ?_
        refine lv_aload_n hx hb dX10_keepPast_25 rfl (lv_at hl 0 rfl) ?_
        refine z_get hx hb hts hin10_ hown hK hP 0 rfl rfl 0 (by decide) (hts _ (List.mem_of_getElem? (i := 2) rfl)) rfl dX10_keepPast_26 ?_
        refine z_bipush hx hb 12 dX10_keepPast_29 rfl ?_
        refine lv_iload_n hx hb dX10_keepPast_31 rfl (lv_at hl 1 rfl) ?_
        refine z_iadd hx hb (((12 + k) : Nat) : Int) (by omega) dX10_keepPast_32 ?_
        refine z_lald hx hb hK hP 1 rfl (12 + k) (by omega) (by omega) (by decide) dX10_keepPast_33 ?_
        refine z_last hx hb hK hP 1 hD hS rfl (6 + k) (by omega) (by omega) (by decide) dX10_keepPast_34 [[mdl q a x], [((a 0), .inl (g.2 1, 88, .inr (.inl (aL (uI (shN S.1 k) (6 + k) ((shN S.1 k) (12 + k)))))))], [((a 1), .inl (g.2 1, 88, .inr (.inl (aL (shN S.2.1 k)))))]] rfl (fun H locs hP hD hS => ?_)
        refine lv_aload_n hx hb dX10_keepPast_35 rfl (lv_at hl 0 rfl) ?_
        refine z_get hx hb hts hin10_ hown hK hP 0 rfl rfl 1 (by decide) (hts _ (List.mem_of_getElem? (i := 3) rfl)) rfl dX10_keepPast_36 ?_
        refine z_bipush hx hb 6 dX10_keepPast_39 rfl ?_
        refine lv_iload_n hx hb dX10_keepPast_41 rfl (lv_at hl 1 rfl) ?_
        refine z_iadd hx hb (((6 + k) : Nat) : Int) (by omega) dX10_keepPast_42 ?_
        refine lv_aload_n hx hb dX10_keepPast_43 rfl (lv_at hl 0 rfl) ?_
        refine z_get hx hb hts hin10_ hown hK hP 0 rfl rfl 1 (by decide) (hts _ (List.mem_of_getElem? (i := 3) rfl)) rfl dX10_keepPast_44 ?_
        refine z_bipush hx hb 12 dX10_keepPast_47 rfl ?_
        refine lv_iload_n hx hb dX10_keepPast_49 rfl (lv_at hl 1 rfl) ?_
        refine z_iadd hx hb (((12 + k) : Nat) : Int) (by omega) dX10_keepPast_50 ?_
        refine z_lald hx hb hK hP 2 rfl (12 + k) (by omega) (by omega) (by decide) dX10_keepPast_51 ?_
        refine z_last hx hb hK hP 2 hD hS rfl (6 + k) (by omega) (by omega) (by decide) dX10_keepPast_52 [[mdl q a x], [((a 0), .inl (g.2 1, 88, .inr (.inl (aL (uI (shN S.1 k) (6 + k) ((shN S.1 k) (12 + k)))))))], [((a 1), .inl (g.2 1, 88, .inr (.inl (aL (uI (shN S.2.1 k) (6 + k) ((shN S.2.1 k) (12 + k)))))))]] rfl (fun H locs hP hD hS => ?_)
        refine z_iinc hx hb (((k + 1) : Nat) : Int) (lv' := [(1, vI (((k + 1) : Nat) : Int)), (0, .ref q)]) dX10_keepPast_53 hl (k := 1) rfl (by omega) (by decide) rfl (fun ls hl => ?_)
        refine lv_goto (tgt := 2) hx hb dX10_keepPast_56 (by decide) ?_
        exact ih2 (k + 1) _ _ _ (by omega) (by omega) hP hD hS (lv_sub hl [1, 0] rfl)
  exact loop2 _ 0 _ _ _ (by omega) (Nat.lt_succ_self _) hP hD hS (lv_sub hl [1, 0] rfl)
