set_option maxHeartbeats 4000000 in
set_option maxRecDepth 100000 in
theorem c_X10_nextToken (l : Launch) (g : zG) (q : Nat) (a : Nat → Nat) (x : Nat → Int) (f : Nat → Int) (n : Nat) (e : Nat) (hx3 : x 3 = (n : Int)) (hn : n ≤ 200) (he : e ≤ n) (hf : ∀ i, 0 ≤ f i ∧ f i ≤ 255) : zMet l g yX10_nextToken wsX10_nextToken 2 0 0 [.ref q] zX0 [[mdl q a (uI x 5 ((e : Nat) : Int))], [((a 6), .inl (g.2 0, 200, .inl (aI f)))]] (qv g (fun (_ : Unit) => True) (fun (_ : Unit) => [[mdl q a (uI (uI x 4 (((tS f n e) : Nat) : Int)) 5 (((nEn f n e) : Nat) : Int))], [((a 6), .inl (g.2 0, 200, .inl (aI f)))]])) := by
  refine z_ent (cc := cX10_nextToken) (maxL := 1) (ret := none) (by decide) rfl (Nat.le_of_ble_eq_true rfl) ?_
  intro p eE s mM below meth cC A ls hx hb hr hml hown hts hlocks hin0 hA hK hP hD hS hXX hl
  have hown : s.vm.findClass RX10 = some mM.cls := hown
  have hin10_ : ∀ w ∈ wsX100, w ∈ wsX10_nextToken := zw_in [19, 20, 21, 22, 23, 24, 25, 26, 27, 28, 29, 30, 31, 32, 33, 34, 35, 36, 37, 38, 39, 40, 41, 42, 43, 44] rfl
  have hl : lv_has ls 1 [(0, .ref q)] := hl
  refine lv_aload_n hx hb dX10_nextToken_0 rfl (lv_at hl 0 rfl) ?_
  refine lv_aload_n hx hb dX10_nextToken_1 rfl (lv_at hl 0 rfl) ?_
  refine z_get hx hb hts hin10_ hown hK hP 0 rfl rfl 16 (by decide) (hts _ (List.mem_of_getElem? (i := 1) rfl)) rfl dX10_nextToken_2 ?_
  refine z_toI ((e : Nat) : Int) rfl ?_
  refine z_put hx hb hts hin10_ tyX10 tyX10_ok nmX10 hown hK hP hD hS 0 rfl rfl 15 (by decide) (hts _ (List.mem_of_getElem? (i := 2) rfl)) rfl rfl rfl (Nat.le_of_ble_eq_true rfl) dX10_nextToken_5 [[mdl q a (uI (uI x 4 ((e : Nat) : Int)) 5 ((e : Nat) : Int))], [((a 6), .inl (g.2 0, 200, .inl (aI f)))]] rfl (fun H locs hP hD hS => ?_)
  have loop8 : ∀ (N : Nat) (j : Nat) (H : Heap) (locs : List Loc) (ls : Array Slot), j ≤ n → e ≤ j → tS f n j = (tS f n e) → (n - j) < N → zP g [[mdl q a (uI (uI x 4 ((j : Nat) : Int)) 5 ((e : Nat) : Int))], [((a 6), .inl (g.2 0, 200, .inl (aI f)))]] H → zD A [[mdl q a (uI (uI x 4 ((j : Nat) : Int)) 5 ((e : Nat) : Int))], [((a 6), .inl (g.2 0, 200, .inl (aI f)))]] → va_S A s.heap H locs → lv_has ls 1 [(0, .ref q)] → W p l eE (zRm 2 0 0) s mM ([.ref q] : List Value).toArray below meth cC H locs (0) (0) (MQ below ((qv g (fun (_ : Unit) => True) (fun (_ : Unit) => [[mdl q a (uI (uI x 4 (((tS f n e) : Nat) : Int)) 5 (((nEn f n e) : Nat) : Int))], [((a 6), .inl (g.2 0, 200, .inl (aI f)))]])) A) ([.ref q] : List Value).toArray s 0 0 A) (F0 mM 8 ls []) := by
    intro N
    induction N with
    | zero => intro j H locs ls hj hje hj2 hm; exact absurd hm (Nat.not_lt_zero _)
    | succ N ih8 =>
      intro j H locs ls hj hje hj2 hm hP hD hS hl
      refine lv_aload_n hx hb dX10_nextToken_8 rfl (lv_at hl 0 rfl) ?_
      refine z_get hx hb hts hin10_ hown hK hP 0 rfl rfl 15 (by decide) (hts _ (List.mem_of_getElem? (i := 2) rfl)) rfl dX10_nextToken_9 ?_
      refine z_toI ((j : Nat) : Int) rfl ?_
      refine lv_aload_n hx hb dX10_nextToken_12 rfl (lv_at hl 0 rfl) ?_
      refine z_get hx hb hts hin10_ hown hK hP 0 rfl rfl 10 (by decide) (hts _ (List.mem_of_getElem? (i := 3) rfl)) rfl dX10_nextToken_13 ?_
      refine z_toI (x 3) rfl ?_
      refine z_icmp_ge (tgt := 46) hx hb (by omega) (by omega) dX10_nextToken_16 (by decide) (fun cq1 => ?_) (fun cq1 => ?_)
      · have hS0 := tS_stop (f := f) (n := n) (i := j) (by first | exact Or.inl (by omega) | exact Or.inr (by omega))
        have hjS : j = (tS f n e) := by rw [← hj2, hS0]
        subst hjS
        have hP : zP g [[mdl q a (uI (uI x 4 (((tS f n e) : Nat) : Int)) 5 ((e : Nat) : Int))], [((a 6), .inl (g.2 0, 200, .inl (aI f)))]] H := hP
        have hD : zD A [[mdl q a (uI (uI x 4 (((tS f n e) : Nat) : Int)) 5 ((e : Nat) : Int))], [((a 6), .inl (g.2 0, 200, .inl (aI f)))]] := hD
        have hK0 := kdA_s f n (tS f n e)
        have hO0 := kdO_s (f (tS f n e))
        have hE0 := tE_s f n (tS f n e)
        have hb0 := hf (tS f n e)
        refine lv_aload_n hx hb dX10_nextToken_46 rfl (lv_at hl 0 rfl) ?_
        refine lv_aload_n hx hb dX10_nextToken_47 rfl (lv_at hl 0 rfl) ?_
        refine z_get hx hb hts hin10_ hown hK hP 0 rfl rfl 15 (by decide) (hts _ (List.mem_of_getElem? (i := 2) rfl)) rfl dX10_nextToken_48 ?_
        refine z_toI (((tS f n e) : Nat) : Int) rfl ?_
        refine lv_aload_n hx hb dX10_nextToken_51 rfl (lv_at hl 0 rfl) ?_
        refine z_get hx hb hts hin10_ hown hK hP 0 rfl rfl 10 (by decide) (hts _ (List.mem_of_getElem? (i := 3) rfl)) rfl dX10_nextToken_52 ?_
        refine z_toI (x 3) rfl ?_
        refine z_icmp_ge (tgt := 67) hx hb (by omega) (by omega) dX10_nextToken_55 (by decide) (fun cq2 => ?_) (fun cq2 => False.elim (by omega))
        refine lv_aload_n hx hb dX10_nextToken_67 rfl (lv_at hl 0 rfl) ?_
        refine z_get hx hb hts hin10_ hown hK hP 0 rfl rfl 15 (by decide) (hts _ (List.mem_of_getElem? (i := 2) rfl)) rfl dX10_nextToken_68 ?_
        refine z_toI (((tS f n e) : Nat) : Int) rfl ?_
        refine z_put hx hb hts hin10_ tyX10 tyX10_ok nmX10 hown hK hP hD hS 0 rfl rfl 16 (by decide) (hts _ (List.mem_of_getElem? (i := 1) rfl)) rfl rfl rfl (Nat.le_of_ble_eq_true rfl) dX10_nextToken_71 [[mdl q a (uI (uI x 4 (((tS f n e) : Nat) : Int)) 5 (((tS f n e) : Nat) : Int))], [((a 6), .inl (g.2 0, 200, .inl (aI f)))]] rfl (fun H locs hP hD hS => ?_)
        refine lv_aload_n hx hb dX10_nextToken_74 rfl (lv_at hl 0 rfl) ?_
        refine z_get hx hb hts hin10_ hown hK hP 0 rfl rfl 15 (by decide) (hts _ (List.mem_of_getElem? (i := 2) rfl)) rfl dX10_nextToken_75 ?_
        refine z_toI (((tS f n e) : Nat) : Int) rfl ?_
        refine lv_aload_n hx hb dX10_nextToken_78 rfl (lv_at hl 0 rfl) ?_
        refine z_get hx hb hts hin10_ hown hK hP 0 rfl rfl 10 (by decide) (hts _ (List.mem_of_getElem? (i := 3) rfl)) rfl dX10_nextToken_79 ?_
        refine z_toI (x 3) rfl ?_
        refine z_icmp_ge (tgt := 139) hx hb (by omega) (by omega) dX10_nextToken_82 (by decide) (fun cq3 => ?_) (fun cq3 => False.elim (by omega))
        refine lv_aload_n hx hb dX10_nextToken_139 rfl (lv_at hl 0 rfl) ?_
        refine z_get hx hb hts hin10_ hown hK hP 0 rfl rfl 15 (by decide) (hts _ (List.mem_of_getElem? (i := 2) rfl)) rfl dX10_nextToken_140 ?_
        refine z_toI (((tS f n e) : Nat) : Int) rfl ?_
        refine lv_aload_n hx hb dX10_nextToken_143 rfl (lv_at hl 0 rfl) ?_
        refine z_get hx hb hts hin10_ hown hK hP 0 rfl rfl 10 (by decide) (hts _ (List.mem_of_getElem? (i := 3) rfl)) rfl dX10_nextToken_144 ?_
        refine z_toI (x 3) rfl ?_
        refine z_icmp_ge (tgt := 204) hx hb (by omega) (by omega) dX10_nextToken_147 (by decide) (fun cq4 => ?_) (fun cq4 => False.elim (by omega))
        have e9 : nEn f n e = (tS f n e) := by show tE f n (tS f n e) = _; have h9 := tR_stop (f := f) (n := n) (k := (kdA f n (tS f n e))) (i := (tS f n e)) (Or.inl (by omega)); omega
        have hP : zP g [[mdl q a (uI (uI x 4 (((tS f n e) : Nat) : Int)) 5 (((nEn f n e) : Nat) : Int))], [((a 6), .inl (g.2 0, 200, .inl (aI f)))]] H := by rw [e9]; exact hP
        have hD : zD A [[mdl q a (uI (uI x 4 (((tS f n e) : Nat) : Int)) 5 (((nEn f n e) : Nat) : Int))], [((a 6), .inl (g.2 0, 200, .inl (aI f)))]] := by rw [e9]; exact hD
        exact z_retv () [0, 1] hx hb hr hlocks hK hP hD hS trivial rfl rfl (rfl) (Nat.le_of_ble_eq_true rfl) (Nat.le_of_ble_eq_true rfl) dX10_nextToken_204
      · refine lv_aload_n hx hb dX10_nextToken_19 rfl (lv_at hl 0 rfl) ?_
        refine z_get hx hb hts hin10_ hown hK hP 0 rfl rfl 9 (by decide) (hts _ (List.mem_of_getElem? (i := 4) rfl)) rfl dX10_nextToken_20 ?_
        refine lv_aload_n hx hb dX10_nextToken_23 rfl (lv_at hl 0 rfl) ?_
        refine z_get hx hb hts hin10_ hown hK hP 0 rfl rfl 15 (by decide) (hts _ (List.mem_of_getElem? (i := 2) rfl)) rfl dX10_nextToken_24 ?_
        refine z_toI ((j : Nat) : Int) rfl ?_
        refine z_iald hx hb hK hP 1 rfl j (by omega) (by omega) (by decide) dX10_nextToken_27 ?_
        have hb_5 := hf j
        refine z_bipush hx hb 32 dX10_nextToken_28 rfl ?_
        refine z_icmp_ne (tgt := 46) hx hb (by omega) (by decide) dX10_nextToken_30 (by decide) (fun cq6 => ?_) (fun cq6 => ?_)
        · have hS0 := tS_stop (f := f) (n := n) (i := j) (by first | exact Or.inl (by omega) | exact Or.inr (by omega))
          have hjS : j = (tS f n e) := by rw [← hj2, hS0]
          subst hjS
          have hP : zP g [[mdl q a (uI (uI x 4 (((tS f n e) : Nat) : Int)) 5 ((e : Nat) : Int))], [((a 6), .inl (g.2 0, 200, .inl (aI f)))]] H := hP
          have hD : zD A [[mdl q a (uI (uI x 4 (((tS f n e) : Nat) : Int)) 5 ((e : Nat) : Int))], [((a 6), .inl (g.2 0, 200, .inl (aI f)))]] := hD
          have hK0 := kdA_s f n (tS f n e)
          have hO0 := kdO_s (f (tS f n e))
          have hE0 := tE_s f n (tS f n e)
          have hb0 := hf (tS f n e)
          refine lv_aload_n hx hb dX10_nextToken_46 rfl (lv_at hl 0 rfl) ?_
          refine lv_aload_n hx hb dX10_nextToken_47 rfl (lv_at hl 0 rfl) ?_
          refine z_get hx hb hts hin10_ hown hK hP 0 rfl rfl 15 (by decide) (hts _ (List.mem_of_getElem? (i := 2) rfl)) rfl dX10_nextToken_48 ?_
          refine z_toI (((tS f n e) : Nat) : Int) rfl ?_
          refine lv_aload_n hx hb dX10_nextToken_51 rfl (lv_at hl 0 rfl) ?_
          refine z_get hx hb hts hin10_ hown hK hP 0 rfl rfl 10 (by decide) (hts _ (List.mem_of_getElem? (i := 3) rfl)) rfl dX10_nextToken_52 ?_
          refine z_toI (x 3) rfl ?_
          refine z_icmp_ge (tgt := 67) hx hb (by omega) (by omega) dX10_nextToken_55 (by decide) (fun cq7 => False.elim (by omega)) (fun cq7 => ?_)
          refine lv_aload_n hx hb dX10_nextToken_58 rfl (lv_at hl 0 rfl) ?_
          refine z_get hx hb hts hin10_ hown hK hP 0 rfl rfl 15 (by decide) (hts _ (List.mem_of_getElem? (i := 2) rfl)) rfl dX10_nextToken_59 ?_
          refine z_toI (((tS f n e) : Nat) : Int) rfl ?_
          refine z_iconst hx hb dX10_nextToken_62 rfl ?_
          refine z_iadd hx hb ((((tS f n e) + 1) : Nat) : Int) (by omega) dX10_nextToken_63 ?_
          refine lv_goto (tgt := 71) hx hb dX10_nextToken_64 (by decide) ?_
          refine z_put hx hb hts hin10_ tyX10 tyX10_ok nmX10 hown hK hP hD hS 0 rfl rfl 16 (by decide) (hts _ (List.mem_of_getElem? (i := 1) rfl)) rfl rfl rfl (Nat.le_of_ble_eq_true rfl) dX10_nextToken_71 [[mdl q a (uI (uI x 4 (((tS f n e) : Nat) : Int)) 5 ((((tS f n e) + 1) : Nat) : Int))], [((a 6), .inl (g.2 0, 200, .inl (aI f)))]] rfl (fun H locs hP hD hS => ?_)
          refine lv_aload_n hx hb dX10_nextToken_74 rfl (lv_at hl 0 rfl) ?_
          refine z_get hx hb hts hin10_ hown hK hP 0 rfl rfl 15 (by decide) (hts _ (List.mem_of_getElem? (i := 2) rfl)) rfl dX10_nextToken_75 ?_
          refine z_toI (((tS f n e) : Nat) : Int) rfl ?_
          refine lv_aload_n hx hb dX10_nextToken_78 rfl (lv_at hl 0 rfl) ?_
          refine z_get hx hb hts hin10_ hown hK hP 0 rfl rfl 10 (by decide) (hts _ (List.mem_of_getElem? (i := 3) rfl)) rfl dX10_nextToken_79 ?_
          refine z_toI (x 3) rfl ?_
          refine z_icmp_ge (tgt := 139) hx hb (by omega) (by omega) dX10_nextToken_82 (by decide) (fun cq8 => False.elim (by omega)) (fun cq8 => ?_)
          refine lv_aload_n hx hb dX10_nextToken_85 rfl (lv_at hl 0 rfl) ?_
          refine z_get hx hb hts hin10_ hown hK hP 0 rfl rfl 9 (by decide) (hts _ (List.mem_of_getElem? (i := 4) rfl)) rfl dX10_nextToken_86 ?_
          refine lv_aload_n hx hb dX10_nextToken_89 rfl (lv_at hl 0 rfl) ?_
          refine z_get hx hb hts hin10_ hown hK hP 0 rfl rfl 15 (by decide) (hts _ (List.mem_of_getElem? (i := 2) rfl)) rfl dX10_nextToken_90 ?_
          refine z_toI (((tS f n e) : Nat) : Int) rfl ?_
          refine z_iald hx hb hK hP 1 rfl (tS f n e) (by omega) (by omega) (by decide) dX10_nextToken_93 ?_
          have hb_9 := hf (tS f n e)
          refine z_cSi (As := [vI (f (tS f n e))]) (rest := []) ⟨hx, hb, hml, hown, hts⟩ hK hP hD hS hA [] [0, 1] rfl rfl rfl (c_X10_isSmall l g (f (tS f n e)) (by first | assumption | omega | decide)) (va_cwS 1 hts gX10_nextToken_X10_isSmall rfl rfl rfl (by decide +kernel) ⟨Nat.le_of_ble_eq_true rfl, Nat.le_of_ble_eq_true rfl⟩) (fun _ _ _ _ _ _ => trivial) (fun _ _ _ => trivial) rfl hl.1 (Nat.le_of_ble_eq_true rfl) rfl dX10_nextToken_94 ⟨Nat.le_of_ble_eq_true rfl, Nat.le_of_ble_eq_true rfl⟩ (fun u_10 H locs hwu_10 hP hD hS => ?_)
          try dsimp only at hwu_10
          have hP : zP g [[mdl q a (uI (uI x 4 (((tS f n e) : Nat) : Int)) 5 ((((tS f n e) + 1) : Nat) : Int))], [((a 6), .inl (g.2 0, 200, .inl (aI f)))]] H := hP
          have hD : zD A [[mdl q a (uI (uI x 4 (((tS f n e) : Nat) : Int)) 5 ((((tS f n e) + 1) : Nat) : Int))], [((a 6), .inl (g.2 0, 200, .inl (aI f)))]] := hD
          refine z_toI (inI (f (tS f n e)) 97 122) rfl ?_
          have hf_11 := inI_s (f (tS f n e)) 97 122
          refine z_if_eq (tgt := 139) hx hb (by omega) dX10_nextToken_97 (by decide) (fun cq12 => ?_) (fun cq12 => ?_)
          · refine lv_aload_n hx hb dX10_nextToken_139 rfl (lv_at hl 0 rfl) ?_
            refine z_get hx hb hts hin10_ hown hK hP 0 rfl rfl 15 (by decide) (hts _ (List.mem_of_getElem? (i := 2) rfl)) rfl dX10_nextToken_140 ?_
            refine z_toI (((tS f n e) : Nat) : Int) rfl ?_
            refine lv_aload_n hx hb dX10_nextToken_143 rfl (lv_at hl 0 rfl) ?_
            refine z_get hx hb hts hin10_ hown hK hP 0 rfl rfl 10 (by decide) (hts _ (List.mem_of_getElem? (i := 3) rfl)) rfl dX10_nextToken_144 ?_
            refine z_toI (x 3) rfl ?_
            refine z_icmp_ge (tgt := 204) hx hb (by omega) (by omega) dX10_nextToken_147 (by decide) (fun cq13 => False.elim (by omega)) (fun cq13 => ?_)
            refine lv_aload_n hx hb dX10_nextToken_150 rfl (lv_at hl 0 rfl) ?_
            refine z_get hx hb hts hin10_ hown hK hP 0 rfl rfl 9 (by decide) (hts _ (List.mem_of_getElem? (i := 4) rfl)) rfl dX10_nextToken_151 ?_
            refine lv_aload_n hx hb dX10_nextToken_154 rfl (lv_at hl 0 rfl) ?_
            refine z_get hx hb hts hin10_ hown hK hP 0 rfl rfl 15 (by decide) (hts _ (List.mem_of_getElem? (i := 2) rfl)) rfl dX10_nextToken_155 ?_
            refine z_toI (((tS f n e) : Nat) : Int) rfl ?_
            refine z_iald hx hb hK hP 1 rfl (tS f n e) (by omega) (by omega) (by decide) dX10_nextToken_158 ?_
            have hb_14 := hf (tS f n e)
            refine z_cSi (As := [vI (f (tS f n e))]) (rest := []) ⟨hx, hb, hml, hown, hts⟩ hK hP hD hS hA [] [0, 1] rfl rfl rfl (c_X10_isDigit l g (f (tS f n e)) (by first | assumption | omega | decide)) (va_cwS 1 hts gX10_nextToken_X10_isDigit rfl rfl rfl (by decide +kernel) ⟨Nat.le_of_ble_eq_true rfl, Nat.le_of_ble_eq_true rfl⟩) (fun _ _ _ _ _ _ => trivial) (fun _ _ _ => trivial) rfl hl.1 (Nat.le_of_ble_eq_true rfl) rfl dX10_nextToken_159 ⟨Nat.le_of_ble_eq_true rfl, Nat.le_of_ble_eq_true rfl⟩ (fun u_15 H locs hwu_15 hP hD hS => ?_)
            try dsimp only at hwu_15
            have hP : zP g [[mdl q a (uI (uI x 4 (((tS f n e) : Nat) : Int)) 5 ((((tS f n e) + 1) : Nat) : Int))], [((a 6), .inl (g.2 0, 200, .inl (aI f)))]] H := hP
            have hD : zD A [[mdl q a (uI (uI x 4 (((tS f n e) : Nat) : Int)) 5 ((((tS f n e) + 1) : Nat) : Int))], [((a 6), .inl (g.2 0, 200, .inl (aI f)))]] := hD
            refine z_toI (inI (f (tS f n e)) 48 57) rfl ?_
            have hf_16 := inI_s (f (tS f n e)) 48 57
            refine z_if_eq (tgt := 204) hx hb (by omega) dX10_nextToken_162 (by decide) (fun cq17 => ?_) (fun cq17 => ?_)
            · have e9 : nEn f n e = ((tS f n e) + 1) := by show tE f n (tS f n e) = _; omega
              have hP : zP g [[mdl q a (uI (uI x 4 (((tS f n e) : Nat) : Int)) 5 (((nEn f n e) : Nat) : Int))], [((a 6), .inl (g.2 0, 200, .inl (aI f)))]] H := by rw [e9]; exact hP
              have hD : zD A [[mdl q a (uI (uI x 4 (((tS f n e) : Nat) : Int)) 5 (((nEn f n e) : Nat) : Int))], [((a 6), .inl (g.2 0, 200, .inl (aI f)))]] := by rw [e9]; exact hD
              exact z_retv () [0, 1] hx hb hr hlocks hK hP hD hS trivial rfl rfl (rfl) (Nat.le_of_ble_eq_true rfl) (Nat.le_of_ble_eq_true rfl) dX10_nextToken_204
            · have hk1 : (kdA f n (tS f n e)) = 2 := by omega
              rw [hk1] at hE0
              have loop165 : ∀ (N : Nat) (j : Nat) (H : Heap) (locs : List Loc) (ls : Array Slot), j ≤ n → (tS f n e) < j → tR f n 2 j = tR f n 2 (tS f n e) → (n - j) < N → zP g [[mdl q a (uI (uI x 4 (((tS f n e) : Nat) : Int)) 5 ((j : Nat) : Int))], [((a 6), .inl (g.2 0, 200, .inl (aI f)))]] H → zD A [[mdl q a (uI (uI x 4 (((tS f n e) : Nat) : Int)) 5 ((j : Nat) : Int))], [((a 6), .inl (g.2 0, 200, .inl (aI f)))]] → va_S A s.heap H locs → lv_has ls 1 [(0, .ref q)] → W p l eE (zRm 2 0 0) s mM ([.ref q] : List Value).toArray below meth cC H locs (0) (0) (MQ below ((qv g (fun (_ : Unit) => True) (fun (_ : Unit) => [[mdl q a (uI (uI x 4 (((tS f n e) : Nat) : Int)) 5 (((nEn f n e) : Nat) : Int))], [((a 6), .inl (g.2 0, 200, .inl (aI f)))]])) A) ([.ref q] : List Value).toArray s 0 0 A) (F0 mM 165 ls []) := by
                intro N
                induction N with
                | zero => intro j H locs ls hj hje hj2 hm; exact absurd hm (Nat.not_lt_zero _)
                | succ N ih165 =>
                  intro j H locs ls hj hje hj2 hm hP hD hS hl
                  refine lv_aload_n hx hb dX10_nextToken_165 rfl (lv_at hl 0 rfl) ?_
                  refine z_get hx hb hts hin10_ hown hK hP 0 rfl rfl 16 (by decide) (hts _ (List.mem_of_getElem? (i := 1) rfl)) rfl dX10_nextToken_166 ?_
                  refine z_toI ((j : Nat) : Int) rfl ?_
                  refine lv_aload_n hx hb dX10_nextToken_169 rfl (lv_at hl 0 rfl) ?_
                  refine z_get hx hb hts hin10_ hown hK hP 0 rfl rfl 10 (by decide) (hts _ (List.mem_of_getElem? (i := 3) rfl)) rfl dX10_nextToken_170 ?_
                  refine z_toI (x 3) rfl ?_
                  refine z_icmp_ge (tgt := 204) hx hb (by omega) (by omega) dX10_nextToken_173 (by decide) (fun cq18 => ?_) (fun cq18 => ?_)
                  · have e9 : nEn f n e = j := by show tE f n (tS f n e) = _; have h9 := tR_stop (f := f) (n := n) (k := 2) (i := j) (by first | exact Or.inl (by omega) | exact Or.inr (by have := kdO_s (f j); omega)); omega
                    have hP : zP g [[mdl q a (uI (uI x 4 (((tS f n e) : Nat) : Int)) 5 (((nEn f n e) : Nat) : Int))], [((a 6), .inl (g.2 0, 200, .inl (aI f)))]] H := by rw [e9]; exact hP
                    have hD : zD A [[mdl q a (uI (uI x 4 (((tS f n e) : Nat) : Int)) 5 (((nEn f n e) : Nat) : Int))], [((a 6), .inl (g.2 0, 200, .inl (aI f)))]] := by rw [e9]; exact hD
                    exact z_retv () [0, 1] hx hb hr hlocks hK hP hD hS trivial rfl rfl (rfl) (Nat.le_of_ble_eq_true rfl) (Nat.le_of_ble_eq_true rfl) dX10_nextToken_204
                  · refine lv_aload_n hx hb dX10_nextToken_176 rfl (lv_at hl 0 rfl) ?_
                    refine z_get hx hb hts hin10_ hown hK hP 0 rfl rfl 9 (by decide) (hts _ (List.mem_of_getElem? (i := 4) rfl)) rfl dX10_nextToken_177 ?_
                    refine lv_aload_n hx hb dX10_nextToken_180 rfl (lv_at hl 0 rfl) ?_
                    refine z_get hx hb hts hin10_ hown hK hP 0 rfl rfl 16 (by decide) (hts _ (List.mem_of_getElem? (i := 1) rfl)) rfl dX10_nextToken_181 ?_
                    refine z_toI ((j : Nat) : Int) rfl ?_
                    refine z_iald hx hb hK hP 1 rfl j (by omega) (by omega) (by decide) dX10_nextToken_184 ?_
                    have hb_19 := hf j
                    refine z_cSi (As := [vI (f j)]) (rest := []) ⟨hx, hb, hml, hown, hts⟩ hK hP hD hS hA [] [0, 1] rfl rfl rfl (c_X10_isDigit l g (f j) (by first | assumption | omega | decide)) (va_cwS 1 hts gX10_nextToken_X10_isDigit rfl rfl rfl (by decide +kernel) ⟨Nat.le_of_ble_eq_true rfl, Nat.le_of_ble_eq_true rfl⟩) (fun _ _ _ _ _ _ => trivial) (fun _ _ _ => trivial) rfl hl.1 (Nat.le_of_ble_eq_true rfl) rfl dX10_nextToken_185 ⟨Nat.le_of_ble_eq_true rfl, Nat.le_of_ble_eq_true rfl⟩ (fun u_20 H locs hwu_20 hP hD hS => ?_)
                    try dsimp only at hwu_20
                    have hP : zP g [[mdl q a (uI (uI x 4 (((tS f n e) : Nat) : Int)) 5 ((j : Nat) : Int))], [((a 6), .inl (g.2 0, 200, .inl (aI f)))]] H := hP
                    have hD : zD A [[mdl q a (uI (uI x 4 (((tS f n e) : Nat) : Int)) 5 ((j : Nat) : Int))], [((a 6), .inl (g.2 0, 200, .inl (aI f)))]] := hD
                    refine z_toI (inI (f j) 48 57) rfl ?_
                    have hf_21 := inI_s (f j) 48 57
                    refine z_if_eq (tgt := 204) hx hb (by omega) dX10_nextToken_188 (by decide) (fun cq22 => ?_) (fun cq22 => ?_)
                    · have e9 : nEn f n e = j := by show tE f n (tS f n e) = _; have h9 := tR_stop (f := f) (n := n) (k := 2) (i := j) (by first | exact Or.inl (by omega) | exact Or.inr (by have := kdO_s (f j); omega)); omega
                      have hP : zP g [[mdl q a (uI (uI x 4 (((tS f n e) : Nat) : Int)) 5 (((nEn f n e) : Nat) : Int))], [((a 6), .inl (g.2 0, 200, .inl (aI f)))]] H := by rw [e9]; exact hP
                      have hD : zD A [[mdl q a (uI (uI x 4 (((tS f n e) : Nat) : Int)) 5 (((nEn f n e) : Nat) : Int))], [((a 6), .inl (g.2 0, 200, .inl (aI f)))]] := by rw [e9]; exact hD
                      exact z_retv () [0, 1] hx hb hr hlocks hK hP hD hS trivial rfl rfl (rfl) (Nat.le_of_ble_eq_true rfl) (Nat.le_of_ble_eq_true rfl) dX10_nextToken_204
                    · refine lv_aload_n hx hb dX10_nextToken_191 rfl (lv_at hl 0 rfl) ?_
                      refine lv_dup hx hb dX10_nextToken_192 rfl ?_
                      refine z_get hx hb hts hin10_ hown hK hP 0 rfl rfl 16 (by decide) (hts _ (List.mem_of_getElem? (i := 1) rfl)) rfl dX10_nextToken_193 ?_
                      refine z_toI ((j : Nat) : Int) rfl ?_
                      refine z_iconst hx hb dX10_nextToken_196 rfl ?_
                      refine z_iadd hx hb (((j + 1) : Nat) : Int) (by omega) dX10_nextToken_197 ?_
                      refine z_put hx hb hts hin10_ tyX10 tyX10_ok nmX10 hown hK hP hD hS 0 rfl rfl 16 (by decide) (hts _ (List.mem_of_getElem? (i := 1) rfl)) rfl rfl rfl (Nat.le_of_ble_eq_true rfl) dX10_nextToken_198 [[mdl q a (uI (uI x 4 (((tS f n e) : Nat) : Int)) 5 (((j + 1) : Nat) : Int))], [((a 6), .inl (g.2 0, 200, .inl (aI f)))]] rfl (fun H locs hP hD hS => ?_)
                      refine lv_goto (tgt := 165) hx hb dX10_nextToken_201 (by decide) ?_
                      exact ih165 (j + 1) _ _ _ (by omega) (by omega) ((tR_go (i := j) (by omega) (by have := kdO_s (f j); omega)).symm.trans hj2) (by omega) hP hD hS (lv_sub hl [0] rfl)
              exact loop165 _ ((tS f n e) + 1) _ _ _ (by omega) (by omega) ((tR_go (i := (tS f n e)) (by omega) (by omega)).symm) (Nat.lt_succ_self _) hP hD hS (lv_sub hl [0] rfl)
          · have hk1 : (kdA f n (tS f n e)) = 1 := by omega
            rw [hk1] at hE0
            have loop100 : ∀ (N : Nat) (j : Nat) (H : Heap) (locs : List Loc) (ls : Array Slot), j ≤ n → (tS f n e) < j → tR f n 1 j = tR f n 1 (tS f n e) → (n - j) < N → zP g [[mdl q a (uI (uI x 4 (((tS f n e) : Nat) : Int)) 5 ((j : Nat) : Int))], [((a 6), .inl (g.2 0, 200, .inl (aI f)))]] H → zD A [[mdl q a (uI (uI x 4 (((tS f n e) : Nat) : Int)) 5 ((j : Nat) : Int))], [((a 6), .inl (g.2 0, 200, .inl (aI f)))]] → va_S A s.heap H locs → lv_has ls 1 [(0, .ref q)] → W p l eE (zRm 2 0 0) s mM ([.ref q] : List Value).toArray below meth cC H locs (0) (0) (MQ below ((qv g (fun (_ : Unit) => True) (fun (_ : Unit) => [[mdl q a (uI (uI x 4 (((tS f n e) : Nat) : Int)) 5 (((nEn f n e) : Nat) : Int))], [((a 6), .inl (g.2 0, 200, .inl (aI f)))]])) A) ([.ref q] : List Value).toArray s 0 0 A) (F0 mM 100 ls []) := by
              intro N
              induction N with
              | zero => intro j H locs ls hj hje hj2 hm; exact absurd hm (Nat.not_lt_zero _)
              | succ N ih100 =>
                intro j H locs ls hj hje hj2 hm hP hD hS hl
                refine lv_aload_n hx hb dX10_nextToken_100 rfl (lv_at hl 0 rfl) ?_
                refine z_get hx hb hts hin10_ hown hK hP 0 rfl rfl 16 (by decide) (hts _ (List.mem_of_getElem? (i := 1) rfl)) rfl dX10_nextToken_101 ?_
                refine z_toI ((j : Nat) : Int) rfl ?_
                refine lv_aload_n hx hb dX10_nextToken_104 rfl (lv_at hl 0 rfl) ?_
                refine z_get hx hb hts hin10_ hown hK hP 0 rfl rfl 10 (by decide) (hts _ (List.mem_of_getElem? (i := 3) rfl)) rfl dX10_nextToken_105 ?_
                refine z_toI (x 3) rfl ?_
                refine z_icmp_ge (tgt := 204) hx hb (by omega) (by omega) dX10_nextToken_108 (by decide) (fun cq23 => ?_) (fun cq23 => ?_)
                · have e9 : nEn f n e = j := by show tE f n (tS f n e) = _; have h9 := tR_stop (f := f) (n := n) (k := 1) (i := j) (by first | exact Or.inl (by omega) | exact Or.inr (by have := kdO_s (f j); omega)); omega
                  have hP : zP g [[mdl q a (uI (uI x 4 (((tS f n e) : Nat) : Int)) 5 (((nEn f n e) : Nat) : Int))], [((a 6), .inl (g.2 0, 200, .inl (aI f)))]] H := by rw [e9]; exact hP
                  have hD : zD A [[mdl q a (uI (uI x 4 (((tS f n e) : Nat) : Int)) 5 (((nEn f n e) : Nat) : Int))], [((a 6), .inl (g.2 0, 200, .inl (aI f)))]] := by rw [e9]; exact hD
                  exact z_retv () [0, 1] hx hb hr hlocks hK hP hD hS trivial rfl rfl (rfl) (Nat.le_of_ble_eq_true rfl) (Nat.le_of_ble_eq_true rfl) dX10_nextToken_204
                · refine lv_aload_n hx hb dX10_nextToken_111 rfl (lv_at hl 0 rfl) ?_
                  refine z_get hx hb hts hin10_ hown hK hP 0 rfl rfl 9 (by decide) (hts _ (List.mem_of_getElem? (i := 4) rfl)) rfl dX10_nextToken_112 ?_
                  refine lv_aload_n hx hb dX10_nextToken_115 rfl (lv_at hl 0 rfl) ?_
                  refine z_get hx hb hts hin10_ hown hK hP 0 rfl rfl 16 (by decide) (hts _ (List.mem_of_getElem? (i := 1) rfl)) rfl dX10_nextToken_116 ?_
                  refine z_toI ((j : Nat) : Int) rfl ?_
                  refine z_iald hx hb hK hP 1 rfl j (by omega) (by omega) (by decide) dX10_nextToken_119 ?_
                  have hb_24 := hf j
                  refine z_cSi (As := [vI (f j)]) (rest := []) ⟨hx, hb, hml, hown, hts⟩ hK hP hD hS hA [] [0, 1] rfl rfl rfl (c_X10_isSmall l g (f j) (by first | assumption | omega | decide)) (va_cwS 1 hts gX10_nextToken_X10_isSmall rfl rfl rfl (by decide +kernel) ⟨Nat.le_of_ble_eq_true rfl, Nat.le_of_ble_eq_true rfl⟩) (fun _ _ _ _ _ _ => trivial) (fun _ _ _ => trivial) rfl hl.1 (Nat.le_of_ble_eq_true rfl) rfl dX10_nextToken_120 ⟨Nat.le_of_ble_eq_true rfl, Nat.le_of_ble_eq_true rfl⟩ (fun u_25 H locs hwu_25 hP hD hS => ?_)
                  try dsimp only at hwu_25
                  have hP : zP g [[mdl q a (uI (uI x 4 (((tS f n e) : Nat) : Int)) 5 ((j : Nat) : Int))], [((a 6), .inl (g.2 0, 200, .inl (aI f)))]] H := hP
                  have hD : zD A [[mdl q a (uI (uI x 4 (((tS f n e) : Nat) : Int)) 5 ((j : Nat) : Int))], [((a 6), .inl (g.2 0, 200, .inl (aI f)))]] := hD
                  refine z_toI (inI (f j) 97 122) rfl ?_
                  have hf_26 := inI_s (f j) 97 122
                  refine z_if_eq (tgt := 204) hx hb (by omega) dX10_nextToken_123 (by decide) (fun cq27 => ?_) (fun cq27 => ?_)
                  · have e9 : nEn f n e = j := by show tE f n (tS f n e) = _; have h9 := tR_stop (f := f) (n := n) (k := 1) (i := j) (by first | exact Or.inl (by omega) | exact Or.inr (by have := kdO_s (f j); omega)); omega
                    have hP : zP g [[mdl q a (uI (uI x 4 (((tS f n e) : Nat) : Int)) 5 (((nEn f n e) : Nat) : Int))], [((a 6), .inl (g.2 0, 200, .inl (aI f)))]] H := by rw [e9]; exact hP
                    have hD : zD A [[mdl q a (uI (uI x 4 (((tS f n e) : Nat) : Int)) 5 (((nEn f n e) : Nat) : Int))], [((a 6), .inl (g.2 0, 200, .inl (aI f)))]] := by rw [e9]; exact hD
                    exact z_retv () [0, 1] hx hb hr hlocks hK hP hD hS trivial rfl rfl (rfl) (Nat.le_of_ble_eq_true rfl) (Nat.le_of_ble_eq_true rfl) dX10_nextToken_204
                  · refine lv_aload_n hx hb dX10_nextToken_126 rfl (lv_at hl 0 rfl) ?_
                    refine lv_dup hx hb dX10_nextToken_127 rfl ?_
                    refine z_get hx hb hts hin10_ hown hK hP 0 rfl rfl 16 (by decide) (hts _ (List.mem_of_getElem? (i := 1) rfl)) rfl dX10_nextToken_128 ?_
                    refine z_toI ((j : Nat) : Int) rfl ?_
                    refine z_iconst hx hb dX10_nextToken_131 rfl ?_
                    refine z_iadd hx hb (((j + 1) : Nat) : Int) (by omega) dX10_nextToken_132 ?_
                    refine z_put hx hb hts hin10_ tyX10 tyX10_ok nmX10 hown hK hP hD hS 0 rfl rfl 16 (by decide) (hts _ (List.mem_of_getElem? (i := 1) rfl)) rfl rfl rfl (Nat.le_of_ble_eq_true rfl) dX10_nextToken_133 [[mdl q a (uI (uI x 4 (((tS f n e) : Nat) : Int)) 5 (((j + 1) : Nat) : Int))], [((a 6), .inl (g.2 0, 200, .inl (aI f)))]] rfl (fun H locs hP hD hS => ?_)
                    refine lv_goto (tgt := 100) hx hb dX10_nextToken_136 (by decide) ?_
                    exact ih100 (j + 1) _ _ _ (by omega) (by omega) ((tR_go (i := j) (by omega) (by have := kdO_s (f j); omega)).symm.trans hj2) (by omega) hP hD hS (lv_sub hl [0] rfl)
            exact loop100 _ ((tS f n e) + 1) _ _ _ (by omega) (by omega) ((tR_go (i := (tS f n e)) (by omega) (by omega)).symm) (Nat.lt_succ_self _) hP hD hS (lv_sub hl [0] rfl)
        · refine lv_aload_n hx hb dX10_nextToken_33 rfl (lv_at hl 0 rfl) ?_
          refine lv_dup hx hb dX10_nextToken_34 rfl ?_
          refine z_get hx hb hts hin10_ hown hK hP 0 rfl rfl 15 (by decide) (hts _ (List.mem_of_getElem? (i := 2) rfl)) rfl dX10_nextToken_35 ?_
          refine z_toI ((j : Nat) : Int) rfl ?_
          refine z_iconst hx hb dX10_nextToken_38 rfl ?_
          refine z_iadd hx hb (((j + 1) : Nat) : Int) (by omega) dX10_nextToken_39 ?_
          refine z_put hx hb hts hin10_ tyX10 tyX10_ok nmX10 hown hK hP hD hS 0 rfl rfl 15 (by decide) (hts _ (List.mem_of_getElem? (i := 2) rfl)) rfl rfl rfl (Nat.le_of_ble_eq_true rfl) dX10_nextToken_40 [[mdl q a (uI (uI x 4 (((j + 1) : Nat) : Int)) 5 ((e : Nat) : Int))], [((a 6), .inl (g.2 0, 200, .inl (aI f)))]] rfl (fun H locs hP hD hS => ?_)
          refine lv_goto (tgt := 8) hx hb dX10_nextToken_43 (by decide) ?_
          exact ih8 (j + 1) _ _ _ (by omega) (by omega) ((tS_go (i := j) (by omega) (by omega)).symm.trans hj2) (by omega) hP hD hS (lv_sub hl [0] rfl)
  exact loop8 _ e _ _ _ he (Nat.le_refl _) rfl (Nat.lt_succ_self _) hP hD hS (lv_sub hl [0] rfl)

set_option maxHeartbeats 4000000 in
set_option maxRecDepth 100000 in
theorem c_X10_wordHere (l : Launch) (g : zG) (q : Nat) (a : Nat → Nat) (x : Nat → Int) (f : Nat → Int) (n : Nat) (e : Nat) (wd : Nat → Int) (hx3 : x 3 = (n : Int)) (hn : n ≤ 200) (he : e ≤ n) (hf : ∀ i, 0 ≤ f i ∧ f i ≤ 255) (hwd : ∀ k, k < 24 → wd k = wds k) : zMet l g yX10_wordHere wsX10_wordHere 0 0 0 [.ref q] zX0 [[mdl q a (uI (uI x 4 (((tS f n e) : Nat) : Int)) 5 (((nEn f n e) : Nat) : Int))], [((a 6), .inl (g.2 0, 200, .inl (aI f)))], [((a 12), .inl (g.2 0, 24, .inl (aI wd)))]] (qi g (fun (_ : Unit) => (wR wd f (tS f n e) (nEn f n e))) (fun (_ : Unit) => True) (fun (_ : Unit) => [[mdl q a (uI (uI x 4 (((tS f n e) : Nat) : Int)) 5 (((nEn f n e) : Nat) : Int))], [((a 6), .inl (g.2 0, 200, .inl (aI f)))], [((a 12), .inl (g.2 0, 24, .inl (aI wd)))]])) := by
  have hes := nEn_s f he
  refine z_ent (cc := cX10_wordHere) (maxL := 4) (ret := (some .int)) (by decide) rfl (Nat.le_of_ble_eq_true rfl) ?_
  intro p eE s mM below meth cC A ls hx hb hr hml hown hts hlocks hin0 hA hK hP hD hS hXX hl
  have hown : s.vm.findClass RX10 = some mM.cls := hown
  have hin10_ : ∀ w ∈ wsX100, w ∈ wsX10_wordHere := zw_in [5, 6, 7, 8, 9, 10, 11, 12, 13, 14, 15, 16, 17, 18, 19, 20, 21, 22, 23, 24, 25, 26, 27, 28, 29, 30] rfl
  have hl : lv_has ls 4 [(0, .ref q)] := hl
  refine z_iconst hx hb dX10_wordHere_0 rfl ?_
  refine lv_istore_n (lv' := [(1, vI 0), (0, .ref q)]) hx hb dX10_wordHere_1 rfl hl (by decide) rfl (fun ls hl => ?_)
  have loop2 : ∀ (N : Nat) (wv : Nat) (H : Heap) (locs : List Loc) (ls : Array Slot), wv ≤ 4 → (∀ j, j < wv → wEq wd f (tS f n e) (nEn f n e) j 6 = 0) → (4 - wv) < N → zP g [[mdl q a (uI (uI x 4 (((tS f n e) : Nat) : Int)) 5 (((nEn f n e) : Nat) : Int))], [((a 6), .inl (g.2 0, 200, .inl (aI f)))], [((a 12), .inl (g.2 0, 24, .inl (aI wd)))]] H → zD A [[mdl q a (uI (uI x 4 (((tS f n e) : Nat) : Int)) 5 (((nEn f n e) : Nat) : Int))], [((a 6), .inl (g.2 0, 200, .inl (aI f)))], [((a 12), .inl (g.2 0, 24, .inl (aI wd)))]] → va_S A s.heap H locs → lv_has ls 4 [(0, .ref q), (1, vI ((wv : Nat) : Int))] → W p l eE (zRm 0 0 0) s mM ([.ref q] : List Value).toArray below meth cC H locs (0) (0) (MQ below ((qi g (fun (_ : Unit) => (wR wd f (tS f n e) (nEn f n e))) (fun (_ : Unit) => True) (fun (_ : Unit) => [[mdl q a (uI (uI x 4 (((tS f n e) : Nat) : Int)) 5 (((nEn f n e) : Nat) : Int))], [((a 6), .inl (g.2 0, 200, .inl (aI f)))], [((a 12), .inl (g.2 0, 24, .inl (aI wd)))]])) A) ([.ref q] : List Value).toArray s 0 0 A) (F0 mM 2 ls []) := by
    intro N
    induction N with
    | zero => intro wv H locs ls hw4 hwn hm; exact absurd hm (Nat.not_lt_zero _)
    | succ N ih2 =>
      intro wv H locs ls hw4 hwn hm hP hD hS hl
      refine lv_iload_n hx hb dX10_wordHere_2 rfl (lv_at hl 1 rfl) ?_
      refine z_iconst hx hb dX10_wordHere_3 rfl ?_
      refine z_icmp_gt (tgt := 116) hx hb (by omega) (by decide) dX10_wordHere_4 (by decide) (fun cq1 => ?_) (fun cq1 => ?_)
      · refine z_iconst hx hb dX10_wordHere_116 rfl ?_
        exact z_reti () [0, 1, 2] hx hb hr rfl hlocks hK hP hD hS (wR_no (fun j hj => hwn j (by omega))) trivial rfl rfl (rfl) (Nat.le_of_ble_eq_true rfl) (Nat.le_of_ble_eq_true rfl) dX10_wordHere_117
      · refine lv_aload_n hx hb dX10_wordHere_7 rfl (lv_at hl 0 rfl) ?_
        refine z_get hx hb hts hin10_ hown hK hP 0 rfl rfl 16 (by decide) (hts _ (List.mem_of_getElem? (i := 1) rfl)) rfl dX10_wordHere_8 ?_
        refine z_toI (((nEn f n e) : Nat) : Int) rfl ?_
        refine lv_aload_n hx hb dX10_wordHere_11 rfl (lv_at hl 0 rfl) ?_
        refine z_get hx hb hts hin10_ hown hK hP 0 rfl rfl 15 (by decide) (hts _ (List.mem_of_getElem? (i := 2) rfl)) rfl dX10_wordHere_12 ?_
        refine z_toI (((tS f n e) : Nat) : Int) rfl ?_
        refine z_icmp_le (tgt := 36) hx hb (by omega) (by omega) dX10_wordHere_15 (by decide) (fun cq2 => ?_) (fun cq2 => ?_)
        · refine z_iconst hx hb dX10_wordHere_36 rfl ?_
          refine lv_istore_n (lv' := [(2, vI 0), (0, .ref q), (1, vI ((wv : Nat) : Int))]) hx hb dX10_wordHere_37 rfl hl (by decide) rfl (fun ls hl => ?_)
          refine z_iconst hx hb dX10_wordHere_38 rfl ?_
          refine lv_istore_n (lv' := [(3, vI 0), (2, vI 0), (0, .ref q), (1, vI ((wv : Nat) : Int))]) hx hb dX10_wordHere_39 rfl hl (by decide) rfl (fun ls hl => ?_)
          have loop40 : ∀ (N : Nat) (k : Nat) (z : Int) (H : Heap) (locs : List Loc) (ls : Array Slot), k ≤ 6 → z = wEq wd f (tS f n e) (nEn f n e) wv k → (6 - k) < N → zP g [[mdl q a (uI (uI x 4 (((tS f n e) : Nat) : Int)) 5 (((nEn f n e) : Nat) : Int))], [((a 6), .inl (g.2 0, 200, .inl (aI f)))], [((a 12), .inl (g.2 0, 24, .inl (aI wd)))]] H → zD A [[mdl q a (uI (uI x 4 (((tS f n e) : Nat) : Int)) 5 (((nEn f n e) : Nat) : Int))], [((a 6), .inl (g.2 0, 200, .inl (aI f)))], [((a 12), .inl (g.2 0, 24, .inl (aI wd)))]] → va_S A s.heap H locs → lv_has ls 4 [(0, .ref q), (1, vI ((wv : Nat) : Int)), (2, vI z), (3, vI ((k : Nat) : Int))] → W p l eE (zRm 0 0 0) s mM ([.ref q] : List Value).toArray below meth cC H locs (0) (0) (MQ below ((qi g (fun (_ : Unit) => (wR wd f (tS f n e) (nEn f n e))) (fun (_ : Unit) => True) (fun (_ : Unit) => [[mdl q a (uI (uI x 4 (((tS f n e) : Nat) : Int)) 5 (((nEn f n e) : Nat) : Int))], [((a 6), .inl (g.2 0, 200, .inl (aI f)))], [((a 12), .inl (g.2 0, 24, .inl (aI wd)))]])) A) ([.ref q] : List Value).toArray s 0 0 A) (F0 mM 40 ls []) := by
            intro N
            induction N with
            | zero => intro k z H locs ls hk6 hz hm; exact absurd hm (Nat.not_lt_zero _)
            | succ N ih40 =>
              intro k z H locs ls hk6 hz hm hP hD hS hl
              have hz0 := wEq_01 wd f (tS f n e) (nEn f n e) wv k
              refine lv_iload_n hx hb dX10_wordHere_40 rfl (lv_at hl 3 rfl) ?_
              refine z_bipush hx hb 6 dX10_wordHere_41 rfl ?_
              refine z_icmp_ge (tgt := 104) hx hb (by omega) (by decide) dX10_wordHere_43 (by decide) (fun cq3 => ?_) (fun cq3 => ?_)
              · have hq6 := wEq_6 (wd := wd) (f := f) (s := (tS f n e)) (t := (nEn f n e)) (w := wv) hk6
                have hq7 : k = 6 → z = wEq wd f (tS f n e) (nEn f n e) wv 6 := fun q => by rw [hz, q]
                refine lv_iload_n hx hb dX10_wordHere_104 rfl (lv_at hl 2 rfl) ?_
                refine z_if_eq (tgt := 110) hx hb (by omega) dX10_wordHere_105 (by decide) (fun cq4 => ?_) (fun cq4 => ?_)
                · refine z_iinc hx hb (((wv + 1) : Nat) : Int) (lv' := [(1, vI (((wv + 1) : Nat) : Int)), (0, .ref q), (2, vI z), (3, vI ((k : Nat) : Int))]) dX10_wordHere_110 hl (k := 1) rfl (by omega) (by decide) rfl (fun ls hl => ?_)
                  refine lv_goto (tgt := 2) hx hb dX10_wordHere_113 (by decide) ?_
                  exact ih2 (wv + 1) _ _ _ (by omega) (fun j hj => by rcases (show j < wv ∨ j = wv by omega) with h | h; exact hwn j h; rw [h]; omega) (by omega) hP hD hS (lv_sub hl [1, 0] rfl)
                · refine lv_iload_n hx hb dX10_wordHere_108 rfl (lv_at hl 1 rfl) ?_
                  exact z_reti () [0, 1, 2] hx hb hr rfl hlocks hK hP hD hS (wR_at hwn (by omega) (by omega)) trivial rfl rfl (rfl) (Nat.le_of_ble_eq_true rfl) (Nat.le_of_ble_eq_true rfl) dX10_wordHere_109
              · refine lv_iload_n hx hb dX10_wordHere_46 rfl (lv_at hl 2 rfl) ?_
                refine z_if_eq (tgt := 104) hx hb (by omega) dX10_wordHere_47 (by decide) (fun cq5 => ?_) (fun cq5 => ?_)
                · have hq6 := wEq_6 (wd := wd) (f := f) (s := (tS f n e)) (t := (nEn f n e)) (w := wv) hk6
                  have hq7 : k = 6 → z = wEq wd f (tS f n e) (nEn f n e) wv 6 := fun q => by rw [hz, q]
                  refine lv_iload_n hx hb dX10_wordHere_104 rfl (lv_at hl 2 rfl) ?_
                  refine z_if_eq (tgt := 110) hx hb (by omega) dX10_wordHere_105 (by decide) (fun cq6 => ?_) (fun cq6 => ?_)
                  · refine z_iinc hx hb (((wv + 1) : Nat) : Int) (lv' := [(1, vI (((wv + 1) : Nat) : Int)), (0, .ref q), (2, vI z), (3, vI ((k : Nat) : Int))]) dX10_wordHere_110 hl (k := 1) rfl (by omega) (by decide) rfl (fun ls hl => ?_)
                    refine lv_goto (tgt := 2) hx hb dX10_wordHere_113 (by decide) ?_
                    exact ih2 (wv + 1) _ _ _ (by omega) (fun j hj => by rcases (show j < wv ∨ j = wv by omega) with h | h; exact hwn j h; rw [h]; omega) (by omega) hP hD hS (lv_sub hl [1, 0] rfl)
                  · refine lv_iload_n hx hb dX10_wordHere_108 rfl (lv_at hl 1 rfl) ?_
                    exact z_reti () [0, 1, 2] hx hb hr rfl hlocks hK hP hD hS (wR_at hwn (by omega) (by omega)) trivial rfl rfl (rfl) (Nat.le_of_ble_eq_true rfl) (Nat.le_of_ble_eq_true rfl) dX10_wordHere_109
                · refine lv_aload_n hx hb dX10_wordHere_50 rfl (lv_at hl 0 rfl) ?_
                  refine z_get hx hb hts hin10_ hown hK hP 0 rfl rfl 21 (by decide) (hts _ (List.mem_of_getElem? (i := 3) rfl)) rfl dX10_wordHere_51 ?_
                  refine z_bipush hx hb 6 dX10_wordHere_54 rfl ?_
                  refine lv_iload_n hx hb dX10_wordHere_56 rfl (lv_at hl 1 rfl) ?_
                  refine z_imul hx hb (((6 * wv) : Nat) : Int) (by omega) dX10_wordHere_57 ?_
                  refine lv_iload_n hx hb dX10_wordHere_58 rfl (lv_at hl 3 rfl) ?_
                  refine z_iadd hx hb ((((6 * wv) + k) : Nat) : Int) (by omega) dX10_wordHere_59 ?_
                  refine z_iald hx hb hK hP 2 rfl (6 * wv + k) (by omega) (by omega) (by decide) dX10_wordHere_60 ?_
                  have j89 : ∀ (H : Heap) (locs : List Loc) (ls : Array Slot), zP g [[mdl q a (uI (uI x 4 (((tS f n e) : Nat) : Int)) 5 (((nEn f n e) : Nat) : Int))], [((a 6), .inl (g.2 0, 200, .inl (aI f)))], [((a 12), .inl (g.2 0, 24, .inl (aI wd)))]] H → zD A [[mdl q a (uI (uI x 4 (((tS f n e) : Nat) : Int)) 5 (((nEn f n e) : Nat) : Int))], [((a 6), .inl (g.2 0, 200, .inl (aI f)))], [((a 12), .inl (g.2 0, 24, .inl (aI wd)))]] → va_S A s.heap H locs → lv_has ls 4 [(0, .ref q), (1, vI ((wv : Nat) : Int)), (2, vI z), (3, vI ((k : Nat) : Int))] → W p l eE (zRm 0 0 0) s mM ([.ref q] : List Value).toArray below meth cC H locs (0) (0) (MQ below ((qi g (fun (_ : Unit) => (wR wd f (tS f n e) (nEn f n e))) (fun (_ : Unit) => True) (fun (_ : Unit) => [[mdl q a (uI (uI x 4 (((tS f n e) : Nat) : Int)) 5 (((nEn f n e) : Nat) : Int))], [((a 6), .inl (g.2 0, 200, .inl (aI f)))], [((a 12), .inl (g.2 0, 24, .inl (aI wd)))]])) A) ([.ref q] : List Value).toArray s 0 0 A) (F0 mM 89 ls [vI (wch f (tS f n e) (nEn f n e) k), vI (wd (6 * wv + k))]) := by
                    intro H locs ls hP hD hS hl
                    refine z_icmp_ne (tgt := 96) hx hb (by have hwd9 := hwd (6 * wv + k) (by omega); have := wds_b (6 * wv + k); have := hf ((tS f n e) + k); have := wch_s f (tS f n e) (nEn f n e) k; omega) (by have hwd9 := hwd (6 * wv + k) (by omega); have := wds_b (6 * wv + k); have := hf ((tS f n e) + k); have := wch_s f (tS f n e) (nEn f n e) k; omega) dX10_wordHere_89 (by decide) (fun cq7 => ?_) (fun cq7 => ?_)
                    · refine z_iconst hx hb dX10_wordHere_96 rfl ?_
                      refine lv_istore_n (lv' := [(2, vI 0), (0, .ref q), (1, vI ((wv : Nat) : Int)), (3, vI ((k : Nat) : Int))]) hx hb dX10_wordHere_97 rfl hl (by decide) rfl (fun ls hl => ?_)
                      refine z_iinc hx hb (((k + 1) : Nat) : Int) (lv' := [(3, vI (((k + 1) : Nat) : Int)), (2, vI 0), (0, .ref q), (1, vI ((wv : Nat) : Int))]) dX10_wordHere_98 hl (k := 3) rfl (by omega) (by decide) rfl (fun ls hl => ?_)
                      refine lv_goto (tgt := 40) hx hb dX10_wordHere_101 (by decide) ?_
                      exact ih40 (k + 1) 0 _ _ _ (by omega) (by have := wEq_s wd f (tS f n e) (nEn f n e) wv k; have := wEq_01 wd f (tS f n e) (nEn f n e) wv (k + 1); omega) (by omega) hP hD hS (lv_sub hl [2, 3, 1, 0] rfl)
                    · refine z_iconst hx hb dX10_wordHere_92 rfl ?_
                      refine lv_goto (tgt := 97) hx hb dX10_wordHere_93 (by decide) ?_
                      refine lv_istore_n (lv' := [(2, vI 1), (0, .ref q), (1, vI ((wv : Nat) : Int)), (3, vI ((k : Nat) : Int))]) hx hb dX10_wordHere_97 rfl hl (by decide) rfl (fun ls hl => ?_)
                      refine z_iinc hx hb (((k + 1) : Nat) : Int) (lv' := [(3, vI (((k + 1) : Nat) : Int)), (2, vI 1), (0, .ref q), (1, vI ((wv : Nat) : Int))]) dX10_wordHere_98 hl (k := 3) rfl (by omega) (by decide) rfl (fun ls hl => ?_)
                      refine lv_goto (tgt := 40) hx hb dX10_wordHere_101 (by decide) ?_
                      exact ih40 (k + 1) 1 _ _ _ (by omega) (by have := wEq_s wd f (tS f n e) (nEn f n e) wv k; have := wEq_01 wd f (tS f n e) (nEn f n e) wv (k + 1); omega) (by omega) hP hD hS (lv_sub hl [2, 3, 1, 0] rfl)
                  refine lv_aload_n hx hb dX10_wordHere_61 rfl (lv_at hl 0 rfl) ?_
                  refine z_get hx hb hts hin10_ hown hK hP 0 rfl rfl 15 (by decide) (hts _ (List.mem_of_getElem? (i := 2) rfl)) rfl dX10_wordHere_62 ?_
                  refine z_toI (((tS f n e) : Nat) : Int) rfl ?_
                  refine lv_iload_n hx hb dX10_wordHere_65 rfl (lv_at hl 3 rfl) ?_
                  refine z_iadd hx hb ((((tS f n e) + k) : Nat) : Int) (by omega) dX10_wordHere_66 ?_
                  refine lv_aload_n hx hb dX10_wordHere_67 rfl (lv_at hl 0 rfl) ?_
                  refine z_get hx hb hts hin10_ hown hK hP 0 rfl rfl 16 (by decide) (hts _ (List.mem_of_getElem? (i := 1) rfl)) rfl dX10_wordHere_68 ?_
                  refine z_toI (((nEn f n e) : Nat) : Int) rfl ?_
                  refine z_icmp_ge (tgt := 88) hx hb (by omega) (by omega) dX10_wordHere_71 (by decide) (fun cq8 => ?_) (fun cq8 => ?_)
                  · refine z_iconst hx hb dX10_wordHere_88 rfl ?_
                    refine z_toI (wch f (tS f n e) (nEn f n e) k) (by have := wch_s f (tS f n e) (nEn f n e) k; omega) ?_
                    exact j89 _ _ _ hP hD hS (lv_sub hl [0, 1, 2, 3] rfl)
                  · refine lv_aload_n hx hb dX10_wordHere_74 rfl (lv_at hl 0 rfl) ?_
                    refine z_get hx hb hts hin10_ hown hK hP 0 rfl rfl 9 (by decide) (hts _ (List.mem_of_getElem? (i := 4) rfl)) rfl dX10_wordHere_75 ?_
                    refine lv_aload_n hx hb dX10_wordHere_78 rfl (lv_at hl 0 rfl) ?_
                    refine z_get hx hb hts hin10_ hown hK hP 0 rfl rfl 15 (by decide) (hts _ (List.mem_of_getElem? (i := 2) rfl)) rfl dX10_wordHere_79 ?_
                    refine z_toI (((tS f n e) : Nat) : Int) rfl ?_
                    refine lv_iload_n hx hb dX10_wordHere_82 rfl (lv_at hl 3 rfl) ?_
                    refine z_iadd hx hb ((((tS f n e) + k) : Nat) : Int) (by omega) dX10_wordHere_83 ?_
                    refine z_iald hx hb hK hP 1 rfl ((tS f n e) + k) (by omega) (by omega) (by decide) dX10_wordHere_84 ?_
                    have hb_9 := hf ((tS f n e) + k)
                    refine lv_goto (tgt := 89) hx hb dX10_wordHere_85 (by decide) ?_
                    refine z_toI (wch f (tS f n e) (nEn f n e) k) (by have := wch_s f (tS f n e) (nEn f n e) k; omega) ?_
                    exact j89 _ _ _ hP hD hS (lv_sub hl [0, 1, 2, 3] rfl)
          exact loop40 _ 0 0 _ _ _ (by omega) (by have := wEq_z wd f (tS f n e) (nEn f n e) wv; have := wEq_01 wd f (tS f n e) (nEn f n e) wv 0; omega) (Nat.lt_succ_self _) hP hD hS (lv_sub hl [2, 3, 1, 0] rfl)
        · refine lv_aload_n hx hb dX10_wordHere_18 rfl (lv_at hl 0 rfl) ?_
          refine z_get hx hb hts hin10_ hown hK hP 0 rfl rfl 16 (by decide) (hts _ (List.mem_of_getElem? (i := 1) rfl)) rfl dX10_wordHere_19 ?_
          refine z_toI (((nEn f n e) : Nat) : Int) rfl ?_
          refine lv_aload_n hx hb dX10_wordHere_22 rfl (lv_at hl 0 rfl) ?_
          refine z_get hx hb hts hin10_ hown hK hP 0 rfl rfl 15 (by decide) (hts _ (List.mem_of_getElem? (i := 2) rfl)) rfl dX10_wordHere_23 ?_
          refine z_toI (((tS f n e) : Nat) : Int) rfl ?_
          refine z_isub hx hb ((((nEn f n e) : Nat) : Int) - (((tS f n e) : Nat) : Int)) rfl dX10_wordHere_26 ?_
          refine z_bipush hx hb 7 dX10_wordHere_27 rfl ?_
          refine z_icmp_ge (tgt := 36) hx hb (by omega) (by decide) dX10_wordHere_29 (by decide) (fun cq10 => ?_) (fun cq10 => ?_)
          · refine z_iconst hx hb dX10_wordHere_36 rfl ?_
            refine lv_istore_n (lv' := [(2, vI 0), (0, .ref q), (1, vI ((wv : Nat) : Int))]) hx hb dX10_wordHere_37 rfl hl (by decide) rfl (fun ls hl => ?_)
            refine z_iconst hx hb dX10_wordHere_38 rfl ?_
            refine lv_istore_n (lv' := [(3, vI 0), (2, vI 0), (0, .ref q), (1, vI ((wv : Nat) : Int))]) hx hb dX10_wordHere_39 rfl hl (by decide) rfl (fun ls hl => ?_)
            have loop40 : ∀ (N : Nat) (k : Nat) (z : Int) (H : Heap) (locs : List Loc) (ls : Array Slot), k ≤ 6 → z = wEq wd f (tS f n e) (nEn f n e) wv k → (6 - k) < N → zP g [[mdl q a (uI (uI x 4 (((tS f n e) : Nat) : Int)) 5 (((nEn f n e) : Nat) : Int))], [((a 6), .inl (g.2 0, 200, .inl (aI f)))], [((a 12), .inl (g.2 0, 24, .inl (aI wd)))]] H → zD A [[mdl q a (uI (uI x 4 (((tS f n e) : Nat) : Int)) 5 (((nEn f n e) : Nat) : Int))], [((a 6), .inl (g.2 0, 200, .inl (aI f)))], [((a 12), .inl (g.2 0, 24, .inl (aI wd)))]] → va_S A s.heap H locs → lv_has ls 4 [(0, .ref q), (1, vI ((wv : Nat) : Int)), (2, vI z), (3, vI ((k : Nat) : Int))] → W p l eE (zRm 0 0 0) s mM ([.ref q] : List Value).toArray below meth cC H locs (0) (0) (MQ below ((qi g (fun (_ : Unit) => (wR wd f (tS f n e) (nEn f n e))) (fun (_ : Unit) => True) (fun (_ : Unit) => [[mdl q a (uI (uI x 4 (((tS f n e) : Nat) : Int)) 5 (((nEn f n e) : Nat) : Int))], [((a 6), .inl (g.2 0, 200, .inl (aI f)))], [((a 12), .inl (g.2 0, 24, .inl (aI wd)))]])) A) ([.ref q] : List Value).toArray s 0 0 A) (F0 mM 40 ls []) := by
              intro N
              induction N with
              | zero => intro k z H locs ls hk6 hz hm; exact absurd hm (Nat.not_lt_zero _)
              | succ N ih40 =>
                intro k z H locs ls hk6 hz hm hP hD hS hl
                have hz0 := wEq_01 wd f (tS f n e) (nEn f n e) wv k
                refine lv_iload_n hx hb dX10_wordHere_40 rfl (lv_at hl 3 rfl) ?_
                refine z_bipush hx hb 6 dX10_wordHere_41 rfl ?_
                refine z_icmp_ge (tgt := 104) hx hb (by omega) (by decide) dX10_wordHere_43 (by decide) (fun cq11 => ?_) (fun cq11 => ?_)
                · have hq6 := wEq_6 (wd := wd) (f := f) (s := (tS f n e)) (t := (nEn f n e)) (w := wv) hk6
                  have hq7 : k = 6 → z = wEq wd f (tS f n e) (nEn f n e) wv 6 := fun q => by rw [hz, q]
                  refine lv_iload_n hx hb dX10_wordHere_104 rfl (lv_at hl 2 rfl) ?_
                  refine z_if_eq (tgt := 110) hx hb (by omega) dX10_wordHere_105 (by decide) (fun cq12 => ?_) (fun cq12 => ?_)
                  · refine z_iinc hx hb (((wv + 1) : Nat) : Int) (lv' := [(1, vI (((wv + 1) : Nat) : Int)), (0, .ref q), (2, vI z), (3, vI ((k : Nat) : Int))]) dX10_wordHere_110 hl (k := 1) rfl (by omega) (by decide) rfl (fun ls hl => ?_)
                    refine lv_goto (tgt := 2) hx hb dX10_wordHere_113 (by decide) ?_
                    exact ih2 (wv + 1) _ _ _ (by omega) (fun j hj => by rcases (show j < wv ∨ j = wv by omega) with h | h; exact hwn j h; rw [h]; omega) (by omega) hP hD hS (lv_sub hl [1, 0] rfl)
                  · refine lv_iload_n hx hb dX10_wordHere_108 rfl (lv_at hl 1 rfl) ?_
                    exact z_reti () [0, 1, 2] hx hb hr rfl hlocks hK hP hD hS (wR_at hwn (by omega) (by omega)) trivial rfl rfl (rfl) (Nat.le_of_ble_eq_true rfl) (Nat.le_of_ble_eq_true rfl) dX10_wordHere_109
                · refine lv_iload_n hx hb dX10_wordHere_46 rfl (lv_at hl 2 rfl) ?_
                  refine z_if_eq (tgt := 104) hx hb (by omega) dX10_wordHere_47 (by decide) (fun cq13 => ?_) (fun cq13 => ?_)
                  · have hq6 := wEq_6 (wd := wd) (f := f) (s := (tS f n e)) (t := (nEn f n e)) (w := wv) hk6
                    have hq7 : k = 6 → z = wEq wd f (tS f n e) (nEn f n e) wv 6 := fun q => by rw [hz, q]
                    refine lv_iload_n hx hb dX10_wordHere_104 rfl (lv_at hl 2 rfl) ?_
                    refine z_if_eq (tgt := 110) hx hb (by omega) dX10_wordHere_105 (by decide) (fun cq14 => ?_) (fun cq14 => ?_)
                    · refine z_iinc hx hb (((wv + 1) : Nat) : Int) (lv' := [(1, vI (((wv + 1) : Nat) : Int)), (0, .ref q), (2, vI z), (3, vI ((k : Nat) : Int))]) dX10_wordHere_110 hl (k := 1) rfl (by omega) (by decide) rfl (fun ls hl => ?_)
                      refine lv_goto (tgt := 2) hx hb dX10_wordHere_113 (by decide) ?_
                      exact ih2 (wv + 1) _ _ _ (by omega) (fun j hj => by rcases (show j < wv ∨ j = wv by omega) with h | h; exact hwn j h; rw [h]; omega) (by omega) hP hD hS (lv_sub hl [1, 0] rfl)
                    · refine lv_iload_n hx hb dX10_wordHere_108 rfl (lv_at hl 1 rfl) ?_
                      exact z_reti () [0, 1, 2] hx hb hr rfl hlocks hK hP hD hS (wR_at hwn (by omega) (by omega)) trivial rfl rfl (rfl) (Nat.le_of_ble_eq_true rfl) (Nat.le_of_ble_eq_true rfl) dX10_wordHere_109
                  · refine lv_aload_n hx hb dX10_wordHere_50 rfl (lv_at hl 0 rfl) ?_
                    refine z_get hx hb hts hin10_ hown hK hP 0 rfl rfl 21 (by decide) (hts _ (List.mem_of_getElem? (i := 3) rfl)) rfl dX10_wordHere_51 ?_
                    refine z_bipush hx hb 6 dX10_wordHere_54 rfl ?_
                    refine lv_iload_n hx hb dX10_wordHere_56 rfl (lv_at hl 1 rfl) ?_
                    refine z_imul hx hb (((6 * wv) : Nat) : Int) (by omega) dX10_wordHere_57 ?_
                    refine lv_iload_n hx hb dX10_wordHere_58 rfl (lv_at hl 3 rfl) ?_
                    refine z_iadd hx hb ((((6 * wv) + k) : Nat) : Int) (by omega) dX10_wordHere_59 ?_
                    refine z_iald hx hb hK hP 2 rfl (6 * wv + k) (by omega) (by omega) (by decide) dX10_wordHere_60 ?_
                    have j89 : ∀ (H : Heap) (locs : List Loc) (ls : Array Slot), zP g [[mdl q a (uI (uI x 4 (((tS f n e) : Nat) : Int)) 5 (((nEn f n e) : Nat) : Int))], [((a 6), .inl (g.2 0, 200, .inl (aI f)))], [((a 12), .inl (g.2 0, 24, .inl (aI wd)))]] H → zD A [[mdl q a (uI (uI x 4 (((tS f n e) : Nat) : Int)) 5 (((nEn f n e) : Nat) : Int))], [((a 6), .inl (g.2 0, 200, .inl (aI f)))], [((a 12), .inl (g.2 0, 24, .inl (aI wd)))]] → va_S A s.heap H locs → lv_has ls 4 [(0, .ref q), (1, vI ((wv : Nat) : Int)), (2, vI z), (3, vI ((k : Nat) : Int))] → W p l eE (zRm 0 0 0) s mM ([.ref q] : List Value).toArray below meth cC H locs (0) (0) (MQ below ((qi g (fun (_ : Unit) => (wR wd f (tS f n e) (nEn f n e))) (fun (_ : Unit) => True) (fun (_ : Unit) => [[mdl q a (uI (uI x 4 (((tS f n e) : Nat) : Int)) 5 (((nEn f n e) : Nat) : Int))], [((a 6), .inl (g.2 0, 200, .inl (aI f)))], [((a 12), .inl (g.2 0, 24, .inl (aI wd)))]])) A) ([.ref q] : List Value).toArray s 0 0 A) (F0 mM 89 ls [vI (wch f (tS f n e) (nEn f n e) k), vI (wd (6 * wv + k))]) := by
                      intro H locs ls hP hD hS hl
                      refine z_icmp_ne (tgt := 96) hx hb (by have hwd9 := hwd (6 * wv + k) (by omega); have := wds_b (6 * wv + k); have := hf ((tS f n e) + k); have := wch_s f (tS f n e) (nEn f n e) k; omega) (by have hwd9 := hwd (6 * wv + k) (by omega); have := wds_b (6 * wv + k); have := hf ((tS f n e) + k); have := wch_s f (tS f n e) (nEn f n e) k; omega) dX10_wordHere_89 (by decide) (fun cq15 => ?_) (fun cq15 => ?_)
                      · refine z_iconst hx hb dX10_wordHere_96 rfl ?_
                        refine lv_istore_n (lv' := [(2, vI 0), (0, .ref q), (1, vI ((wv : Nat) : Int)), (3, vI ((k : Nat) : Int))]) hx hb dX10_wordHere_97 rfl hl (by decide) rfl (fun ls hl => ?_)
                        refine z_iinc hx hb (((k + 1) : Nat) : Int) (lv' := [(3, vI (((k + 1) : Nat) : Int)), (2, vI 0), (0, .ref q), (1, vI ((wv : Nat) : Int))]) dX10_wordHere_98 hl (k := 3) rfl (by omega) (by decide) rfl (fun ls hl => ?_)
                        refine lv_goto (tgt := 40) hx hb dX10_wordHere_101 (by decide) ?_
                        exact ih40 (k + 1) 0 _ _ _ (by omega) (by have := wEq_s wd f (tS f n e) (nEn f n e) wv k; have := wEq_01 wd f (tS f n e) (nEn f n e) wv (k + 1); omega) (by omega) hP hD hS (lv_sub hl [2, 3, 1, 0] rfl)
                      · refine z_iconst hx hb dX10_wordHere_92 rfl ?_
                        refine lv_goto (tgt := 97) hx hb dX10_wordHere_93 (by decide) ?_
                        refine lv_istore_n (lv' := [(2, vI 1), (0, .ref q), (1, vI ((wv : Nat) : Int)), (3, vI ((k : Nat) : Int))]) hx hb dX10_wordHere_97 rfl hl (by decide) rfl (fun ls hl => ?_)
                        refine z_iinc hx hb (((k + 1) : Nat) : Int) (lv' := [(3, vI (((k + 1) : Nat) : Int)), (2, vI 1), (0, .ref q), (1, vI ((wv : Nat) : Int))]) dX10_wordHere_98 hl (k := 3) rfl (by omega) (by decide) rfl (fun ls hl => ?_)
                        refine lv_goto (tgt := 40) hx hb dX10_wordHere_101 (by decide) ?_
                        exact ih40 (k + 1) 1 _ _ _ (by omega) (by have := wEq_s wd f (tS f n e) (nEn f n e) wv k; have := wEq_01 wd f (tS f n e) (nEn f n e) wv (k + 1); omega) (by omega) hP hD hS (lv_sub hl [2, 3, 1, 0] rfl)
                    refine lv_aload_n hx hb dX10_wordHere_61 rfl (lv_at hl 0 rfl) ?_
                    refine z_get hx hb hts hin10_ hown hK hP 0 rfl rfl 15 (by decide) (hts _ (List.mem_of_getElem? (i := 2) rfl)) rfl dX10_wordHere_62 ?_
                    refine z_toI (((tS f n e) : Nat) : Int) rfl ?_
                    refine lv_iload_n hx hb dX10_wordHere_65 rfl (lv_at hl 3 rfl) ?_
                    refine z_iadd hx hb ((((tS f n e) + k) : Nat) : Int) (by omega) dX10_wordHere_66 ?_
                    refine lv_aload_n hx hb dX10_wordHere_67 rfl (lv_at hl 0 rfl) ?_
                    refine z_get hx hb hts hin10_ hown hK hP 0 rfl rfl 16 (by decide) (hts _ (List.mem_of_getElem? (i := 1) rfl)) rfl dX10_wordHere_68 ?_
                    refine z_toI (((nEn f n e) : Nat) : Int) rfl ?_
                    refine z_icmp_ge (tgt := 88) hx hb (by omega) (by omega) dX10_wordHere_71 (by decide) (fun cq16 => ?_) (fun cq16 => ?_)
                    · refine z_iconst hx hb dX10_wordHere_88 rfl ?_
                      refine z_toI (wch f (tS f n e) (nEn f n e) k) (by have := wch_s f (tS f n e) (nEn f n e) k; omega) ?_
                      exact j89 _ _ _ hP hD hS (lv_sub hl [0, 1, 2, 3] rfl)
                    · refine lv_aload_n hx hb dX10_wordHere_74 rfl (lv_at hl 0 rfl) ?_
                      refine z_get hx hb hts hin10_ hown hK hP 0 rfl rfl 9 (by decide) (hts _ (List.mem_of_getElem? (i := 4) rfl)) rfl dX10_wordHere_75 ?_
                      refine lv_aload_n hx hb dX10_wordHere_78 rfl (lv_at hl 0 rfl) ?_
                      refine z_get hx hb hts hin10_ hown hK hP 0 rfl rfl 15 (by decide) (hts _ (List.mem_of_getElem? (i := 2) rfl)) rfl dX10_wordHere_79 ?_
                      refine z_toI (((tS f n e) : Nat) : Int) rfl ?_
                      refine lv_iload_n hx hb dX10_wordHere_82 rfl (lv_at hl 3 rfl) ?_
                      refine z_iadd hx hb ((((tS f n e) + k) : Nat) : Int) (by omega) dX10_wordHere_83 ?_
                      refine z_iald hx hb hK hP 1 rfl ((tS f n e) + k) (by omega) (by omega) (by decide) dX10_wordHere_84 ?_
                      have hb_17 := hf ((tS f n e) + k)
                      refine lv_goto (tgt := 89) hx hb dX10_wordHere_85 (by decide) ?_
                      refine z_toI (wch f (tS f n e) (nEn f n e) k) (by have := wch_s f (tS f n e) (nEn f n e) k; omega) ?_
                      exact j89 _ _ _ hP hD hS (lv_sub hl [0, 1, 2, 3] rfl)
            exact loop40 _ 0 0 _ _ _ (by omega) (by have := wEq_z wd f (tS f n e) (nEn f n e) wv; have := wEq_01 wd f (tS f n e) (nEn f n e) wv 0; omega) (Nat.lt_succ_self _) hP hD hS (lv_sub hl [2, 3, 1, 0] rfl)
          · refine z_iconst hx hb dX10_wordHere_32 rfl ?_
            refine lv_goto (tgt := 37) hx hb dX10_wordHere_33 (by decide) ?_
            refine lv_istore_n (lv' := [(2, vI 1), (0, .ref q), (1, vI ((wv : Nat) : Int))]) hx hb dX10_wordHere_37 rfl hl (by decide) rfl (fun ls hl => ?_)
            refine z_iconst hx hb dX10_wordHere_38 rfl ?_
            refine lv_istore_n (lv' := [(3, vI 0), (2, vI 1), (0, .ref q), (1, vI ((wv : Nat) : Int))]) hx hb dX10_wordHere_39 rfl hl (by decide) rfl (fun ls hl => ?_)
            have loop40 : ∀ (N : Nat) (k : Nat) (z : Int) (H : Heap) (locs : List Loc) (ls : Array Slot), k ≤ 6 → z = wEq wd f (tS f n e) (nEn f n e) wv k → (6 - k) < N → zP g [[mdl q a (uI (uI x 4 (((tS f n e) : Nat) : Int)) 5 (((nEn f n e) : Nat) : Int))], [((a 6), .inl (g.2 0, 200, .inl (aI f)))], [((a 12), .inl (g.2 0, 24, .inl (aI wd)))]] H → zD A [[mdl q a (uI (uI x 4 (((tS f n e) : Nat) : Int)) 5 (((nEn f n e) : Nat) : Int))], [((a 6), .inl (g.2 0, 200, .inl (aI f)))], [((a 12), .inl (g.2 0, 24, .inl (aI wd)))]] → va_S A s.heap H locs → lv_has ls 4 [(0, .ref q), (1, vI ((wv : Nat) : Int)), (2, vI z), (3, vI ((k : Nat) : Int))] → W p l eE (zRm 0 0 0) s mM ([.ref q] : List Value).toArray below meth cC H locs (0) (0) (MQ below ((qi g (fun (_ : Unit) => (wR wd f (tS f n e) (nEn f n e))) (fun (_ : Unit) => True) (fun (_ : Unit) => [[mdl q a (uI (uI x 4 (((tS f n e) : Nat) : Int)) 5 (((nEn f n e) : Nat) : Int))], [((a 6), .inl (g.2 0, 200, .inl (aI f)))], [((a 12), .inl (g.2 0, 24, .inl (aI wd)))]])) A) ([.ref q] : List Value).toArray s 0 0 A) (F0 mM 40 ls []) := by
              intro N
              induction N with
              | zero => intro k z H locs ls hk6 hz hm; exact absurd hm (Nat.not_lt_zero _)
              | succ N ih40 =>
                intro k z H locs ls hk6 hz hm hP hD hS hl
                have hz0 := wEq_01 wd f (tS f n e) (nEn f n e) wv k
                refine lv_iload_n hx hb dX10_wordHere_40 rfl (lv_at hl 3 rfl) ?_
                refine z_bipush hx hb 6 dX10_wordHere_41 rfl ?_
                refine z_icmp_ge (tgt := 104) hx hb (by omega) (by decide) dX10_wordHere_43 (by decide) (fun cq18 => ?_) (fun cq18 => ?_)
                · have hq6 := wEq_6 (wd := wd) (f := f) (s := (tS f n e)) (t := (nEn f n e)) (w := wv) hk6
                  have hq7 : k = 6 → z = wEq wd f (tS f n e) (nEn f n e) wv 6 := fun q => by rw [hz, q]
                  refine lv_iload_n hx hb dX10_wordHere_104 rfl (lv_at hl 2 rfl) ?_
                  refine z_if_eq (tgt := 110) hx hb (by omega) dX10_wordHere_105 (by decide) (fun cq19 => ?_) (fun cq19 => ?_)
                  · refine z_iinc hx hb (((wv + 1) : Nat) : Int) (lv' := [(1, vI (((wv + 1) : Nat) : Int)), (0, .ref q), (2, vI z), (3, vI ((k : Nat) : Int))]) dX10_wordHere_110 hl (k := 1) rfl (by omega) (by decide) rfl (fun ls hl => ?_)
                    refine lv_goto (tgt := 2) hx hb dX10_wordHere_113 (by decide) ?_
                    exact ih2 (wv + 1) _ _ _ (by omega) (fun j hj => by rcases (show j < wv ∨ j = wv by omega) with h | h; exact hwn j h; rw [h]; omega) (by omega) hP hD hS (lv_sub hl [1, 0] rfl)
                  · refine lv_iload_n hx hb dX10_wordHere_108 rfl (lv_at hl 1 rfl) ?_
                    exact z_reti () [0, 1, 2] hx hb hr rfl hlocks hK hP hD hS (wR_at hwn (by omega) (by omega)) trivial rfl rfl (rfl) (Nat.le_of_ble_eq_true rfl) (Nat.le_of_ble_eq_true rfl) dX10_wordHere_109
                · refine lv_iload_n hx hb dX10_wordHere_46 rfl (lv_at hl 2 rfl) ?_
                  refine z_if_eq (tgt := 104) hx hb (by omega) dX10_wordHere_47 (by decide) (fun cq20 => ?_) (fun cq20 => ?_)
                  · have hq6 := wEq_6 (wd := wd) (f := f) (s := (tS f n e)) (t := (nEn f n e)) (w := wv) hk6
                    have hq7 : k = 6 → z = wEq wd f (tS f n e) (nEn f n e) wv 6 := fun q => by rw [hz, q]
                    refine lv_iload_n hx hb dX10_wordHere_104 rfl (lv_at hl 2 rfl) ?_
                    refine z_if_eq (tgt := 110) hx hb (by omega) dX10_wordHere_105 (by decide) (fun cq21 => ?_) (fun cq21 => ?_)
                    · refine z_iinc hx hb (((wv + 1) : Nat) : Int) (lv' := [(1, vI (((wv + 1) : Nat) : Int)), (0, .ref q), (2, vI z), (3, vI ((k : Nat) : Int))]) dX10_wordHere_110 hl (k := 1) rfl (by omega) (by decide) rfl (fun ls hl => ?_)
                      refine lv_goto (tgt := 2) hx hb dX10_wordHere_113 (by decide) ?_
                      exact ih2 (wv + 1) _ _ _ (by omega) (fun j hj => by rcases (show j < wv ∨ j = wv by omega) with h | h; exact hwn j h; rw [h]; omega) (by omega) hP hD hS (lv_sub hl [1, 0] rfl)
                    · refine lv_iload_n hx hb dX10_wordHere_108 rfl (lv_at hl 1 rfl) ?_
                      exact z_reti () [0, 1, 2] hx hb hr rfl hlocks hK hP hD hS (wR_at hwn (by omega) (by omega)) trivial rfl rfl (rfl) (Nat.le_of_ble_eq_true rfl) (Nat.le_of_ble_eq_true rfl) dX10_wordHere_109
                  · refine lv_aload_n hx hb dX10_wordHere_50 rfl (lv_at hl 0 rfl) ?_
                    refine z_get hx hb hts hin10_ hown hK hP 0 rfl rfl 21 (by decide) (hts _ (List.mem_of_getElem? (i := 3) rfl)) rfl dX10_wordHere_51 ?_
                    refine z_bipush hx hb 6 dX10_wordHere_54 rfl ?_
                    refine lv_iload_n hx hb dX10_wordHere_56 rfl (lv_at hl 1 rfl) ?_
                    refine z_imul hx hb (((6 * wv) : Nat) : Int) (by omega) dX10_wordHere_57 ?_
                    refine lv_iload_n hx hb dX10_wordHere_58 rfl (lv_at hl 3 rfl) ?_
                    refine z_iadd hx hb ((((6 * wv) + k) : Nat) : Int) (by omega) dX10_wordHere_59 ?_
                    refine z_iald hx hb hK hP 2 rfl (6 * wv + k) (by omega) (by omega) (by decide) dX10_wordHere_60 ?_
                    have j89 : ∀ (H : Heap) (locs : List Loc) (ls : Array Slot), zP g [[mdl q a (uI (uI x 4 (((tS f n e) : Nat) : Int)) 5 (((nEn f n e) : Nat) : Int))], [((a 6), .inl (g.2 0, 200, .inl (aI f)))], [((a 12), .inl (g.2 0, 24, .inl (aI wd)))]] H → zD A [[mdl q a (uI (uI x 4 (((tS f n e) : Nat) : Int)) 5 (((nEn f n e) : Nat) : Int))], [((a 6), .inl (g.2 0, 200, .inl (aI f)))], [((a 12), .inl (g.2 0, 24, .inl (aI wd)))]] → va_S A s.heap H locs → lv_has ls 4 [(0, .ref q), (1, vI ((wv : Nat) : Int)), (2, vI z), (3, vI ((k : Nat) : Int))] → W p l eE (zRm 0 0 0) s mM ([.ref q] : List Value).toArray below meth cC H locs (0) (0) (MQ below ((qi g (fun (_ : Unit) => (wR wd f (tS f n e) (nEn f n e))) (fun (_ : Unit) => True) (fun (_ : Unit) => [[mdl q a (uI (uI x 4 (((tS f n e) : Nat) : Int)) 5 (((nEn f n e) : Nat) : Int))], [((a 6), .inl (g.2 0, 200, .inl (aI f)))], [((a 12), .inl (g.2 0, 24, .inl (aI wd)))]])) A) ([.ref q] : List Value).toArray s 0 0 A) (F0 mM 89 ls [vI (wch f (tS f n e) (nEn f n e) k), vI (wd (6 * wv + k))]) := by
                      intro H locs ls hP hD hS hl
                      refine z_icmp_ne (tgt := 96) hx hb (by have hwd9 := hwd (6 * wv + k) (by omega); have := wds_b (6 * wv + k); have := hf ((tS f n e) + k); have := wch_s f (tS f n e) (nEn f n e) k; omega) (by have hwd9 := hwd (6 * wv + k) (by omega); have := wds_b (6 * wv + k); have := hf ((tS f n e) + k); have := wch_s f (tS f n e) (nEn f n e) k; omega) dX10_wordHere_89 (by decide) (fun cq22 => ?_) (fun cq22 => ?_)
                      · refine z_iconst hx hb dX10_wordHere_96 rfl ?_
                        refine lv_istore_n (lv' := [(2, vI 0), (0, .ref q), (1, vI ((wv : Nat) : Int)), (3, vI ((k : Nat) : Int))]) hx hb dX10_wordHere_97 rfl hl (by decide) rfl (fun ls hl => ?_)
                        refine z_iinc hx hb (((k + 1) : Nat) : Int) (lv' := [(3, vI (((k + 1) : Nat) : Int)), (2, vI 0), (0, .ref q), (1, vI ((wv : Nat) : Int))]) dX10_wordHere_98 hl (k := 3) rfl (by omega) (by decide) rfl (fun ls hl => ?_)
                        refine lv_goto (tgt := 40) hx hb dX10_wordHere_101 (by decide) ?_
                        exact ih40 (k + 1) 0 _ _ _ (by omega) (by have := wEq_s wd f (tS f n e) (nEn f n e) wv k; have := wEq_01 wd f (tS f n e) (nEn f n e) wv (k + 1); omega) (by omega) hP hD hS (lv_sub hl [2, 3, 1, 0] rfl)
                      · refine z_iconst hx hb dX10_wordHere_92 rfl ?_
                        refine lv_goto (tgt := 97) hx hb dX10_wordHere_93 (by decide) ?_
                        refine lv_istore_n (lv' := [(2, vI 1), (0, .ref q), (1, vI ((wv : Nat) : Int)), (3, vI ((k : Nat) : Int))]) hx hb dX10_wordHere_97 rfl hl (by decide) rfl (fun ls hl => ?_)
                        refine z_iinc hx hb (((k + 1) : Nat) : Int) (lv' := [(3, vI (((k + 1) : Nat) : Int)), (2, vI 1), (0, .ref q), (1, vI ((wv : Nat) : Int))]) dX10_wordHere_98 hl (k := 3) rfl (by omega) (by decide) rfl (fun ls hl => ?_)
                        refine lv_goto (tgt := 40) hx hb dX10_wordHere_101 (by decide) ?_
                        exact ih40 (k + 1) 1 _ _ _ (by omega) (by have := wEq_s wd f (tS f n e) (nEn f n e) wv k; have := wEq_01 wd f (tS f n e) (nEn f n e) wv (k + 1); omega) (by omega) hP hD hS (lv_sub hl [2, 3, 1, 0] rfl)
                    refine lv_aload_n hx hb dX10_wordHere_61 rfl (lv_at hl 0 rfl) ?_
                    refine z_get hx hb hts hin10_ hown hK hP 0 rfl rfl 15 (by decide) (hts _ (List.mem_of_getElem? (i := 2) rfl)) rfl dX10_wordHere_62 ?_
                    refine z_toI (((tS f n e) : Nat) : Int) rfl ?_
                    refine lv_iload_n hx hb dX10_wordHere_65 rfl (lv_at hl 3 rfl) ?_
                    refine z_iadd hx hb ((((tS f n e) + k) : Nat) : Int) (by omega) dX10_wordHere_66 ?_
                    refine lv_aload_n hx hb dX10_wordHere_67 rfl (lv_at hl 0 rfl) ?_
                    refine z_get hx hb hts hin10_ hown hK hP 0 rfl rfl 16 (by decide) (hts _ (List.mem_of_getElem? (i := 1) rfl)) rfl dX10_wordHere_68 ?_
                    refine z_toI (((nEn f n e) : Nat) : Int) rfl ?_
                    refine z_icmp_ge (tgt := 88) hx hb (by omega) (by omega) dX10_wordHere_71 (by decide) (fun cq23 => ?_) (fun cq23 => ?_)
                    · refine z_iconst hx hb dX10_wordHere_88 rfl ?_
                      refine z_toI (wch f (tS f n e) (nEn f n e) k) (by have := wch_s f (tS f n e) (nEn f n e) k; omega) ?_
                      exact j89 _ _ _ hP hD hS (lv_sub hl [0, 1, 2, 3] rfl)
                    · refine lv_aload_n hx hb dX10_wordHere_74 rfl (lv_at hl 0 rfl) ?_
                      refine z_get hx hb hts hin10_ hown hK hP 0 rfl rfl 9 (by decide) (hts _ (List.mem_of_getElem? (i := 4) rfl)) rfl dX10_wordHere_75 ?_
                      refine lv_aload_n hx hb dX10_wordHere_78 rfl (lv_at hl 0 rfl) ?_
                      refine z_get hx hb hts hin10_ hown hK hP 0 rfl rfl 15 (by decide) (hts _ (List.mem_of_getElem? (i := 2) rfl)) rfl dX10_wordHere_79 ?_
                      refine z_toI (((tS f n e) : Nat) : Int) rfl ?_
                      refine lv_iload_n hx hb dX10_wordHere_82 rfl (lv_at hl 3 rfl) ?_
                      refine z_iadd hx hb ((((tS f n e) + k) : Nat) : Int) (by omega) dX10_wordHere_83 ?_
                      refine z_iald hx hb hK hP 1 rfl ((tS f n e) + k) (by omega) (by omega) (by decide) dX10_wordHere_84 ?_
                      have hb_24 := hf ((tS f n e) + k)
                      refine lv_goto (tgt := 89) hx hb dX10_wordHere_85 (by decide) ?_
                      refine z_toI (wch f (tS f n e) (nEn f n e) k) (by have := wch_s f (tS f n e) (nEn f n e) k; omega) ?_
                      exact j89 _ _ _ hP hD hS (lv_sub hl [0, 1, 2, 3] rfl)
            exact loop40 _ 0 1 _ _ _ (by omega) (by have := wEq_z wd f (tS f n e) (nEn f n e) wv; have := wEq_01 wd f (tS f n e) (nEn f n e) wv 0; omega) (Nat.lt_succ_self _) hP hD hS (lv_sub hl [2, 3, 1, 0] rfl)
  exact loop2 _ 0 _ _ _ (by omega) (fun j hj => absurd hj (Nat.not_lt_zero j)) (Nat.lt_succ_self _) hP hD hS (lv_sub hl [1, 0] rfl)

set_option maxHeartbeats 4000000 in
set_option maxRecDepth 100000 in
theorem c_X10_number (l : Launch) (g : zG) (q : Nat) (a : Nat → Nat) (x : Nat → Int) (f : Nat → Int) (n : Nat) (e : Nat) (m : Nat → Int) (k : Nat) (lo : Int) (hi : Int) (hx3 : x 3 = (n : Int)) (hn : n ≤ 200) (he : e ≤ n) (hf : ∀ i, 0 ≤ f i ∧ f i ≤ 255) (hk : k < 4) (hlo : -1000 ≤ lo ∧ lo ≤ 1000) (hhi : -1000 ≤ hi ∧ hi ≤ 1000) : zMet l g yX10_number wsX10_number 3 0 0 [.ref q, vI ((k : Nat) : Int), vI lo, vI hi] zX0 [[mdl q a (uI (uI x 4 (((tS f n e) : Nat) : Int)) 5 (((nEn f n e) : Nat) : Int))], [((a 6), .inl (g.2 0, 200, .inl (aI f)))], [((a 11), .inl (g.2 0, 4, .inl (aI m)))]] (qi g (fun (u_ : Nat × (Nat → Int)) => (nOk f n e lo hi)) (fun (u_ : Nat × (Nat → Int)) => ((nOk f n e lo hi = 1 → u_.1 = nEn f n e ∧ u_.2 = uI m k (nVl f n e)) ∧ (¬ nOk f n e lo hi = 1 → u_.1 = e))) (fun (u_ : Nat × (Nat → Int)) => [[mdl q a (uI (uI x 4 (((tS f n u_.1) : Nat) : Int)) 5 (((nEn f n u_.1) : Nat) : Int))], [((a 6), .inl (g.2 0, 200, .inl (aI f)))], [((a 11), .inl (g.2 0, 4, .inl (aI u_.2)))]])) := by
  have hes := nEn_s f he
  have hEn : nEn f n e = (tE f n (tS f n e)) := rfl
  have hO := nOk_s f n e lo hi
  have hK0 := kdA_s f n (tS f n e)
  have hO0 := kdO_s (f (tS f n e))
  have htk := tok_s f he
  refine z_ent (cc := cX10_number) (maxL := 6) (ret := (some .boolean)) (by decide) rfl (Nat.le_of_ble_eq_true rfl) ?_
  intro p eE s mM below meth cC A ls hx hb hr hml hown hts hlocks hin0 hA hK hP hD hS hXX hl
  have hown : s.vm.findClass RX10 = some mM.cls := hown
  have hin10_ : ∀ w ∈ wsX100, w ∈ wsX10_number := zw_in [24, 25, 26, 27, 28, 29, 30, 31, 32, 33, 34, 35, 36, 37, 38, 39, 40, 41, 42, 43, 44, 45, 46, 47, 48, 49] rfl
  have hl : lv_has ls 6 [(0, .ref q), (1, vI ((k : Nat) : Int)), (2, vI lo), (3, vI hi)] := hl
  refine lv_aload_n hx hb dX10_number_0 rfl (lv_at hl 0 rfl) ?_
  refine z_get hx hb hts hin10_ hown hK hP 0 rfl rfl 15 (by decide) (hts _ (List.mem_of_getElem? (i := 1) rfl)) rfl dX10_number_1 ?_
  refine z_toI (((tS f n e) : Nat) : Int) rfl ?_
  refine lv_aload_n hx hb dX10_number_4 rfl (lv_at hl 0 rfl) ?_
  refine z_get hx hb hts hin10_ hown hK hP 0 rfl rfl 10 (by decide) (hts _ (List.mem_of_getElem? (i := 2) rfl)) rfl dX10_number_5 ?_
  refine z_toI (x 3) rfl ?_
  refine z_icmp_eq (tgt := 39) hx hb (by omega) (by omega) dX10_number_8 (by decide) (fun cq1 => ?_) (fun cq1 => ?_)
  · refine z_iconst hx hb dX10_number_39 rfl ?_
    exact z_reti (e, m) [0, 1, 2] hx hb hr (nar_z (by first | decide | omega)) hlocks hK hP hD hS (by omega) ⟨fun h9 => False.elim (by omega), fun _ => rfl⟩ rfl rfl (rfl) (Nat.le_of_ble_eq_true rfl) (Nat.le_of_ble_eq_true rfl) dX10_number_40
  · refine lv_aload_n hx hb dX10_number_11 rfl (lv_at hl 0 rfl) ?_
    refine z_get hx hb hts hin10_ hown hK hP 0 rfl rfl 9 (by decide) (hts _ (List.mem_of_getElem? (i := 3) rfl)) rfl dX10_number_12 ?_
    refine lv_aload_n hx hb dX10_number_15 rfl (lv_at hl 0 rfl) ?_
    refine z_get hx hb hts hin10_ hown hK hP 0 rfl rfl 15 (by decide) (hts _ (List.mem_of_getElem? (i := 1) rfl)) rfl dX10_number_16 ?_
    refine z_toI (((tS f n e) : Nat) : Int) rfl ?_
    refine z_iald hx hb hK hP 1 rfl (tS f n e) (by omega) (by omega) (by decide) dX10_number_19 ?_
    have hb_2 := hf (tS f n e)
    refine z_cSi (As := [vI (f (tS f n e))]) (rest := []) ⟨hx, hb, hml, hown, hts⟩ hK hP hD hS hA [] [0, 1, 2] rfl rfl rfl (c_X10_isDigit l g (f (tS f n e)) (by first | assumption | omega | decide)) (va_cwS 1 hts gX10_number_X10_isDigit rfl rfl rfl (by decide +kernel) ⟨Nat.le_of_ble_eq_true rfl, Nat.le_of_ble_eq_true rfl⟩) (fun _ _ _ _ _ _ => trivial) (fun _ _ _ => trivial) rfl hl.1 (Nat.le_of_ble_eq_true rfl) rfl dX10_number_20 ⟨Nat.le_of_ble_eq_true rfl, Nat.le_of_ble_eq_true rfl⟩ (fun u_3 H locs hwu_3 hP hD hS => ?_)
    try dsimp only at hwu_3
    have hP : zP g [[mdl q a (uI (uI x 4 (((tS f n e) : Nat) : Int)) 5 (((nEn f n e) : Nat) : Int))], [((a 6), .inl (g.2 0, 200, .inl (aI f)))], [((a 11), .inl (g.2 0, 4, .inl (aI m)))]] H := hP
    have hD : zD A [[mdl q a (uI (uI x 4 (((tS f n e) : Nat) : Int)) 5 (((nEn f n e) : Nat) : Int))], [((a 6), .inl (g.2 0, 200, .inl (aI f)))], [((a 11), .inl (g.2 0, 4, .inl (aI m)))]] := hD
    refine z_toI (inI (f (tS f n e)) 48 57) rfl ?_
    have hf_4 := inI_s (f (tS f n e)) 48 57
    refine z_if_eq (tgt := 39) hx hb (by omega) dX10_number_23 (by decide) (fun cq5 => ?_) (fun cq5 => ?_)
    · refine z_iconst hx hb dX10_number_39 rfl ?_
      exact z_reti (e, m) [0, 1, 2] hx hb hr (nar_z (by first | decide | omega)) hlocks hK hP hD hS (by omega) ⟨fun h9 => False.elim (by omega), fun _ => rfl⟩ rfl rfl (rfl) (Nat.le_of_ble_eq_true rfl) (Nat.le_of_ble_eq_true rfl) dX10_number_40
    · refine lv_aload_n hx hb dX10_number_26 rfl (lv_at hl 0 rfl) ?_
      refine z_get hx hb hts hin10_ hown hK hP 0 rfl rfl 16 (by decide) (hts _ (List.mem_of_getElem? (i := 4) rfl)) rfl dX10_number_27 ?_
      refine z_toI (((nEn f n e) : Nat) : Int) rfl ?_
      refine lv_aload_n hx hb dX10_number_30 rfl (lv_at hl 0 rfl) ?_
      refine z_get hx hb hts hin10_ hown hK hP 0 rfl rfl 15 (by decide) (hts _ (List.mem_of_getElem? (i := 1) rfl)) rfl dX10_number_31 ?_
      refine z_toI (((tS f n e) : Nat) : Int) rfl ?_
      refine z_isub hx hb ((((nEn f n e) : Nat) : Int) - (((tS f n e) : Nat) : Int)) rfl dX10_number_34 ?_
      refine z_iconst hx hb dX10_number_35 rfl ?_
      refine z_icmp_le (tgt := 41) hx hb (by omega) (by decide) dX10_number_36 (by decide) (fun cq6 => ?_) (fun cq6 => ?_)
      · refine z_iconst hx hb dX10_number_41 rfl ?_
        refine lv_istore (lv' := [(4, vI 0), (0, .ref q), (1, vI ((k : Nat) : Int)), (2, vI lo), (3, vI hi)]) hx hb dX10_number_42 hl (by decide) rfl (fun ls hl => ?_)
        refine lv_aload_n hx hb dX10_number_44 rfl (lv_at hl 1 rfl) ?_
        refine z_get hx hb hts hin10_ hown hK hP 0 rfl rfl 15 (by decide) (hts _ (List.mem_of_getElem? (i := 1) rfl)) rfl dX10_number_45 ?_
        refine z_toI (((tS f n e) : Nat) : Int) rfl ?_
        refine lv_istore (lv' := [(5, vI (((tS f n e) : Nat) : Int)), (4, vI 0), (0, .ref q), (1, vI ((k : Nat) : Int)), (2, vI lo), (3, vI hi)]) hx hb dX10_number_48 hl (by decide) rfl (fun ls hl => ?_)
        have loop50 : ∀ (N : Nat) (j : Nat) (y : Int) (H : Heap) (locs : List Loc) (ls : Array Slot), j ≤ (tE f n (tS f n e)) - (tS f n e) → y = vl f (tS f n e) j → (j = 0 → y = 0) ∧ (j = 1 → -255 ≤ y ∧ y ≤ 255) ∧ (j = 2 → -2805 ≤ y ∧ y ≤ 2805) ∧ (j = 3 → -28305 ≤ y ∧ y ≤ 28305) → ((tE f n (tS f n e)) - (tS f n e) - j) < N → zP g [[mdl q a (uI (uI x 4 (((tS f n e) : Nat) : Int)) 5 (((nEn f n e) : Nat) : Int))], [((a 6), .inl (g.2 0, 200, .inl (aI f)))], [((a 11), .inl (g.2 0, 4, .inl (aI m)))]] H → zD A [[mdl q a (uI (uI x 4 (((tS f n e) : Nat) : Int)) 5 (((nEn f n e) : Nat) : Int))], [((a 6), .inl (g.2 0, 200, .inl (aI f)))], [((a 11), .inl (g.2 0, 4, .inl (aI m)))]] → va_S A s.heap H locs → lv_has ls 6 [(0, .ref q), (1, vI ((k : Nat) : Int)), (2, vI lo), (3, vI hi), (4, vI y), (5, vI ((((tS f n e) + j) : Nat) : Int))] → W p l eE (zRm 3 0 0) s mM ([.ref q, vI ((k : Nat) : Int), vI lo, vI hi] : List Value).toArray below meth cC H locs (0) (0) (MQ below ((qi g (fun (u_ : Nat × (Nat → Int)) => (nOk f n e lo hi)) (fun (u_ : Nat × (Nat → Int)) => ((nOk f n e lo hi = 1 → u_.1 = nEn f n e ∧ u_.2 = uI m k (nVl f n e)) ∧ (¬ nOk f n e lo hi = 1 → u_.1 = e))) (fun (u_ : Nat × (Nat → Int)) => [[mdl q a (uI (uI x 4 (((tS f n u_.1) : Nat) : Int)) 5 (((nEn f n u_.1) : Nat) : Int))], [((a 6), .inl (g.2 0, 200, .inl (aI f)))], [((a 11), .inl (g.2 0, 4, .inl (aI u_.2)))]])) A) ([.ref q, vI ((k : Nat) : Int), vI lo, vI hi] : List Value).toArray s 0 0 A) (F0 mM 50 ls []) := by
          intro N
          induction N with
          | zero => intro j y H locs ls hj hy hyb hm; exact absurd hm (Nat.not_lt_zero _)
          | succ N ih50 =>
            intro j y H locs ls hj hy hyb hm hP hD hS hl
            refine lv_iload hx hb dX10_number_50 (lv_at hl 5 rfl) ?_
            refine lv_aload_n hx hb dX10_number_52 rfl (lv_at hl 0 rfl) ?_
            refine z_get hx hb hts hin10_ hown hK hP 0 rfl rfl 16 (by decide) (hts _ (List.mem_of_getElem? (i := 4) rfl)) rfl dX10_number_53 ?_
            refine z_toI (((nEn f n e) : Nat) : Int) rfl ?_
            refine z_icmp_ge (tgt := 83) hx hb (by omega) (by omega) dX10_number_56 (by decide) (fun cq7 => ?_) (fun cq7 => ?_)
            · have hjE : j = (tE f n (tS f n e)) - (tS f n e) := by omega
              subst hjE
              refine lv_iload hx hb dX10_number_83 (lv_at hl 4 rfl) ?_
              refine z_i2l hx hb (by omega) dX10_number_85 ?_
              refine lv_iload_n hx hb dX10_number_86 rfl (lv_at hl 2 rfl) ?_
              refine z_i2l hx hb (by omega) dX10_number_87 ?_
              refine lv_iload_n hx hb dX10_number_88 rfl (lv_at hl 3 rfl) ?_
              refine z_i2l hx hb (by omega) dX10_number_89 ?_
              refine z_cSi (As := [vL y, vL lo, vL hi]) (rest := []) ⟨hx, hb, hml, hown, hts⟩ hK hP hD hS hA [] [0, 1, 2] rfl rfl rfl (c_X10_in l g y lo hi (by omega) (by omega) (by omega)) (va_cwS 3 hts gX10_number_X10_in rfl rfl rfl (by decide +kernel) ⟨Nat.le_of_ble_eq_true rfl, Nat.le_of_ble_eq_true rfl⟩) (fun _ _ _ _ _ _ => trivial) (fun _ _ _ => trivial) rfl hl.1 (Nat.le_of_ble_eq_true rfl) rfl dX10_number_90 ⟨Nat.le_of_ble_eq_true rfl, Nat.le_of_ble_eq_true rfl⟩ (fun u_8 H locs hwu_8 hP hD hS => ?_)
              try dsimp only at hwu_8
              have hP : zP g [[mdl q a (uI (uI x 4 (((tS f n e) : Nat) : Int)) 5 (((nEn f n e) : Nat) : Int))], [((a 6), .inl (g.2 0, 200, .inl (aI f)))], [((a 11), .inl (g.2 0, 4, .inl (aI m)))]] H := hP
              have hD : zD A [[mdl q a (uI (uI x 4 (((tS f n e) : Nat) : Int)) 5 (((nEn f n e) : Nat) : Int))], [((a 6), .inl (g.2 0, 200, .inl (aI f)))], [((a 11), .inl (g.2 0, 4, .inl (aI m)))]] := hD
              refine z_toI (inI y lo hi) rfl ?_
              have hf_9 := inI_s y lo hi
              refine lv_istore (lv' := [(5, vI (inI y lo hi)), (0, .ref q), (1, vI ((k : Nat) : Int)), (2, vI lo), (3, vI hi), (4, vI y)]) hx hb dX10_number_93 hl (by decide) rfl (fun ls hl => ?_)
              refine lv_iload hx hb dX10_number_95 (lv_at hl 0 rfl) ?_
              refine z_if_eq (tgt := 112) hx hb (by omega) dX10_number_97 (by decide) (fun cq10 => ?_) (fun cq10 => ?_)
              · refine lv_iload hx hb dX10_number_112 (lv_at hl 0 rfl) ?_
                exact z_reti (e, m) [0, 1, 2] hx hb hr (nar_z (by first | decide | omega)) hlocks hK hP hD hS (by omega) ⟨fun h9 => False.elim (by omega), fun _ => rfl⟩ rfl rfl (rfl) (Nat.le_of_ble_eq_true rfl) (Nat.le_of_ble_eq_true rfl) dX10_number_114
              · refine lv_aload_n hx hb dX10_number_100 rfl (lv_at hl 1 rfl) ?_
                refine z_get hx hb hts hin10_ hown hK hP 0 rfl rfl 20 (by decide) (hts _ (List.mem_of_getElem? (i := 5) rfl)) rfl dX10_number_101 ?_
                refine lv_iload_n hx hb dX10_number_104 rfl (lv_at hl 2 rfl) ?_
                refine lv_iload hx hb dX10_number_105 (lv_at hl 5 rfl) ?_
                refine z_iast hx hb hK hP 2 hD hS rfl k (by omega) (by omega) (by decide) dX10_number_107 [[mdl q a (uI (uI x 4 (((tS f n e) : Nat) : Int)) 5 (((nEn f n e) : Nat) : Int))], [((a 6), .inl (g.2 0, 200, .inl (aI f)))], [((a 11), .inl (g.2 0, 4, .inl (aI (uI m k y))))]] rfl (fun H locs hP hD hS => ?_)
                refine lv_aload_n hx hb dX10_number_108 rfl (lv_at hl 1 rfl) ?_
                refine z_cVv (As := []) (rest := []) ⟨hx, hb, hml, hown, hts⟩ hK hP hD hS hA [0, 1] [2] rfl rfl rfl (c_X10_nextToken l g q a (uI (uI x 4 (((tS f n e) : Nat) : Int)) 5 (((nEn f n e) : Nat) : Int)) f n (nEn f n e) hx3 (by first | assumption | omega) (by first | assumption | omega) hf) (cwV 0 hts gX10_number_X10_nextToken rfl rfl rfl (by decide +kernel) ⟨Nat.le_of_ble_eq_true rfl, Nat.le_of_ble_eq_true rfl⟩) 10 0 rfl rfl rfl (fun _ _ _ _ _ _ => trivial) (fun _ _ _ => trivial) rfl hl.1 (Nat.le_of_ble_eq_true rfl) rfl dX10_number_109 ⟨Nat.le_of_ble_eq_true rfl, Nat.le_of_ble_eq_true rfl⟩ (fun u_11 H locs hwu_11 hP hD hS => ?_)
                try dsimp only at hwu_11
                have hP : zP g [[((a 11), .inl (g.2 0, 4, .inl (aI (uI m k y))))], [mdl q a (uI (uI x 4 (((tS f n (nEn f n e)) : Nat) : Int)) 5 (((nEn f n (nEn f n e)) : Nat) : Int))], [((a 6), .inl (g.2 0, 200, .inl (aI f)))]] H := hP
                have hD : zD A [[((a 11), .inl (g.2 0, 4, .inl (aI (uI m k y))))], [mdl q a (uI (uI x 4 (((tS f n (nEn f n e)) : Nat) : Int)) 5 (((nEn f n (nEn f n e)) : Nat) : Int))], [((a 6), .inl (g.2 0, 200, .inl (aI f)))]] := hD
                refine lv_iload hx hb dX10_number_112 (lv_at hl 0 rfl) ?_
                exact z_reti ((nEn f n e), (uI m k y)) [1, 2, 0] hx hb hr (nar_z (by first | decide | omega)) hlocks hK hP hD hS (by omega) ⟨fun _ => ⟨rfl, by rw [hy]; rfl⟩, fun h9 => False.elim (by omega)⟩ rfl rfl (rfl) (Nat.le_of_ble_eq_true rfl) (Nat.le_of_ble_eq_true rfl) dX10_number_114
            · refine z_bipush hx hb 10 dX10_number_59 rfl ?_
              refine lv_iload hx hb dX10_number_61 (lv_at hl 4 rfl) ?_
              refine z_imul hx hb (10 * y) rfl dX10_number_63 ?_
              refine lv_aload_n hx hb dX10_number_64 rfl (lv_at hl 0 rfl) ?_
              refine z_get hx hb hts hin10_ hown hK hP 0 rfl rfl 9 (by decide) (hts _ (List.mem_of_getElem? (i := 3) rfl)) rfl dX10_number_65 ?_
              refine lv_iload hx hb dX10_number_68 (lv_at hl 5 rfl) ?_
              refine z_iald hx hb hK hP 1 rfl ((tS f n e) + j) (by omega) (by omega) (by decide) dX10_number_70 ?_
              have hb_12 := hf ((tS f n e) + j)
              refine z_iadd hx hb ((10 * y) + (f ((tS f n e) + j))) rfl dX10_number_71 ?_
              refine z_bipush hx hb 48 dX10_number_72 rfl ?_
              refine z_isub hx hb (((10 * y) + (f ((tS f n e) + j))) - 48) rfl dX10_number_74 ?_
              refine z_nmI (fun x_13 hx_13 => ?_)
              refine lv_istore (lv' := [(4, vI x_13), (0, .ref q), (1, vI ((k : Nat) : Int)), (2, vI lo), (3, vI hi), (5, vI ((((tS f n e) + j) : Nat) : Int))]) hx hb dX10_number_75 hl (by decide) rfl (fun ls hl => ?_)
              refine z_iinc hx hb (((((tS f n e) + j) + 1) : Nat) : Int) (lv' := [(5, vI (((((tS f n e) + j) + 1) : Nat) : Int)), (4, vI x_13), (0, .ref q), (1, vI ((k : Nat) : Int)), (2, vI lo), (3, vI hi)]) dX10_number_77 hl (k := 5) rfl (by omega) (by decide) rfl (fun ls hl => ?_)
              refine lv_goto (tgt := 50) hx hb dX10_number_80 (by decide) ?_
              exact ih50 (j + 1) x_13 _ _ _ (by omega) (by rw [vl, ← hy]; omega) (by omega) (by omega) hP hD hS (lv_sub hl [2, 3, 4, 5, 1, 0] rfl)
        exact loop50 _ 0 0 _ _ _ (by omega) rfl (by omega) (Nat.lt_succ_self _) hP hD hS (lv_sub hl [2, 3, 4, 5, 1, 0] rfl)
      · refine z_iconst hx hb dX10_number_39 rfl ?_
        exact z_reti (e, m) [0, 1, 2] hx hb hr (nar_z (by first | decide | omega)) hlocks hK hP hD hS (by omega) ⟨fun h9 => False.elim (by omega), fun _ => rfl⟩ rfl rfl (rfl) (Nat.le_of_ble_eq_true rfl) (Nat.le_of_ble_eq_true rfl) dX10_number_40

set_option maxHeartbeats 4000000 in
set_option maxRecDepth 100000 in
theorem c_X10_readsOhms (l : Launch) (g : zG) (q : Nat) (a : Nat → Nat) (x : Nat → Int) (f : Nat → Int) (n : Nat) (e : Nat) (m : Nat → Int) (k : Nat) (hx3 : x 3 = (n : Int)) (hn : n ≤ 200) (he : e ≤ n) (hf : ∀ i, 0 ≤ f i ∧ f i ≤ 255) (hk : k < 2) : zMet l g yX10_readsOhms wsX10_readsOhms 4 0 0 [.ref q, vI ((k : Nat) : Int)] zX0 [[mdl q a (uI (uI x 4 (((tS f n e) : Nat) : Int)) 5 (((nEn f n e) : Nat) : Int))], [((a 6), .inl (g.2 0, 200, .inl (aI f)))], [((a 11), .inl (g.2 0, 4, .inl (aI m)))]] (qi g (fun (u_ : Nat × (Nat → Int)) => (oOk f n e)) (fun (u_ : Nat × (Nat → Int)) => ((oOk f n e = 1 → u_.1 = oPs f n e ∧ u_.1 ≤ n ∧ u_.2 = uI (uI (uI m k (oV0 f n e)) (k + 1) (oV1 f n e)) (k + 2) (oV2 f n e)) ∧ (¬ oOk f n e = 1 → tS f n u_.1 = oPs f n e ∧ u_.1 ≤ n))) (fun (u_ : Nat × (Nat → Int)) => [[mdl q a (uI (uI x 4 (((tS f n u_.1) : Nat) : Int)) 5 (((nEn f n u_.1) : Nat) : Int))], [((a 6), .inl (g.2 0, 200, .inl (aI f)))], [((a 11), .inl (g.2 0, 4, .inl (aI u_.2)))]])) := by
  have hO := oOk_s f n e
  refine z_ent (cc := cX10_readsOhms) (maxL := 2) (ret := (some .boolean)) (by decide) rfl (Nat.le_of_ble_eq_true rfl) ?_
  intro p eE s mM below meth cC A ls hx hb hr hml hown hts hlocks hin0 hA hK hP hD hS hXX hl
  have hown : s.vm.findClass RX10 = some mM.cls := hown
  have hl : lv_has ls 2 [(0, .ref q), (1, vI ((k : Nat) : Int))] := hl
  refine lv_aload_n hx hb dX10_readsOhms_0 rfl (lv_at hl 0 rfl) ?_
  refine lv_iload_n hx hb dX10_readsOhms_1 rfl (lv_at hl 1 rfl) ?_
  refine z_iconst hx hb dX10_readsOhms_2 rfl ?_
  refine z_bipush hx hb 9 dX10_readsOhms_3 rfl ?_
  refine z_cVi (As := [vI ((k : Nat) : Int), vI 0, vI 9]) (rest := []) ⟨hx, hb, hml, hown, hts⟩ hK hP hD hS hA [0, 1, 2] [] rfl rfl rfl (c_X10_number l g q a (uI (uI x 4 (((tS f n e) : Nat) : Int)) 5 (((nEn f n e) : Nat) : Int)) f n e m k 0 9 hx3 (by first | assumption | omega) (by first | assumption | omega) hf (by first | assumption | omega) (by first | assumption | omega) (by first | assumption | omega)) (cwV 3 hts gX10_readsOhms_X10_number rfl rfl rfl (by decide +kernel) ⟨Nat.le_of_ble_eq_true rfl, Nat.le_of_ble_eq_true rfl⟩) 10 0 rfl rfl rfl (fun _ _ _ _ _ _ => trivial) (fun _ _ _ => trivial) rfl hl.1 (Nat.le_of_ble_eq_true rfl) rfl dX10_readsOhms_5 ⟨Nat.le_of_ble_eq_true rfl, Nat.le_of_ble_eq_true rfl⟩ (fun u_1 H locs hwu_1 hP hD hS => ?_)
  obtain ⟨ea, ma⟩ := u_1
  try dsimp only at hwu_1
  have hP : zP g [[mdl q a (uI (uI x 4 (((tS f n ea) : Nat) : Int)) 5 (((nEn f n ea) : Nat) : Int))], [((a 6), .inl (g.2 0, 200, .inl (aI f)))], [((a 11), .inl (g.2 0, 4, .inl (aI ma)))]] H := hP
  have hD : zD A [[mdl q a (uI (uI x 4 (((tS f n ea) : Nat) : Int)) 5 (((nEn f n ea) : Nat) : Int))], [((a 6), .inl (g.2 0, 200, .inl (aI f)))], [((a 11), .inl (g.2 0, 4, .inl (aI ma)))]] := hD
  refine z_toI (nOk f n e 0 9) rfl ?_
  have hf_2 := nOk_s f n e 0 9
  refine z_if_eq (tgt := 41) hx hb (by omega) dX10_readsOhms_8 (by decide) (fun cq3 => ?_) (fun cq3 => ?_)
  · refine z_iconst hx hb dX10_readsOhms_41 rfl ?_
    exact z_reti (ea, ma) [0, 1, 2] hx hb hr (nar_z (by first | decide | omega)) hlocks hK hP hD hS (by omega) (⟨fun h9 => False.elim (by omega), fun _ => ⟨by rw [oPs, if_neg (by omega), hwu_1.2 (by omega)], by rw [hwu_1.2 (by omega)]; omega⟩⟩) rfl rfl (rfl) (Nat.le_of_ble_eq_true rfl) (Nat.le_of_ble_eq_true rfl) dX10_readsOhms_42
  · obtain ⟨q1, q2⟩ := hwu_1.1 (by omega)
    subst q1 q2
    have hne_4 := nEn_s f (e := e) (n := n) (by omega)
    refine lv_aload_n hx hb dX10_readsOhms_11 rfl (lv_at hl 0 rfl) ?_
    refine lv_iload_n hx hb dX10_readsOhms_12 rfl (lv_at hl 1 rfl) ?_
    refine z_iconst hx hb dX10_readsOhms_13 rfl ?_
    refine z_iadd hx hb (((k + 1) : Nat) : Int) (by omega) dX10_readsOhms_14 ?_
    refine z_iconst hx hb dX10_readsOhms_15 rfl ?_
    refine z_bipush hx hb 9 dX10_readsOhms_16 rfl ?_
    refine z_cVi (As := [vI (((k + 1) : Nat) : Int), vI 0, vI 9]) (rest := []) ⟨hx, hb, hml, hown, hts⟩ hK hP hD hS hA [0, 1, 2] [] rfl rfl rfl (c_X10_number l g q a (uI (uI x 4 (((tS f n (nEn f n e)) : Nat) : Int)) 5 (((nEn f n (nEn f n e)) : Nat) : Int)) f n (nEn f n e) (uI m k (nVl f n e)) (k + 1) 0 9 hx3 (by first | assumption | omega) (by first | assumption | omega) hf (by first | assumption | omega) (by first | assumption | omega) (by first | assumption | omega)) (cwV 3 hts gX10_readsOhms_X10_number rfl rfl rfl (by decide +kernel) ⟨Nat.le_of_ble_eq_true rfl, Nat.le_of_ble_eq_true rfl⟩) 10 0 rfl rfl rfl (fun _ _ _ _ _ _ => trivial) (fun _ _ _ => trivial) rfl hl.1 (Nat.le_of_ble_eq_true rfl) rfl dX10_readsOhms_18 ⟨Nat.le_of_ble_eq_true rfl, Nat.le_of_ble_eq_true rfl⟩ (fun u_5 H locs hwu_5 hP hD hS => ?_)
    obtain ⟨eb, mb⟩ := u_5
    try dsimp only at hwu_5
    have hP : zP g [[mdl q a (uI (uI x 4 (((tS f n eb) : Nat) : Int)) 5 (((nEn f n eb) : Nat) : Int))], [((a 6), .inl (g.2 0, 200, .inl (aI f)))], [((a 11), .inl (g.2 0, 4, .inl (aI mb)))]] H := hP
    have hD : zD A [[mdl q a (uI (uI x 4 (((tS f n eb) : Nat) : Int)) 5 (((nEn f n eb) : Nat) : Int))], [((a 6), .inl (g.2 0, 200, .inl (aI f)))], [((a 11), .inl (g.2 0, 4, .inl (aI mb)))]] := hD
    refine z_toI (nOk f n (nEn f n e) 0 9) rfl ?_
    have hf_6 := nOk_s f n (nEn f n e) 0 9
    refine z_if_eq (tgt := 41) hx hb (by omega) dX10_readsOhms_21 (by decide) (fun cq7 => ?_) (fun cq7 => ?_)
    · refine z_iconst hx hb dX10_readsOhms_41 rfl ?_
      have q0 : nOk f n e 0 9 = 1 := by omega
      exact z_reti (eb, mb) [0, 1, 2] hx hb hr (nar_z (by first | decide | omega)) hlocks hK hP hD hS (by omega) (⟨fun h9 => False.elim (by omega), fun _ => ⟨by rw [oPs, if_pos (by assumption), if_neg (by omega), hwu_5.2 (by omega)], by rw [hwu_5.2 (by omega)]; omega⟩⟩) rfl rfl (rfl) (Nat.le_of_ble_eq_true rfl) (Nat.le_of_ble_eq_true rfl) dX10_readsOhms_42
    · obtain ⟨q1, q2⟩ := hwu_5.1 (by omega)
      subst q1 q2
      have hne_8 := nEn_s f (e := (nEn f n e)) (n := n) (by omega)
      refine lv_aload_n hx hb dX10_readsOhms_24 rfl (lv_at hl 0 rfl) ?_
      refine lv_iload_n hx hb dX10_readsOhms_25 rfl (lv_at hl 1 rfl) ?_
      refine z_iconst hx hb dX10_readsOhms_26 rfl ?_
      refine z_iadd hx hb (((k + 2) : Nat) : Int) (by omega) dX10_readsOhms_27 ?_
      refine z_iconst hx hb dX10_readsOhms_28 rfl ?_
      refine z_bipush hx hb 9 dX10_readsOhms_29 rfl ?_
      refine z_cVi (As := [vI (((k + 2) : Nat) : Int), vI 0, vI 9]) (rest := []) ⟨hx, hb, hml, hown, hts⟩ hK hP hD hS hA [0, 1, 2] [] rfl rfl rfl (c_X10_number l g q a (uI (uI x 4 (((tS f n (nEn f n (nEn f n e))) : Nat) : Int)) 5 (((nEn f n (nEn f n (nEn f n e))) : Nat) : Int)) f n (nEn f n (nEn f n e)) (uI (uI m k (nVl f n e)) (k + 1) (nVl f n (nEn f n e))) (k + 2) 0 9 hx3 (by first | assumption | omega) (by first | assumption | omega) hf (by first | assumption | omega) (by first | assumption | omega) (by first | assumption | omega)) (cwV 3 hts gX10_readsOhms_X10_number rfl rfl rfl (by decide +kernel) ⟨Nat.le_of_ble_eq_true rfl, Nat.le_of_ble_eq_true rfl⟩) 10 0 rfl rfl rfl (fun _ _ _ _ _ _ => trivial) (fun _ _ _ => trivial) rfl hl.1 (Nat.le_of_ble_eq_true rfl) rfl dX10_readsOhms_31 ⟨Nat.le_of_ble_eq_true rfl, Nat.le_of_ble_eq_true rfl⟩ (fun u_9 H locs hwu_9 hP hD hS => ?_)
      obtain ⟨ec, mc⟩ := u_9
      try dsimp only at hwu_9
      have hP : zP g [[mdl q a (uI (uI x 4 (((tS f n ec) : Nat) : Int)) 5 (((nEn f n ec) : Nat) : Int))], [((a 6), .inl (g.2 0, 200, .inl (aI f)))], [((a 11), .inl (g.2 0, 4, .inl (aI mc)))]] H := hP
      have hD : zD A [[mdl q a (uI (uI x 4 (((tS f n ec) : Nat) : Int)) 5 (((nEn f n ec) : Nat) : Int))], [((a 6), .inl (g.2 0, 200, .inl (aI f)))], [((a 11), .inl (g.2 0, 4, .inl (aI mc)))]] := hD
      refine z_toI (nOk f n (nEn f n (nEn f n e)) 0 9) rfl ?_
      have hf_10 := nOk_s f n (nEn f n (nEn f n e)) 0 9
      refine z_if_eq (tgt := 41) hx hb (by omega) dX10_readsOhms_34 (by decide) (fun cq11 => ?_) (fun cq11 => ?_)
      · refine z_iconst hx hb dX10_readsOhms_41 rfl ?_
        have q0 : nOk f n e 0 9 = 1 := by omega
        have q1 : nOk f n (nEn f n e) 0 9 = 1 := by omega
        exact z_reti (ec, mc) [0, 1, 2] hx hb hr (nar_z (by first | decide | omega)) hlocks hK hP hD hS (by omega) (⟨fun h9 => False.elim (by omega), fun _ => ⟨by rw [oPs, if_pos (by assumption), if_pos (by assumption), if_neg (by omega), hwu_9.2 (by omega)], by rw [hwu_9.2 (by omega)]; omega⟩⟩) rfl rfl (rfl) (Nat.le_of_ble_eq_true rfl) (Nat.le_of_ble_eq_true rfl) dX10_readsOhms_42
      · obtain ⟨q1, q2⟩ := hwu_9.1 (by omega)
        subst q1 q2
        have hne_12 := nEn_s f (e := (nEn f n (nEn f n e))) (n := n) (by omega)
        refine z_iconst hx hb dX10_readsOhms_37 rfl ?_
        refine lv_goto (tgt := 42) hx hb dX10_readsOhms_38 (by decide) ?_
        have q0 : nOk f n e 0 9 = 1 := by omega
        have q1 : nOk f n (nEn f n e) 0 9 = 1 := by omega
        have q2 : nOk f n (nEn f n (nEn f n e)) 0 9 = 1 := by omega
        exact z_reti ((nEn f n (nEn f n (nEn f n e))), (uI (uI (uI m k (nVl f n e)) (k + 1) (nVl f n (nEn f n e))) (k + 2) (nVl f n (nEn f n (nEn f n e))))) [0, 1, 2] hx hb hr (nar_z (by first | decide | omega)) hlocks hK hP hD hS (by omega) (⟨fun _ => ⟨by rw [oPs, if_pos (by assumption), if_pos (by assumption), if_pos (by assumption)], by omega, rfl⟩, fun h9 => False.elim (by omega)⟩) rfl rfl (rfl) (Nat.le_of_ble_eq_true rfl) (Nat.le_of_ble_eq_true rfl) dX10_readsOhms_42
